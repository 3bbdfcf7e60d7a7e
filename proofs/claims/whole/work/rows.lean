section
-- ===== PART A: goes FIRST, ahead of the names: the tables' words, and 'selects' of the private methods out of them =====
/-- a private method of a class that the tables say can be made, by its rows of tables_1 -/
def lw_okq (q : MethodName × Nat) : Prop := (q.1.cls ≠ "java/lang/invoke/MethodHandle" ∧ q.1.cls ≠ "java/lang/invoke/VarHandle") ∧ Cond.instantiable q.1.cls q.2 ∈ tables_1 ∧ Cond.privateMethod q.1 ∈ tables_1 ∧ Cond.instanceMethod q.1 ∈ tables_1
theorem lw_p0 : lw_okq (⟨"BoatLift$Law", "faultOfText", "()I"⟩, 5) := ⟨⟨by decide +kernel, by decide +kernel⟩, List.mem_of_getElem? (i := 41) (by decide +kernel), List.mem_of_getElem? (i := 240) (by decide +kernel), List.mem_of_getElem? (i := 241) (by decide +kernel)⟩
theorem lw_p1 : lw_okq (⟨"BoatLift$Law", "faultOfClause", "()I"⟩, 5) := ⟨⟨by decide +kernel, by decide +kernel⟩, List.mem_of_getElem? (i := 41) (by decide +kernel), List.mem_of_getElem? (i := 244) (by decide +kernel), List.mem_of_getElem? (i := 245) (by decide +kernel)⟩
theorem lw_p2 : lw_okq (⟨"BoatLift$Law", "sign", "()I"⟩, 5) := ⟨⟨by decide +kernel, by decide +kernel⟩, List.mem_of_getElem? (i := 41) (by decide +kernel), List.mem_of_getElem? (i := 248) (by decide +kernel), List.mem_of_getElem? (i := 249) (by decide +kernel)⟩
theorem lw_p3 : lw_okq (⟨"BoatLift", "waterAt", "(I)LBoatLift$Water;"⟩, 15) := ⟨⟨by decide +kernel, by decide +kernel⟩, List.mem_of_getElem? (i := 19) (by decide +kernel), List.mem_of_getElem? (i := 286) (by decide +kernel), List.mem_of_getElem? (i := 287) (by decide +kernel)⟩
theorem lw_p4 : lw_okq (⟨"java/util/ArrayList", "add", "(Ljava/lang/Object;[Ljava/lang/Object;I)V"⟩, 3) := ⟨⟨by decide +kernel, by decide +kernel⟩, List.mem_of_getElem? (i := 138) (by decide +kernel), List.mem_of_getElem? (i := 380) (by decide +kernel), List.mem_of_getElem? (i := 381) (by decide +kernel)⟩
theorem lw_p5 : lw_okq (⟨"java/util/ArrayList", "grow", "()[Ljava/lang/Object;"⟩, 3) := ⟨⟨by decide +kernel, by decide +kernel⟩, List.mem_of_getElem? (i := 138) (by decide +kernel), List.mem_of_getElem? (i := 384) (by decide +kernel), List.mem_of_getElem? (i := 385) (by decide +kernel)⟩
theorem lw_p6 : lw_okq (⟨"java/util/ArrayList", "grow", "(I)[Ljava/lang/Object;"⟩, 3) := ⟨⟨by decide +kernel, by decide +kernel⟩, List.mem_of_getElem? (i := 138) (by decide +kernel), List.mem_of_getElem? (i := 388) (by decide +kernel), List.mem_of_getElem? (i := 389) (by decide +kernel)⟩
theorem lw_p7 : lw_okq (⟨"BoatLift", "turnOf", "(LBoatLift$Boat;)I"⟩, 15) := ⟨⟨by decide +kernel, by decide +kernel⟩, List.mem_of_getElem? (i := 19) (by decide +kernel), List.mem_of_getElem? (i := 430) (by decide +kernel), List.mem_of_getElem? (i := 431) (by decide +kernel)⟩
theorem lw_p8 : lw_okq (⟨"java/util/ArrayList", "rangeCheckForAdd", "(I)V"⟩, 3) := ⟨⟨by decide +kernel, by decide +kernel⟩, List.mem_of_getElem? (i := 138) (by decide +kernel), List.mem_of_getElem? (i := 466) (by decide +kernel), List.mem_of_getElem? (i := 467) (by decide +kernel)⟩
theorem lw_p9 : lw_okq (⟨"BoatLift", "isQueued", "(LBoatLift$Boat;II)Z"⟩, 15) := ⟨⟨by decide +kernel, by decide +kernel⟩, List.mem_of_getElem? (i := 19) (by decide +kernel), List.mem_of_getElem? (i := 475) (by decide +kernel), List.mem_of_getElem? (i := 476) (by decide +kernel)⟩
theorem lw_p10 : lw_okq (⟨"BoatLift", "isLeft", "(LBoatLift$Boat;)Z"⟩, 15) := ⟨⟨by decide +kernel, by decide +kernel⟩, List.mem_of_getElem? (i := 19) (by decide +kernel), List.mem_of_getElem? (i := 479) (by decide +kernel), List.mem_of_getElem? (i := 480) (by decide +kernel)⟩
theorem lw_p11 : lw_okq (⟨"BoatLift", "isFit", "(LBoatLift$Boat;)Z"⟩, 15) := ⟨⟨by decide +kernel, by decide +kernel⟩, List.mem_of_getElem? (i := 19) (by decide +kernel), List.mem_of_getElem? (i := 483) (by decide +kernel), List.mem_of_getElem? (i := 484) (by decide +kernel)⟩
theorem lw_p12 : lw_okq (⟨"BoatLift", "fittingAt", "(I)I"⟩, 15) := ⟨⟨by decide +kernel, by decide +kernel⟩, List.mem_of_getElem? (i := 19) (by decide +kernel), List.mem_of_getElem? (i := 509) (by decide +kernel), List.mem_of_getElem? (i := 510) (by decide +kernel)⟩
theorem lw_p13 : lw_okq (⟨"BoatLift$Timetable", "inIce", "(I)Z"⟩, 4) := ⟨⟨by decide +kernel, by decide +kernel⟩, List.mem_of_getElem? (i := 72) (by decide +kernel), List.mem_of_getElem? (i := 522) (by decide +kernel), List.mem_of_getElem? (i := 523) (by decide +kernel)⟩
theorem lw_p14 : lw_okq (⟨"BoatLift", "carryFirst", "(II)I"⟩, 15) := ⟨⟨by decide +kernel, by decide +kernel⟩, List.mem_of_getElem? (i := 19) (by decide +kernel), List.mem_of_getElem? (i := 526) (by decide +kernel), List.mem_of_getElem? (i := 527) (by decide +kernel)⟩
theorem lw_p15 : lw_okq (⟨"BoatLift", "sendDown", "(I)V"⟩, 15) := ⟨⟨by decide +kernel, by decide +kernel⟩, List.mem_of_getElem? (i := 19) (by decide +kernel), List.mem_of_getElem? (i := 534) (by decide +kernel), List.mem_of_getElem? (i := 535) (by decide +kernel)⟩
def lw_privs_1 : List (MethodName × Nat) := [(⟨"BoatLift$Law", "faultOfText", "()I"⟩, 5), (⟨"BoatLift$Law", "faultOfClause", "()I"⟩, 5), (⟨"BoatLift$Law", "sign", "()I"⟩, 5), (⟨"BoatLift", "waterAt", "(I)LBoatLift$Water;"⟩, 15), (⟨"java/util/ArrayList", "add", "(Ljava/lang/Object;[Ljava/lang/Object;I)V"⟩, 3), (⟨"java/util/ArrayList", "grow", "()[Ljava/lang/Object;"⟩, 3), (⟨"java/util/ArrayList", "grow", "(I)[Ljava/lang/Object;"⟩, 3), (⟨"BoatLift", "turnOf", "(LBoatLift$Boat;)I"⟩, 15), (⟨"java/util/ArrayList", "rangeCheckForAdd", "(I)V"⟩, 3), (⟨"BoatLift", "isQueued", "(LBoatLift$Boat;II)Z"⟩, 15), (⟨"BoatLift", "isLeft", "(LBoatLift$Boat;)Z"⟩, 15), (⟨"BoatLift", "isFit", "(LBoatLift$Boat;)Z"⟩, 15), (⟨"BoatLift", "fittingAt", "(I)I"⟩, 15), (⟨"BoatLift$Timetable", "inIce", "(I)Z"⟩, 4), (⟨"BoatLift", "carryFirst", "(II)I"⟩, 15), (⟨"BoatLift", "sendDown", "(I)V"⟩, 15)]
theorem lw_r1 : ∀ q ∈ lw_privs_1, lw_okq q := List.forall_mem_cons.mpr ⟨lw_p0, List.forall_mem_cons.mpr ⟨lw_p1, List.forall_mem_cons.mpr ⟨lw_p2, List.forall_mem_cons.mpr ⟨lw_p3, List.forall_mem_cons.mpr ⟨lw_p4, List.forall_mem_cons.mpr ⟨lw_p5, List.forall_mem_cons.mpr ⟨lw_p6, List.forall_mem_cons.mpr ⟨lw_p7, List.forall_mem_cons.mpr ⟨lw_p8, List.forall_mem_cons.mpr ⟨lw_p9, List.forall_mem_cons.mpr ⟨lw_p10, List.forall_mem_cons.mpr ⟨lw_p11, List.forall_mem_cons.mpr ⟨lw_p12, List.forall_mem_cons.mpr ⟨lw_p13, List.forall_mem_cons.mpr ⟨lw_p14, List.forall_mem_cons.mpr ⟨lw_p15, fun _ h => absurd h List.not_mem_nil⟩⟩⟩⟩⟩⟩⟩⟩⟩⟩⟩⟩⟩⟩⟩⟩
theorem lw_p16 : lw_okq (⟨"BoatLift", "gatherLeft", "()I"⟩, 15) := ⟨⟨by decide +kernel, by decide +kernel⟩, List.mem_of_getElem? (i := 19) (by decide +kernel), List.mem_of_getElem? (i := 549) (by decide +kernel), List.mem_of_getElem? (i := 550) (by decide +kernel)⟩
theorem lw_p17 : lw_okq (⟨"BoatLift", "bestPlan", "()J"⟩, 15) := ⟨⟨by decide +kernel, by decide +kernel⟩, List.mem_of_getElem? (i := 19) (by decide +kernel), List.mem_of_getElem? (i := 561) (by decide +kernel), List.mem_of_getElem? (i := 562) (by decide +kernel)⟩
theorem lw_p18 : lw_okq (⟨"BoatLift$Planner", "layOutRow", "(II)V"⟩, 9) := ⟨⟨by decide +kernel, by decide +kernel⟩, List.mem_of_getElem? (i := 91) (by decide +kernel), List.mem_of_getElem? (i := 569) (by decide +kernel), List.mem_of_getElem? (i := 570) (by decide +kernel)⟩
theorem lw_p19 : lw_okq (⟨"BoatLift$Planner", "bestFrom", "(IIIZI)J"⟩, 9) := ⟨⟨by decide +kernel, by decide +kernel⟩, List.mem_of_getElem? (i := 91) (by decide +kernel), List.mem_of_getElem? (i := 574) (by decide +kernel), List.mem_of_getElem? (i := 575) (by decide +kernel)⟩
theorem lw_p20 : lw_okq (⟨"BoatLift$Planner", "bestByRiding", "(IIIZI)J"⟩, 9) := ⟨⟨by decide +kernel, by decide +kernel⟩, List.mem_of_getElem? (i := 91) (by decide +kernel), List.mem_of_getElem? (i := 580) (by decide +kernel), List.mem_of_getElem? (i := 581) (by decide +kernel)⟩
theorem lw_p21 : lw_okq (⟨"BoatLift$Planner", "momentOfNextBoat", "(I)I"⟩, 9) := ⟨⟨by decide +kernel, by decide +kernel⟩, List.mem_of_getElem? (i := 91) (by decide +kernel), List.mem_of_getElem? (i := 588) (by decide +kernel), List.mem_of_getElem? (i := 589) (by decide +kernel)⟩
theorem lw_p22 : lw_okq (⟨"BoatLiftModel", "push", "(I)V"⟩, 36) := ⟨⟨by decide +kernel, by decide +kernel⟩, List.mem_of_getElem? (i := 633) (by decide +kernel), List.mem_of_getElem? (i := 758) (by decide +kernel), List.mem_of_getElem? (i := 759) (by decide +kernel)⟩
theorem lw_p23 : lw_okq (⟨"BoatLiftModel", "reads", "(I)I"⟩, 36) := ⟨⟨by decide +kernel, by decide +kernel⟩, List.mem_of_getElem? (i := 633) (by decide +kernel), List.mem_of_getElem? (i := 766) (by decide +kernel), List.mem_of_getElem? (i := 767) (by decide +kernel)⟩
theorem lw_p24 : lw_okq (⟨"BoatLiftModel", "byteAt", "(II)I"⟩, 36) := ⟨⟨by decide +kernel, by decide +kernel⟩, List.mem_of_getElem? (i := 633) (by decide +kernel), List.mem_of_getElem? (i := 770) (by decide +kernel), List.mem_of_getElem? (i := 771) (by decide +kernel)⟩
theorem lw_p25 : lw_okq (⟨"BoatLiftModel", "queues", "(III)V"⟩, 36) := ⟨⟨by decide +kernel, by decide +kernel⟩, List.mem_of_getElem? (i := 633) (by decide +kernel), List.mem_of_getElem? (i := 812) (by decide +kernel), List.mem_of_getElem? (i := 813) (by decide +kernel)⟩
theorem lw_p26 : lw_okq (⟨"BoatLiftModel", "isLeft", "(I)Z"⟩, 36) := ⟨⟨by decide +kernel, by decide +kernel⟩, List.mem_of_getElem? (i := 633) (by decide +kernel), List.mem_of_getElem? (i := 816) (by decide +kernel), List.mem_of_getElem? (i := 817) (by decide +kernel)⟩
theorem lw_p27 : lw_okq (⟨"BoatLiftModel", "isFit", "(I)Z"⟩, 36) := ⟨⟨by decide +kernel, by decide +kernel⟩, List.mem_of_getElem? (i := 633) (by decide +kernel), List.mem_of_getElem? (i := 820) (by decide +kernel), List.mem_of_getElem? (i := 821) (by decide +kernel)⟩
theorem lw_p28 : lw_okq (⟨"BoatLiftModel", "depthOf", "(I)I"⟩, 36) := ⟨⟨by decide +kernel, by decide +kernel⟩, List.mem_of_getElem? (i := 633) (by decide +kernel), List.mem_of_getElem? (i := 824) (by decide +kernel), List.mem_of_getElem? (i := 825) (by decide +kernel)⟩
theorem lw_p29 : lw_okq (⟨"BoatLiftModel", "levelOf", "(I)I"⟩, 36) := ⟨⟨by decide +kernel, by decide +kernel⟩, List.mem_of_getElem? (i := 633) (by decide +kernel), List.mem_of_getElem? (i := 828) (by decide +kernel), List.mem_of_getElem? (i := 829) (by decide +kernel)⟩
theorem lw_p30 : lw_okq (⟨"BoatLiftModel", "isAhead", "(II)Z"⟩, 36) := ⟨⟨by decide +kernel, by decide +kernel⟩, List.mem_of_getElem? (i := 633) (by decide +kernel), List.mem_of_getElem? (i := 836) (by decide +kernel), List.mem_of_getElem? (i := 837) (by decide +kernel)⟩
theorem lw_p31 : lw_okq (⟨"BoatLiftModel", "fits", "()I"⟩, 36) := ⟨⟨by decide +kernel, by decide +kernel⟩, List.mem_of_getElem? (i := 633) (by decide +kernel), List.mem_of_getElem? (i := 844) (by decide +kernel), List.mem_of_getElem? (i := 845) (by decide +kernel)⟩
def lw_privs_2 : List (MethodName × Nat) := [(⟨"BoatLift", "gatherLeft", "()I"⟩, 15), (⟨"BoatLift", "bestPlan", "()J"⟩, 15), (⟨"BoatLift$Planner", "layOutRow", "(II)V"⟩, 9), (⟨"BoatLift$Planner", "bestFrom", "(IIIZI)J"⟩, 9), (⟨"BoatLift$Planner", "bestByRiding", "(IIIZI)J"⟩, 9), (⟨"BoatLift$Planner", "momentOfNextBoat", "(I)I"⟩, 9), (⟨"BoatLiftModel", "push", "(I)V"⟩, 36), (⟨"BoatLiftModel", "reads", "(I)I"⟩, 36), (⟨"BoatLiftModel", "byteAt", "(II)I"⟩, 36), (⟨"BoatLiftModel", "queues", "(III)V"⟩, 36), (⟨"BoatLiftModel", "isLeft", "(I)Z"⟩, 36), (⟨"BoatLiftModel", "isFit", "(I)Z"⟩, 36), (⟨"BoatLiftModel", "depthOf", "(I)I"⟩, 36), (⟨"BoatLiftModel", "levelOf", "(I)I"⟩, 36), (⟨"BoatLiftModel", "isAhead", "(II)Z"⟩, 36), (⟨"BoatLiftModel", "fits", "()I"⟩, 36)]
theorem lw_r2 : ∀ q ∈ lw_privs_2, lw_okq q := List.forall_mem_cons.mpr ⟨lw_p16, List.forall_mem_cons.mpr ⟨lw_p17, List.forall_mem_cons.mpr ⟨lw_p18, List.forall_mem_cons.mpr ⟨lw_p19, List.forall_mem_cons.mpr ⟨lw_p20, List.forall_mem_cons.mpr ⟨lw_p21, List.forall_mem_cons.mpr ⟨lw_p22, List.forall_mem_cons.mpr ⟨lw_p23, List.forall_mem_cons.mpr ⟨lw_p24, List.forall_mem_cons.mpr ⟨lw_p25, List.forall_mem_cons.mpr ⟨lw_p26, List.forall_mem_cons.mpr ⟨lw_p27, List.forall_mem_cons.mpr ⟨lw_p28, List.forall_mem_cons.mpr ⟨lw_p29, List.forall_mem_cons.mpr ⟨lw_p30, List.forall_mem_cons.mpr ⟨lw_p31, fun _ h => absurd h List.not_mem_nil⟩⟩⟩⟩⟩⟩⟩⟩⟩⟩⟩⟩⟩⟩⟩⟩
theorem lw_p32 : lw_okq (⟨"BoatLiftModel", "lasts", "(I)I"⟩, 36) := ⟨⟨by decide +kernel, by decide +kernel⟩, List.mem_of_getElem? (i := 633) (by decide +kernel), List.mem_of_getElem? (i := 852) (by decide +kernel), List.mem_of_getElem? (i := 853) (by decide +kernel)⟩
theorem lw_p33 : lw_okq (⟨"BoatLiftModel", "isIce", "(I)Z"⟩, 36) := ⟨⟨by decide +kernel, by decide +kernel⟩, List.mem_of_getElem? (i := 633) (by decide +kernel), List.mem_of_getElem? (i := 856) (by decide +kernel), List.mem_of_getElem? (i := 857) (by decide +kernel)⟩
theorem lw_p34 : lw_okq (⟨"BoatLiftModel", "isTooMany", "()Z"⟩, 36) := ⟨⟨by decide +kernel, by decide +kernel⟩, List.mem_of_getElem? (i := 633) (by decide +kernel), List.mem_of_getElem? (i := 868) (by decide +kernel), List.mem_of_getElem? (i := 869) (by decide +kernel)⟩
theorem lw_p35 : lw_okq (⟨"BoatLiftModel", "works", "()V"⟩, 36) := ⟨⟨by decide +kernel, by decide +kernel⟩, List.mem_of_getElem? (i := 633) (by decide +kernel), List.mem_of_getElem? (i := 872) (by decide +kernel), List.mem_of_getElem? (i := 873) (by decide +kernel)⟩
theorem lw_p36 : lw_okq (⟨"BoatLiftModel", "keeps", "(IIIII)V"⟩, 36) := ⟨⟨by decide +kernel, by decide +kernel⟩, List.mem_of_getElem? (i := 633) (by decide +kernel), List.mem_of_getElem? (i := 876) (by decide +kernel), List.mem_of_getElem? (i := 877) (by decide +kernel)⟩
theorem lw_p37 : lw_okq (⟨"BoatLiftModel", "goesOn", "(II)V"⟩, 36) := ⟨⟨by decide +kernel, by decide +kernel⟩, List.mem_of_getElem? (i := 633) (by decide +kernel), List.mem_of_getElem? (i := 881) (by decide +kernel), List.mem_of_getElem? (i := 882) (by decide +kernel)⟩
theorem lw_p38 : lw_okq (⟨"BoatLiftModel", "begins", "(IIIII)V"⟩, 36) := ⟨⟨by decide +kernel, by decide +kernel⟩, List.mem_of_getElem? (i := 633) (by decide +kernel), List.mem_of_getElem? (i := 885) (by decide +kernel), List.mem_of_getElem? (i := 886) (by decide +kernel)⟩
theorem lw_p39 : lw_okq (⟨"BoatLiftModel", "boatsOf", "(I)I"⟩, 36) := ⟨⟨by decide +kernel, by decide +kernel⟩, List.mem_of_getElem? (i := 633) (by decide +kernel), List.mem_of_getElem? (i := 889) (by decide +kernel), List.mem_of_getElem? (i := 890) (by decide +kernel)⟩
theorem lw_p40 : lw_okq (⟨"BoatLiftModel", "numberOf", "(I)I"⟩, 36) := ⟨⟨by decide +kernel, by decide +kernel⟩, List.mem_of_getElem? (i := 633) (by decide +kernel), List.mem_of_getElem? (i := 893) (by decide +kernel), List.mem_of_getElem? (i := 894) (by decide +kernel)⟩
def lw_privs_3 : List (MethodName × Nat) := [(⟨"BoatLiftModel", "lasts", "(I)I"⟩, 36), (⟨"BoatLiftModel", "isIce", "(I)Z"⟩, 36), (⟨"BoatLiftModel", "isTooMany", "()Z"⟩, 36), (⟨"BoatLiftModel", "works", "()V"⟩, 36), (⟨"BoatLiftModel", "keeps", "(IIIII)V"⟩, 36), (⟨"BoatLiftModel", "goesOn", "(II)V"⟩, 36), (⟨"BoatLiftModel", "begins", "(IIIII)V"⟩, 36), (⟨"BoatLiftModel", "boatsOf", "(I)I"⟩, 36), (⟨"BoatLiftModel", "numberOf", "(I)I"⟩, 36)]
theorem lw_r3 : ∀ q ∈ lw_privs_3, lw_okq q := List.forall_mem_cons.mpr ⟨lw_p32, List.forall_mem_cons.mpr ⟨lw_p33, List.forall_mem_cons.mpr ⟨lw_p34, List.forall_mem_cons.mpr ⟨lw_p35, List.forall_mem_cons.mpr ⟨lw_p36, List.forall_mem_cons.mpr ⟨lw_p37, List.forall_mem_cons.mpr ⟨lw_p38, List.forall_mem_cons.mpr ⟨lw_p39, List.forall_mem_cons.mpr ⟨lw_p40, fun _ h => absurd h List.not_mem_nil⟩⟩⟩⟩⟩⟩⟩⟩⟩
def lw_privs : List (MethodName × Nat) := lw_privs_1 ++ (lw_privs_2 ++ (lw_privs_3))
def lw_tbl : List Cond := k2_sels lw_privs ++ tables_1
theorem lw_privs_ok : ∀ q ∈ lw_privs, lw_okq q := by
  show ∀ q ∈ lw_privs_1 ++ (lw_privs_2 ++ (lw_privs_3)), lw_okq q
  exact List.forall_mem_append.mpr ⟨lw_r1, List.forall_mem_append.mpr ⟨lw_r2, lw_r3⟩⟩
-- ===== end of PART A; then your names; then what follows =====
end
section
/-! ===== BEGIN words of one list among another's, by their places ===== -/
theorem goodIn_r {big : List Cond} (ws : List Cond) (ps : List Nat) (hp : ws = ps.filterMap (fun i => big[i]?)) (h : ws.all goodWord = true) : GoodIn big ws := by
  intro w hw
  have h1 := List.all_eq_true.mp h w hw
  rw [hp] at hw
  obtain ⟨i, -, hi⟩ := List.mem_filterMap.mp hw
  have hm : w ∈ big := by first | exact List.mem_of_getElem? hi | exact List.getElem?_mem hi
  exact ⟨hm, good_of_word h1⟩
theorem goodIn_app {big a b : List Cond} (ha : GoodIn big a) (hb : GoodIn big b) : GoodIn big (a ++ b) := fun w h => (List.mem_append.mp h).elim (ha w) (hb w)
theorem goodIn_ca {big a b : List Cond} {c : Cond} (ha : GoodIn big (c :: a)) (hb : GoodIn big b) : GoodIn big (c :: (a ++ b)) := fun w h => (List.mem_cons.mp h).elim (fun e => ha w (List.mem_cons.mpr (Or.inl e))) (fun h => (List.mem_append.mp h).elim (fun h => ha w (List.mem_cons.mpr (Or.inr h))) (hb w))
theorem goodIn_sub {big ws : List Cond} (hm : ∀ w ∈ ws, w ∈ big) (h : ws.all goodWord = true) : GoodIn big ws := fun w hw => ⟨hm w hw, good_of_word (List.all_eq_true.mp h w hw)⟩
/-! ===== END ===== -/

/-! ===== BEGIN printed: names, fields, word lists, decode rows ===== -/
def RX0 : String := "BoatLift$Boat"
def TX0 : u_T := fun k => match k with
  | 0 => ("BoatLift$Boat", "number", "I", true)
  | 1 => ("BoatLift$Boat", "side", "I", true)
  | 2 => ("BoatLift$Boat", "minute", "I", true)
  | 3 => ("BoatLift$Boat", "length", "I", true)
  | 4 => ("BoatLift$Boat", "draught", "I", true)
  | 5 => ("BoatLift$Boat", "weight", "I", true)
  | 6 => ("BoatLift$Boat", "rank", "I", true)
  | _ => ("BoatLift$Boat", "began", "I", false)
def tyX0 : Nat → FieldType := fun k => match k with
  | 0 => .int
  | 1 => .int
  | 2 => .int
  | 3 => .int
  | 4 => .int
  | 5 => .int
  | 6 => .int
  | _ => .int
abbrev wsX00 : List Cond := u_ws RX0 TX0 8
theorem nmX0 : ∀ a, a < 8 → ∀ b, b < 8 → a ≠ b → (TX0 a).2.1 ≠ (TX0 b).2.1 := by decide +kernel
theorem tyX0_ok : ∀ k, k < 8 → parseFieldDescriptor (TX0 k).2.2.1 = some (tyX0 k) := by decide +kernel
abbrev cX0_init : ByteArray := prog_2_method_1_code
def yX0_init : MethodName := ⟨RX0, "<init>", "(IIIIIII)V"⟩
abbrev cX0_waited : ByteArray := prog_2_method_2_code
def yX0_waited : MethodName := ⟨RX0, "waited", "()I"⟩
abbrev cX0_goesAheadOf : ByteArray := prog_2_method_3_code
def yX0_goesAheadOf : MethodName := ⟨RX0, "goesAheadOf", "(LBoatLift$Boat;)Z"⟩
def RX1 : String := "BoatLift$Law"
def TX1 : u_T := fun k => match k with
  | 0 => ("BoatLift$Law", "tape", "LBoatLift$Tape;", true)
  | 1 => ("BoatLift$Law", "numbers", "[I", true)
  | 2 => ("BoatLift$Law", "draft", "[I", true)
  | 3 => ("BoatLift$Law", "size", "I", false)
  | _ => ("BoatLift$Law", "place", "I", false)
def tyX1 : Nat → FieldType := fun k => match k with
  | 0 => .object "BoatLift$Tape"
  | 1 => .array .int
  | 2 => .array .int
  | 3 => .int
  | _ => .int
abbrev wsX10 : List Cond := u_ws RX1 TX1 5
theorem nmX1 : ∀ a, a < 5 → ∀ b, b < 5 → a ≠ b → (TX1 a).2.1 ≠ (TX1 b).2.1 := by decide +kernel
theorem tyX1_ok : ∀ k, k < 5 → parseFieldDescriptor (TX1 k).2.2.1 = some (tyX1 k) := by decide +kernel
abbrev cX1_init : ByteArray := prog_3_method_1_code
def yX1_init : MethodName := ⟨RX1, "<init>", "(LBoatLift$Tape;)V"⟩
abbrev cX1_number : ByteArray := prog_3_method_2_code
def yX1_number : MethodName := ⟨RX1, "number", "(I)I"⟩
abbrev cX1_enact : ByteArray := prog_3_method_3_code
def yX1_enact : MethodName := ⟨RX1, "enact", "(I)I"⟩
abbrev cX1_faultOfText : ByteArray := prog_3_method_4_code
def yX1_faultOfText : MethodName := ⟨RX1, "faultOfText", "()I"⟩
abbrev cX1_faultOfClause : ByteArray := prog_3_method_5_code
def yX1_faultOfClause : MethodName := ⟨RX1, "faultOfClause", "()I"⟩
abbrev cX1_sign : ByteArray := prog_3_method_6_code
def yX1_sign : MethodName := ⟨RX1, "sign", "()I"⟩
abbrev cX1_letterOf : ByteArray := prog_3_method_7_code
def yX1_letterOf : MethodName := ⟨RX1, "letterOf", "(I)I"⟩
abbrev cX1_isDigit : ByteArray := prog_3_method_8_code
def yX1_isDigit : MethodName := ⟨RX1, "isDigit", "(I)Z"⟩
abbrev cX1_fault : ByteArray := prog_3_method_9_code
def yX1_fault : MethodName := ⟨RX1, "fault", "(II)I"⟩
def RX2 : String := "BoatLift$Planner"
def TX2 : u_T := fun k => match k with
  | 0 => ("BoatLift$Planner", "timetable", "LBoatLift$Timetable;", true)
  | 1 => ("BoatLift$Planner", "sides", "[I", true)
  | 2 => ("BoatLift$Planner", "comes", "[I", true)
  | 3 => ("BoatLift$Planner", "lengths", "[I", true)
  | 4 => ("BoatLift$Planner", "minutes", "[I", true)
  | 5 => ("BoatLift$Planner", "boats", "I", false)
  | 6 => ("BoatLift$Planner", "troughLength", "I", false)
  | 7 => ("BoatLift$Planner", "known", "[J", false)
  | _ => ("BoatLift$Planner", "round", "J", false)
def tyX2 : Nat → FieldType := fun k => match k with
  | 0 => .object "BoatLift$Timetable"
  | 1 => .array .int
  | 2 => .array .int
  | 3 => .array .int
  | 4 => .array .int
  | 5 => .int
  | 6 => .int
  | 7 => .array .long
  | _ => .long
abbrev wsX20 : List Cond := u_ws RX2 TX2 9
theorem nmX2 : ∀ a, a < 9 → ∀ b, b < 9 → a ≠ b → (TX2 a).2.1 ≠ (TX2 b).2.1 := by decide +kernel
theorem tyX2_ok : ∀ k, k < 9 → parseFieldDescriptor (TX2 k).2.2.1 = some (tyX2 k) := by decide +kernel
abbrev cX2_init : ByteArray := prog_4_method_1_code
def yX2_init : MethodName := ⟨RX2, "<init>", "(LBoatLift$Timetable;)V"⟩
abbrev cX2_waitsOf : ByteArray := prog_4_method_2_code
def yX2_waitsOf : MethodName := ⟨RX2, "waitsOf", "(J)I"⟩
abbrev cX2_endOf : ByteArray := prog_4_method_3_code
def yX2_endOf : MethodName := ⟨RX2, "endOf", "(J)I"⟩
abbrev cX2_forgetBoats : ByteArray := prog_4_method_4_code
def yX2_forgetBoats : MethodName := ⟨RX2, "forgetBoats", "()V"⟩
abbrev cX2_addBoat : ByteArray := prog_4_method_5_code
def yX2_addBoat : MethodName := ⟨RX2, "addBoat", "(LBoatLift$Boat;)V"⟩
abbrev cX2_best : ByteArray := prog_4_method_6_code
def yX2_best : MethodName := ⟨RX2, "best", "(III)J"⟩
abbrev cX2_layOutRow : ByteArray := prog_4_method_7_code
def yX2_layOutRow : MethodName := ⟨RX2, "layOutRow", "(II)V"⟩
abbrev cX2_bestFrom : ByteArray := prog_4_method_8_code
def yX2_bestFrom : MethodName := ⟨RX2, "bestFrom", "(IIIZI)J"⟩
abbrev cX2_bestByRiding : ByteArray := prog_4_method_9_code
def yX2_bestByRiding : MethodName := ⟨RX2, "bestByRiding", "(IIIZI)J"⟩
abbrev cX2_momentOfNextBoat : ByteArray := prog_4_method_10_code
def yX2_momentOfNextBoat : MethodName := ⟨RX2, "momentOfNextBoat", "(I)I"⟩
def RX3 : String := "BoatLift$Tape"
def TX3 : u_T := fun k => match k with
  | 0 => ("BoatLift$Tape", "bytes", "[I", true)
  | _ => ("BoatLift$Tape", "size", "I", false)
def tyX3 : Nat → FieldType := fun k => match k with
  | 0 => .array .int
  | _ => .int
abbrev wsX30 : List Cond := u_ws RX3 TX3 2
theorem nmX3 : ∀ a, a < 2 → ∀ b, b < 2 → a ≠ b → (TX3 a).2.1 ≠ (TX3 b).2.1 := by decide +kernel
theorem tyX3_ok : ∀ k, k < 2 → parseFieldDescriptor (TX3 k).2.2.1 = some (tyX3 k) := by decide +kernel
abbrev cX3_init : ByteArray := prog_5_method_1_code
def yX3_init : MethodName := ⟨RX3, "<init>", "()V"⟩
abbrev cX3_size : ByteArray := prog_5_method_2_code
def yX3_size : MethodName := ⟨RX3, "size", "()I"⟩
abbrev cX3_hasRoom : ByteArray := prog_5_method_3_code
def yX3_hasRoom : MethodName := ⟨RX3, "hasRoom", "()Z"⟩
abbrev cX3_put : ByteArray := prog_5_method_4_code
def yX3_put : MethodName := ⟨RX3, "put", "(I)V"⟩
abbrev cX3_at : ByteArray := prog_5_method_5_code
def yX3_at : MethodName := ⟨RX3, "at", "(I)I"⟩
abbrev cX3_empty : ByteArray := prog_5_method_6_code
def yX3_empty : MethodName := ⟨RX3, "empty", "()V"⟩
def RX4 : String := "BoatLift$Timetable"
def TX4 : u_T := fun k => match k with
  | 0 => ("BoatLift$Timetable", "rules", "LBoatLift$Law;", true)
  | 1 => ("BoatLift$Timetable", "iceFrom", "[I", true)
  | 2 => ("BoatLift$Timetable", "iceTo", "[I", true)
  | _ => ("BoatLift$Timetable", "told", "I", false)
def tyX4 : Nat → FieldType := fun k => match k with
  | 0 => .object "BoatLift$Law"
  | 1 => .array .int
  | 2 => .array .int
  | _ => .int
abbrev wsX40 : List Cond := u_ws RX4 TX4 4
theorem nmX4 : ∀ a, a < 4 → ∀ b, b < 4 → a ≠ b → (TX4 a).2.1 ≠ (TX4 b).2.1 := by decide +kernel
theorem tyX4_ok : ∀ k, k < 4 → parseFieldDescriptor (TX4 k).2.2.1 = some (tyX4 k) := by decide +kernel
abbrev cX4_init : ByteArray := prog_6_method_1_code
def yX4_init : MethodName := ⟨RX4, "<init>", "(LBoatLift$Law;)V"⟩
abbrev cX4_addIce : ByteArray := prog_6_method_2_code
def yX4_addIce : MethodName := ⟨RX4, "addIce", "(II)Z"⟩
abbrev cX4_endOf : ByteArray := prog_6_method_3_code
def yX4_endOf : MethodName := ⟨RX4, "endOf", "(I)I"⟩
abbrev cX4_inIce : ByteArray := prog_6_method_4_code
def yX4_inIce : MethodName := ⟨RX4, "inIce", "(I)Z"⟩
def RX5 : String := "BoatLift$Water"
def TX5 : u_T := fun k => match k with
  | 0 => ("BoatLift$Water", "area", "I", false)
  | _ => ("BoatLift$Water", "stock", "J", false)
def tyX5 : Nat → FieldType := fun k => match k with
  | 0 => .int
  | _ => .long
abbrev wsX50 : List Cond := u_ws RX5 TX5 2
theorem nmX5 : ∀ a, a < 2 → ∀ b, b < 2 → a ≠ b → (TX5 a).2.1 ≠ (TX5 b).2.1 := by decide +kernel
theorem tyX5_ok : ∀ k, k < 2 → parseFieldDescriptor (TX5 k).2.2.1 = some (tyX5 k) := by decide +kernel
abbrev cX5_init : ByteArray := prog_7_method_1_code
def yX5_init : MethodName := ⟨RX5, "<init>", "()V"⟩
abbrev cX5_spreadOver : ByteArray := prog_7_method_2_code
def yX5_spreadOver : MethodName := ⟨RX5, "spreadOver", "(I)V"⟩
abbrev cX5_spread : ByteArray := prog_7_method_3_code
def yX5_spread : MethodName := ⟨RX5, "spread", "()I"⟩
abbrev cX5_gain : ByteArray := prog_7_method_4_code
def yX5_gain : MethodName := ⟨RX5, "gain", "(I)V"⟩
abbrev cX5_tonnes : ByteArray := prog_7_method_5_code
def yX5_tonnes : MethodName := ⟨RX5, "tonnes", "()J"⟩
abbrev cX5_centimetres : ByteArray := prog_7_method_6_code
def yX5_centimetres : MethodName := ⟨RX5, "centimetres", "()I"⟩
abbrev cX5_decimetres : ByteArray := prog_7_method_7_code
def yX5_decimetres : MethodName := ⟨RX5, "decimetres", "()I"⟩
def RX6 : String := "BoatLift"
def TX6 : u_T := fun k => match k with
  | 0 => ("BoatLift", "tape", "LBoatLift$Tape;", true)
  | 1 => ("BoatLift", "rules", "LBoatLift$Law;", true)
  | 2 => ("BoatLift", "timetable", "LBoatLift$Timetable;", true)
  | 3 => ("BoatLift", "planner", "LBoatLift$Planner;", true)
  | 4 => ("BoatLift", "lower", "LBoatLift$Water;", true)
  | 5 => ("BoatLift", "upper", "LBoatLift$Water;", true)
  | 6 => ("BoatLift", "byNumber", "Ljava/util/List;", true)
  | 7 => ("BoatLift", "byTurn", "Ljava/util/List;", true)
  | 8 => ("BoatLift", "troughLength", "I", false)
  | 9 => ("BoatLift", "troughSide", "I", false)
  | 10 => ("BoatLift", "freeFrom", "I", false)
  | 11 => ("BoatLift", "sealRides", "I", false)
  | 12 => ("BoatLift", "ridesEver", "I", false)
  | 13 => ("BoatLift", "carried", "I", false)
  | _ => ("BoatLift", "waitedTogether", "I", false)
def tyX6 : Nat → FieldType := fun k => match k with
  | 0 => .object "BoatLift$Tape"
  | 1 => .object "BoatLift$Law"
  | 2 => .object "BoatLift$Timetable"
  | 3 => .object "BoatLift$Planner"
  | 4 => .object "BoatLift$Water"
  | 5 => .object "BoatLift$Water"
  | 6 => .object "java/util/List"
  | 7 => .object "java/util/List"
  | 8 => .int
  | 9 => .int
  | 10 => .int
  | 11 => .int
  | 12 => .int
  | 13 => .int
  | _ => .int
abbrev wsX60 : List Cond := u_ws RX6 TX6 15
theorem nmX6 : ∀ a, a < 15 → ∀ b, b < 15 → a ≠ b → (TX6 a).2.1 ≠ (TX6 b).2.1 := by decide +kernel
theorem tyX6_ok : ∀ k, k < 15 → parseFieldDescriptor (TX6 k).2.2.1 = some (tyX6 k) := by decide +kernel
abbrev cX6_init : ByteArray := prog_1_method_1_code
def yX6_init : MethodName := ⟨RX6, "<init>", "()V"⟩
abbrev cX6_feed : ByteArray := prog_1_method_2_code
def yX6_feed : MethodName := ⟨RX6, "feed", "(IIIII)I"⟩
abbrev cX6_law : ByteArray := prog_1_method_3_code
def yX6_law : MethodName := ⟨RX6, "law", "(I)I"⟩
abbrev cX6_trough : ByteArray := prog_1_method_4_code
def yX6_trough : MethodName := ⟨RX6, "trough", "(I)Z"⟩
abbrev cX6_area : ByteArray := prog_1_method_5_code
def yX6_area : MethodName := ⟨RX6, "area", "(II)Z"⟩
abbrev cX6_flow : ByteArray := prog_1_method_6_code
def yX6_flow : MethodName := ⟨RX6, "flow", "(II)Z"⟩
abbrev cX6_ice : ByteArray := prog_1_method_7_code
def yX6_ice : MethodName := ⟨RX6, "ice", "(II)Z"⟩
abbrev cX6_boat : ByteArray := prog_1_method_8_code
def yX6_boat : MethodName := ⟨RX6, "boat", "(IIIIII)I"⟩
abbrev cX6_queue : ByteArray := prog_1_method_9_code
def yX6_queue : MethodName := ⟨RX6, "queue", "(III)I"⟩
abbrev cX6_fitting : ByteArray := prog_1_method_10_code
def yX6_fitting : MethodName := ⟨RX6, "fitting", "(I)I"⟩
abbrev cX6_ride : ByteArray := prog_1_method_11_code
def yX6_ride : MethodName := ⟨RX6, "ride", "(II)I"⟩
abbrev cX6_renew : ByteArray := prog_1_method_12_code
def yX6_renew : MethodName := ⟨RX6, "renew", "(I)I"⟩
abbrev cX6_plan : ByteArray := prog_1_method_13_code
def yX6_plan : MethodName := ⟨RX6, "plan", "()I"⟩
abbrev cX6_ends : ByteArray := prog_1_method_14_code
def yX6_ends : MethodName := ⟨RX6, "ends", "()I"⟩
abbrev cX6_stock : ByteArray := prog_1_method_15_code
def yX6_stock : MethodName := ⟨RX6, "stock", "(I)J"⟩
abbrev cX6_level : ByteArray := prog_1_method_16_code
def yX6_level : MethodName := ⟨RX6, "level", "(I)I"⟩
abbrev cX6_depth : ByteArray := prog_1_method_17_code
def yX6_depth : MethodName := ⟨RX6, "depth", "(I)I"⟩
abbrev cX6_look : ByteArray := prog_1_method_18_code
def yX6_look : MethodName := ⟨RX6, "look", "(II)I"⟩
abbrev cX6_count : ByteArray := prog_1_method_19_code
def yX6_count : MethodName := ⟨RX6, "count", "(I)I"⟩
abbrev cX6_within : ByteArray := prog_1_method_20_code
def yX6_within : MethodName := ⟨RX6, "within", "(III)Z"⟩
abbrev cX6_isSide : ByteArray := prog_1_method_21_code
def yX6_isSide : MethodName := ⟨RX6, "isSide", "(I)Z"⟩
abbrev cX6_isMinute : ByteArray := prog_1_method_22_code
def yX6_isMinute : MethodName := ⟨RX6, "isMinute", "(I)Z"⟩
abbrev cX6_otherSide : ByteArray := prog_1_method_23_code
def yX6_otherSide : MethodName := ⟨RX6, "otherSide", "(I)I"⟩
abbrev cX6_waterAt : ByteArray := prog_1_method_24_code
def yX6_waterAt : MethodName := ⟨RX6, "waterAt", "(I)LBoatLift$Water;"⟩
abbrev cX6_sendDown : ByteArray := prog_1_method_25_code
def yX6_sendDown : MethodName := ⟨RX6, "sendDown", "(I)V"⟩
abbrev cX6_isFit : ByteArray := prog_1_method_26_code
def yX6_isFit : MethodName := ⟨RX6, "isFit", "(LBoatLift$Boat;)Z"⟩
abbrev cX6_isLeft : ByteArray := prog_1_method_27_code
def yX6_isLeft : MethodName := ⟨RX6, "isLeft", "(LBoatLift$Boat;)Z"⟩
abbrev cX6_isQueued : ByteArray := prog_1_method_28_code
def yX6_isQueued : MethodName := ⟨RX6, "isQueued", "(LBoatLift$Boat;II)Z"⟩
abbrev cX6_turnOf : ByteArray := prog_1_method_29_code
def yX6_turnOf : MethodName := ⟨RX6, "turnOf", "(LBoatLift$Boat;)I"⟩
abbrev cX6_fittingAt : ByteArray := prog_1_method_30_code
def yX6_fittingAt : MethodName := ⟨RX6, "fittingAt", "(I)I"⟩
abbrev cX6_carryFirst : ByteArray := prog_1_method_31_code
def yX6_carryFirst : MethodName := ⟨RX6, "carryFirst", "(II)I"⟩
abbrev cX6_gatherLeft : ByteArray := prog_1_method_32_code
def yX6_gatherLeft : MethodName := ⟨RX6, "gatherLeft", "()I"⟩
abbrev cX6_bestPlan : ByteArray := prog_1_method_33_code
def yX6_bestPlan : MethodName := ⟨RX6, "bestPlan", "()J"⟩
def RX7 : String := "BoatLiftModel"
def TX7 : u_T := fun k => match k with
  | 0 => ("BoatLiftModel", "tape", "[B", true)
  | 1 => ("BoatLiftModel", "taped", "I", false)
  | 2 => ("BoatLiftModel", "length", "I", false)
  | 3 => ("BoatLiftModel", "side", "I", false)
  | 4 => ("BoatLiftModel", "free", "I", false)
  | 5 => ("BoatLiftModel", "rides", "I", false)
  | 6 => ("BoatLiftModel", "allRides", "I", false)
  | 7 => ("BoatLiftModel", "boats", "I", false)
  | 8 => ("BoatLiftModel", "ices", "I", false)
  | 9 => ("BoatLiftModel", "law", "[I", true)
  | 10 => ("BoatLiftModel", "read", "[I", true)
  | 11 => ("BoatLiftModel", "area", "[I", true)
  | 12 => ("BoatLiftModel", "stock", "[J", true)
  | 13 => ("BoatLiftModel", "iceFrom", "[I", true)
  | 14 => ("BoatLiftModel", "iceTo", "[I", true)
  | 15 => ("BoatLiftModel", "at", "[I", true)
  | 16 => ("BoatLiftModel", "there", "[I", true)
  | 17 => ("BoatLiftModel", "size", "[I", true)
  | 18 => ("BoatLiftModel", "draught", "[I", true)
  | 19 => ("BoatLiftModel", "weight", "[I", true)
  | 20 => ("BoatLiftModel", "rank", "[I", true)
  | 21 => ("BoatLiftModel", "began", "[I", true)
  | 22 => ("BoatLiftModel", "queued", "I", false)
  | 23 => ("BoatLiftModel", "queue", "[I", true)
  | 24 => ("BoatLiftModel", "turn", "I", false)
  | 25 => ("BoatLiftModel", "ways", "I", false)
  | 26 => ("BoatLiftModel", "left", "I", false)
  | 27 => ("BoatLiftModel", "leastWait", "I", false)
  | 28 => ("BoatLiftModel", "firstEnd", "I", false)
  | 29 => ("BoatLiftModel", "slot", "[I", true)
  | 30 => ("BoatLiftModel", "slotTurn", "[I", true)
  | 31 => ("BoatLiftModel", "wayKey", "[I", true)
  | 32 => ("BoatLiftModel", "wayWait", "[I", true)
  | 33 => ("BoatLiftModel", "next", "[I", true)
  | 34 => ("BoatLiftModel", "head", "[I", true)
  | _ => ("BoatLiftModel", "plan", "[I", true)
def tyX7 : Nat → FieldType := fun k => match k with
  | 0 => .array .byte
  | 1 => .int
  | 2 => .int
  | 3 => .int
  | 4 => .int
  | 5 => .int
  | 6 => .int
  | 7 => .int
  | 8 => .int
  | 9 => .array .int
  | 10 => .array .int
  | 11 => .array .int
  | 12 => .array .long
  | 13 => .array .int
  | 14 => .array .int
  | 15 => .array .int
  | 16 => .array .int
  | 17 => .array .int
  | 18 => .array .int
  | 19 => .array .int
  | 20 => .array .int
  | 21 => .array .int
  | 22 => .int
  | 23 => .array .int
  | 24 => .int
  | 25 => .int
  | 26 => .int
  | 27 => .int
  | 28 => .int
  | 29 => .array .int
  | 30 => .array .int
  | 31 => .array .int
  | 32 => .array .int
  | 33 => .array .int
  | 34 => .array .int
  | _ => .array .int
abbrev wsX70 : List Cond := u_ws RX7 TX7 36
theorem nmX7 : ∀ a, a < 36 → ∀ b, b < 36 → a ≠ b → (TX7 a).2.1 ≠ (TX7 b).2.1 := by decide +kernel
theorem tyX7_ok : ∀ k, k < 36 → parseFieldDescriptor (TX7 k).2.2.1 = some (tyX7 k) := by decide +kernel
abbrev cX7_init : ByteArray := prog_9_method_1_code
def yX7_init : MethodName := ⟨RX7, "<init>", "()V"⟩
abbrev cX7_lies : ByteArray := prog_9_method_2_code
def yX7_lies : MethodName := ⟨RX7, "lies", "(III)Z"⟩
abbrev cX7_push : ByteArray := prog_9_method_3_code
def yX7_push : MethodName := ⟨RX7, "push", "(I)V"⟩
abbrev cX7_feed : ByteArray := prog_9_method_4_code
def yX7_feed : MethodName := ⟨RX7, "feed", "(IIIII)I"⟩
abbrev cX7_asAtFirst : ByteArray := prog_9_method_5_code
def yX7_asAtFirst : MethodName := ⟨RX7, "asAtFirst", "([I)V"⟩
abbrev cX7_letter : ByteArray := prog_9_method_6_code
def yX7_letter : MethodName := ⟨RX7, "letter", "(I)I"⟩
abbrev cX7_canBe : ByteArray := prog_9_method_7_code
def yX7_canBe : MethodName := ⟨RX7, "canBe", "(II)Z"⟩
abbrev cX7_byteAt : ByteArray := prog_9_method_8_code
def yX7_byteAt : MethodName := ⟨RX7, "byteAt", "(II)I"⟩
abbrev cX7_reads : ByteArray := prog_9_method_9_code
def yX7_reads : MethodName := ⟨RX7, "reads", "(I)I"⟩
abbrev cX7_law : ByteArray := prog_9_method_10_code
def yX7_law : MethodName := ⟨RX7, "law", "(I)I"⟩
abbrev cX7_trough : ByteArray := prog_9_method_11_code
def yX7_trough : MethodName := ⟨RX7, "trough", "(I)Z"⟩
abbrev cX7_isSide : ByteArray := prog_9_method_12_code
def yX7_isSide : MethodName := ⟨RX7, "isSide", "(I)Z"⟩
abbrev cX7_area : ByteArray := prog_9_method_13_code
def yX7_area : MethodName := ⟨RX7, "area", "(II)Z"⟩
abbrev cX7_flow : ByteArray := prog_9_method_14_code
def yX7_flow : MethodName := ⟨RX7, "flow", "(II)Z"⟩
abbrev cX7_ice : ByteArray := prog_9_method_15_code
def yX7_ice : MethodName := ⟨RX7, "ice", "(II)Z"⟩
abbrev cX7_isIce : ByteArray := prog_9_method_16_code
def yX7_isIce : MethodName := ⟨RX7, "isIce", "(I)Z"⟩
abbrev cX7_lasts : ByteArray := prog_9_method_17_code
def yX7_lasts : MethodName := ⟨RX7, "lasts", "(I)I"⟩
abbrev cX7_boat : ByteArray := prog_9_method_18_code
def yX7_boat : MethodName := ⟨RX7, "boat", "(IIIIII)I"⟩
abbrev cX7_down : ByteArray := prog_9_method_19_code
def yX7_down : MethodName := ⟨RX7, "down", "(JJ)J"⟩
abbrev cX7_levelOf : ByteArray := prog_9_method_20_code
def yX7_levelOf : MethodName := ⟨RX7, "levelOf", "(I)I"⟩
abbrev cX7_depthOf : ByteArray := prog_9_method_21_code
def yX7_depthOf : MethodName := ⟨RX7, "depthOf", "(I)I"⟩
abbrev cX7_isFit : ByteArray := prog_9_method_22_code
def yX7_isFit : MethodName := ⟨RX7, "isFit", "(I)Z"⟩
abbrev cX7_isLeft : ByteArray := prog_9_method_23_code
def yX7_isLeft : MethodName := ⟨RX7, "isLeft", "(I)Z"⟩
abbrev cX7_isAhead : ByteArray := prog_9_method_24_code
def yX7_isAhead : MethodName := ⟨RX7, "isAhead", "(II)Z"⟩
abbrev cX7_queues : ByteArray := prog_9_method_25_code
def yX7_queues : MethodName := ⟨RX7, "queues", "(III)V"⟩
abbrev cX7_fits : ByteArray := prog_9_method_26_code
def yX7_fits : MethodName := ⟨RX7, "fits", "()I"⟩
abbrev cX7_queue : ByteArray := prog_9_method_27_code
def yX7_queue : MethodName := ⟨RX7, "queue", "(III)I"⟩
abbrev cX7_fitting : ByteArray := prog_9_method_28_code
def yX7_fitting : MethodName := ⟨RX7, "fitting", "(I)I"⟩
abbrev cX7_ride : ByteArray := prog_9_method_29_code
def yX7_ride : MethodName := ⟨RX7, "ride", "(II)I"⟩
abbrev cX7_renew : ByteArray := prog_9_method_30_code
def yX7_renew : MethodName := ⟨RX7, "renew", "(I)I"⟩
abbrev cX7_boatsOf : ByteArray := prog_9_method_31_code
def yX7_boatsOf : MethodName := ⟨RX7, "boatsOf", "(I)I"⟩
abbrev cX7_keeps : ByteArray := prog_9_method_32_code
def yX7_keeps : MethodName := ⟨RX7, "keeps", "(IIIII)V"⟩
abbrev cX7_numberOf : ByteArray := prog_9_method_33_code
def yX7_numberOf : MethodName := ⟨RX7, "numberOf", "(I)I"⟩
abbrev cX7_begins : ByteArray := prog_9_method_34_code
def yX7_begins : MethodName := ⟨RX7, "begins", "(IIIII)V"⟩
abbrev cX7_isTooMany : ByteArray := prog_9_method_35_code
def yX7_isTooMany : MethodName := ⟨RX7, "isTooMany", "()Z"⟩
abbrev cX7_goesOn : ByteArray := prog_9_method_36_code
def yX7_goesOn : MethodName := ⟨RX7, "goesOn", "(II)V"⟩
abbrev cX7_works : ByteArray := prog_9_method_37_code
def yX7_works : MethodName := ⟨RX7, "works", "()V"⟩
abbrev cX7_plan : ByteArray := prog_9_method_38_code
def yX7_plan : MethodName := ⟨RX7, "plan", "()I"⟩
abbrev cX7_ends : ByteArray := prog_9_method_39_code
def yX7_ends : MethodName := ⟨RX7, "ends", "()I"⟩
abbrev cX7_stock : ByteArray := prog_9_method_40_code
def yX7_stock : MethodName := ⟨RX7, "stock", "(I)J"⟩
abbrev cX7_level : ByteArray := prog_9_method_41_code
def yX7_level : MethodName := ⟨RX7, "level", "(I)I"⟩
abbrev cX7_depth : ByteArray := prog_9_method_42_code
def yX7_depth : MethodName := ⟨RX7, "depth", "(I)I"⟩
abbrev cX7_look : ByteArray := prog_9_method_43_code
def yX7_look : MethodName := ⟨RX7, "look", "(II)I"⟩
abbrev cX7_count : ByteArray := prog_9_method_44_code
def yX7_count : MethodName := ⟨RX7, "count", "(I)I"⟩
def RJx145de : String := "java/io/Serializable"
def TJx145de : u_T := fun k => match k with
  | _ => ("", "", "", false)
def tyJx145de : Nat → FieldType := fun k => match k with
  | _ => .int
abbrev wsJx145de0 : List Cond := u_ws RJx145de TJx145de 0
theorem nmJx145de : ∀ a, a < 0 → ∀ b, b < 0 → a ≠ b → (TJx145de a).2.1 ≠ (TJx145de b).2.1 := by decide +kernel
theorem tyJx145de_ok : ∀ k, k < 0 → parseFieldDescriptor (TJx145de k).2.2.1 = some (tyJx145de k) := by decide +kernel
def RJx8e188 : String := "java/lang/Cloneable"
def TJx8e188 : u_T := fun k => match k with
  | _ => ("", "", "", false)
def tyJx8e188 : Nat → FieldType := fun k => match k with
  | _ => .int
abbrev wsJx8e1880 : List Cond := u_ws RJx8e188 TJx8e188 0
theorem nmJx8e188 : ∀ a, a < 0 → ∀ b, b < 0 → a ≠ b → (TJx8e188 a).2.1 ≠ (TJx8e188 b).2.1 := by decide +kernel
theorem tyJx8e188_ok : ∀ k, k < 0 → parseFieldDescriptor (TJx8e188 k).2.2.1 = some (tyJx8e188 k) := by decide +kernel
def RJxab1ab : String := "java/lang/Iterable"
def TJxab1ab : u_T := fun k => match k with
  | _ => ("", "", "", false)
def tyJxab1ab : Nat → FieldType := fun k => match k with
  | _ => .int
abbrev wsJxab1ab0 : List Cond := u_ws RJxab1ab TJxab1ab 0
theorem nmJxab1ab : ∀ a, a < 0 → ∀ b, b < 0 → a ≠ b → (TJxab1ab a).2.1 ≠ (TJxab1ab b).2.1 := by decide +kernel
theorem tyJxab1ab_ok : ∀ k, k < 0 → parseFieldDescriptor (TJxab1ab k).2.2.1 = some (tyJxab1ab k) := by decide +kernel
def RJ9 : String := "java/lang/Math"
def TJ9 : u_T := fun k => match k with
  | _ => ("", "", "", false)
def tyJ9 : Nat → FieldType := fun k => match k with
  | _ => .int
abbrev wsJ90 : List Cond := u_ws RJ9 TJ9 0
theorem nmJ9 : ∀ a, a < 0 → ∀ b, b < 0 → a ≠ b → (TJ9 a).2.1 ≠ (TJ9 b).2.1 := by decide +kernel
theorem tyJ9_ok : ∀ k, k < 0 → parseFieldDescriptor (TJ9 k).2.2.1 = some (tyJ9 k) := by decide +kernel
abbrev cJ9_floorDiv_7cf53 : ByteArray := prog_13_method_47_code
def yJ9_floorDiv_7cf53 : MethodName := ⟨RJ9, "floorDiv", "(II)I"⟩
abbrev cJ9_floorDiv_f86c9 : ByteArray := prog_13_method_49_code
def yJ9_floorDiv_f86c9 : MethodName := ⟨RJ9, "floorDiv", "(JJ)J"⟩
abbrev cJ9_max_7cf53 : ByteArray := prog_13_method_65_code
def yJ9_max_7cf53 : MethodName := ⟨RJ9, "max", "(II)I"⟩
abbrev cJ9_min_7cf53 : ByteArray := prog_13_method_69_code
def yJ9_min_7cf53 : MethodName := ⟨RJ9, "min", "(II)I"⟩
abbrev cJ9_min_f86c9 : ByteArray := prog_13_method_70_code
def yJ9_min_f86c9 : MethodName := ⟨RJ9, "min", "(JJ)J"⟩
def RJ10 : String := "java/lang/System"
def TJ10 : u_T := fun k => match k with
  | _ => ("", "", "", false)
def tyJ10 : Nat → FieldType := fun k => match k with
  | _ => .int
abbrev wsJ100 : List Cond := u_ws RJ10 TJ10 0
theorem nmJ10 : ∀ a, a < 0 → ∀ b, b < 0 → a ≠ b → (TJ10 a).2.1 ≠ (TJ10 b).2.1 := by decide +kernel
theorem tyJ10_ok : ∀ k, k < 0 → parseFieldDescriptor (TJ10 k).2.2.1 = some (tyJ10 k) := by decide +kernel
def RJxa1e45 : String := "java/util/AbstractCollection"
def TJxa1e45 : u_T := fun k => match k with
  | _ => ("", "", "", false)
def tyJxa1e45 : Nat → FieldType := fun k => match k with
  | _ => .int
abbrev wsJxa1e450 : List Cond := u_ws RJxa1e45 TJxa1e45 0
theorem nmJxa1e45 : ∀ a, a < 0 → ∀ b, b < 0 → a ≠ b → (TJxa1e45 a).2.1 ≠ (TJxa1e45 b).2.1 := by decide +kernel
theorem tyJxa1e45_ok : ∀ k, k < 0 → parseFieldDescriptor (TJxa1e45 k).2.2.1 = some (tyJxa1e45 k) := by decide +kernel
abbrev cJxa1e45_init_da8c8 : ByteArray := prog_15_method_1_code
def yJxa1e45_init_da8c8 : MethodName := ⟨RJxa1e45, "<init>", "()V"⟩
def RJxc12de : String := "java/util/AbstractList"
def TJxc12de : u_T := fun k => match k with
  | _ => ("", "", "", false)
def tyJxc12de : Nat → FieldType := fun k => match k with
  | _ => .int
abbrev wsJxc12de0 : List Cond := u_ws RJxc12de TJxc12de 0
theorem nmJxc12de : ∀ a, a < 0 → ∀ b, b < 0 → a ≠ b → (TJxc12de a).2.1 ≠ (TJxc12de b).2.1 := by decide +kernel
theorem tyJxc12de_ok : ∀ k, k < 0 → parseFieldDescriptor (TJxc12de k).2.2.1 = some (tyJxc12de k) := by decide +kernel
abbrev cJxc12de_init_da8c8 : ByteArray := prog_16_method_1_code
def yJxc12de_init_da8c8 : MethodName := ⟨RJxc12de, "<init>", "()V"⟩
def RJx4a65c : String := "java/util/ArrayList"
def TJx4a65c : u_T := fun k => match k with
  | 0 => ("java/util/AbstractList", "modCount", "I", false)
  | 1 => ("java/util/ArrayList", "elementData", "[Ljava/lang/Object;", false)
  | _ => ("java/util/ArrayList", "size", "I", false)
def tyJx4a65c : Nat → FieldType := fun k => match k with
  | 0 => .int
  | 1 => .array (.object "java/lang/Object")
  | _ => .int
abbrev wsJx4a65c0 : List Cond := u_ws RJx4a65c TJx4a65c 3
theorem nmJx4a65c : ∀ a, a < 3 → ∀ b, b < 3 → a ≠ b → (TJx4a65c a).2.1 ≠ (TJx4a65c b).2.1 := by decide +kernel
theorem tyJx4a65c_ok : ∀ k, k < 3 → parseFieldDescriptor (TJx4a65c k).2.2.1 = some (tyJx4a65c k) := by decide +kernel
abbrev cJx4a65c_init_da8c8 : ByteArray := prog_17_method_2_code
def yJx4a65c_init_da8c8 : MethodName := ⟨RJx4a65c, "<init>", "()V"⟩
abbrev cJx4a65c_grow_92f84 : ByteArray := prog_17_method_6_code
def yJx4a65c_grow_92f84 : MethodName := ⟨RJx4a65c, "grow", "(I)[Ljava/lang/Object;"⟩
abbrev cJx4a65c_grow_d5877 : ByteArray := prog_17_method_7_code
def yJx4a65c_grow_d5877 : MethodName := ⟨RJx4a65c, "grow", "()[Ljava/lang/Object;"⟩
abbrev cJx4a65c_size_8abf5 : ByteArray := prog_17_method_8_code
def yJx4a65c_size_8abf5 : MethodName := ⟨RJx4a65c, "size", "()I"⟩
abbrev cJx4a65c_elementData_915e3 : ByteArray := prog_17_method_18_code
def yJx4a65c_elementData_915e3 : MethodName := ⟨RJx4a65c, "elementData", "(I)Ljava/lang/Object;"⟩
abbrev cJx4a65c_get_915e3 : ByteArray := prog_17_method_20_code
def yJx4a65c_get_915e3 : MethodName := ⟨RJx4a65c, "get", "(I)Ljava/lang/Object;"⟩
abbrev cJx4a65c_add_72be8 : ByteArray := prog_17_method_24_code
def yJx4a65c_add_72be8 : MethodName := ⟨RJx4a65c, "add", "(Ljava/lang/Object;[Ljava/lang/Object;I)V"⟩
abbrev cJx4a65c_add_9ea2d : ByteArray := prog_17_method_25_code
def yJx4a65c_add_9ea2d : MethodName := ⟨RJx4a65c, "add", "(Ljava/lang/Object;)Z"⟩
abbrev cJx4a65c_add_7a177 : ByteArray := prog_17_method_26_code
def yJx4a65c_add_7a177 : MethodName := ⟨RJx4a65c, "add", "(ILjava/lang/Object;)V"⟩
abbrev cJx4a65c_rangeCheckForAdd_d00df : ByteArray := prog_17_method_45_code
def yJx4a65c_rangeCheckForAdd_d00df : MethodName := ⟨RJx4a65c, "rangeCheckForAdd", "(I)V"⟩
def RJ7 : String := "java/util/Arrays"
def TJ7 : u_T := fun k => match k with
  | _ => ("", "", "", false)
def tyJ7 : Nat → FieldType := fun k => match k with
  | _ => .int
abbrev wsJ70 : List Cond := u_ws RJ7 TJ7 0
theorem nmJ7 : ∀ a, a < 0 → ∀ b, b < 0 → a ≠ b → (TJ7 a).2.1 ≠ (TJ7 b).2.1 := by decide +kernel
theorem tyJ7_ok : ∀ k, k < 0 → parseFieldDescriptor (TJ7 k).2.2.1 = some (tyJ7 k) := by decide +kernel
abbrev cJ7_copyOf_1904c : ByteArray := prog_18_method_119_code
def yJ7_copyOf_1904c : MethodName := ⟨RJ7, "copyOf", "([Ljava/lang/Object;I)[Ljava/lang/Object;"⟩
abbrev cJ7_copyOf_6403c : ByteArray := prog_18_method_120_code
def yJ7_copyOf_6403c : MethodName := ⟨RJ7, "copyOf", "([Ljava/lang/Object;ILjava/lang/Class;)[Ljava/lang/Object;"⟩
def RJx5ef63 : String := "java/util/Collection"
def TJx5ef63 : u_T := fun k => match k with
  | _ => ("", "", "", false)
def tyJx5ef63 : Nat → FieldType := fun k => match k with
  | _ => .int
abbrev wsJx5ef630 : List Cond := u_ws RJx5ef63 TJx5ef63 0
theorem nmJx5ef63 : ∀ a, a < 0 → ∀ b, b < 0 → a ≠ b → (TJx5ef63 a).2.1 ≠ (TJx5ef63 b).2.1 := by decide +kernel
theorem tyJx5ef63_ok : ∀ k, k < 0 → parseFieldDescriptor (TJx5ef63 k).2.2.1 = some (tyJx5ef63 k) := by decide +kernel
def RJxbd725 : String := "java/util/List"
def TJxbd725 : u_T := fun k => match k with
  | _ => ("", "", "", false)
def tyJxbd725 : Nat → FieldType := fun k => match k with
  | _ => .int
abbrev wsJxbd7250 : List Cond := u_ws RJxbd725 TJxbd725 0
theorem nmJxbd725 : ∀ a, a < 0 → ∀ b, b < 0 → a ≠ b → (TJxbd725 a).2.1 ≠ (TJxbd725 b).2.1 := by decide +kernel
theorem tyJxbd725_ok : ∀ k, k < 0 → parseFieldDescriptor (TJxbd725 k).2.2.1 = some (tyJxbd725 k) := by decide +kernel
def RJ15 : String := "java/util/Objects"
def TJ15 : u_T := fun k => match k with
  | _ => ("", "", "", false)
def tyJ15 : Nat → FieldType := fun k => match k with
  | _ => .int
abbrev wsJ150 : List Cond := u_ws RJ15 TJ15 0
theorem nmJ15 : ∀ a, a < 0 → ∀ b, b < 0 → a ≠ b → (TJ15 a).2.1 ≠ (TJ15 b).2.1 := by decide +kernel
theorem tyJ15_ok : ∀ k, k < 0 → parseFieldDescriptor (TJ15 k).2.2.1 = some (tyJ15 k) := by decide +kernel
abbrev cJ15_checkIndex_7cf53 : ByteArray := prog_21_method_17_code
def yJ15_checkIndex_7cf53 : MethodName := ⟨RJ15, "checkIndex", "(II)I"⟩
def RJxf0a74 : String := "java/util/RandomAccess"
def TJxf0a74 : u_T := fun k => match k with
  | _ => ("", "", "", false)
def tyJxf0a74 : Nat → FieldType := fun k => match k with
  | _ => .int
abbrev wsJxf0a740 : List Cond := u_ws RJxf0a74 TJxf0a74 0
theorem nmJxf0a74 : ∀ a, a < 0 → ∀ b, b < 0 → a ≠ b → (TJxf0a74 a).2.1 ≠ (TJxf0a74 b).2.1 := by decide +kernel
theorem tyJxf0a74_ok : ∀ k, k < 0 → parseFieldDescriptor (TJxf0a74 k).2.2.1 = some (tyJxf0a74 k) := by decide +kernel
def RJxa66e6 : String := "java/util/SequencedCollection"
def TJxa66e6 : u_T := fun k => match k with
  | _ => ("", "", "", false)
def tyJxa66e6 : Nat → FieldType := fun k => match k with
  | _ => .int
abbrev wsJxa66e60 : List Cond := u_ws RJxa66e6 TJxa66e6 0
theorem nmJxa66e6 : ∀ a, a < 0 → ∀ b, b < 0 → a ≠ b → (TJxa66e6 a).2.1 ≠ (TJxa66e6 b).2.1 := by decide +kernel
theorem tyJxa66e6_ok : ∀ k, k < 0 → parseFieldDescriptor (TJxa66e6 k).2.2.1 = some (tyJxa66e6 k) := by decide +kernel
def RJ8 : String := "jdk/internal/util/ArraysSupport"
def TJ8 : u_T := fun k => match k with
  | _ => ("", "", "", false)
def tyJ8 : Nat → FieldType := fun k => match k with
  | _ => .int
abbrev wsJ80 : List Cond := u_ws RJ8 TJ8 0
theorem nmJ8 : ∀ a, a < 0 → ∀ b, b < 0 → a ≠ b → (TJ8 a).2.1 ≠ (TJ8 b).2.1 := by decide +kernel
theorem tyJ8_ok : ∀ k, k < 0 → parseFieldDescriptor (TJ8 k).2.2.1 = some (tyJ8 k) := by decide +kernel
abbrev cJ8_newLength_cabcc : ByteArray := prog_24_method_27_code
def yJ8_newLength_cabcc : MethodName := ⟨RJ8, "newLength", "(III)I"⟩
abbrev cJ8_hugeLength_7cf53 : ByteArray := prog_24_method_28_code
def yJ8_hugeLength_7cf53 : MethodName := ⟨RJ8, "hugeLength", "(II)I"⟩
def RJ3 : String := "jdk/internal/util/Preconditions"
def TJ3 : u_T := fun k => match k with
  | _ => ("", "", "", false)
def tyJ3 : Nat → FieldType := fun k => match k with
  | _ => .int
abbrev wsJ30 : List Cond := u_ws RJ3 TJ3 0
theorem nmJ3 : ∀ a, a < 0 → ∀ b, b < 0 → a ≠ b → (TJ3 a).2.1 ≠ (TJ3 b).2.1 := by decide +kernel
theorem tyJ3_ok : ∀ k, k < 0 → parseFieldDescriptor (TJ3 k).2.2.1 = some (tyJ3 k) := by decide +kernel
abbrev cJ3_checkIndex_8e157 : ByteArray := prog_25_method_11_code
def yJ3_checkIndex_8e157 : MethodName := ⟨RJ3, "checkIndex", "(IILjava/util/function/BiFunction;)I"⟩
def RL : String := "BoatLiftLaw"
abbrev cL_law : ByteArray := code
def yL_law : MethodName := ⟨RL, "law", "([I)Z"⟩
def wsX0_init : List Cond := .code yX0_init cX0_init 8 none :: ([.methodLink RX0 3 objectInit, .instanceMethod objectInit, .code objectInit ⟨#[0xb1]⟩ 1 none, .fieldLink RX0 9 "BoatLift$Boat" "began" "I", .fieldLink RX0 15 "BoatLift$Boat" "number" "I", .fieldLink RX0 18 "BoatLift$Boat" "side" "I", .fieldLink RX0 21 "BoatLift$Boat" "minute" "I", .fieldLink RX0 24 "BoatLift$Boat" "length" "I", .fieldLink RX0 27 "BoatLift$Boat" "draught" "I", .fieldLink RX0 30 "BoatLift$Boat" "weight" "I", .fieldLink RX0 33 "BoatLift$Boat" "rank" "I"] ++ wsX00)
def wsX0_waited : List Cond := .code yX0_waited cX0_waited 1 (some .int) :: ([.fieldLink RX0 9 "BoatLift$Boat" "began" "I", .fieldLink RX0 21 "BoatLift$Boat" "minute" "I"] ++ wsX00)
def wsX0_goesAheadOf : List Cond := .code yX0_goesAheadOf cX0_goesAheadOf 2 (some .boolean) :: ([.fieldLink RX0 33 "BoatLift$Boat" "rank" "I", .fieldLink RX0 21 "BoatLift$Boat" "minute" "I"] ++ wsX00)
def wsX1_init : List Cond := .code yX1_init cX1_init 2 none :: ([.methodLink RX1 3 objectInit, .instanceMethod objectInit, .code objectInit ⟨#[0xb1]⟩ 1 none, .fieldLink RX1 9 "BoatLift$Law" "FIRST" "[I", .methodLink RX1 15 ⟨"[I", "clone", "()Ljava/lang/Object;"⟩, .sameMethod "[I" "java/lang/Object" "clone" "()Ljava/lang/Object;", .native ⟨"java/lang/Object", "clone", "()Ljava/lang/Object;"⟩, .instanceMethod ⟨"java/lang/Object", "clone", "()Ljava/lang/Object;"⟩, .selects "[I" ⟨"[I", "clone", "()Ljava/lang/Object;"⟩ ⟨"java/lang/Object", "clone", "()Ljava/lang/Object;"⟩, .classLink RX1 16 "[I", .fieldLink RX1 20 "BoatLift$Law" "numbers" "[I", .fieldLink RX1 23 "BoatLift$Law" "draft" "[I", .fieldLink RX1 26 "BoatLift$Law" "tape" "LBoatLift$Tape;"] ++ wsX10)
def wsX1_number : List Cond := .code yX1_number cX1_number 2 (some .int) :: ([.fieldLink RX1 20 "BoatLift$Law" "numbers" "[I"] ++ wsX10)
def wsX3_at : List Cond := .code yX3_at cX3_at 2 (some .int) :: ([.fieldLink RX3 15 "BoatLift$Tape" "size" "I", .fieldLink RX3 11 "BoatLift$Tape" "bytes" "[I"] ++ wsX30)
def wsX1_sign : List Cond := .code yX1_sign cX1_sign 1 (some .int) :: ([.fieldLink RX1 34 "BoatLift$Law" "place" "I", .fieldLink RX1 30 "BoatLift$Law" "size" "I", .fieldLink RX1 26 "BoatLift$Law" "tape" "LBoatLift$Tape;", .methodLink RX1 71 yX3_at, .instanceMethod yX3_at, .selects RX3 yX3_at yX3_at, .initialized RX3, .code yX3_at cX3_at 2 (some .int), .fieldLink RX3 15 "BoatLift$Tape" "size" "I", .fieldLink RX3 11 "BoatLift$Tape" "bytes" "[I"] ++ wsX10 ++ wsX30)
def wsX1_letterOf : List Cond := .code yX1_letterOf cX1_letterOf 2 (some .int) :: ([.fieldLink RX1 76 "BoatLift$Law" "LETTER" "[I"])
def wsX1_fault : List Cond := .code yX1_fault cX1_fault 2 (some .int) :: ([])
def wsX1_isDigit : List Cond := .code yX1_isDigit cX1_isDigit 1 (some .boolean) :: ([])
def wsX1_faultOfClause_r1 : List Cond := [Cond.fieldLink RX1 34 "BoatLift$Law" "place" "I", Cond.fieldLink RX1 30 "BoatLift$Law" "size" "I", Cond.fieldLink RX1 65 "BoatLift$Law" "LEAST" "[I", Cond.fieldLink RX1 68 "BoatLift$Law" "MOST" "[I", Cond.fieldLink RX1 23 "BoatLift$Law" "draft" "[I", Cond.methodLink RX1 50 yX1_sign, Cond.instanceMethod yX1_sign, Cond.selects RX1 yX1_sign yX1_sign, Cond.initialized RX1, Cond.code yX1_sign cX1_sign 1 (some .int), Cond.fieldLink RX1 26 "BoatLift$Law" "tape" "LBoatLift$Tape;", Cond.methodLink RX1 71 yX3_at, Cond.instanceMethod yX3_at, Cond.selects RX3 yX3_at yX3_at, Cond.initialized RX3, Cond.code yX3_at cX3_at 2 (some .int), Cond.fieldLink RX3 15 "BoatLift$Tape" "size" "I", Cond.fieldLink RX3 11 "BoatLift$Tape" "bytes" "[I", Cond.methodLink RX1 57 yX1_letterOf, Cond.static yX1_letterOf, Cond.code yX1_letterOf cX1_letterOf 2 (some .int), Cond.fieldLink RX1 76 "BoatLift$Law" "LETTER" "[I", Cond.methodLink RX1 53 yX1_fault, Cond.static yX1_fault]
def wsX1_faultOfClause_r2 : List Cond := [Cond.code yX1_fault cX1_fault 2 (some .int), Cond.methodLink RX1 61 yX1_isDigit, Cond.static yX1_isDigit, Cond.code yX1_isDigit cX1_isDigit 1 (some .boolean)]
def wsX1_faultOfClause : List Cond := .code yX1_faultOfClause cX1_faultOfClause 4 (some .int) :: ((wsX1_faultOfClause_r1 ++ wsX1_faultOfClause_r2) ++ wsX10 ++ wsX30)
def wsX1_faultOfText_r1 : List Cond := [Cond.fieldLink RX1 30 "BoatLift$Law" "size" "I", Cond.fieldLink RX1 34 "BoatLift$Law" "place" "I", Cond.methodLink RX1 47 yX1_faultOfClause, Cond.instanceMethod yX1_faultOfClause, Cond.selects RX1 yX1_faultOfClause yX1_faultOfClause, Cond.initialized RX1, Cond.code yX1_faultOfClause cX1_faultOfClause 4 (some .int), Cond.fieldLink RX1 65 "BoatLift$Law" "LEAST" "[I", Cond.fieldLink RX1 68 "BoatLift$Law" "MOST" "[I", Cond.fieldLink RX1 23 "BoatLift$Law" "draft" "[I", Cond.methodLink RX1 50 yX1_sign, Cond.instanceMethod yX1_sign, Cond.selects RX1 yX1_sign yX1_sign, Cond.code yX1_sign cX1_sign 1 (some .int), Cond.fieldLink RX1 26 "BoatLift$Law" "tape" "LBoatLift$Tape;", Cond.methodLink RX1 71 yX3_at, Cond.instanceMethod yX3_at, Cond.selects RX3 yX3_at yX3_at, Cond.initialized RX3, Cond.code yX3_at cX3_at 2 (some .int), Cond.fieldLink RX3 15 "BoatLift$Tape" "size" "I", Cond.fieldLink RX3 11 "BoatLift$Tape" "bytes" "[I", Cond.methodLink RX1 57 yX1_letterOf, Cond.static yX1_letterOf]
def wsX1_faultOfText_r2 : List Cond := [Cond.code yX1_letterOf cX1_letterOf 2 (some .int), Cond.fieldLink RX1 76 "BoatLift$Law" "LETTER" "[I", Cond.methodLink RX1 53 yX1_fault, Cond.static yX1_fault, Cond.code yX1_fault cX1_fault 2 (some .int), Cond.methodLink RX1 61 yX1_isDigit, Cond.static yX1_isDigit, Cond.code yX1_isDigit cX1_isDigit 1 (some .boolean)]
def wsX1_faultOfText : List Cond := .code yX1_faultOfText cX1_faultOfText 3 (some .int) :: ((wsX1_faultOfText_r1 ++ wsX1_faultOfText_r2) ++ wsX10 ++ wsX30)
def wsX1_enact_r1 : List Cond := [Cond.fieldLink RX1 30 "BoatLift$Law" "size" "I", Cond.fieldLink RX1 34 "BoatLift$Law" "place" "I", Cond.fieldLink RX1 9 "BoatLift$Law" "FIRST" "[I", Cond.fieldLink RX1 23 "BoatLift$Law" "draft" "[I", Cond.methodLink RX1 37 arraycopyName, Cond.native arraycopyName, Cond.static arraycopyName, Cond.initialized "java/lang/System", Cond.fieldLink RX1 20 "BoatLift$Law" "numbers" "[I", Cond.methodLink RX1 43 yX1_faultOfText, Cond.instanceMethod yX1_faultOfText, Cond.selects RX1 yX1_faultOfText yX1_faultOfText, Cond.initialized RX1, Cond.code yX1_faultOfText cX1_faultOfText 3 (some .int), Cond.methodLink RX1 47 yX1_faultOfClause, Cond.instanceMethod yX1_faultOfClause, Cond.selects RX1 yX1_faultOfClause yX1_faultOfClause, Cond.code yX1_faultOfClause cX1_faultOfClause 4 (some .int), Cond.fieldLink RX1 65 "BoatLift$Law" "LEAST" "[I", Cond.fieldLink RX1 68 "BoatLift$Law" "MOST" "[I", Cond.methodLink RX1 50 yX1_sign, Cond.instanceMethod yX1_sign, Cond.selects RX1 yX1_sign yX1_sign, Cond.code yX1_sign cX1_sign 1 (some .int)]
def wsX1_enact_r2 : List Cond := [Cond.fieldLink RX1 26 "BoatLift$Law" "tape" "LBoatLift$Tape;", Cond.methodLink RX1 71 yX3_at, Cond.instanceMethod yX3_at, Cond.selects RX3 yX3_at yX3_at, Cond.initialized RX3, Cond.code yX3_at cX3_at 2 (some .int), Cond.fieldLink RX3 15 "BoatLift$Tape" "size" "I", Cond.fieldLink RX3 11 "BoatLift$Tape" "bytes" "[I", Cond.methodLink RX1 57 yX1_letterOf, Cond.static yX1_letterOf, Cond.code yX1_letterOf cX1_letterOf 2 (some .int), Cond.fieldLink RX1 76 "BoatLift$Law" "LETTER" "[I", Cond.methodLink RX1 53 yX1_fault, Cond.static yX1_fault, Cond.code yX1_fault cX1_fault 2 (some .int), Cond.methodLink RX1 61 yX1_isDigit, Cond.static yX1_isDigit, Cond.code yX1_isDigit cX1_isDigit 1 (some .boolean)]
def wsX1_enact : List Cond := .code yX1_enact cX1_enact 3 (some .int) :: ((wsX1_enact_r1 ++ wsX1_enact_r2) ++ wsX10 ++ wsX30)
def wsX2_init : List Cond := .code yX2_init cX2_init 2 none :: ([.methodLink RX2 5 objectInit, .instanceMethod objectInit, .code objectInit ⟨#[0xb1]⟩ 1 none, .arrayClass .int, .fieldLink RX2 11 "BoatLift$Planner" "sides" "[I", .fieldLink RX2 15 "BoatLift$Planner" "comes" "[I", .fieldLink RX2 18 "BoatLift$Planner" "lengths" "[I", .fieldLink RX2 21 "BoatLift$Planner" "minutes" "[I", .fieldLink RX2 24 "BoatLift$Planner" "timetable" "LBoatLift$Timetable;"] ++ wsX20)
def wsX2_waitsOf : List Cond := .code yX2_waitsOf cX2_waitsOf 2 (some .int) :: ([])
def wsX2_endOf : List Cond := .code yX2_endOf cX2_endOf 2 (some .int) :: ([.constantLong RX2 28 (65535)])
def wsX2_forgetBoats : List Cond := .code yX2_forgetBoats cX2_forgetBoats 1 none :: ([.fieldLink RX2 30 "BoatLift$Planner" "boats" "I"] ++ wsX20)
def wsX2_addBoat : List Cond := .code yX2_addBoat cX2_addBoat 2 none :: ([.fieldLink RX2 30 "BoatLift$Planner" "boats" "I", .fieldLink RX2 11 "BoatLift$Planner" "sides" "[I", .fieldLink RX2 34 "BoatLift$Boat" "side" "I", .fieldLink RX2 15 "BoatLift$Planner" "comes" "[I", .fieldLink RX2 39 "BoatLift$Boat" "minute" "I", .fieldLink RX2 18 "BoatLift$Planner" "lengths" "[I", .fieldLink RX2 42 "BoatLift$Boat" "length" "I"] ++ wsX20 ++ wsX00)
def wsX4_inIce : List Cond := .code yX4_inIce cX4_inIce 3 (some .boolean) :: ([.fieldLink RX4 20 "BoatLift$Timetable" "told" "I", .fieldLink RX4 9 "BoatLift$Timetable" "iceFrom" "[I", .fieldLink RX4 13 "BoatLift$Timetable" "iceTo" "[I"] ++ wsX40)
def wsX4_endOf : List Cond := .code yX4_endOf cX4_endOf 3 (some .int) :: ([.fieldLink RX4 16 "BoatLift$Timetable" "rules" "LBoatLift$Law;", .methodLink RX4 26 yX1_number, .instanceMethod yX1_number, .selects RX1 yX1_number yX1_number, .initialized RX1, .code yX1_number cX1_number 2 (some .int), .fieldLink RX1 20 "BoatLift$Law" "numbers" "[I", .methodLink RX4 30 yX4_inIce, .instanceMethod yX4_inIce, .selects RX4 yX4_inIce yX4_inIce, .initialized RX4, .code yX4_inIce cX4_inIce 3 (some .boolean), .fieldLink RX4 20 "BoatLift$Timetable" "told" "I", .fieldLink RX4 9 "BoatLift$Timetable" "iceFrom" "[I", .fieldLink RX4 13 "BoatLift$Timetable" "iceTo" "[I"] ++ wsX40 ++ wsX10)
def wsX2_layOutRow : List Cond := .code yX2_layOutRow cX2_layOutRow 5 none :: ([.fieldLink RX2 21 "BoatLift$Planner" "minutes" "[I", .fieldLink RX2 24 "BoatLift$Planner" "timetable" "LBoatLift$Timetable;", .methodLink RX2 64 yX4_endOf, .instanceMethod yX4_endOf, .selects RX4 yX4_endOf yX4_endOf, .initialized RX4, .code yX4_endOf cX4_endOf 3 (some .int), .fieldLink RX4 16 "BoatLift$Timetable" "rules" "LBoatLift$Law;", .methodLink RX4 26 yX1_number, .instanceMethod yX1_number, .selects RX1 yX1_number yX1_number, .initialized RX1, .code yX1_number cX1_number 2 (some .int), .fieldLink RX1 20 "BoatLift$Law" "numbers" "[I", .methodLink RX4 30 yX4_inIce, .instanceMethod yX4_inIce, .selects RX4 yX4_inIce yX4_inIce, .code yX4_inIce cX4_inIce 3 (some .boolean), .fieldLink RX4 20 "BoatLift$Timetable" "told" "I", .fieldLink RX4 9 "BoatLift$Timetable" "iceFrom" "[I", .fieldLink RX4 13 "BoatLift$Timetable" "iceTo" "[I"] ++ wsX20 ++ wsX40 ++ wsX10)
def wsX6_otherSide : List Cond := .code yX6_otherSide cX6_otherSide 1 (some .int) :: ([])
def wsX2_momentOfNextBoat : List Cond := .code yX2_momentOfNextBoat cX2_momentOfNextBoat 4 (some .int) :: ([.fieldLink RX2 30 "BoatLift$Planner" "boats" "I", .fieldLink RX2 15 "BoatLift$Planner" "comes" "[I"] ++ wsX20)
def wsX2_bestByRiding_r1 : List Cond := [Cond.constantLong RX2 70 (274877906944), Cond.fieldLink RX2 21 "BoatLift$Planner" "minutes" "[I", Cond.fieldLink RX2 53 "BoatLift$Planner" "troughLength" "I", Cond.fieldLink RX2 30 "BoatLift$Planner" "boats" "I", Cond.fieldLink RX2 11 "BoatLift$Planner" "sides" "[I", Cond.fieldLink RX2 15 "BoatLift$Planner" "comes" "[I", Cond.fieldLink RX2 18 "BoatLift$Planner" "lengths" "[I", Cond.methodLink RX2 80 Lib.MathLoose.min_long.x, Cond.static Lib.MathLoose.min_long.x, Cond.initialized "java/lang/Math", Cond.code Lib.MathLoose.min_long.x Lib.MathLoose.min_long.code 4 (some .long), Cond.static yX6_otherSide, Cond.initialized RX6, Cond.code yX6_otherSide cX6_otherSide 1 (some .int), Cond.methodLink RX2 60 yX2_bestFrom, Cond.instanceMethod yX2_bestFrom, Cond.selects RX2 yX2_bestFrom yX2_bestFrom, Cond.initialized RX2, Cond.code yX2_bestFrom cX2_bestFrom 10 (some .long), Cond.fieldLink RX2 45 "BoatLift$Planner" "known" "[J", Cond.fieldLink RX2 49 "BoatLift$Planner" "round" "J", Cond.constantLong RX2 72 (1099511627775), Cond.methodLink RX2 74 yX2_bestByRiding, Cond.instanceMethod yX2_bestByRiding]
def wsX2_bestByRiding_r2 : List Cond := [Cond.selects RX2 yX2_bestByRiding yX2_bestByRiding, Cond.methodLink RX2 77 yX2_momentOfNextBoat, Cond.instanceMethod yX2_momentOfNextBoat, Cond.selects RX2 yX2_momentOfNextBoat yX2_momentOfNextBoat, Cond.code yX2_momentOfNextBoat cX2_momentOfNextBoat 4 (some .int)]
def wsX2_bestByRiding : List Cond := .code yX2_bestByRiding cX2_bestByRiding 17 (some .long) :: ((wsX2_bestByRiding_r1 ++ wsX2_bestByRiding_r2) ++ wsX20)
def wsX2_bestFrom_r1 : List Cond := [Cond.constantLong RX2 70 (274877906944), Cond.fieldLink RX2 30 "BoatLift$Planner" "boats" "I", Cond.fieldLink RX2 21 "BoatLift$Planner" "minutes" "[I", Cond.fieldLink RX2 45 "BoatLift$Planner" "known" "[J", Cond.fieldLink RX2 49 "BoatLift$Planner" "round" "J", Cond.constantLong RX2 72 (1099511627775), Cond.methodLink RX2 80 Lib.MathLoose.min_long.x, Cond.static Lib.MathLoose.min_long.x, Cond.initialized "java/lang/Math", Cond.code Lib.MathLoose.min_long.x Lib.MathLoose.min_long.code 4 (some .long), Cond.methodLink RX2 74 yX2_bestByRiding, Cond.instanceMethod yX2_bestByRiding, Cond.selects RX2 yX2_bestByRiding yX2_bestByRiding, Cond.initialized RX2, Cond.methodLink RX2 77 yX2_momentOfNextBoat, Cond.instanceMethod yX2_momentOfNextBoat, Cond.selects RX2 yX2_momentOfNextBoat yX2_momentOfNextBoat, Cond.code yX2_momentOfNextBoat cX2_momentOfNextBoat 4 (some .int), Cond.fieldLink RX2 15 "BoatLift$Planner" "comes" "[I", Cond.methodLink RX2 60 yX2_bestFrom, Cond.instanceMethod yX2_bestFrom, Cond.selects RX2 yX2_bestFrom yX2_bestFrom, Cond.code yX2_bestByRiding cX2_bestByRiding 17 (some .long), Cond.fieldLink RX2 53 "BoatLift$Planner" "troughLength" "I"]
def wsX2_bestFrom_r2 : List Cond := [Cond.fieldLink RX2 11 "BoatLift$Planner" "sides" "[I", Cond.fieldLink RX2 18 "BoatLift$Planner" "lengths" "[I", Cond.static yX6_otherSide, Cond.initialized RX6, Cond.code yX6_otherSide cX6_otherSide 1 (some .int)]
def wsX2_bestFrom : List Cond := .code yX2_bestFrom cX2_bestFrom 10 (some .long) :: ((wsX2_bestFrom_r1 ++ wsX2_bestFrom_r2) ++ wsX20)
def wsX2_best_r1 : List Cond := [Cond.fieldLink RX2 45 "BoatLift$Planner" "known" "[J", Cond.arrayClass .long, Cond.fieldLink RX2 49 "BoatLift$Planner" "round" "J", Cond.fieldLink RX2 53 "BoatLift$Planner" "troughLength" "I", Cond.fieldLink RX2 30 "BoatLift$Planner" "boats" "I", Cond.fieldLink RX2 15 "BoatLift$Planner" "comes" "[I", Cond.methodLink RX2 56 yX2_layOutRow, Cond.instanceMethod yX2_layOutRow, Cond.selects RX2 yX2_layOutRow yX2_layOutRow, Cond.initialized RX2, Cond.code yX2_layOutRow cX2_layOutRow 5 none, Cond.fieldLink RX2 21 "BoatLift$Planner" "minutes" "[I", Cond.fieldLink RX2 24 "BoatLift$Planner" "timetable" "LBoatLift$Timetable;", Cond.methodLink RX2 64 yX4_endOf, Cond.instanceMethod yX4_endOf, Cond.selects RX4 yX4_endOf yX4_endOf, Cond.initialized RX4, Cond.code yX4_endOf cX4_endOf 3 (some .int), Cond.fieldLink RX4 16 "BoatLift$Timetable" "rules" "LBoatLift$Law;", Cond.methodLink RX4 26 yX1_number, Cond.instanceMethod yX1_number, Cond.selects RX1 yX1_number yX1_number, Cond.initialized RX1, Cond.code yX1_number cX1_number 2 (some .int)]
def wsX2_best_r2 : List Cond := [Cond.fieldLink RX1 20 "BoatLift$Law" "numbers" "[I", Cond.methodLink RX4 30 yX4_inIce, Cond.instanceMethod yX4_inIce, Cond.selects RX4 yX4_inIce yX4_inIce, Cond.code yX4_inIce cX4_inIce 3 (some .boolean), Cond.fieldLink RX4 20 "BoatLift$Timetable" "told" "I", Cond.fieldLink RX4 9 "BoatLift$Timetable" "iceFrom" "[I", Cond.fieldLink RX4 13 "BoatLift$Timetable" "iceTo" "[I", Cond.methodLink RX2 60 yX2_bestFrom, Cond.instanceMethod yX2_bestFrom, Cond.selects RX2 yX2_bestFrom yX2_bestFrom, Cond.code yX2_bestFrom cX2_bestFrom 10 (some .long), Cond.constantLong RX2 70 (274877906944), Cond.constantLong RX2 72 (1099511627775), Cond.methodLink RX2 80 Lib.MathLoose.min_long.x, Cond.static Lib.MathLoose.min_long.x, Cond.initialized "java/lang/Math", Cond.code Lib.MathLoose.min_long.x Lib.MathLoose.min_long.code 4 (some .long), Cond.methodLink RX2 74 yX2_bestByRiding, Cond.instanceMethod yX2_bestByRiding, Cond.selects RX2 yX2_bestByRiding yX2_bestByRiding, Cond.methodLink RX2 77 yX2_momentOfNextBoat, Cond.instanceMethod yX2_momentOfNextBoat, Cond.selects RX2 yX2_momentOfNextBoat yX2_momentOfNextBoat]
def wsX2_best_r3 : List Cond := [Cond.code yX2_momentOfNextBoat cX2_momentOfNextBoat 4 (some .int), Cond.code yX2_bestByRiding cX2_bestByRiding 17 (some .long), Cond.fieldLink RX2 11 "BoatLift$Planner" "sides" "[I", Cond.fieldLink RX2 18 "BoatLift$Planner" "lengths" "[I", Cond.static yX6_otherSide, Cond.initialized RX6, Cond.code yX6_otherSide cX6_otherSide 1 (some .int)]
def wsX2_best : List Cond := .code yX2_best cX2_best 5 (some .long) :: ((wsX2_best_r1 ++ (wsX2_best_r2 ++ wsX2_best_r3)) ++ wsX20 ++ wsX40 ++ wsX10)
def wsX3_init : List Cond := .code yX3_init cX3_init 1 none :: ([.methodLink RX3 3 objectInit, .instanceMethod objectInit, .code objectInit ⟨#[0xb1]⟩ 1 none, .arrayClass .int, .fieldLink RX3 11 "BoatLift$Tape" "bytes" "[I"] ++ wsX30)
def wsX3_size : List Cond := .code yX3_size cX3_size 1 (some .int) :: ([.fieldLink RX3 15 "BoatLift$Tape" "size" "I"] ++ wsX30)
def wsX3_hasRoom : List Cond := .code yX3_hasRoom cX3_hasRoom 1 (some .boolean) :: ([.fieldLink RX3 15 "BoatLift$Tape" "size" "I"] ++ wsX30)
def wsX3_put : List Cond := .code yX3_put cX3_put 3 none :: ([.fieldLink RX3 15 "BoatLift$Tape" "size" "I", .fieldLink RX3 11 "BoatLift$Tape" "bytes" "[I"] ++ wsX30)
def wsX3_empty : List Cond := .code yX3_empty cX3_empty 1 none :: ([.fieldLink RX3 15 "BoatLift$Tape" "size" "I"] ++ wsX30)
def wsX4_init : List Cond := .code yX4_init cX4_init 2 none :: ([.methodLink RX4 1 objectInit, .instanceMethod objectInit, .code objectInit ⟨#[0xb1]⟩ 1 none, .arrayClass .int, .fieldLink RX4 9 "BoatLift$Timetable" "iceFrom" "[I", .fieldLink RX4 13 "BoatLift$Timetable" "iceTo" "[I", .fieldLink RX4 16 "BoatLift$Timetable" "rules" "LBoatLift$Law;"] ++ wsX40)
def wsX4_addIce : List Cond := .code yX4_addIce cX4_addIce 3 (some .boolean) :: ([.fieldLink RX4 20 "BoatLift$Timetable" "told" "I", .fieldLink RX4 9 "BoatLift$Timetable" "iceFrom" "[I", .fieldLink RX4 13 "BoatLift$Timetable" "iceTo" "[I"] ++ wsX40)
def wsX5_init : List Cond := .code yX5_init cX5_init 1 none :: ([.methodLink RX5 1 objectInit, .instanceMethod objectInit, .code objectInit ⟨#[0xb1]⟩ 1 none, .fieldLink RX5 7 "BoatLift$Water" "area" "I"] ++ wsX50)
def wsX5_spreadOver : List Cond := .code yX5_spreadOver cX5_spreadOver 2 none :: ([.fieldLink RX5 7 "BoatLift$Water" "area" "I"] ++ wsX50)
def wsX5_spread : List Cond := .code yX5_spread cX5_spread 1 (some .int) :: ([.fieldLink RX5 7 "BoatLift$Water" "area" "I"] ++ wsX50)
def wsX5_gain : List Cond := .code yX5_gain cX5_gain 2 none :: ([.fieldLink RX5 13 "BoatLift$Water" "stock" "J"] ++ wsX50)
def wsX5_tonnes : List Cond := .code yX5_tonnes cX5_tonnes 1 (some .long) :: ([.fieldLink RX5 13 "BoatLift$Water" "stock" "J"] ++ wsX50)
def wsJ9_floorDiv_f86c9 : List Cond := .code yJ9_floorDiv_f86c9 cJ9_floorDiv_f86c9 6 (some .long) :: ([])
def wsX5_centimetres : List Cond := .code yX5_centimetres cX5_centimetres 1 (some .int) :: ([.fieldLink RX5 7 "BoatLift$Water" "area" "I", .fieldLink RX5 13 "BoatLift$Water" "stock" "J", .methodLink RX5 17 yJ9_floorDiv_f86c9, .static yJ9_floorDiv_f86c9, .initialized RJ9, .code yJ9_floorDiv_f86c9 cJ9_floorDiv_f86c9 6 (some .long)] ++ wsX50)
def wsJ9_floorDiv_7cf53 : List Cond := .code yJ9_floorDiv_7cf53 cJ9_floorDiv_7cf53 3 (some .int) :: ([])
def wsX5_decimetres : List Cond := .code yX5_decimetres cX5_decimetres 1 (some .int) :: ([.methodLink RX5 23 yX5_centimetres, .instanceMethod yX5_centimetres, .selects RX5 yX5_centimetres yX5_centimetres, .initialized RX5, .code yX5_centimetres cX5_centimetres 1 (some .int), .fieldLink RX5 7 "BoatLift$Water" "area" "I", .fieldLink RX5 13 "BoatLift$Water" "stock" "J", .methodLink RX5 17 yJ9_floorDiv_f86c9, .static yJ9_floorDiv_f86c9, .initialized RJ9, .code yJ9_floorDiv_f86c9 cJ9_floorDiv_f86c9 6 (some .long), .methodLink RX5 27 yJ9_floorDiv_7cf53, .static yJ9_floorDiv_7cf53, .code yJ9_floorDiv_7cf53 cJ9_floorDiv_7cf53 3 (some .int)] ++ wsX50)
def wsJxa1e45_init_da8c8 : List Cond := .code yJxa1e45_init_da8c8 cJxa1e45_init_da8c8 1 none :: ([.methodLink RJxa1e45 1 objectInit, .instanceMethod objectInit, .code objectInit ⟨#[0xb1]⟩ 1 none])
def wsJxc12de_init_da8c8 : List Cond := .code yJxc12de_init_da8c8 cJxc12de_init_da8c8 1 none :: ([.fieldLink RJxc12de 7 "java/util/AbstractList" "modCount" "I", .methodLink RJxc12de 1 yJxa1e45_init_da8c8, .instanceMethod yJxa1e45_init_da8c8, .initialized RJxa1e45, .code yJxa1e45_init_da8c8 cJxa1e45_init_da8c8 1 none, .methodLink RJxa1e45 1 objectInit, .instanceMethod objectInit, .code objectInit ⟨#[0xb1]⟩ 1 none] ++ wsJx4a65c0)
def wsJx4a65c_init_da8c8 : List Cond := .code yJx4a65c_init_da8c8 cJx4a65c_init_da8c8 1 none :: ([.fieldLink RJx4a65c 39 "java/util/ArrayList" "DEFAULTCAPACITY_EMPTY_ELEMENTDATA" "[Ljava/lang/Object;", .fieldLink RJx4a65c 9 "java/util/ArrayList" "elementData" "[Ljava/lang/Object;", .methodLink RJx4a65c 1 yJxc12de_init_da8c8, .instanceMethod yJxc12de_init_da8c8, .initialized RJxc12de, .code yJxc12de_init_da8c8 cJxc12de_init_da8c8 1 none, .fieldLink RJxc12de 7 "java/util/AbstractList" "modCount" "I", .methodLink RJxc12de 1 yJxa1e45_init_da8c8, .instanceMethod yJxa1e45_init_da8c8, .initialized RJxa1e45, .code yJxa1e45_init_da8c8 cJxa1e45_init_da8c8 1 none, .methodLink RJxa1e45 1 objectInit, .instanceMethod objectInit, .code objectInit ⟨#[0xb1]⟩ 1 none] ++ wsJx4a65c0)
def wsX6_init_r1 : List Cond := [Cond.methodLink RX6 1 objectInit, Cond.instanceMethod objectInit, Cond.code objectInit ⟨#[0xb1]⟩ 1 none, Cond.classLink RX6 7 RX3, Cond.instantiable RX3 2, Cond.initialized RX3, Cond.fieldLink RX6 10 "BoatLift" "tape" "LBoatLift$Tape;", Cond.classLink RX6 16 RX1, Cond.instantiable RX1 5, Cond.initialized RX1, Cond.fieldLink RX6 21 "BoatLift" "rules" "LBoatLift$Law;", Cond.classLink RX6 25 RX4, Cond.instantiable RX4 4, Cond.initialized RX4, Cond.fieldLink RX6 30 "BoatLift" "timetable" "LBoatLift$Timetable;", Cond.classLink RX6 34 RX2, Cond.instantiable RX2 9, Cond.initialized RX2, Cond.fieldLink RX6 39 "BoatLift" "planner" "LBoatLift$Planner;", Cond.classLink RX6 43 RX5, Cond.instantiable RX5 2, Cond.initialized RX5, Cond.fieldLink RX6 46 "BoatLift" "lower" "LBoatLift$Water;", Cond.fieldLink RX6 50 "BoatLift" "upper" "LBoatLift$Water;"]
def wsX6_init_r2 : List Cond := [Cond.classLink RX6 53 RJx4a65c, Cond.instantiable RJx4a65c 3, Cond.initialized RJx4a65c, Cond.fieldLink RX6 56 "BoatLift" "byNumber" "Ljava/util/List;", Cond.fieldLink RX6 60 "BoatLift" "byTurn" "Ljava/util/List;", Cond.fieldLink RX6 63 "BoatLift" "troughLength" "I", Cond.fieldLink RX6 67 "BoatLift" "troughSide" "I", Cond.instanceMethod yX3_init, Cond.code yX3_init cX3_init 1 none, Cond.methodLink RX3 3 objectInit, Cond.arrayClass .int, Cond.fieldLink RX3 11 "BoatLift$Tape" "bytes" "[I", Cond.methodLink RX6 18 yX1_init, Cond.instanceMethod yX1_init, Cond.code yX1_init cX1_init 2 none, Cond.methodLink RX1 3 objectInit, Cond.fieldLink RX1 9 "BoatLift$Law" "FIRST" "[I", Cond.methodLink RX1 15 ⟨"[I", "clone", "()Ljava/lang/Object;"⟩, Cond.sameMethod "[I" "java/lang/Object" "clone" "()Ljava/lang/Object;", Cond.native ⟨"java/lang/Object", "clone", "()Ljava/lang/Object;"⟩, Cond.instanceMethod ⟨"java/lang/Object", "clone", "()Ljava/lang/Object;"⟩, Cond.selects "[I" ⟨"[I", "clone", "()Ljava/lang/Object;"⟩ ⟨"java/lang/Object", "clone", "()Ljava/lang/Object;"⟩, Cond.classLink RX1 16 "[I", Cond.fieldLink RX1 20 "BoatLift$Law" "numbers" "[I"]
def wsX6_init_r3 : List Cond := [Cond.fieldLink RX1 23 "BoatLift$Law" "draft" "[I", Cond.fieldLink RX1 26 "BoatLift$Law" "tape" "LBoatLift$Tape;", Cond.methodLink RX6 27 yX4_init, Cond.instanceMethod yX4_init, Cond.code yX4_init cX4_init 2 none, Cond.methodLink RX4 1 objectInit, Cond.fieldLink RX4 9 "BoatLift$Timetable" "iceFrom" "[I", Cond.fieldLink RX4 13 "BoatLift$Timetable" "iceTo" "[I", Cond.fieldLink RX4 16 "BoatLift$Timetable" "rules" "LBoatLift$Law;", Cond.methodLink RX6 36 yX2_init, Cond.instanceMethod yX2_init, Cond.code yX2_init cX2_init 2 none, Cond.methodLink RX2 5 objectInit, Cond.fieldLink RX2 11 "BoatLift$Planner" "sides" "[I", Cond.fieldLink RX2 15 "BoatLift$Planner" "comes" "[I", Cond.fieldLink RX2 18 "BoatLift$Planner" "lengths" "[I", Cond.fieldLink RX2 21 "BoatLift$Planner" "minutes" "[I", Cond.fieldLink RX2 24 "BoatLift$Planner" "timetable" "LBoatLift$Timetable;", Cond.instanceMethod yX5_init, Cond.code yX5_init cX5_init 1 none, Cond.methodLink RX5 1 objectInit, Cond.fieldLink RX5 7 "BoatLift$Water" "area" "I", Cond.methodLink RX6 55 yJx4a65c_init_da8c8, Cond.instanceMethod yJx4a65c_init_da8c8]
def wsX6_init_r4 : List Cond := [Cond.code yJx4a65c_init_da8c8 cJx4a65c_init_da8c8 1 none, Cond.fieldLink RJx4a65c 39 "java/util/ArrayList" "DEFAULTCAPACITY_EMPTY_ELEMENTDATA" "[Ljava/lang/Object;", Cond.fieldLink RJx4a65c 9 "java/util/ArrayList" "elementData" "[Ljava/lang/Object;", Cond.methodLink RJx4a65c 1 yJxc12de_init_da8c8, Cond.instanceMethod yJxc12de_init_da8c8, Cond.initialized RJxc12de, Cond.code yJxc12de_init_da8c8 cJxc12de_init_da8c8 1 none, Cond.fieldLink RJxc12de 7 "java/util/AbstractList" "modCount" "I", Cond.methodLink RJxc12de 1 yJxa1e45_init_da8c8, Cond.instanceMethod yJxa1e45_init_da8c8, Cond.initialized RJxa1e45, Cond.code yJxa1e45_init_da8c8 cJxa1e45_init_da8c8 1 none, Cond.methodLink RJxa1e45 1 objectInit]
def wsX6_init : List Cond := .code yX6_init cX6_init 1 none :: ((wsX6_init_r1 ++ (wsX6_init_r2 ++ (wsX6_init_r3 ++ wsX6_init_r4))) ++ wsX30 ++ wsX60 ++ wsX10 ++ wsX40 ++ wsX20 ++ wsX50 ++ wsJx4a65c0)
def wsX6_feed : List Cond := .code yX6_feed cX6_feed 6 (some .int) :: ([.fieldLink RX6 10 "BoatLift" "tape" "LBoatLift$Tape;", .methodLink RX6 70 yX3_hasRoom, .instanceMethod yX3_hasRoom, .selects RX3 yX3_hasRoom yX3_hasRoom, .initialized RX3, .code yX3_hasRoom cX3_hasRoom 1 (some .boolean), .fieldLink RX3 15 "BoatLift$Tape" "size" "I", .methodLink RX6 74 yX3_put, .instanceMethod yX3_put, .selects RX3 yX3_put yX3_put, .code yX3_put cX3_put 3 none, .fieldLink RX3 11 "BoatLift$Tape" "bytes" "[I", .methodLink RX6 78 yX3_size, .instanceMethod yX3_size, .selects RX3 yX3_size yX3_size, .code yX3_size cX3_size 1 (some .int)] ++ wsX60 ++ wsX30)
def wsX6_within : List Cond := .code yX6_within cX6_within 3 (some .boolean) :: ([])
def wsX6_law_r1 : List Cond := [Cond.fieldLink RX6 10 "BoatLift" "tape" "LBoatLift$Tape;", Cond.fieldLink RX6 21 "BoatLift" "rules" "LBoatLift$Law;", Cond.methodLink RX6 78 yX3_size, Cond.instanceMethod yX3_size, Cond.selects RX3 yX3_size yX3_size, Cond.initialized RX3, Cond.code yX3_size cX3_size 1 (some .int), Cond.fieldLink RX3 15 "BoatLift$Tape" "size" "I", Cond.methodLink RX6 82 yX6_within, Cond.static yX6_within, Cond.initialized RX6, Cond.code yX6_within cX6_within 3 (some .boolean), Cond.methodLink RX6 86 yX1_enact, Cond.instanceMethod yX1_enact, Cond.selects RX1 yX1_enact yX1_enact, Cond.initialized RX1, Cond.code yX1_enact cX1_enact 3 (some .int), Cond.fieldLink RX1 30 "BoatLift$Law" "size" "I", Cond.fieldLink RX1 34 "BoatLift$Law" "place" "I", Cond.fieldLink RX1 9 "BoatLift$Law" "FIRST" "[I", Cond.fieldLink RX1 23 "BoatLift$Law" "draft" "[I", Cond.methodLink RX1 37 arraycopyName, Cond.native arraycopyName, Cond.static arraycopyName]
def wsX6_law_r2 : List Cond := [Cond.initialized "java/lang/System", Cond.fieldLink RX1 20 "BoatLift$Law" "numbers" "[I", Cond.methodLink RX1 43 yX1_faultOfText, Cond.instanceMethod yX1_faultOfText, Cond.selects RX1 yX1_faultOfText yX1_faultOfText, Cond.code yX1_faultOfText cX1_faultOfText 3 (some .int), Cond.methodLink RX1 47 yX1_faultOfClause, Cond.instanceMethod yX1_faultOfClause, Cond.selects RX1 yX1_faultOfClause yX1_faultOfClause, Cond.code yX1_faultOfClause cX1_faultOfClause 4 (some .int), Cond.fieldLink RX1 65 "BoatLift$Law" "LEAST" "[I", Cond.fieldLink RX1 68 "BoatLift$Law" "MOST" "[I", Cond.methodLink RX1 50 yX1_sign, Cond.instanceMethod yX1_sign, Cond.selects RX1 yX1_sign yX1_sign, Cond.code yX1_sign cX1_sign 1 (some .int), Cond.fieldLink RX1 26 "BoatLift$Law" "tape" "LBoatLift$Tape;", Cond.methodLink RX1 71 yX3_at, Cond.instanceMethod yX3_at, Cond.selects RX3 yX3_at yX3_at, Cond.code yX3_at cX3_at 2 (some .int), Cond.fieldLink RX3 11 "BoatLift$Tape" "bytes" "[I", Cond.methodLink RX1 57 yX1_letterOf, Cond.static yX1_letterOf]
def wsX6_law_r3 : List Cond := [Cond.code yX1_letterOf cX1_letterOf 2 (some .int), Cond.fieldLink RX1 76 "BoatLift$Law" "LETTER" "[I", Cond.methodLink RX1 53 yX1_fault, Cond.static yX1_fault, Cond.code yX1_fault cX1_fault 2 (some .int), Cond.methodLink RX1 61 yX1_isDigit, Cond.static yX1_isDigit, Cond.code yX1_isDigit cX1_isDigit 1 (some .boolean), Cond.methodLink RX6 90 yX3_empty, Cond.instanceMethod yX3_empty, Cond.selects RX3 yX3_empty yX3_empty, Cond.code yX3_empty cX3_empty 1 none]
def wsX6_law : List Cond := .code yX6_law cX6_law 3 (some .int) :: ((wsX6_law_r1 ++ (wsX6_law_r2 ++ wsX6_law_r3)) ++ wsX60 ++ wsX30 ++ wsX10)
def wsX6_trough : List Cond := .code yX6_trough cX6_trough 2 (some .boolean) :: ([.fieldLink RX6 63 "BoatLift" "troughLength" "I", .methodLink RX6 82 yX6_within, .static yX6_within, .initialized RX6, .code yX6_within cX6_within 3 (some .boolean)] ++ wsX60)
def wsX6_isSide : List Cond := .code yX6_isSide cX6_isSide 1 (some .boolean) :: ([])
def wsX6_waterAt : List Cond := .code yX6_waterAt cX6_waterAt 2 (some (.object "BoatLift$Water")) :: ([.fieldLink RX6 46 "BoatLift" "lower" "LBoatLift$Water;", .fieldLink RX6 50 "BoatLift" "upper" "LBoatLift$Water;"] ++ wsX60)
def wsX6_area : List Cond := .code yX6_area cX6_area 3 (some .boolean) :: ([.methodLink RX6 93 yX6_isSide, .static yX6_isSide, .initialized RX6, .code yX6_isSide cX6_isSide 1 (some .boolean), .methodLink RX6 82 yX6_within, .static yX6_within, .code yX6_within cX6_within 3 (some .boolean), .methodLink RX6 97 yX6_waterAt, .instanceMethod yX6_waterAt, .selects RX6 yX6_waterAt yX6_waterAt, .code yX6_waterAt cX6_waterAt 2 (some (.object "BoatLift$Water")), .fieldLink RX6 46 "BoatLift" "lower" "LBoatLift$Water;", .fieldLink RX6 50 "BoatLift" "upper" "LBoatLift$Water;", .methodLink RX6 101 yX5_spreadOver, .instanceMethod yX5_spreadOver, .selects RX5 yX5_spreadOver yX5_spreadOver, .initialized RX5, .code yX5_spreadOver cX5_spreadOver 2 none, .fieldLink RX5 7 "BoatLift$Water" "area" "I"] ++ wsX60 ++ wsX50)
def wsX6_flow : List Cond := .code yX6_flow cX6_flow 3 (some .boolean) :: ([.constant RX6 104 (-1000000), .constant RX6 105 (1000000), .methodLink RX6 93 yX6_isSide, .static yX6_isSide, .initialized RX6, .code yX6_isSide cX6_isSide 1 (some .boolean), .methodLink RX6 82 yX6_within, .static yX6_within, .code yX6_within cX6_within 3 (some .boolean), .methodLink RX6 97 yX6_waterAt, .instanceMethod yX6_waterAt, .selects RX6 yX6_waterAt yX6_waterAt, .code yX6_waterAt cX6_waterAt 2 (some (.object "BoatLift$Water")), .fieldLink RX6 46 "BoatLift" "lower" "LBoatLift$Water;", .fieldLink RX6 50 "BoatLift" "upper" "LBoatLift$Water;", .methodLink RX6 106 yX5_gain, .instanceMethod yX5_gain, .selects RX5 yX5_gain yX5_gain, .initialized RX5, .code yX5_gain cX5_gain 2 none, .fieldLink RX5 13 "BoatLift$Water" "stock" "J"] ++ wsX60 ++ wsX50)
def wsX6_isMinute : List Cond := .code yX6_isMinute cX6_isMinute 1 (some .boolean) :: ([.methodLink RX6 82 yX6_within, .static yX6_within, .initialized RX6, .code yX6_within cX6_within 3 (some .boolean)])
def wsX6_ice : List Cond := .code yX6_ice cX6_ice 3 (some .boolean) :: ([.fieldLink RX6 30 "BoatLift" "timetable" "LBoatLift$Timetable;", .methodLink RX6 109 yX6_isMinute, .static yX6_isMinute, .initialized RX6, .code yX6_isMinute cX6_isMinute 1 (some .boolean), .methodLink RX6 82 yX6_within, .static yX6_within, .code yX6_within cX6_within 3 (some .boolean), .methodLink RX6 112 yX4_addIce, .instanceMethod yX4_addIce, .selects RX4 yX4_addIce yX4_addIce, .initialized RX4, .code yX4_addIce cX4_addIce 3 (some .boolean), .fieldLink RX4 20 "BoatLift$Timetable" "told" "I", .fieldLink RX4 9 "BoatLift$Timetable" "iceFrom" "[I", .fieldLink RX4 13 "BoatLift$Timetable" "iceTo" "[I"] ++ wsX60 ++ wsX40)
def wsJx4a65c_size_8abf5 : List Cond := .code yJx4a65c_size_8abf5 cJx4a65c_size_8abf5 1 (some .int) :: ([.fieldLink RJx4a65c 48 "java/util/ArrayList" "size" "I"] ++ wsJx4a65c0)
def wsJ8_hugeLength_7cf53 : List Cond := .code yJ8_hugeLength_7cf53 cJ8_hugeLength_7cf53 3 (some .int) :: ([.constant RJ8 200 (2147483639)])
def wsJ8_newLength_cabcc : List Cond := .code yJ8_newLength_cabcc cJ8_newLength_cabcc 4 (some .int) :: ([.methodLink RJ8 194 Lib.Math.max.name, .static Lib.Math.max.name, .initialized "java/lang/Math", .code Lib.Math.max.name Lib.Math.max.code 2 (some .int), .constant RJ8 200 (2147483639), .methodLink RJ8 201 yJ8_hugeLength_7cf53, .static yJ8_hugeLength_7cf53, .initialized RJ8, .code yJ8_hugeLength_7cf53 cJ8_hugeLength_7cf53 3 (some .int)])
def wsJ7_copyOf_6403c : List Cond := .code yJ7_copyOf_6403c cJ7_copyOf_6403c 4 (some (.array (.object "java/lang/Object"))) :: ([.classLink RJ7 110 "[Ljava/lang/Object;", .classLink RJ7 2 "java/lang/Object", .methodLink RJ7 304 Lib.Math.min.name, .static Lib.Math.min.name, .initialized "java/lang/Math", .code Lib.Math.min.name Lib.Math.min.code 2 (some .int), .methodLink RJ7 150 arraycopyName, .native arraycopyName, .static arraycopyName, .initialized "java/lang/System"])
def wsJ7_copyOf_1904c : List Cond := .code yJ7_copyOf_1904c cJ7_copyOf_1904c 2 (some (.array (.object "java/lang/Object"))) :: ([.methodLink RJ7 86 ⟨"java/lang/Object", "getClass", "()Ljava/lang/Class;"⟩, .selects "[Ljava/lang/Object;" ⟨"java/lang/Object", "getClass", "()Ljava/lang/Class;"⟩ ⟨"java/lang/Object", "getClass", "()Ljava/lang/Class;"⟩, .instanceMethod ⟨"java/lang/Object", "getClass", "()Ljava/lang/Class;"⟩, .native ⟨"java/lang/Object", "getClass", "()Ljava/lang/Class;"⟩, .methodLink RJ7 300 yJ7_copyOf_6403c, .static yJ7_copyOf_6403c, .initialized RJ7, .code yJ7_copyOf_6403c cJ7_copyOf_6403c 4 (some (.array (.object "java/lang/Object"))), .classLink RJ7 110 "[Ljava/lang/Object;", .classLink RJ7 2 "java/lang/Object", .methodLink RJ7 304 Lib.Math.min.name, .static Lib.Math.min.name, .initialized "java/lang/Math", .code Lib.Math.min.name Lib.Math.min.code 2 (some .int), .methodLink RJ7 150 arraycopyName, .native arraycopyName, .static arraycopyName, .initialized "java/lang/System"])
def wsJx4a65c_grow_92f84_r1 : List Cond := [Cond.fieldLink RJx4a65c 9 "java/util/ArrayList" "elementData" "[Ljava/lang/Object;", Cond.fieldLink RJx4a65c 39 "java/util/ArrayList" "DEFAULTCAPACITY_EMPTY_ELEMENTDATA" "[Ljava/lang/Object;", Cond.methodLink RJx4a65c 79 Lib.Math.max.name, Cond.static Lib.Math.max.name, Cond.initialized "java/lang/Math", Cond.code Lib.Math.max.name Lib.Math.max.code 2 (some .int), Cond.classLink RJx4a65c 7 "java/lang/Object", Cond.methodLink RJx4a65c 73 yJ8_newLength_cabcc, Cond.static yJ8_newLength_cabcc, Cond.initialized RJ8, Cond.code yJ8_newLength_cabcc cJ8_newLength_cabcc 4 (some .int), Cond.methodLink RJ8 194 Lib.Math.max.name, Cond.constant RJ8 200 (2147483639), Cond.methodLink RJ8 201 yJ8_hugeLength_7cf53, Cond.static yJ8_hugeLength_7cf53, Cond.code yJ8_hugeLength_7cf53 cJ8_hugeLength_7cf53 3 (some .int), Cond.methodLink RJx4a65c 66 yJ7_copyOf_1904c, Cond.static yJ7_copyOf_1904c, Cond.initialized RJ7, Cond.code yJ7_copyOf_1904c cJ7_copyOf_1904c 2 (some (.array (.object "java/lang/Object"))), Cond.methodLink RJ7 86 ⟨"java/lang/Object", "getClass", "()Ljava/lang/Class;"⟩, Cond.selects "[Ljava/lang/Object;" ⟨"java/lang/Object", "getClass", "()Ljava/lang/Class;"⟩ ⟨"java/lang/Object", "getClass", "()Ljava/lang/Class;"⟩, Cond.instanceMethod ⟨"java/lang/Object", "getClass", "()Ljava/lang/Class;"⟩, Cond.native ⟨"java/lang/Object", "getClass", "()Ljava/lang/Class;"⟩]
def wsJx4a65c_grow_92f84_r2 : List Cond := [Cond.methodLink RJ7 300 yJ7_copyOf_6403c, Cond.static yJ7_copyOf_6403c, Cond.code yJ7_copyOf_6403c cJ7_copyOf_6403c 4 (some (.array (.object "java/lang/Object"))), Cond.classLink RJ7 110 "[Ljava/lang/Object;", Cond.classLink RJ7 2 "java/lang/Object", Cond.methodLink RJ7 304 Lib.Math.min.name, Cond.static Lib.Math.min.name, Cond.code Lib.Math.min.name Lib.Math.min.code 2 (some .int), Cond.methodLink RJ7 150 arraycopyName, Cond.native arraycopyName, Cond.static arraycopyName, Cond.initialized "java/lang/System"]
def wsJx4a65c_grow_92f84 : List Cond := .code yJx4a65c_grow_92f84 cJx4a65c_grow_92f84 4 (some (.array (.object "java/lang/Object"))) :: ((wsJx4a65c_grow_92f84_r1 ++ wsJx4a65c_grow_92f84_r2) ++ wsJx4a65c0)
def wsJx4a65c_grow_d5877_r1 : List Cond := [Cond.fieldLink RJx4a65c 48 "java/util/ArrayList" "size" "I", Cond.methodLink RJx4a65c 69 yJx4a65c_grow_92f84, Cond.instanceMethod yJx4a65c_grow_92f84, Cond.selects RJx4a65c yJx4a65c_grow_92f84 yJx4a65c_grow_92f84, Cond.initialized RJx4a65c, Cond.code yJx4a65c_grow_92f84 cJx4a65c_grow_92f84 4 (some (.array (.object "java/lang/Object"))), Cond.fieldLink RJx4a65c 9 "java/util/ArrayList" "elementData" "[Ljava/lang/Object;", Cond.fieldLink RJx4a65c 39 "java/util/ArrayList" "DEFAULTCAPACITY_EMPTY_ELEMENTDATA" "[Ljava/lang/Object;", Cond.methodLink RJx4a65c 79 Lib.Math.max.name, Cond.static Lib.Math.max.name, Cond.initialized "java/lang/Math", Cond.code Lib.Math.max.name Lib.Math.max.code 2 (some .int), Cond.classLink RJx4a65c 7 "java/lang/Object", Cond.methodLink RJx4a65c 73 yJ8_newLength_cabcc, Cond.static yJ8_newLength_cabcc, Cond.initialized RJ8, Cond.code yJ8_newLength_cabcc cJ8_newLength_cabcc 4 (some .int), Cond.methodLink RJ8 194 Lib.Math.max.name, Cond.constant RJ8 200 (2147483639), Cond.methodLink RJ8 201 yJ8_hugeLength_7cf53, Cond.static yJ8_hugeLength_7cf53, Cond.code yJ8_hugeLength_7cf53 cJ8_hugeLength_7cf53 3 (some .int), Cond.methodLink RJx4a65c 66 yJ7_copyOf_1904c, Cond.static yJ7_copyOf_1904c]
def wsJx4a65c_grow_d5877_r2 : List Cond := [Cond.initialized RJ7, Cond.code yJ7_copyOf_1904c cJ7_copyOf_1904c 2 (some (.array (.object "java/lang/Object"))), Cond.methodLink RJ7 86 ⟨"java/lang/Object", "getClass", "()Ljava/lang/Class;"⟩, Cond.selects "[Ljava/lang/Object;" ⟨"java/lang/Object", "getClass", "()Ljava/lang/Class;"⟩ ⟨"java/lang/Object", "getClass", "()Ljava/lang/Class;"⟩, Cond.instanceMethod ⟨"java/lang/Object", "getClass", "()Ljava/lang/Class;"⟩, Cond.native ⟨"java/lang/Object", "getClass", "()Ljava/lang/Class;"⟩, Cond.methodLink RJ7 300 yJ7_copyOf_6403c, Cond.static yJ7_copyOf_6403c, Cond.code yJ7_copyOf_6403c cJ7_copyOf_6403c 4 (some (.array (.object "java/lang/Object"))), Cond.classLink RJ7 110 "[Ljava/lang/Object;", Cond.classLink RJ7 2 "java/lang/Object", Cond.methodLink RJ7 304 Lib.Math.min.name, Cond.static Lib.Math.min.name, Cond.code Lib.Math.min.name Lib.Math.min.code 2 (some .int), Cond.methodLink RJ7 150 arraycopyName, Cond.native arraycopyName, Cond.static arraycopyName, Cond.initialized "java/lang/System"]
def wsJx4a65c_grow_d5877 : List Cond := .code yJx4a65c_grow_d5877 cJx4a65c_grow_d5877 1 (some (.array (.object "java/lang/Object"))) :: ((wsJx4a65c_grow_d5877_r1 ++ wsJx4a65c_grow_d5877_r2) ++ wsJx4a65c0)
def wsJx4a65c_add_72be8_r1 : List Cond := [Cond.fieldLink RJx4a65c 48 "java/util/ArrayList" "size" "I", Cond.methodLink RJx4a65c 129 yJx4a65c_grow_d5877, Cond.instanceMethod yJx4a65c_grow_d5877, Cond.selects RJx4a65c yJx4a65c_grow_d5877 yJx4a65c_grow_d5877, Cond.initialized RJx4a65c, Cond.code yJx4a65c_grow_d5877 cJx4a65c_grow_d5877 1 (some (.array (.object "java/lang/Object"))), Cond.methodLink RJx4a65c 69 yJx4a65c_grow_92f84, Cond.instanceMethod yJx4a65c_grow_92f84, Cond.selects RJx4a65c yJx4a65c_grow_92f84 yJx4a65c_grow_92f84, Cond.code yJx4a65c_grow_92f84 cJx4a65c_grow_92f84 4 (some (.array (.object "java/lang/Object"))), Cond.fieldLink RJx4a65c 9 "java/util/ArrayList" "elementData" "[Ljava/lang/Object;", Cond.fieldLink RJx4a65c 39 "java/util/ArrayList" "DEFAULTCAPACITY_EMPTY_ELEMENTDATA" "[Ljava/lang/Object;", Cond.methodLink RJx4a65c 79 Lib.Math.max.name, Cond.static Lib.Math.max.name, Cond.initialized "java/lang/Math", Cond.code Lib.Math.max.name Lib.Math.max.code 2 (some .int), Cond.classLink RJx4a65c 7 "java/lang/Object", Cond.methodLink RJx4a65c 73 yJ8_newLength_cabcc, Cond.static yJ8_newLength_cabcc, Cond.initialized RJ8, Cond.code yJ8_newLength_cabcc cJ8_newLength_cabcc 4 (some .int), Cond.methodLink RJ8 194 Lib.Math.max.name, Cond.constant RJ8 200 (2147483639), Cond.methodLink RJ8 201 yJ8_hugeLength_7cf53]
def wsJx4a65c_add_72be8_r2 : List Cond := [Cond.static yJ8_hugeLength_7cf53, Cond.code yJ8_hugeLength_7cf53 cJ8_hugeLength_7cf53 3 (some .int), Cond.methodLink RJx4a65c 66 yJ7_copyOf_1904c, Cond.static yJ7_copyOf_1904c, Cond.initialized RJ7, Cond.code yJ7_copyOf_1904c cJ7_copyOf_1904c 2 (some (.array (.object "java/lang/Object"))), Cond.methodLink RJ7 86 ⟨"java/lang/Object", "getClass", "()Ljava/lang/Class;"⟩, Cond.selects "[Ljava/lang/Object;" ⟨"java/lang/Object", "getClass", "()Ljava/lang/Class;"⟩ ⟨"java/lang/Object", "getClass", "()Ljava/lang/Class;"⟩, Cond.instanceMethod ⟨"java/lang/Object", "getClass", "()Ljava/lang/Class;"⟩, Cond.native ⟨"java/lang/Object", "getClass", "()Ljava/lang/Class;"⟩, Cond.methodLink RJ7 300 yJ7_copyOf_6403c, Cond.static yJ7_copyOf_6403c, Cond.code yJ7_copyOf_6403c cJ7_copyOf_6403c 4 (some (.array (.object "java/lang/Object"))), Cond.classLink RJ7 110 "[Ljava/lang/Object;", Cond.classLink RJ7 2 "java/lang/Object", Cond.methodLink RJ7 304 Lib.Math.min.name, Cond.static Lib.Math.min.name, Cond.code Lib.Math.min.name Lib.Math.min.code 2 (some .int), Cond.methodLink RJ7 150 arraycopyName, Cond.native arraycopyName, Cond.static arraycopyName, Cond.initialized "java/lang/System"]
def wsJx4a65c_add_72be8 : List Cond := .code yJx4a65c_add_72be8 cJx4a65c_add_72be8 4 none :: ((wsJx4a65c_add_72be8_r1 ++ wsJx4a65c_add_72be8_r2) ++ wsJx4a65c0)
def wsJx4a65c_add_9ea2d_r1 : List Cond := [Cond.fieldLink RJx4a65c 63 "java/util/ArrayList" "modCount" "I", Cond.sameField "java/util/ArrayList" "java/util/AbstractList" "modCount" "I", Cond.fieldLink RJx4a65c 9 "java/util/ArrayList" "elementData" "[Ljava/lang/Object;", Cond.fieldLink RJx4a65c 48 "java/util/ArrayList" "size" "I", Cond.methodLink RJx4a65c 131 yJx4a65c_add_72be8, Cond.instanceMethod yJx4a65c_add_72be8, Cond.selects RJx4a65c yJx4a65c_add_72be8 yJx4a65c_add_72be8, Cond.initialized RJx4a65c, Cond.code yJx4a65c_add_72be8 cJx4a65c_add_72be8 4 none, Cond.methodLink RJx4a65c 129 yJx4a65c_grow_d5877, Cond.instanceMethod yJx4a65c_grow_d5877, Cond.selects RJx4a65c yJx4a65c_grow_d5877 yJx4a65c_grow_d5877, Cond.code yJx4a65c_grow_d5877 cJx4a65c_grow_d5877 1 (some (.array (.object "java/lang/Object"))), Cond.methodLink RJx4a65c 69 yJx4a65c_grow_92f84, Cond.instanceMethod yJx4a65c_grow_92f84, Cond.selects RJx4a65c yJx4a65c_grow_92f84 yJx4a65c_grow_92f84, Cond.code yJx4a65c_grow_92f84 cJx4a65c_grow_92f84 4 (some (.array (.object "java/lang/Object"))), Cond.fieldLink RJx4a65c 39 "java/util/ArrayList" "DEFAULTCAPACITY_EMPTY_ELEMENTDATA" "[Ljava/lang/Object;", Cond.methodLink RJx4a65c 79 Lib.Math.max.name, Cond.static Lib.Math.max.name, Cond.initialized "java/lang/Math", Cond.code Lib.Math.max.name Lib.Math.max.code 2 (some .int), Cond.classLink RJx4a65c 7 "java/lang/Object", Cond.methodLink RJx4a65c 73 yJ8_newLength_cabcc]
def wsJx4a65c_add_9ea2d_r2 : List Cond := [Cond.static yJ8_newLength_cabcc, Cond.initialized RJ8, Cond.code yJ8_newLength_cabcc cJ8_newLength_cabcc 4 (some .int), Cond.methodLink RJ8 194 Lib.Math.max.name, Cond.constant RJ8 200 (2147483639), Cond.methodLink RJ8 201 yJ8_hugeLength_7cf53, Cond.static yJ8_hugeLength_7cf53, Cond.code yJ8_hugeLength_7cf53 cJ8_hugeLength_7cf53 3 (some .int), Cond.methodLink RJx4a65c 66 yJ7_copyOf_1904c, Cond.static yJ7_copyOf_1904c, Cond.initialized RJ7, Cond.code yJ7_copyOf_1904c cJ7_copyOf_1904c 2 (some (.array (.object "java/lang/Object"))), Cond.methodLink RJ7 86 ⟨"java/lang/Object", "getClass", "()Ljava/lang/Class;"⟩, Cond.selects "[Ljava/lang/Object;" ⟨"java/lang/Object", "getClass", "()Ljava/lang/Class;"⟩ ⟨"java/lang/Object", "getClass", "()Ljava/lang/Class;"⟩, Cond.instanceMethod ⟨"java/lang/Object", "getClass", "()Ljava/lang/Class;"⟩, Cond.native ⟨"java/lang/Object", "getClass", "()Ljava/lang/Class;"⟩, Cond.methodLink RJ7 300 yJ7_copyOf_6403c, Cond.static yJ7_copyOf_6403c, Cond.code yJ7_copyOf_6403c cJ7_copyOf_6403c 4 (some (.array (.object "java/lang/Object"))), Cond.classLink RJ7 110 "[Ljava/lang/Object;", Cond.classLink RJ7 2 "java/lang/Object", Cond.methodLink RJ7 304 Lib.Math.min.name, Cond.static Lib.Math.min.name, Cond.code Lib.Math.min.name Lib.Math.min.code 2 (some .int)]
def wsJx4a65c_add_9ea2d_r3 : List Cond := [Cond.methodLink RJ7 150 arraycopyName, Cond.native arraycopyName, Cond.static arraycopyName, Cond.initialized "java/lang/System"]
def wsJx4a65c_add_9ea2d : List Cond := .code yJx4a65c_add_9ea2d cJx4a65c_add_9ea2d 2 (some .boolean) :: ((wsJx4a65c_add_9ea2d_r1 ++ (wsJx4a65c_add_9ea2d_r2 ++ wsJx4a65c_add_9ea2d_r3)) ++ wsJx4a65c0)
def wsJ3_checkIndex_8e157 : List Cond := .code yJ3_checkIndex_8e157 cJ3_checkIndex_8e157 3 (some .int) :: ([])
def wsJ15_checkIndex_7cf53 : List Cond := .code yJ15_checkIndex_7cf53 cJ15_checkIndex_7cf53 2 (some .int) :: ([.methodLink RJ15 105 yJ3_checkIndex_8e157, .static yJ3_checkIndex_8e157, .initialized RJ3, .code yJ3_checkIndex_8e157 cJ3_checkIndex_8e157 3 (some .int)])
def wsJx4a65c_elementData_915e3 : List Cond := .code yJx4a65c_elementData_915e3 cJx4a65c_elementData_915e3 2 (some (.object "java/lang/Object")) :: ([.fieldLink RJx4a65c 9 "java/util/ArrayList" "elementData" "[Ljava/lang/Object;"] ++ wsJx4a65c0)
def wsJx4a65c_get_915e3 : List Cond := .code yJx4a65c_get_915e3 cJx4a65c_get_915e3 2 (some (.object "java/lang/Object")) :: ([.fieldLink RJx4a65c 48 "java/util/ArrayList" "size" "I", .methodLink RJx4a65c 118 yJ15_checkIndex_7cf53, .static yJ15_checkIndex_7cf53, .initialized RJ15, .code yJ15_checkIndex_7cf53 cJ15_checkIndex_7cf53 2 (some .int), .methodLink RJ15 105 yJ3_checkIndex_8e157, .static yJ3_checkIndex_8e157, .initialized RJ3, .code yJ3_checkIndex_8e157 cJ3_checkIndex_8e157 3 (some .int), .methodLink RJx4a65c 123 yJx4a65c_elementData_915e3, .instanceMethod yJx4a65c_elementData_915e3, .selects RJx4a65c yJx4a65c_elementData_915e3 yJx4a65c_elementData_915e3, .initialized RJx4a65c, .code yJx4a65c_elementData_915e3 cJx4a65c_elementData_915e3 2 (some (.object "java/lang/Object")), .fieldLink RJx4a65c 9 "java/util/ArrayList" "elementData" "[Ljava/lang/Object;"] ++ wsJx4a65c0)
def wsX6_turnOf_r1 : List Cond := [Cond.fieldLink RX6 60 "BoatLift" "byTurn" "Ljava/util/List;", Cond.classLink RX6 119 "BoatLift$Boat", Cond.methodLink RX6 116 ⟨"java/util/List", "size", "()I"⟩, Cond.selects RJx4a65c ⟨"java/util/List", "size", "()I"⟩ yJx4a65c_size_8abf5, Cond.instanceMethod yJx4a65c_size_8abf5, Cond.initialized RJx4a65c, Cond.code yJx4a65c_size_8abf5 cJx4a65c_size_8abf5 1 (some .int), Cond.fieldLink RJx4a65c 48 "java/util/ArrayList" "size" "I", Cond.methodLink RX6 138 ⟨"java/util/List", "get", "(I)Ljava/lang/Object;"⟩, Cond.selects RJx4a65c ⟨"java/util/List", "get", "(I)Ljava/lang/Object;"⟩ yJx4a65c_get_915e3, Cond.instanceMethod yJx4a65c_get_915e3, Cond.code yJx4a65c_get_915e3 cJx4a65c_get_915e3 2 (some (.object "java/lang/Object")), Cond.methodLink RJx4a65c 118 yJ15_checkIndex_7cf53, Cond.static yJ15_checkIndex_7cf53, Cond.initialized RJ15, Cond.code yJ15_checkIndex_7cf53 cJ15_checkIndex_7cf53 2 (some .int), Cond.methodLink RJ15 105 yJ3_checkIndex_8e157, Cond.static yJ3_checkIndex_8e157, Cond.initialized RJ3, Cond.code yJ3_checkIndex_8e157 cJ3_checkIndex_8e157 3 (some .int), Cond.methodLink RJx4a65c 123 yJx4a65c_elementData_915e3, Cond.instanceMethod yJx4a65c_elementData_915e3, Cond.selects RJx4a65c yJx4a65c_elementData_915e3 yJx4a65c_elementData_915e3, Cond.code yJx4a65c_elementData_915e3 cJx4a65c_elementData_915e3 2 (some (.object "java/lang/Object"))]
def wsX6_turnOf_r2 : List Cond := [Cond.fieldLink RJx4a65c 9 "java/util/ArrayList" "elementData" "[Ljava/lang/Object;", Cond.methodLink RX6 235 yX0_goesAheadOf, Cond.instanceMethod yX0_goesAheadOf, Cond.selects RX0 yX0_goesAheadOf yX0_goesAheadOf, Cond.initialized RX0, Cond.code yX0_goesAheadOf cX0_goesAheadOf 2 (some .boolean), Cond.fieldLink RX0 33 "BoatLift$Boat" "rank" "I", Cond.fieldLink RX0 21 "BoatLift$Boat" "minute" "I"]
def wsX6_turnOf : List Cond := .code yX6_turnOf cX6_turnOf 3 (some .int) :: ((wsX6_turnOf_r1 ++ wsX6_turnOf_r2) ++ wsX60 ++ wsJx4a65c0 ++ wsX00)
def wsJx4a65c_rangeCheckForAdd_d00df : List Cond := .code yJx4a65c_rangeCheckForAdd_d00df cJx4a65c_rangeCheckForAdd_d00df 2 none :: ([.fieldLink RJx4a65c 48 "java/util/ArrayList" "size" "I"] ++ wsJx4a65c0)
def wsJx4a65c_add_7a177_r1 : List Cond := [Cond.fieldLink RJx4a65c 63 "java/util/ArrayList" "modCount" "I", Cond.sameField "java/util/ArrayList" "java/util/AbstractList" "modCount" "I", Cond.fieldLink RJx4a65c 48 "java/util/ArrayList" "size" "I", Cond.fieldLink RJx4a65c 9 "java/util/ArrayList" "elementData" "[Ljava/lang/Object;", Cond.methodLink RJx4a65c 112 arraycopyName, Cond.native arraycopyName, Cond.static arraycopyName, Cond.initialized "java/lang/System", Cond.methodLink RJx4a65c 135 yJx4a65c_rangeCheckForAdd_d00df, Cond.instanceMethod yJx4a65c_rangeCheckForAdd_d00df, Cond.selects RJx4a65c yJx4a65c_rangeCheckForAdd_d00df yJx4a65c_rangeCheckForAdd_d00df, Cond.initialized RJx4a65c, Cond.code yJx4a65c_rangeCheckForAdd_d00df cJx4a65c_rangeCheckForAdd_d00df 2 none, Cond.methodLink RJx4a65c 129 yJx4a65c_grow_d5877, Cond.instanceMethod yJx4a65c_grow_d5877, Cond.selects RJx4a65c yJx4a65c_grow_d5877 yJx4a65c_grow_d5877, Cond.code yJx4a65c_grow_d5877 cJx4a65c_grow_d5877 1 (some (.array (.object "java/lang/Object"))), Cond.methodLink RJx4a65c 69 yJx4a65c_grow_92f84, Cond.instanceMethod yJx4a65c_grow_92f84, Cond.selects RJx4a65c yJx4a65c_grow_92f84 yJx4a65c_grow_92f84, Cond.code yJx4a65c_grow_92f84 cJx4a65c_grow_92f84 4 (some (.array (.object "java/lang/Object"))), Cond.fieldLink RJx4a65c 39 "java/util/ArrayList" "DEFAULTCAPACITY_EMPTY_ELEMENTDATA" "[Ljava/lang/Object;", Cond.methodLink RJx4a65c 79 Lib.Math.max.name, Cond.static Lib.Math.max.name]
def wsJx4a65c_add_7a177_r2 : List Cond := [Cond.initialized "java/lang/Math", Cond.code Lib.Math.max.name Lib.Math.max.code 2 (some .int), Cond.classLink RJx4a65c 7 "java/lang/Object", Cond.methodLink RJx4a65c 73 yJ8_newLength_cabcc, Cond.static yJ8_newLength_cabcc, Cond.initialized RJ8, Cond.code yJ8_newLength_cabcc cJ8_newLength_cabcc 4 (some .int), Cond.methodLink RJ8 194 Lib.Math.max.name, Cond.constant RJ8 200 (2147483639), Cond.methodLink RJ8 201 yJ8_hugeLength_7cf53, Cond.static yJ8_hugeLength_7cf53, Cond.code yJ8_hugeLength_7cf53 cJ8_hugeLength_7cf53 3 (some .int), Cond.methodLink RJx4a65c 66 yJ7_copyOf_1904c, Cond.static yJ7_copyOf_1904c, Cond.initialized RJ7, Cond.code yJ7_copyOf_1904c cJ7_copyOf_1904c 2 (some (.array (.object "java/lang/Object"))), Cond.methodLink RJ7 86 ⟨"java/lang/Object", "getClass", "()Ljava/lang/Class;"⟩, Cond.selects "[Ljava/lang/Object;" ⟨"java/lang/Object", "getClass", "()Ljava/lang/Class;"⟩ ⟨"java/lang/Object", "getClass", "()Ljava/lang/Class;"⟩, Cond.instanceMethod ⟨"java/lang/Object", "getClass", "()Ljava/lang/Class;"⟩, Cond.native ⟨"java/lang/Object", "getClass", "()Ljava/lang/Class;"⟩, Cond.methodLink RJ7 300 yJ7_copyOf_6403c, Cond.static yJ7_copyOf_6403c, Cond.code yJ7_copyOf_6403c cJ7_copyOf_6403c 4 (some (.array (.object "java/lang/Object"))), Cond.classLink RJ7 110 "[Ljava/lang/Object;"]
def wsJx4a65c_add_7a177_r3 : List Cond := [Cond.classLink RJ7 2 "java/lang/Object", Cond.methodLink RJ7 304 Lib.Math.min.name, Cond.static Lib.Math.min.name, Cond.code Lib.Math.min.name Lib.Math.min.code 2 (some .int), Cond.methodLink RJ7 150 arraycopyName]
def wsJx4a65c_add_7a177 : List Cond := .code yJx4a65c_add_7a177 cJx4a65c_add_7a177 5 none :: ((wsJx4a65c_add_7a177_r1 ++ (wsJx4a65c_add_7a177_r2 ++ wsJx4a65c_add_7a177_r3)) ++ wsJx4a65c0)
def wsX6_boat_r1 : List Cond := [Cond.fieldLink RX6 56 "BoatLift" "byNumber" "Ljava/util/List;", Cond.classLink RX6 119 RX0, Cond.instantiable RX0 8, Cond.initialized RX0, Cond.fieldLink RX6 60 "BoatLift" "byTurn" "Ljava/util/List;", Cond.fieldLink RX6 135 "BoatLift$Boat" "number" "I", Cond.methodLink RX6 93 yX6_isSide, Cond.static yX6_isSide, Cond.initialized RX6, Cond.code yX6_isSide cX6_isSide 1 (some .boolean), Cond.methodLink RX6 109 yX6_isMinute, Cond.static yX6_isMinute, Cond.code yX6_isMinute cX6_isMinute 1 (some .boolean), Cond.methodLink RX6 82 yX6_within, Cond.static yX6_within, Cond.code yX6_within cX6_within 3 (some .boolean), Cond.methodLink RX6 116 ⟨"java/util/List", "size", "()I"⟩, Cond.selects RJx4a65c ⟨"java/util/List", "size", "()I"⟩ yJx4a65c_size_8abf5, Cond.instanceMethod yJx4a65c_size_8abf5, Cond.initialized RJx4a65c, Cond.code yJx4a65c_size_8abf5 cJx4a65c_size_8abf5 1 (some .int), Cond.fieldLink RJx4a65c 48 "java/util/ArrayList" "size" "I", Cond.methodLink RX6 121 yX0_init, Cond.instanceMethod yX0_init]
def wsX6_boat_r2 : List Cond := [Cond.code yX0_init cX0_init 8 none, Cond.methodLink RX0 3 objectInit, Cond.instanceMethod objectInit, Cond.code objectInit ⟨#[0xb1]⟩ 1 none, Cond.fieldLink RX0 9 "BoatLift$Boat" "began" "I", Cond.fieldLink RX0 15 "BoatLift$Boat" "number" "I", Cond.fieldLink RX0 18 "BoatLift$Boat" "side" "I", Cond.fieldLink RX0 21 "BoatLift$Boat" "minute" "I", Cond.fieldLink RX0 24 "BoatLift$Boat" "length" "I", Cond.fieldLink RX0 27 "BoatLift$Boat" "draught" "I", Cond.fieldLink RX0 30 "BoatLift$Boat" "weight" "I", Cond.fieldLink RX0 33 "BoatLift$Boat" "rank" "I", Cond.methodLink RX6 124 ⟨"java/util/List", "add", "(Ljava/lang/Object;)Z"⟩, Cond.selects RJx4a65c ⟨"java/util/List", "add", "(Ljava/lang/Object;)Z"⟩ yJx4a65c_add_9ea2d, Cond.instanceMethod yJx4a65c_add_9ea2d, Cond.code yJx4a65c_add_9ea2d cJx4a65c_add_9ea2d 2 (some .boolean), Cond.fieldLink RJx4a65c 63 "java/util/ArrayList" "modCount" "I", Cond.sameField "java/util/ArrayList" "java/util/AbstractList" "modCount" "I", Cond.fieldLink RJx4a65c 9 "java/util/ArrayList" "elementData" "[Ljava/lang/Object;", Cond.methodLink RJx4a65c 131 yJx4a65c_add_72be8, Cond.instanceMethod yJx4a65c_add_72be8, Cond.selects RJx4a65c yJx4a65c_add_72be8 yJx4a65c_add_72be8, Cond.code yJx4a65c_add_72be8 cJx4a65c_add_72be8 4 none, Cond.methodLink RJx4a65c 129 yJx4a65c_grow_d5877]
def wsX6_boat_r3 : List Cond := [Cond.instanceMethod yJx4a65c_grow_d5877, Cond.selects RJx4a65c yJx4a65c_grow_d5877 yJx4a65c_grow_d5877, Cond.code yJx4a65c_grow_d5877 cJx4a65c_grow_d5877 1 (some (.array (.object "java/lang/Object"))), Cond.methodLink RJx4a65c 69 yJx4a65c_grow_92f84, Cond.instanceMethod yJx4a65c_grow_92f84, Cond.selects RJx4a65c yJx4a65c_grow_92f84 yJx4a65c_grow_92f84, Cond.code yJx4a65c_grow_92f84 cJx4a65c_grow_92f84 4 (some (.array (.object "java/lang/Object"))), Cond.fieldLink RJx4a65c 39 "java/util/ArrayList" "DEFAULTCAPACITY_EMPTY_ELEMENTDATA" "[Ljava/lang/Object;", Cond.methodLink RJx4a65c 79 Lib.Math.max.name, Cond.static Lib.Math.max.name, Cond.initialized "java/lang/Math", Cond.code Lib.Math.max.name Lib.Math.max.code 2 (some .int), Cond.classLink RJx4a65c 7 "java/lang/Object", Cond.methodLink RJx4a65c 73 yJ8_newLength_cabcc, Cond.static yJ8_newLength_cabcc, Cond.initialized RJ8, Cond.code yJ8_newLength_cabcc cJ8_newLength_cabcc 4 (some .int), Cond.methodLink RJ8 194 Lib.Math.max.name, Cond.constant RJ8 200 (2147483639), Cond.methodLink RJ8 201 yJ8_hugeLength_7cf53, Cond.static yJ8_hugeLength_7cf53, Cond.code yJ8_hugeLength_7cf53 cJ8_hugeLength_7cf53 3 (some .int), Cond.methodLink RJx4a65c 66 yJ7_copyOf_1904c, Cond.static yJ7_copyOf_1904c]
def wsX6_boat_r4 : List Cond := [Cond.initialized RJ7, Cond.code yJ7_copyOf_1904c cJ7_copyOf_1904c 2 (some (.array (.object "java/lang/Object"))), Cond.methodLink RJ7 86 ⟨"java/lang/Object", "getClass", "()Ljava/lang/Class;"⟩, Cond.selects "[Ljava/lang/Object;" ⟨"java/lang/Object", "getClass", "()Ljava/lang/Class;"⟩ ⟨"java/lang/Object", "getClass", "()Ljava/lang/Class;"⟩, Cond.instanceMethod ⟨"java/lang/Object", "getClass", "()Ljava/lang/Class;"⟩, Cond.native ⟨"java/lang/Object", "getClass", "()Ljava/lang/Class;"⟩, Cond.methodLink RJ7 300 yJ7_copyOf_6403c, Cond.static yJ7_copyOf_6403c, Cond.code yJ7_copyOf_6403c cJ7_copyOf_6403c 4 (some (.array (.object "java/lang/Object"))), Cond.classLink RJ7 110 "[Ljava/lang/Object;", Cond.classLink RJ7 2 "java/lang/Object", Cond.methodLink RJ7 304 Lib.Math.min.name, Cond.static Lib.Math.min.name, Cond.code Lib.Math.min.name Lib.Math.min.code 2 (some .int), Cond.methodLink RJ7 150 arraycopyName, Cond.native arraycopyName, Cond.static arraycopyName, Cond.initialized "java/lang/System", Cond.methodLink RX6 128 yX6_turnOf, Cond.instanceMethod yX6_turnOf, Cond.selects RX6 yX6_turnOf yX6_turnOf, Cond.code yX6_turnOf cX6_turnOf 3 (some .int), Cond.classLink RX6 119 "BoatLift$Boat", Cond.methodLink RX6 138 ⟨"java/util/List", "get", "(I)Ljava/lang/Object;"⟩]
def wsX6_boat_r5 : List Cond := [Cond.selects RJx4a65c ⟨"java/util/List", "get", "(I)Ljava/lang/Object;"⟩ yJx4a65c_get_915e3, Cond.instanceMethod yJx4a65c_get_915e3, Cond.code yJx4a65c_get_915e3 cJx4a65c_get_915e3 2 (some (.object "java/lang/Object")), Cond.methodLink RJx4a65c 118 yJ15_checkIndex_7cf53, Cond.static yJ15_checkIndex_7cf53, Cond.initialized RJ15, Cond.code yJ15_checkIndex_7cf53 cJ15_checkIndex_7cf53 2 (some .int), Cond.methodLink RJ15 105 yJ3_checkIndex_8e157, Cond.static yJ3_checkIndex_8e157, Cond.initialized RJ3, Cond.code yJ3_checkIndex_8e157 cJ3_checkIndex_8e157 3 (some .int), Cond.methodLink RJx4a65c 123 yJx4a65c_elementData_915e3, Cond.instanceMethod yJx4a65c_elementData_915e3, Cond.selects RJx4a65c yJx4a65c_elementData_915e3 yJx4a65c_elementData_915e3, Cond.code yJx4a65c_elementData_915e3 cJx4a65c_elementData_915e3 2 (some (.object "java/lang/Object")), Cond.methodLink RX6 235 yX0_goesAheadOf, Cond.instanceMethod yX0_goesAheadOf, Cond.selects RX0 yX0_goesAheadOf yX0_goesAheadOf, Cond.code yX0_goesAheadOf cX0_goesAheadOf 2 (some .boolean), Cond.methodLink RX6 132 ⟨"java/util/List", "add", "(ILjava/lang/Object;)V"⟩, Cond.selects RJx4a65c ⟨"java/util/List", "add", "(ILjava/lang/Object;)V"⟩ yJx4a65c_add_7a177, Cond.instanceMethod yJx4a65c_add_7a177, Cond.code yJx4a65c_add_7a177 cJx4a65c_add_7a177 5 none, Cond.methodLink RJx4a65c 112 arraycopyName]
def wsX6_boat_r6 : List Cond := [Cond.methodLink RJx4a65c 135 yJx4a65c_rangeCheckForAdd_d00df, Cond.instanceMethod yJx4a65c_rangeCheckForAdd_d00df, Cond.selects RJx4a65c yJx4a65c_rangeCheckForAdd_d00df yJx4a65c_rangeCheckForAdd_d00df, Cond.code yJx4a65c_rangeCheckForAdd_d00df cJx4a65c_rangeCheckForAdd_d00df 2 none]
def wsX6_boat : List Cond := .code yX6_boat cX6_boat 8 (some .int) :: ((wsX6_boat_r1 ++ (wsX6_boat_r2 ++ (wsX6_boat_r3 ++ (wsX6_boat_r4 ++ (wsX6_boat_r5 ++ wsX6_boat_r6))))) ++ wsX60 ++ wsX00 ++ wsJx4a65c0)
def wsX6_isFit_r1 : List Cond := [Cond.fieldLink RX6 204 "BoatLift$Boat" "draught" "I", Cond.fieldLink RX6 21 "BoatLift" "rules" "LBoatLift$Law;", Cond.fieldLink RX6 201 "BoatLift$Boat" "length" "I", Cond.fieldLink RX6 63 "BoatLift" "troughLength" "I", Cond.fieldLink RX6 46 "BoatLift" "lower" "LBoatLift$Water;", Cond.fieldLink RX6 50 "BoatLift" "upper" "LBoatLift$Water;", Cond.methodLink RX6 158 yX1_number, Cond.instanceMethod yX1_number, Cond.selects RX1 yX1_number yX1_number, Cond.initialized RX1, Cond.code yX1_number cX1_number 2 (some .int), Cond.fieldLink RX1 20 "BoatLift$Law" "numbers" "[I", Cond.methodLink RX6 192 yX5_decimetres, Cond.instanceMethod yX5_decimetres, Cond.selects RX5 yX5_decimetres yX5_decimetres, Cond.initialized RX5, Cond.code yX5_decimetres cX5_decimetres 1 (some .int), Cond.methodLink RX5 23 yX5_centimetres, Cond.instanceMethod yX5_centimetres, Cond.selects RX5 yX5_centimetres yX5_centimetres, Cond.code yX5_centimetres cX5_centimetres 1 (some .int), Cond.fieldLink RX5 7 "BoatLift$Water" "area" "I", Cond.fieldLink RX5 13 "BoatLift$Water" "stock" "J", Cond.methodLink RX5 17 yJ9_floorDiv_f86c9]
def wsX6_isFit_r2 : List Cond := [Cond.static yJ9_floorDiv_f86c9, Cond.initialized RJ9, Cond.code yJ9_floorDiv_f86c9 cJ9_floorDiv_f86c9 6 (some .long), Cond.methodLink RX5 27 yJ9_floorDiv_7cf53, Cond.static yJ9_floorDiv_7cf53, Cond.code yJ9_floorDiv_7cf53 cJ9_floorDiv_7cf53 3 (some .int)]
def wsX6_isFit : List Cond := .code yX6_isFit cX6_isFit 3 (some .boolean) :: ((wsX6_isFit_r1 ++ wsX6_isFit_r2) ++ wsX00 ++ wsX60 ++ wsX10 ++ wsX50)
def wsX6_isLeft_r1 : List Cond := [Cond.fieldLink RX6 217 "BoatLift$Boat" "began" "I", Cond.methodLink RX6 213 yX6_isFit, Cond.instanceMethod yX6_isFit, Cond.selects RX6 yX6_isFit yX6_isFit, Cond.initialized RX6, Cond.code yX6_isFit cX6_isFit 3 (some .boolean), Cond.fieldLink RX6 204 "BoatLift$Boat" "draught" "I", Cond.fieldLink RX6 21 "BoatLift" "rules" "LBoatLift$Law;", Cond.fieldLink RX6 201 "BoatLift$Boat" "length" "I", Cond.fieldLink RX6 63 "BoatLift" "troughLength" "I", Cond.fieldLink RX6 46 "BoatLift" "lower" "LBoatLift$Water;", Cond.fieldLink RX6 50 "BoatLift" "upper" "LBoatLift$Water;", Cond.methodLink RX6 158 yX1_number, Cond.instanceMethod yX1_number, Cond.selects RX1 yX1_number yX1_number, Cond.initialized RX1, Cond.code yX1_number cX1_number 2 (some .int), Cond.fieldLink RX1 20 "BoatLift$Law" "numbers" "[I", Cond.methodLink RX6 192 yX5_decimetres, Cond.instanceMethod yX5_decimetres, Cond.selects RX5 yX5_decimetres yX5_decimetres, Cond.initialized RX5, Cond.code yX5_decimetres cX5_decimetres 1 (some .int), Cond.methodLink RX5 23 yX5_centimetres]
def wsX6_isLeft_r2 : List Cond := [Cond.instanceMethod yX5_centimetres, Cond.selects RX5 yX5_centimetres yX5_centimetres, Cond.code yX5_centimetres cX5_centimetres 1 (some .int), Cond.fieldLink RX5 7 "BoatLift$Water" "area" "I", Cond.fieldLink RX5 13 "BoatLift$Water" "stock" "J", Cond.methodLink RX5 17 yJ9_floorDiv_f86c9, Cond.static yJ9_floorDiv_f86c9, Cond.initialized RJ9, Cond.code yJ9_floorDiv_f86c9 cJ9_floorDiv_f86c9 6 (some .long), Cond.methodLink RX5 27 yJ9_floorDiv_7cf53, Cond.static yJ9_floorDiv_7cf53, Cond.code yJ9_floorDiv_7cf53 cJ9_floorDiv_7cf53 3 (some .int)]
def wsX6_isLeft : List Cond := .code yX6_isLeft cX6_isLeft 2 (some .boolean) :: ((wsX6_isLeft_r1 ++ wsX6_isLeft_r2) ++ wsX00 ++ wsX60 ++ wsX10 ++ wsX50)
def wsX6_isQueued_r1 : List Cond := [Cond.fieldLink RX6 195 "BoatLift$Boat" "side" "I", Cond.fieldLink RX6 198 "BoatLift$Boat" "minute" "I", Cond.methodLink RX6 232 yX6_isLeft, Cond.instanceMethod yX6_isLeft, Cond.selects RX6 yX6_isLeft yX6_isLeft, Cond.initialized RX6, Cond.code yX6_isLeft cX6_isLeft 2 (some .boolean), Cond.fieldLink RX6 217 "BoatLift$Boat" "began" "I", Cond.methodLink RX6 213 yX6_isFit, Cond.instanceMethod yX6_isFit, Cond.selects RX6 yX6_isFit yX6_isFit, Cond.code yX6_isFit cX6_isFit 3 (some .boolean), Cond.fieldLink RX6 204 "BoatLift$Boat" "draught" "I", Cond.fieldLink RX6 21 "BoatLift" "rules" "LBoatLift$Law;", Cond.fieldLink RX6 201 "BoatLift$Boat" "length" "I", Cond.fieldLink RX6 63 "BoatLift" "troughLength" "I", Cond.fieldLink RX6 46 "BoatLift" "lower" "LBoatLift$Water;", Cond.fieldLink RX6 50 "BoatLift" "upper" "LBoatLift$Water;", Cond.methodLink RX6 158 yX1_number, Cond.instanceMethod yX1_number, Cond.selects RX1 yX1_number yX1_number, Cond.initialized RX1, Cond.code yX1_number cX1_number 2 (some .int), Cond.fieldLink RX1 20 "BoatLift$Law" "numbers" "[I"]
def wsX6_isQueued_r2 : List Cond := [Cond.methodLink RX6 192 yX5_decimetres, Cond.instanceMethod yX5_decimetres, Cond.selects RX5 yX5_decimetres yX5_decimetres, Cond.initialized RX5, Cond.code yX5_decimetres cX5_decimetres 1 (some .int), Cond.methodLink RX5 23 yX5_centimetres, Cond.instanceMethod yX5_centimetres, Cond.selects RX5 yX5_centimetres yX5_centimetres, Cond.code yX5_centimetres cX5_centimetres 1 (some .int), Cond.fieldLink RX5 7 "BoatLift$Water" "area" "I", Cond.fieldLink RX5 13 "BoatLift$Water" "stock" "J", Cond.methodLink RX5 17 yJ9_floorDiv_f86c9, Cond.static yJ9_floorDiv_f86c9, Cond.initialized RJ9, Cond.code yJ9_floorDiv_f86c9 cJ9_floorDiv_f86c9 6 (some .long), Cond.methodLink RX5 27 yJ9_floorDiv_7cf53, Cond.static yJ9_floorDiv_7cf53, Cond.code yJ9_floorDiv_7cf53 cJ9_floorDiv_7cf53 3 (some .int)]
def wsX6_isQueued : List Cond := .code yX6_isQueued cX6_isQueued 4 (some .boolean) :: ((wsX6_isQueued_r1 ++ wsX6_isQueued_r2) ++ wsX00 ++ wsX60 ++ wsX10 ++ wsX50)
def wsX6_queue_r1 : List Cond := [Cond.fieldLink RX6 60 "BoatLift" "byTurn" "Ljava/util/List;", Cond.classLink RX6 119 "BoatLift$Boat", Cond.fieldLink RX6 135 "BoatLift$Boat" "number" "I", Cond.methodLink RX6 93 yX6_isSide, Cond.static yX6_isSide, Cond.initialized RX6, Cond.code yX6_isSide cX6_isSide 1 (some .boolean), Cond.methodLink RX6 109 yX6_isMinute, Cond.static yX6_isMinute, Cond.code yX6_isMinute cX6_isMinute 1 (some .boolean), Cond.methodLink RX6 82 yX6_within, Cond.static yX6_within, Cond.code yX6_within cX6_within 3 (some .boolean), Cond.methodLink RX6 116 ⟨"java/util/List", "size", "()I"⟩, Cond.selects RJx4a65c ⟨"java/util/List", "size", "()I"⟩ yJx4a65c_size_8abf5, Cond.instanceMethod yJx4a65c_size_8abf5, Cond.initialized RJx4a65c, Cond.code yJx4a65c_size_8abf5 cJx4a65c_size_8abf5 1 (some .int), Cond.fieldLink RJx4a65c 48 "java/util/ArrayList" "size" "I", Cond.methodLink RX6 138 ⟨"java/util/List", "get", "(I)Ljava/lang/Object;"⟩, Cond.selects RJx4a65c ⟨"java/util/List", "get", "(I)Ljava/lang/Object;"⟩ yJx4a65c_get_915e3, Cond.instanceMethod yJx4a65c_get_915e3, Cond.code yJx4a65c_get_915e3 cJx4a65c_get_915e3 2 (some (.object "java/lang/Object")), Cond.methodLink RJx4a65c 118 yJ15_checkIndex_7cf53]
def wsX6_queue_r2 : List Cond := [Cond.static yJ15_checkIndex_7cf53, Cond.initialized RJ15, Cond.code yJ15_checkIndex_7cf53 cJ15_checkIndex_7cf53 2 (some .int), Cond.methodLink RJ15 105 yJ3_checkIndex_8e157, Cond.static yJ3_checkIndex_8e157, Cond.initialized RJ3, Cond.code yJ3_checkIndex_8e157 cJ3_checkIndex_8e157 3 (some .int), Cond.methodLink RJx4a65c 123 yJx4a65c_elementData_915e3, Cond.instanceMethod yJx4a65c_elementData_915e3, Cond.selects RJx4a65c yJx4a65c_elementData_915e3 yJx4a65c_elementData_915e3, Cond.code yJx4a65c_elementData_915e3 cJx4a65c_elementData_915e3 2 (some (.object "java/lang/Object")), Cond.fieldLink RJx4a65c 9 "java/util/ArrayList" "elementData" "[Ljava/lang/Object;", Cond.methodLink RX6 142 yX6_isQueued, Cond.instanceMethod yX6_isQueued, Cond.selects RX6 yX6_isQueued yX6_isQueued, Cond.code yX6_isQueued cX6_isQueued 4 (some .boolean), Cond.fieldLink RX6 195 "BoatLift$Boat" "side" "I", Cond.fieldLink RX6 198 "BoatLift$Boat" "minute" "I", Cond.methodLink RX6 232 yX6_isLeft, Cond.instanceMethod yX6_isLeft, Cond.selects RX6 yX6_isLeft yX6_isLeft, Cond.code yX6_isLeft cX6_isLeft 2 (some .boolean), Cond.fieldLink RX6 217 "BoatLift$Boat" "began" "I", Cond.methodLink RX6 213 yX6_isFit]
def wsX6_queue_r3 : List Cond := [Cond.instanceMethod yX6_isFit, Cond.selects RX6 yX6_isFit yX6_isFit, Cond.code yX6_isFit cX6_isFit 3 (some .boolean), Cond.fieldLink RX6 204 "BoatLift$Boat" "draught" "I", Cond.fieldLink RX6 21 "BoatLift" "rules" "LBoatLift$Law;", Cond.fieldLink RX6 201 "BoatLift$Boat" "length" "I", Cond.fieldLink RX6 63 "BoatLift" "troughLength" "I", Cond.fieldLink RX6 46 "BoatLift" "lower" "LBoatLift$Water;", Cond.fieldLink RX6 50 "BoatLift" "upper" "LBoatLift$Water;", Cond.methodLink RX6 158 yX1_number, Cond.instanceMethod yX1_number, Cond.selects RX1 yX1_number yX1_number, Cond.initialized RX1, Cond.code yX1_number cX1_number 2 (some .int), Cond.fieldLink RX1 20 "BoatLift$Law" "numbers" "[I", Cond.methodLink RX6 192 yX5_decimetres, Cond.instanceMethod yX5_decimetres, Cond.selects RX5 yX5_decimetres yX5_decimetres, Cond.initialized RX5, Cond.code yX5_decimetres cX5_decimetres 1 (some .int), Cond.methodLink RX5 23 yX5_centimetres, Cond.instanceMethod yX5_centimetres, Cond.selects RX5 yX5_centimetres yX5_centimetres, Cond.code yX5_centimetres cX5_centimetres 1 (some .int)]
def wsX6_queue_r4 : List Cond := [Cond.fieldLink RX5 7 "BoatLift$Water" "area" "I", Cond.fieldLink RX5 13 "BoatLift$Water" "stock" "J", Cond.methodLink RX5 17 yJ9_floorDiv_f86c9, Cond.static yJ9_floorDiv_f86c9, Cond.initialized RJ9, Cond.code yJ9_floorDiv_f86c9 cJ9_floorDiv_f86c9 6 (some .long), Cond.methodLink RX5 27 yJ9_floorDiv_7cf53, Cond.static yJ9_floorDiv_7cf53, Cond.code yJ9_floorDiv_7cf53 cJ9_floorDiv_7cf53 3 (some .int)]
def wsX6_queue : List Cond := .code yX6_queue cX6_queue 7 (some .int) :: ((wsX6_queue_r1 ++ (wsX6_queue_r2 ++ (wsX6_queue_r3 ++ wsX6_queue_r4))) ++ wsX60 ++ wsX00 ++ wsJx4a65c0 ++ wsX10 ++ wsX50)
def wsX6_fittingAt_r1 : List Cond := [Cond.fieldLink RX6 63 "BoatLift" "troughLength" "I", Cond.fieldLink RX6 60 "BoatLift" "byTurn" "Ljava/util/List;", Cond.classLink RX6 119 "BoatLift$Boat", Cond.fieldLink RX6 67 "BoatLift" "troughSide" "I", Cond.fieldLink RX6 201 "BoatLift$Boat" "length" "I", Cond.methodLink RX6 116 ⟨"java/util/List", "size", "()I"⟩, Cond.selects RJx4a65c ⟨"java/util/List", "size", "()I"⟩ yJx4a65c_size_8abf5, Cond.instanceMethod yJx4a65c_size_8abf5, Cond.initialized RJx4a65c, Cond.code yJx4a65c_size_8abf5 cJx4a65c_size_8abf5 1 (some .int), Cond.fieldLink RJx4a65c 48 "java/util/ArrayList" "size" "I", Cond.methodLink RX6 138 ⟨"java/util/List", "get", "(I)Ljava/lang/Object;"⟩, Cond.selects RJx4a65c ⟨"java/util/List", "get", "(I)Ljava/lang/Object;"⟩ yJx4a65c_get_915e3, Cond.instanceMethod yJx4a65c_get_915e3, Cond.code yJx4a65c_get_915e3 cJx4a65c_get_915e3 2 (some (.object "java/lang/Object")), Cond.methodLink RJx4a65c 118 yJ15_checkIndex_7cf53, Cond.static yJ15_checkIndex_7cf53, Cond.initialized RJ15, Cond.code yJ15_checkIndex_7cf53 cJ15_checkIndex_7cf53 2 (some .int), Cond.methodLink RJ15 105 yJ3_checkIndex_8e157, Cond.static yJ3_checkIndex_8e157, Cond.initialized RJ3, Cond.code yJ3_checkIndex_8e157 cJ3_checkIndex_8e157 3 (some .int), Cond.methodLink RJx4a65c 123 yJx4a65c_elementData_915e3]
def wsX6_fittingAt_r2 : List Cond := [Cond.instanceMethod yJx4a65c_elementData_915e3, Cond.selects RJx4a65c yJx4a65c_elementData_915e3 yJx4a65c_elementData_915e3, Cond.code yJx4a65c_elementData_915e3 cJx4a65c_elementData_915e3 2 (some (.object "java/lang/Object")), Cond.fieldLink RJx4a65c 9 "java/util/ArrayList" "elementData" "[Ljava/lang/Object;", Cond.methodLink RX6 142 yX6_isQueued, Cond.instanceMethod yX6_isQueued, Cond.selects RX6 yX6_isQueued yX6_isQueued, Cond.initialized RX6, Cond.code yX6_isQueued cX6_isQueued 4 (some .boolean), Cond.fieldLink RX6 195 "BoatLift$Boat" "side" "I", Cond.fieldLink RX6 198 "BoatLift$Boat" "minute" "I", Cond.methodLink RX6 232 yX6_isLeft, Cond.instanceMethod yX6_isLeft, Cond.selects RX6 yX6_isLeft yX6_isLeft, Cond.code yX6_isLeft cX6_isLeft 2 (some .boolean), Cond.fieldLink RX6 217 "BoatLift$Boat" "began" "I", Cond.methodLink RX6 213 yX6_isFit, Cond.instanceMethod yX6_isFit, Cond.selects RX6 yX6_isFit yX6_isFit, Cond.code yX6_isFit cX6_isFit 3 (some .boolean), Cond.fieldLink RX6 204 "BoatLift$Boat" "draught" "I", Cond.fieldLink RX6 21 "BoatLift" "rules" "LBoatLift$Law;", Cond.fieldLink RX6 46 "BoatLift" "lower" "LBoatLift$Water;", Cond.fieldLink RX6 50 "BoatLift" "upper" "LBoatLift$Water;"]
def wsX6_fittingAt_r3 : List Cond := [Cond.methodLink RX6 158 yX1_number, Cond.instanceMethod yX1_number, Cond.selects RX1 yX1_number yX1_number, Cond.initialized RX1, Cond.code yX1_number cX1_number 2 (some .int), Cond.fieldLink RX1 20 "BoatLift$Law" "numbers" "[I", Cond.methodLink RX6 192 yX5_decimetres, Cond.instanceMethod yX5_decimetres, Cond.selects RX5 yX5_decimetres yX5_decimetres, Cond.initialized RX5, Cond.code yX5_decimetres cX5_decimetres 1 (some .int), Cond.methodLink RX5 23 yX5_centimetres, Cond.instanceMethod yX5_centimetres, Cond.selects RX5 yX5_centimetres yX5_centimetres, Cond.code yX5_centimetres cX5_centimetres 1 (some .int), Cond.fieldLink RX5 7 "BoatLift$Water" "area" "I", Cond.fieldLink RX5 13 "BoatLift$Water" "stock" "J", Cond.methodLink RX5 17 yJ9_floorDiv_f86c9, Cond.static yJ9_floorDiv_f86c9, Cond.initialized RJ9, Cond.code yJ9_floorDiv_f86c9 cJ9_floorDiv_f86c9 6 (some .long), Cond.methodLink RX5 27 yJ9_floorDiv_7cf53, Cond.static yJ9_floorDiv_7cf53, Cond.code yJ9_floorDiv_7cf53 cJ9_floorDiv_7cf53 3 (some .int)]
def wsX6_fittingAt : List Cond := .code yX6_fittingAt cX6_fittingAt 6 (some .int) :: ((wsX6_fittingAt_r1 ++ (wsX6_fittingAt_r2 ++ wsX6_fittingAt_r3)) ++ wsX60 ++ wsX00 ++ wsJx4a65c0 ++ wsX10 ++ wsX50)
def wsX6_fitting_r1 : List Cond := [Cond.methodLink RX6 109 yX6_isMinute, Cond.static yX6_isMinute, Cond.initialized RX6, Cond.code yX6_isMinute cX6_isMinute 1 (some .boolean), Cond.methodLink RX6 82 yX6_within, Cond.static yX6_within, Cond.code yX6_within cX6_within 3 (some .boolean), Cond.methodLink RX6 146 yX6_fittingAt, Cond.instanceMethod yX6_fittingAt, Cond.selects RX6 yX6_fittingAt yX6_fittingAt, Cond.code yX6_fittingAt cX6_fittingAt 6 (some .int), Cond.fieldLink RX6 63 "BoatLift" "troughLength" "I", Cond.fieldLink RX6 60 "BoatLift" "byTurn" "Ljava/util/List;", Cond.classLink RX6 119 "BoatLift$Boat", Cond.fieldLink RX6 67 "BoatLift" "troughSide" "I", Cond.fieldLink RX6 201 "BoatLift$Boat" "length" "I", Cond.methodLink RX6 116 ⟨"java/util/List", "size", "()I"⟩, Cond.selects RJx4a65c ⟨"java/util/List", "size", "()I"⟩ yJx4a65c_size_8abf5, Cond.instanceMethod yJx4a65c_size_8abf5, Cond.initialized RJx4a65c, Cond.code yJx4a65c_size_8abf5 cJx4a65c_size_8abf5 1 (some .int), Cond.fieldLink RJx4a65c 48 "java/util/ArrayList" "size" "I", Cond.methodLink RX6 138 ⟨"java/util/List", "get", "(I)Ljava/lang/Object;"⟩, Cond.selects RJx4a65c ⟨"java/util/List", "get", "(I)Ljava/lang/Object;"⟩ yJx4a65c_get_915e3]
def wsX6_fitting_r2 : List Cond := [Cond.instanceMethod yJx4a65c_get_915e3, Cond.code yJx4a65c_get_915e3 cJx4a65c_get_915e3 2 (some (.object "java/lang/Object")), Cond.methodLink RJx4a65c 118 yJ15_checkIndex_7cf53, Cond.static yJ15_checkIndex_7cf53, Cond.initialized RJ15, Cond.code yJ15_checkIndex_7cf53 cJ15_checkIndex_7cf53 2 (some .int), Cond.methodLink RJ15 105 yJ3_checkIndex_8e157, Cond.static yJ3_checkIndex_8e157, Cond.initialized RJ3, Cond.code yJ3_checkIndex_8e157 cJ3_checkIndex_8e157 3 (some .int), Cond.methodLink RJx4a65c 123 yJx4a65c_elementData_915e3, Cond.instanceMethod yJx4a65c_elementData_915e3, Cond.selects RJx4a65c yJx4a65c_elementData_915e3 yJx4a65c_elementData_915e3, Cond.code yJx4a65c_elementData_915e3 cJx4a65c_elementData_915e3 2 (some (.object "java/lang/Object")), Cond.fieldLink RJx4a65c 9 "java/util/ArrayList" "elementData" "[Ljava/lang/Object;", Cond.methodLink RX6 142 yX6_isQueued, Cond.instanceMethod yX6_isQueued, Cond.selects RX6 yX6_isQueued yX6_isQueued, Cond.code yX6_isQueued cX6_isQueued 4 (some .boolean), Cond.fieldLink RX6 195 "BoatLift$Boat" "side" "I", Cond.fieldLink RX6 198 "BoatLift$Boat" "minute" "I", Cond.methodLink RX6 232 yX6_isLeft, Cond.instanceMethod yX6_isLeft, Cond.selects RX6 yX6_isLeft yX6_isLeft]
def wsX6_fitting_r3 : List Cond := [Cond.code yX6_isLeft cX6_isLeft 2 (some .boolean), Cond.fieldLink RX6 217 "BoatLift$Boat" "began" "I", Cond.methodLink RX6 213 yX6_isFit, Cond.instanceMethod yX6_isFit, Cond.selects RX6 yX6_isFit yX6_isFit, Cond.code yX6_isFit cX6_isFit 3 (some .boolean), Cond.fieldLink RX6 204 "BoatLift$Boat" "draught" "I", Cond.fieldLink RX6 21 "BoatLift" "rules" "LBoatLift$Law;", Cond.fieldLink RX6 46 "BoatLift" "lower" "LBoatLift$Water;", Cond.fieldLink RX6 50 "BoatLift" "upper" "LBoatLift$Water;", Cond.methodLink RX6 158 yX1_number, Cond.instanceMethod yX1_number, Cond.selects RX1 yX1_number yX1_number, Cond.initialized RX1, Cond.code yX1_number cX1_number 2 (some .int), Cond.fieldLink RX1 20 "BoatLift$Law" "numbers" "[I", Cond.methodLink RX6 192 yX5_decimetres, Cond.instanceMethod yX5_decimetres, Cond.selects RX5 yX5_decimetres yX5_decimetres, Cond.initialized RX5, Cond.code yX5_decimetres cX5_decimetres 1 (some .int), Cond.methodLink RX5 23 yX5_centimetres, Cond.instanceMethod yX5_centimetres, Cond.selects RX5 yX5_centimetres yX5_centimetres]
def wsX6_fitting_r4 : List Cond := [Cond.code yX5_centimetres cX5_centimetres 1 (some .int), Cond.fieldLink RX5 7 "BoatLift$Water" "area" "I", Cond.fieldLink RX5 13 "BoatLift$Water" "stock" "J", Cond.methodLink RX5 17 yJ9_floorDiv_f86c9, Cond.static yJ9_floorDiv_f86c9, Cond.initialized RJ9, Cond.code yJ9_floorDiv_f86c9 cJ9_floorDiv_f86c9 6 (some .long), Cond.methodLink RX5 27 yJ9_floorDiv_7cf53, Cond.static yJ9_floorDiv_7cf53, Cond.code yJ9_floorDiv_7cf53 cJ9_floorDiv_7cf53 3 (some .int)]
def wsX6_fitting : List Cond := .code yX6_fitting cX6_fitting 2 (some .int) :: ((wsX6_fitting_r1 ++ (wsX6_fitting_r2 ++ (wsX6_fitting_r3 ++ wsX6_fitting_r4))) ++ wsX60 ++ wsX00 ++ wsJx4a65c0 ++ wsX10 ++ wsX50)
def wsX6_carryFirst_r1 : List Cond := [Cond.fieldLink RX6 60 "BoatLift" "byTurn" "Ljava/util/List;", Cond.classLink RX6 119 "BoatLift$Boat", Cond.fieldLink RX6 67 "BoatLift" "troughSide" "I", Cond.fieldLink RX6 217 "BoatLift$Boat" "began" "I", Cond.fieldLink RX6 207 "BoatLift$Boat" "weight" "I", Cond.fieldLink RX6 226 "BoatLift" "waitedTogether" "I", Cond.fieldLink RX6 223 "BoatLift" "carried" "I", Cond.methodLink RX6 116 ⟨"java/util/List", "size", "()I"⟩, Cond.selects RJx4a65c ⟨"java/util/List", "size", "()I"⟩ yJx4a65c_size_8abf5, Cond.instanceMethod yJx4a65c_size_8abf5, Cond.initialized RJx4a65c, Cond.code yJx4a65c_size_8abf5 cJx4a65c_size_8abf5 1 (some .int), Cond.fieldLink RJx4a65c 48 "java/util/ArrayList" "size" "I", Cond.methodLink RX6 138 ⟨"java/util/List", "get", "(I)Ljava/lang/Object;"⟩, Cond.selects RJx4a65c ⟨"java/util/List", "get", "(I)Ljava/lang/Object;"⟩ yJx4a65c_get_915e3, Cond.instanceMethod yJx4a65c_get_915e3, Cond.code yJx4a65c_get_915e3 cJx4a65c_get_915e3 2 (some (.object "java/lang/Object")), Cond.methodLink RJx4a65c 118 yJ15_checkIndex_7cf53, Cond.static yJ15_checkIndex_7cf53, Cond.initialized RJ15, Cond.code yJ15_checkIndex_7cf53 cJ15_checkIndex_7cf53 2 (some .int), Cond.methodLink RJ15 105 yJ3_checkIndex_8e157, Cond.static yJ3_checkIndex_8e157, Cond.initialized RJ3]
def wsX6_carryFirst_r2 : List Cond := [Cond.code yJ3_checkIndex_8e157 cJ3_checkIndex_8e157 3 (some .int), Cond.methodLink RJx4a65c 123 yJx4a65c_elementData_915e3, Cond.instanceMethod yJx4a65c_elementData_915e3, Cond.selects RJx4a65c yJx4a65c_elementData_915e3 yJx4a65c_elementData_915e3, Cond.code yJx4a65c_elementData_915e3 cJx4a65c_elementData_915e3 2 (some (.object "java/lang/Object")), Cond.fieldLink RJx4a65c 9 "java/util/ArrayList" "elementData" "[Ljava/lang/Object;", Cond.methodLink RX6 142 yX6_isQueued, Cond.instanceMethod yX6_isQueued, Cond.selects RX6 yX6_isQueued yX6_isQueued, Cond.initialized RX6, Cond.code yX6_isQueued cX6_isQueued 4 (some .boolean), Cond.fieldLink RX6 195 "BoatLift$Boat" "side" "I", Cond.fieldLink RX6 198 "BoatLift$Boat" "minute" "I", Cond.methodLink RX6 232 yX6_isLeft, Cond.instanceMethod yX6_isLeft, Cond.selects RX6 yX6_isLeft yX6_isLeft, Cond.code yX6_isLeft cX6_isLeft 2 (some .boolean), Cond.methodLink RX6 213 yX6_isFit, Cond.instanceMethod yX6_isFit, Cond.selects RX6 yX6_isFit yX6_isFit, Cond.code yX6_isFit cX6_isFit 3 (some .boolean), Cond.fieldLink RX6 204 "BoatLift$Boat" "draught" "I", Cond.fieldLink RX6 21 "BoatLift" "rules" "LBoatLift$Law;", Cond.fieldLink RX6 201 "BoatLift$Boat" "length" "I"]
def wsX6_carryFirst_r3 : List Cond := [Cond.fieldLink RX6 63 "BoatLift" "troughLength" "I", Cond.fieldLink RX6 46 "BoatLift" "lower" "LBoatLift$Water;", Cond.fieldLink RX6 50 "BoatLift" "upper" "LBoatLift$Water;", Cond.methodLink RX6 158 yX1_number, Cond.instanceMethod yX1_number, Cond.selects RX1 yX1_number yX1_number, Cond.initialized RX1, Cond.code yX1_number cX1_number 2 (some .int), Cond.fieldLink RX1 20 "BoatLift$Law" "numbers" "[I", Cond.methodLink RX6 192 yX5_decimetres, Cond.instanceMethod yX5_decimetres, Cond.selects RX5 yX5_decimetres yX5_decimetres, Cond.initialized RX5, Cond.code yX5_decimetres cX5_decimetres 1 (some .int), Cond.methodLink RX5 23 yX5_centimetres, Cond.instanceMethod yX5_centimetres, Cond.selects RX5 yX5_centimetres yX5_centimetres, Cond.code yX5_centimetres cX5_centimetres 1 (some .int), Cond.fieldLink RX5 7 "BoatLift$Water" "area" "I", Cond.fieldLink RX5 13 "BoatLift$Water" "stock" "J", Cond.methodLink RX5 17 yJ9_floorDiv_f86c9, Cond.static yJ9_floorDiv_f86c9, Cond.initialized RJ9, Cond.code yJ9_floorDiv_f86c9 cJ9_floorDiv_f86c9 6 (some .long)]
def wsX6_carryFirst_r4 : List Cond := [Cond.methodLink RX5 27 yJ9_floorDiv_7cf53, Cond.static yJ9_floorDiv_7cf53, Cond.code yJ9_floorDiv_7cf53 cJ9_floorDiv_7cf53 3 (some .int), Cond.methodLink RX6 220 yX0_waited, Cond.instanceMethod yX0_waited, Cond.selects RX0 yX0_waited yX0_waited, Cond.initialized RX0, Cond.code yX0_waited cX0_waited 1 (some .int), Cond.fieldLink RX0 9 "BoatLift$Boat" "began" "I", Cond.fieldLink RX0 21 "BoatLift$Boat" "minute" "I"]
def wsX6_carryFirst : List Cond := .code yX6_carryFirst cX6_carryFirst 7 (some .int) :: ((wsX6_carryFirst_r1 ++ (wsX6_carryFirst_r2 ++ (wsX6_carryFirst_r3 ++ wsX6_carryFirst_r4))) ++ wsX60 ++ wsX00 ++ wsJx4a65c0 ++ wsX10 ++ wsX50)
def wsX6_sendDown : List Cond := .code yX6_sendDown cX6_sendDown 2 none :: ([.fieldLink RX6 50 "BoatLift" "upper" "LBoatLift$Water;", .fieldLink RX6 46 "BoatLift" "lower" "LBoatLift$Water;", .methodLink RX6 106 yX5_gain, .instanceMethod yX5_gain, .selects RX5 yX5_gain yX5_gain, .initialized RX5, .code yX5_gain cX5_gain 2 none, .fieldLink RX5 13 "BoatLift$Water" "stock" "J"] ++ wsX60 ++ wsX50)
def wsX6_ride_r1 : List Cond := [Cond.fieldLink RX6 149 "BoatLift" "freeFrom" "I", Cond.fieldLink RX6 30 "BoatLift" "timetable" "LBoatLift$Timetable;", Cond.fieldLink RX6 155 "BoatLift" "sealRides" "I", Cond.fieldLink RX6 21 "BoatLift" "rules" "LBoatLift$Law;", Cond.fieldLink RX6 67 "BoatLift" "troughSide" "I", Cond.fieldLink RX6 170 "BoatLift" "ridesEver" "I", Cond.methodLink RX6 109 yX6_isMinute, Cond.static yX6_isMinute, Cond.initialized RX6, Cond.code yX6_isMinute cX6_isMinute 1 (some .boolean), Cond.methodLink RX6 82 yX6_within, Cond.static yX6_within, Cond.code yX6_within cX6_within 3 (some .boolean), Cond.methodLink RX6 146 yX6_fittingAt, Cond.instanceMethod yX6_fittingAt, Cond.selects RX6 yX6_fittingAt yX6_fittingAt, Cond.code yX6_fittingAt cX6_fittingAt 6 (some .int), Cond.fieldLink RX6 63 "BoatLift" "troughLength" "I", Cond.fieldLink RX6 60 "BoatLift" "byTurn" "Ljava/util/List;", Cond.classLink RX6 119 "BoatLift$Boat", Cond.fieldLink RX6 201 "BoatLift$Boat" "length" "I", Cond.methodLink RX6 116 ⟨"java/util/List", "size", "()I"⟩, Cond.selects RJx4a65c ⟨"java/util/List", "size", "()I"⟩ yJx4a65c_size_8abf5, Cond.instanceMethod yJx4a65c_size_8abf5]
def wsX6_ride_r2 : List Cond := [Cond.initialized RJx4a65c, Cond.code yJx4a65c_size_8abf5 cJx4a65c_size_8abf5 1 (some .int), Cond.fieldLink RJx4a65c 48 "java/util/ArrayList" "size" "I", Cond.methodLink RX6 138 ⟨"java/util/List", "get", "(I)Ljava/lang/Object;"⟩, Cond.selects RJx4a65c ⟨"java/util/List", "get", "(I)Ljava/lang/Object;"⟩ yJx4a65c_get_915e3, Cond.instanceMethod yJx4a65c_get_915e3, Cond.code yJx4a65c_get_915e3 cJx4a65c_get_915e3 2 (some (.object "java/lang/Object")), Cond.methodLink RJx4a65c 118 yJ15_checkIndex_7cf53, Cond.static yJ15_checkIndex_7cf53, Cond.initialized RJ15, Cond.code yJ15_checkIndex_7cf53 cJ15_checkIndex_7cf53 2 (some .int), Cond.methodLink RJ15 105 yJ3_checkIndex_8e157, Cond.static yJ3_checkIndex_8e157, Cond.initialized RJ3, Cond.code yJ3_checkIndex_8e157 cJ3_checkIndex_8e157 3 (some .int), Cond.methodLink RJx4a65c 123 yJx4a65c_elementData_915e3, Cond.instanceMethod yJx4a65c_elementData_915e3, Cond.selects RJx4a65c yJx4a65c_elementData_915e3 yJx4a65c_elementData_915e3, Cond.code yJx4a65c_elementData_915e3 cJx4a65c_elementData_915e3 2 (some (.object "java/lang/Object")), Cond.fieldLink RJx4a65c 9 "java/util/ArrayList" "elementData" "[Ljava/lang/Object;", Cond.methodLink RX6 142 yX6_isQueued, Cond.instanceMethod yX6_isQueued, Cond.selects RX6 yX6_isQueued yX6_isQueued, Cond.code yX6_isQueued cX6_isQueued 4 (some .boolean)]
def wsX6_ride_r3 : List Cond := [Cond.fieldLink RX6 195 "BoatLift$Boat" "side" "I", Cond.fieldLink RX6 198 "BoatLift$Boat" "minute" "I", Cond.methodLink RX6 232 yX6_isLeft, Cond.instanceMethod yX6_isLeft, Cond.selects RX6 yX6_isLeft yX6_isLeft, Cond.code yX6_isLeft cX6_isLeft 2 (some .boolean), Cond.fieldLink RX6 217 "BoatLift$Boat" "began" "I", Cond.methodLink RX6 213 yX6_isFit, Cond.instanceMethod yX6_isFit, Cond.selects RX6 yX6_isFit yX6_isFit, Cond.code yX6_isFit cX6_isFit 3 (some .boolean), Cond.fieldLink RX6 204 "BoatLift$Boat" "draught" "I", Cond.fieldLink RX6 46 "BoatLift" "lower" "LBoatLift$Water;", Cond.fieldLink RX6 50 "BoatLift" "upper" "LBoatLift$Water;", Cond.methodLink RX6 158 yX1_number, Cond.instanceMethod yX1_number, Cond.selects RX1 yX1_number yX1_number, Cond.initialized RX1, Cond.code yX1_number cX1_number 2 (some .int), Cond.fieldLink RX1 20 "BoatLift$Law" "numbers" "[I", Cond.methodLink RX6 192 yX5_decimetres, Cond.instanceMethod yX5_decimetres, Cond.selects RX5 yX5_decimetres yX5_decimetres, Cond.initialized RX5]
def wsX6_ride_r4 : List Cond := [Cond.code yX5_decimetres cX5_decimetres 1 (some .int), Cond.methodLink RX5 23 yX5_centimetres, Cond.instanceMethod yX5_centimetres, Cond.selects RX5 yX5_centimetres yX5_centimetres, Cond.code yX5_centimetres cX5_centimetres 1 (some .int), Cond.fieldLink RX5 7 "BoatLift$Water" "area" "I", Cond.fieldLink RX5 13 "BoatLift$Water" "stock" "J", Cond.methodLink RX5 17 yJ9_floorDiv_f86c9, Cond.static yJ9_floorDiv_f86c9, Cond.initialized RJ9, Cond.code yJ9_floorDiv_f86c9 cJ9_floorDiv_f86c9 6 (some .long), Cond.methodLink RX5 27 yJ9_floorDiv_7cf53, Cond.static yJ9_floorDiv_7cf53, Cond.code yJ9_floorDiv_7cf53 cJ9_floorDiv_7cf53 3 (some .int), Cond.methodLink RX6 152 yX4_endOf, Cond.instanceMethod yX4_endOf, Cond.selects RX4 yX4_endOf yX4_endOf, Cond.initialized RX4, Cond.code yX4_endOf cX4_endOf 3 (some .int), Cond.fieldLink RX4 16 "BoatLift$Timetable" "rules" "LBoatLift$Law;", Cond.methodLink RX4 26 yX1_number, Cond.methodLink RX4 30 yX4_inIce, Cond.instanceMethod yX4_inIce, Cond.selects RX4 yX4_inIce yX4_inIce]
def wsX6_ride_r5 : List Cond := [Cond.code yX4_inIce cX4_inIce 3 (some .boolean), Cond.fieldLink RX4 20 "BoatLift$Timetable" "told" "I", Cond.fieldLink RX4 9 "BoatLift$Timetable" "iceFrom" "[I", Cond.fieldLink RX4 13 "BoatLift$Timetable" "iceTo" "[I", Cond.methodLink RX6 160 yX6_carryFirst, Cond.instanceMethod yX6_carryFirst, Cond.selects RX6 yX6_carryFirst yX6_carryFirst, Cond.code yX6_carryFirst cX6_carryFirst 7 (some .int), Cond.fieldLink RX6 207 "BoatLift$Boat" "weight" "I", Cond.fieldLink RX6 226 "BoatLift" "waitedTogether" "I", Cond.fieldLink RX6 223 "BoatLift" "carried" "I", Cond.methodLink RX6 220 yX0_waited, Cond.instanceMethod yX0_waited, Cond.selects RX0 yX0_waited yX0_waited, Cond.initialized RX0, Cond.code yX0_waited cX0_waited 1 (some .int), Cond.fieldLink RX0 9 "BoatLift$Boat" "began" "I", Cond.fieldLink RX0 21 "BoatLift$Boat" "minute" "I", Cond.methodLink RX6 164 yX6_sendDown, Cond.instanceMethod yX6_sendDown, Cond.selects RX6 yX6_sendDown yX6_sendDown, Cond.code yX6_sendDown cX6_sendDown 2 none, Cond.methodLink RX6 106 yX5_gain, Cond.instanceMethod yX5_gain]
def wsX6_ride_r6 : List Cond := [Cond.selects RX5 yX5_gain yX5_gain, Cond.code yX5_gain cX5_gain 2 none, Cond.methodLink RX6 167 yX6_otherSide, Cond.static yX6_otherSide, Cond.code yX6_otherSide cX6_otherSide 1 (some .int)]
def wsX6_ride : List Cond := .code yX6_ride cX6_ride 5 (some .int) :: ((wsX6_ride_r1 ++ (wsX6_ride_r2 ++ (wsX6_ride_r3 ++ (wsX6_ride_r4 ++ (wsX6_ride_r5 ++ wsX6_ride_r6))))) ++ wsX60 ++ wsX00 ++ wsJx4a65c0 ++ wsX10 ++ wsX50 ++ wsX40)
def wsX6_renew : List Cond := .code yX6_renew cX6_renew 3 (some .int) :: ([.fieldLink RX6 149 "BoatLift" "freeFrom" "I", .fieldLink RX6 21 "BoatLift" "rules" "LBoatLift$Law;", .fieldLink RX6 155 "BoatLift" "sealRides" "I", .methodLink RX6 109 yX6_isMinute, .static yX6_isMinute, .initialized RX6, .code yX6_isMinute cX6_isMinute 1 (some .boolean), .methodLink RX6 82 yX6_within, .static yX6_within, .code yX6_within cX6_within 3 (some .boolean), .methodLink RX6 158 yX1_number, .instanceMethod yX1_number, .selects RX1 yX1_number yX1_number, .initialized RX1, .code yX1_number cX1_number 2 (some .int), .fieldLink RX1 20 "BoatLift$Law" "numbers" "[I"] ++ wsX60 ++ wsX10)
def wsX6_gatherLeft_r1 : List Cond := [Cond.fieldLink RX6 39 "BoatLift" "planner" "LBoatLift$Planner;", Cond.fieldLink RX6 60 "BoatLift" "byTurn" "Ljava/util/List;", Cond.classLink RX6 119 "BoatLift$Boat", Cond.methodLink RX6 238 yX2_forgetBoats, Cond.instanceMethod yX2_forgetBoats, Cond.selects RX2 yX2_forgetBoats yX2_forgetBoats, Cond.initialized RX2, Cond.code yX2_forgetBoats cX2_forgetBoats 1 none, Cond.fieldLink RX2 30 "BoatLift$Planner" "boats" "I", Cond.methodLink RX6 116 ⟨"java/util/List", "size", "()I"⟩, Cond.selects RJx4a65c ⟨"java/util/List", "size", "()I"⟩ yJx4a65c_size_8abf5, Cond.instanceMethod yJx4a65c_size_8abf5, Cond.initialized RJx4a65c, Cond.code yJx4a65c_size_8abf5 cJx4a65c_size_8abf5 1 (some .int), Cond.fieldLink RJx4a65c 48 "java/util/ArrayList" "size" "I", Cond.methodLink RX6 138 ⟨"java/util/List", "get", "(I)Ljava/lang/Object;"⟩, Cond.selects RJx4a65c ⟨"java/util/List", "get", "(I)Ljava/lang/Object;"⟩ yJx4a65c_get_915e3, Cond.instanceMethod yJx4a65c_get_915e3, Cond.code yJx4a65c_get_915e3 cJx4a65c_get_915e3 2 (some (.object "java/lang/Object")), Cond.methodLink RJx4a65c 118 yJ15_checkIndex_7cf53, Cond.static yJ15_checkIndex_7cf53, Cond.initialized RJ15, Cond.code yJ15_checkIndex_7cf53 cJ15_checkIndex_7cf53 2 (some .int), Cond.methodLink RJ15 105 yJ3_checkIndex_8e157]
def wsX6_gatherLeft_r2 : List Cond := [Cond.static yJ3_checkIndex_8e157, Cond.initialized RJ3, Cond.code yJ3_checkIndex_8e157 cJ3_checkIndex_8e157 3 (some .int), Cond.methodLink RJx4a65c 123 yJx4a65c_elementData_915e3, Cond.instanceMethod yJx4a65c_elementData_915e3, Cond.selects RJx4a65c yJx4a65c_elementData_915e3 yJx4a65c_elementData_915e3, Cond.code yJx4a65c_elementData_915e3 cJx4a65c_elementData_915e3 2 (some (.object "java/lang/Object")), Cond.fieldLink RJx4a65c 9 "java/util/ArrayList" "elementData" "[Ljava/lang/Object;", Cond.methodLink RX6 232 yX6_isLeft, Cond.instanceMethod yX6_isLeft, Cond.selects RX6 yX6_isLeft yX6_isLeft, Cond.initialized RX6, Cond.code yX6_isLeft cX6_isLeft 2 (some .boolean), Cond.fieldLink RX6 217 "BoatLift$Boat" "began" "I", Cond.methodLink RX6 213 yX6_isFit, Cond.instanceMethod yX6_isFit, Cond.selects RX6 yX6_isFit yX6_isFit, Cond.code yX6_isFit cX6_isFit 3 (some .boolean), Cond.fieldLink RX6 204 "BoatLift$Boat" "draught" "I", Cond.fieldLink RX6 21 "BoatLift" "rules" "LBoatLift$Law;", Cond.fieldLink RX6 201 "BoatLift$Boat" "length" "I", Cond.fieldLink RX6 63 "BoatLift" "troughLength" "I", Cond.fieldLink RX6 46 "BoatLift" "lower" "LBoatLift$Water;", Cond.fieldLink RX6 50 "BoatLift" "upper" "LBoatLift$Water;"]
def wsX6_gatherLeft_r3 : List Cond := [Cond.methodLink RX6 158 yX1_number, Cond.instanceMethod yX1_number, Cond.selects RX1 yX1_number yX1_number, Cond.initialized RX1, Cond.code yX1_number cX1_number 2 (some .int), Cond.fieldLink RX1 20 "BoatLift$Law" "numbers" "[I", Cond.methodLink RX6 192 yX5_decimetres, Cond.instanceMethod yX5_decimetres, Cond.selects RX5 yX5_decimetres yX5_decimetres, Cond.initialized RX5, Cond.code yX5_decimetres cX5_decimetres 1 (some .int), Cond.methodLink RX5 23 yX5_centimetres, Cond.instanceMethod yX5_centimetres, Cond.selects RX5 yX5_centimetres yX5_centimetres, Cond.code yX5_centimetres cX5_centimetres 1 (some .int), Cond.fieldLink RX5 7 "BoatLift$Water" "area" "I", Cond.fieldLink RX5 13 "BoatLift$Water" "stock" "J", Cond.methodLink RX5 17 yJ9_floorDiv_f86c9, Cond.static yJ9_floorDiv_f86c9, Cond.initialized RJ9, Cond.code yJ9_floorDiv_f86c9 cJ9_floorDiv_f86c9 6 (some .long), Cond.methodLink RX5 27 yJ9_floorDiv_7cf53, Cond.static yJ9_floorDiv_7cf53, Cond.code yJ9_floorDiv_7cf53 cJ9_floorDiv_7cf53 3 (some .int)]
def wsX6_gatherLeft_r4 : List Cond := [Cond.methodLink RX6 241 yX2_addBoat, Cond.instanceMethod yX2_addBoat, Cond.selects RX2 yX2_addBoat yX2_addBoat, Cond.code yX2_addBoat cX2_addBoat 2 none, Cond.fieldLink RX2 11 "BoatLift$Planner" "sides" "[I", Cond.fieldLink RX2 34 "BoatLift$Boat" "side" "I", Cond.fieldLink RX2 15 "BoatLift$Planner" "comes" "[I", Cond.fieldLink RX2 39 "BoatLift$Boat" "minute" "I", Cond.fieldLink RX2 18 "BoatLift$Planner" "lengths" "[I", Cond.fieldLink RX2 42 "BoatLift$Boat" "length" "I"]
def wsX6_gatherLeft : List Cond := .code yX6_gatherLeft cX6_gatherLeft 4 (some .int) :: ((wsX6_gatherLeft_r1 ++ (wsX6_gatherLeft_r2 ++ (wsX6_gatherLeft_r3 ++ wsX6_gatherLeft_r4))) ++ wsX60 ++ wsX20 ++ wsJx4a65c0 ++ wsX00 ++ wsX10 ++ wsX50)
def wsX6_bestPlan_r1 : List Cond := [Cond.fieldLink RX6 39 "BoatLift" "planner" "LBoatLift$Planner;", Cond.fieldLink RX6 67 "BoatLift" "troughSide" "I", Cond.fieldLink RX6 149 "BoatLift" "freeFrom" "I", Cond.fieldLink RX6 63 "BoatLift" "troughLength" "I", Cond.methodLink RX6 245 yX2_best, Cond.instanceMethod yX2_best, Cond.selects RX2 yX2_best yX2_best, Cond.initialized RX2, Cond.code yX2_best cX2_best 5 (some .long), Cond.fieldLink RX2 45 "BoatLift$Planner" "known" "[J", Cond.arrayClass .long, Cond.fieldLink RX2 49 "BoatLift$Planner" "round" "J", Cond.fieldLink RX2 53 "BoatLift$Planner" "troughLength" "I", Cond.fieldLink RX2 30 "BoatLift$Planner" "boats" "I", Cond.fieldLink RX2 15 "BoatLift$Planner" "comes" "[I", Cond.methodLink RX2 56 yX2_layOutRow, Cond.instanceMethod yX2_layOutRow, Cond.selects RX2 yX2_layOutRow yX2_layOutRow, Cond.code yX2_layOutRow cX2_layOutRow 5 none, Cond.fieldLink RX2 21 "BoatLift$Planner" "minutes" "[I", Cond.fieldLink RX2 24 "BoatLift$Planner" "timetable" "LBoatLift$Timetable;", Cond.methodLink RX2 64 yX4_endOf, Cond.instanceMethod yX4_endOf, Cond.selects RX4 yX4_endOf yX4_endOf]
def wsX6_bestPlan_r2 : List Cond := [Cond.initialized RX4, Cond.code yX4_endOf cX4_endOf 3 (some .int), Cond.fieldLink RX4 16 "BoatLift$Timetable" "rules" "LBoatLift$Law;", Cond.methodLink RX4 26 yX1_number, Cond.instanceMethod yX1_number, Cond.selects RX1 yX1_number yX1_number, Cond.initialized RX1, Cond.code yX1_number cX1_number 2 (some .int), Cond.fieldLink RX1 20 "BoatLift$Law" "numbers" "[I", Cond.methodLink RX4 30 yX4_inIce, Cond.instanceMethod yX4_inIce, Cond.selects RX4 yX4_inIce yX4_inIce, Cond.code yX4_inIce cX4_inIce 3 (some .boolean), Cond.fieldLink RX4 20 "BoatLift$Timetable" "told" "I", Cond.fieldLink RX4 9 "BoatLift$Timetable" "iceFrom" "[I", Cond.fieldLink RX4 13 "BoatLift$Timetable" "iceTo" "[I", Cond.methodLink RX2 60 yX2_bestFrom, Cond.instanceMethod yX2_bestFrom, Cond.selects RX2 yX2_bestFrom yX2_bestFrom, Cond.code yX2_bestFrom cX2_bestFrom 10 (some .long), Cond.constantLong RX2 70 (274877906944), Cond.constantLong RX2 72 (1099511627775), Cond.methodLink RX2 80 Lib.MathLoose.min_long.x, Cond.static Lib.MathLoose.min_long.x]
def wsX6_bestPlan_r3 : List Cond := [Cond.initialized "java/lang/Math", Cond.code Lib.MathLoose.min_long.x Lib.MathLoose.min_long.code 4 (some .long), Cond.methodLink RX2 74 yX2_bestByRiding, Cond.instanceMethod yX2_bestByRiding, Cond.selects RX2 yX2_bestByRiding yX2_bestByRiding, Cond.methodLink RX2 77 yX2_momentOfNextBoat, Cond.instanceMethod yX2_momentOfNextBoat, Cond.selects RX2 yX2_momentOfNextBoat yX2_momentOfNextBoat, Cond.code yX2_momentOfNextBoat cX2_momentOfNextBoat 4 (some .int), Cond.code yX2_bestByRiding cX2_bestByRiding 17 (some .long), Cond.fieldLink RX2 11 "BoatLift$Planner" "sides" "[I", Cond.fieldLink RX2 18 "BoatLift$Planner" "lengths" "[I", Cond.static yX6_otherSide, Cond.initialized RX6, Cond.code yX6_otherSide cX6_otherSide 1 (some .int)]
def wsX6_bestPlan : List Cond := .code yX6_bestPlan cX6_bestPlan 1 (some .long) :: ((wsX6_bestPlan_r1 ++ (wsX6_bestPlan_r2 ++ wsX6_bestPlan_r3)) ++ wsX60 ++ wsX20 ++ wsX40 ++ wsX10)
def wsX6_plan_r1 : List Cond := [Cond.methodLink RX6 173 yX6_gatherLeft, Cond.instanceMethod yX6_gatherLeft, Cond.selects RX6 yX6_gatherLeft yX6_gatherLeft, Cond.initialized RX6, Cond.code yX6_gatherLeft cX6_gatherLeft 4 (some .int), Cond.fieldLink RX6 39 "BoatLift" "planner" "LBoatLift$Planner;", Cond.fieldLink RX6 60 "BoatLift" "byTurn" "Ljava/util/List;", Cond.classLink RX6 119 "BoatLift$Boat", Cond.methodLink RX6 238 yX2_forgetBoats, Cond.instanceMethod yX2_forgetBoats, Cond.selects RX2 yX2_forgetBoats yX2_forgetBoats, Cond.initialized RX2, Cond.code yX2_forgetBoats cX2_forgetBoats 1 none, Cond.fieldLink RX2 30 "BoatLift$Planner" "boats" "I", Cond.methodLink RX6 116 ⟨"java/util/List", "size", "()I"⟩, Cond.selects RJx4a65c ⟨"java/util/List", "size", "()I"⟩ yJx4a65c_size_8abf5, Cond.instanceMethod yJx4a65c_size_8abf5, Cond.initialized RJx4a65c, Cond.code yJx4a65c_size_8abf5 cJx4a65c_size_8abf5 1 (some .int), Cond.fieldLink RJx4a65c 48 "java/util/ArrayList" "size" "I", Cond.methodLink RX6 138 ⟨"java/util/List", "get", "(I)Ljava/lang/Object;"⟩, Cond.selects RJx4a65c ⟨"java/util/List", "get", "(I)Ljava/lang/Object;"⟩ yJx4a65c_get_915e3, Cond.instanceMethod yJx4a65c_get_915e3, Cond.code yJx4a65c_get_915e3 cJx4a65c_get_915e3 2 (some (.object "java/lang/Object"))]
def wsX6_plan_r2 : List Cond := [Cond.methodLink RJx4a65c 118 yJ15_checkIndex_7cf53, Cond.static yJ15_checkIndex_7cf53, Cond.initialized RJ15, Cond.code yJ15_checkIndex_7cf53 cJ15_checkIndex_7cf53 2 (some .int), Cond.methodLink RJ15 105 yJ3_checkIndex_8e157, Cond.static yJ3_checkIndex_8e157, Cond.initialized RJ3, Cond.code yJ3_checkIndex_8e157 cJ3_checkIndex_8e157 3 (some .int), Cond.methodLink RJx4a65c 123 yJx4a65c_elementData_915e3, Cond.instanceMethod yJx4a65c_elementData_915e3, Cond.selects RJx4a65c yJx4a65c_elementData_915e3 yJx4a65c_elementData_915e3, Cond.code yJx4a65c_elementData_915e3 cJx4a65c_elementData_915e3 2 (some (.object "java/lang/Object")), Cond.fieldLink RJx4a65c 9 "java/util/ArrayList" "elementData" "[Ljava/lang/Object;", Cond.methodLink RX6 232 yX6_isLeft, Cond.instanceMethod yX6_isLeft, Cond.selects RX6 yX6_isLeft yX6_isLeft, Cond.code yX6_isLeft cX6_isLeft 2 (some .boolean), Cond.fieldLink RX6 217 "BoatLift$Boat" "began" "I", Cond.methodLink RX6 213 yX6_isFit, Cond.instanceMethod yX6_isFit, Cond.selects RX6 yX6_isFit yX6_isFit, Cond.code yX6_isFit cX6_isFit 3 (some .boolean), Cond.fieldLink RX6 204 "BoatLift$Boat" "draught" "I", Cond.fieldLink RX6 21 "BoatLift" "rules" "LBoatLift$Law;"]
def wsX6_plan_r3 : List Cond := [Cond.fieldLink RX6 201 "BoatLift$Boat" "length" "I", Cond.fieldLink RX6 63 "BoatLift" "troughLength" "I", Cond.fieldLink RX6 46 "BoatLift" "lower" "LBoatLift$Water;", Cond.fieldLink RX6 50 "BoatLift" "upper" "LBoatLift$Water;", Cond.methodLink RX6 158 yX1_number, Cond.instanceMethod yX1_number, Cond.selects RX1 yX1_number yX1_number, Cond.initialized RX1, Cond.code yX1_number cX1_number 2 (some .int), Cond.fieldLink RX1 20 "BoatLift$Law" "numbers" "[I", Cond.methodLink RX6 192 yX5_decimetres, Cond.instanceMethod yX5_decimetres, Cond.selects RX5 yX5_decimetres yX5_decimetres, Cond.initialized RX5, Cond.code yX5_decimetres cX5_decimetres 1 (some .int), Cond.methodLink RX5 23 yX5_centimetres, Cond.instanceMethod yX5_centimetres, Cond.selects RX5 yX5_centimetres yX5_centimetres, Cond.code yX5_centimetres cX5_centimetres 1 (some .int), Cond.fieldLink RX5 7 "BoatLift$Water" "area" "I", Cond.fieldLink RX5 13 "BoatLift$Water" "stock" "J", Cond.methodLink RX5 17 yJ9_floorDiv_f86c9, Cond.static yJ9_floorDiv_f86c9, Cond.initialized RJ9]
def wsX6_plan_r4 : List Cond := [Cond.code yJ9_floorDiv_f86c9 cJ9_floorDiv_f86c9 6 (some .long), Cond.methodLink RX5 27 yJ9_floorDiv_7cf53, Cond.static yJ9_floorDiv_7cf53, Cond.code yJ9_floorDiv_7cf53 cJ9_floorDiv_7cf53 3 (some .int), Cond.methodLink RX6 241 yX2_addBoat, Cond.instanceMethod yX2_addBoat, Cond.selects RX2 yX2_addBoat yX2_addBoat, Cond.code yX2_addBoat cX2_addBoat 2 none, Cond.fieldLink RX2 11 "BoatLift$Planner" "sides" "[I", Cond.fieldLink RX2 34 "BoatLift$Boat" "side" "I", Cond.fieldLink RX2 15 "BoatLift$Planner" "comes" "[I", Cond.fieldLink RX2 39 "BoatLift$Boat" "minute" "I", Cond.fieldLink RX2 18 "BoatLift$Planner" "lengths" "[I", Cond.fieldLink RX2 42 "BoatLift$Boat" "length" "I", Cond.methodLink RX6 176 yX6_bestPlan, Cond.instanceMethod yX6_bestPlan, Cond.selects RX6 yX6_bestPlan yX6_bestPlan, Cond.code yX6_bestPlan cX6_bestPlan 1 (some .long), Cond.fieldLink RX6 67 "BoatLift" "troughSide" "I", Cond.fieldLink RX6 149 "BoatLift" "freeFrom" "I", Cond.methodLink RX6 245 yX2_best, Cond.instanceMethod yX2_best, Cond.selects RX2 yX2_best yX2_best, Cond.code yX2_best cX2_best 5 (some .long)]
def wsX6_plan_r5 : List Cond := [Cond.fieldLink RX2 45 "BoatLift$Planner" "known" "[J", Cond.arrayClass .long, Cond.fieldLink RX2 49 "BoatLift$Planner" "round" "J", Cond.fieldLink RX2 53 "BoatLift$Planner" "troughLength" "I", Cond.methodLink RX2 56 yX2_layOutRow, Cond.instanceMethod yX2_layOutRow, Cond.selects RX2 yX2_layOutRow yX2_layOutRow, Cond.code yX2_layOutRow cX2_layOutRow 5 none, Cond.fieldLink RX2 21 "BoatLift$Planner" "minutes" "[I", Cond.fieldLink RX2 24 "BoatLift$Planner" "timetable" "LBoatLift$Timetable;", Cond.methodLink RX2 64 yX4_endOf, Cond.instanceMethod yX4_endOf, Cond.selects RX4 yX4_endOf yX4_endOf, Cond.initialized RX4, Cond.code yX4_endOf cX4_endOf 3 (some .int), Cond.fieldLink RX4 16 "BoatLift$Timetable" "rules" "LBoatLift$Law;", Cond.methodLink RX4 26 yX1_number, Cond.methodLink RX4 30 yX4_inIce, Cond.instanceMethod yX4_inIce, Cond.selects RX4 yX4_inIce yX4_inIce, Cond.code yX4_inIce cX4_inIce 3 (some .boolean), Cond.fieldLink RX4 20 "BoatLift$Timetable" "told" "I", Cond.fieldLink RX4 9 "BoatLift$Timetable" "iceFrom" "[I", Cond.fieldLink RX4 13 "BoatLift$Timetable" "iceTo" "[I"]
def wsX6_plan_r6 : List Cond := [Cond.methodLink RX2 60 yX2_bestFrom, Cond.instanceMethod yX2_bestFrom, Cond.selects RX2 yX2_bestFrom yX2_bestFrom, Cond.code yX2_bestFrom cX2_bestFrom 10 (some .long), Cond.constantLong RX2 70 (274877906944), Cond.constantLong RX2 72 (1099511627775), Cond.methodLink RX2 80 Lib.MathLoose.min_long.x, Cond.static Lib.MathLoose.min_long.x, Cond.initialized "java/lang/Math", Cond.code Lib.MathLoose.min_long.x Lib.MathLoose.min_long.code 4 (some .long), Cond.methodLink RX2 74 yX2_bestByRiding, Cond.instanceMethod yX2_bestByRiding, Cond.selects RX2 yX2_bestByRiding yX2_bestByRiding, Cond.methodLink RX2 77 yX2_momentOfNextBoat, Cond.instanceMethod yX2_momentOfNextBoat, Cond.selects RX2 yX2_momentOfNextBoat yX2_momentOfNextBoat, Cond.code yX2_momentOfNextBoat cX2_momentOfNextBoat 4 (some .int), Cond.code yX2_bestByRiding cX2_bestByRiding 17 (some .long), Cond.static yX6_otherSide, Cond.code yX6_otherSide cX6_otherSide 1 (some .int), Cond.methodLink RX6 180 yX2_waitsOf, Cond.static yX2_waitsOf, Cond.code yX2_waitsOf cX2_waitsOf 2 (some .int)]
def wsX6_plan : List Cond := .code yX6_plan cX6_plan 2 (some .int) :: ((wsX6_plan_r1 ++ (wsX6_plan_r2 ++ (wsX6_plan_r3 ++ (wsX6_plan_r4 ++ (wsX6_plan_r5 ++ wsX6_plan_r6))))) ++ wsX60 ++ wsX20 ++ wsJx4a65c0 ++ wsX00 ++ wsX10 ++ wsX50 ++ wsX40)
def wsX6_ends_r1 : List Cond := [Cond.methodLink RX6 173 yX6_gatherLeft, Cond.instanceMethod yX6_gatherLeft, Cond.selects RX6 yX6_gatherLeft yX6_gatherLeft, Cond.initialized RX6, Cond.code yX6_gatherLeft cX6_gatherLeft 4 (some .int), Cond.fieldLink RX6 39 "BoatLift" "planner" "LBoatLift$Planner;", Cond.fieldLink RX6 60 "BoatLift" "byTurn" "Ljava/util/List;", Cond.classLink RX6 119 "BoatLift$Boat", Cond.methodLink RX6 238 yX2_forgetBoats, Cond.instanceMethod yX2_forgetBoats, Cond.selects RX2 yX2_forgetBoats yX2_forgetBoats, Cond.initialized RX2, Cond.code yX2_forgetBoats cX2_forgetBoats 1 none, Cond.fieldLink RX2 30 "BoatLift$Planner" "boats" "I", Cond.methodLink RX6 116 ⟨"java/util/List", "size", "()I"⟩, Cond.selects RJx4a65c ⟨"java/util/List", "size", "()I"⟩ yJx4a65c_size_8abf5, Cond.instanceMethod yJx4a65c_size_8abf5, Cond.initialized RJx4a65c, Cond.code yJx4a65c_size_8abf5 cJx4a65c_size_8abf5 1 (some .int), Cond.fieldLink RJx4a65c 48 "java/util/ArrayList" "size" "I", Cond.methodLink RX6 138 ⟨"java/util/List", "get", "(I)Ljava/lang/Object;"⟩, Cond.selects RJx4a65c ⟨"java/util/List", "get", "(I)Ljava/lang/Object;"⟩ yJx4a65c_get_915e3, Cond.instanceMethod yJx4a65c_get_915e3, Cond.code yJx4a65c_get_915e3 cJx4a65c_get_915e3 2 (some (.object "java/lang/Object"))]
def wsX6_ends_r2 : List Cond := [Cond.methodLink RJx4a65c 118 yJ15_checkIndex_7cf53, Cond.static yJ15_checkIndex_7cf53, Cond.initialized RJ15, Cond.code yJ15_checkIndex_7cf53 cJ15_checkIndex_7cf53 2 (some .int), Cond.methodLink RJ15 105 yJ3_checkIndex_8e157, Cond.static yJ3_checkIndex_8e157, Cond.initialized RJ3, Cond.code yJ3_checkIndex_8e157 cJ3_checkIndex_8e157 3 (some .int), Cond.methodLink RJx4a65c 123 yJx4a65c_elementData_915e3, Cond.instanceMethod yJx4a65c_elementData_915e3, Cond.selects RJx4a65c yJx4a65c_elementData_915e3 yJx4a65c_elementData_915e3, Cond.code yJx4a65c_elementData_915e3 cJx4a65c_elementData_915e3 2 (some (.object "java/lang/Object")), Cond.fieldLink RJx4a65c 9 "java/util/ArrayList" "elementData" "[Ljava/lang/Object;", Cond.methodLink RX6 232 yX6_isLeft, Cond.instanceMethod yX6_isLeft, Cond.selects RX6 yX6_isLeft yX6_isLeft, Cond.code yX6_isLeft cX6_isLeft 2 (some .boolean), Cond.fieldLink RX6 217 "BoatLift$Boat" "began" "I", Cond.methodLink RX6 213 yX6_isFit, Cond.instanceMethod yX6_isFit, Cond.selects RX6 yX6_isFit yX6_isFit, Cond.code yX6_isFit cX6_isFit 3 (some .boolean), Cond.fieldLink RX6 204 "BoatLift$Boat" "draught" "I", Cond.fieldLink RX6 21 "BoatLift" "rules" "LBoatLift$Law;"]
def wsX6_ends_r3 : List Cond := [Cond.fieldLink RX6 201 "BoatLift$Boat" "length" "I", Cond.fieldLink RX6 63 "BoatLift" "troughLength" "I", Cond.fieldLink RX6 46 "BoatLift" "lower" "LBoatLift$Water;", Cond.fieldLink RX6 50 "BoatLift" "upper" "LBoatLift$Water;", Cond.methodLink RX6 158 yX1_number, Cond.instanceMethod yX1_number, Cond.selects RX1 yX1_number yX1_number, Cond.initialized RX1, Cond.code yX1_number cX1_number 2 (some .int), Cond.fieldLink RX1 20 "BoatLift$Law" "numbers" "[I", Cond.methodLink RX6 192 yX5_decimetres, Cond.instanceMethod yX5_decimetres, Cond.selects RX5 yX5_decimetres yX5_decimetres, Cond.initialized RX5, Cond.code yX5_decimetres cX5_decimetres 1 (some .int), Cond.methodLink RX5 23 yX5_centimetres, Cond.instanceMethod yX5_centimetres, Cond.selects RX5 yX5_centimetres yX5_centimetres, Cond.code yX5_centimetres cX5_centimetres 1 (some .int), Cond.fieldLink RX5 7 "BoatLift$Water" "area" "I", Cond.fieldLink RX5 13 "BoatLift$Water" "stock" "J", Cond.methodLink RX5 17 yJ9_floorDiv_f86c9, Cond.static yJ9_floorDiv_f86c9, Cond.initialized RJ9]
def wsX6_ends_r4 : List Cond := [Cond.code yJ9_floorDiv_f86c9 cJ9_floorDiv_f86c9 6 (some .long), Cond.methodLink RX5 27 yJ9_floorDiv_7cf53, Cond.static yJ9_floorDiv_7cf53, Cond.code yJ9_floorDiv_7cf53 cJ9_floorDiv_7cf53 3 (some .int), Cond.methodLink RX6 241 yX2_addBoat, Cond.instanceMethod yX2_addBoat, Cond.selects RX2 yX2_addBoat yX2_addBoat, Cond.code yX2_addBoat cX2_addBoat 2 none, Cond.fieldLink RX2 11 "BoatLift$Planner" "sides" "[I", Cond.fieldLink RX2 34 "BoatLift$Boat" "side" "I", Cond.fieldLink RX2 15 "BoatLift$Planner" "comes" "[I", Cond.fieldLink RX2 39 "BoatLift$Boat" "minute" "I", Cond.fieldLink RX2 18 "BoatLift$Planner" "lengths" "[I", Cond.fieldLink RX2 42 "BoatLift$Boat" "length" "I", Cond.methodLink RX6 176 yX6_bestPlan, Cond.instanceMethod yX6_bestPlan, Cond.selects RX6 yX6_bestPlan yX6_bestPlan, Cond.code yX6_bestPlan cX6_bestPlan 1 (some .long), Cond.fieldLink RX6 67 "BoatLift" "troughSide" "I", Cond.fieldLink RX6 149 "BoatLift" "freeFrom" "I", Cond.methodLink RX6 245 yX2_best, Cond.instanceMethod yX2_best, Cond.selects RX2 yX2_best yX2_best, Cond.code yX2_best cX2_best 5 (some .long)]
def wsX6_ends_r5 : List Cond := [Cond.fieldLink RX2 45 "BoatLift$Planner" "known" "[J", Cond.arrayClass .long, Cond.fieldLink RX2 49 "BoatLift$Planner" "round" "J", Cond.fieldLink RX2 53 "BoatLift$Planner" "troughLength" "I", Cond.methodLink RX2 56 yX2_layOutRow, Cond.instanceMethod yX2_layOutRow, Cond.selects RX2 yX2_layOutRow yX2_layOutRow, Cond.code yX2_layOutRow cX2_layOutRow 5 none, Cond.fieldLink RX2 21 "BoatLift$Planner" "minutes" "[I", Cond.fieldLink RX2 24 "BoatLift$Planner" "timetable" "LBoatLift$Timetable;", Cond.methodLink RX2 64 yX4_endOf, Cond.instanceMethod yX4_endOf, Cond.selects RX4 yX4_endOf yX4_endOf, Cond.initialized RX4, Cond.code yX4_endOf cX4_endOf 3 (some .int), Cond.fieldLink RX4 16 "BoatLift$Timetable" "rules" "LBoatLift$Law;", Cond.methodLink RX4 26 yX1_number, Cond.methodLink RX4 30 yX4_inIce, Cond.instanceMethod yX4_inIce, Cond.selects RX4 yX4_inIce yX4_inIce, Cond.code yX4_inIce cX4_inIce 3 (some .boolean), Cond.fieldLink RX4 20 "BoatLift$Timetable" "told" "I", Cond.fieldLink RX4 9 "BoatLift$Timetable" "iceFrom" "[I", Cond.fieldLink RX4 13 "BoatLift$Timetable" "iceTo" "[I"]
def wsX6_ends_r6 : List Cond := [Cond.methodLink RX2 60 yX2_bestFrom, Cond.instanceMethod yX2_bestFrom, Cond.selects RX2 yX2_bestFrom yX2_bestFrom, Cond.code yX2_bestFrom cX2_bestFrom 10 (some .long), Cond.constantLong RX2 70 (274877906944), Cond.constantLong RX2 72 (1099511627775), Cond.methodLink RX2 80 Lib.MathLoose.min_long.x, Cond.static Lib.MathLoose.min_long.x, Cond.initialized "java/lang/Math", Cond.code Lib.MathLoose.min_long.x Lib.MathLoose.min_long.code 4 (some .long), Cond.methodLink RX2 74 yX2_bestByRiding, Cond.instanceMethod yX2_bestByRiding, Cond.selects RX2 yX2_bestByRiding yX2_bestByRiding, Cond.methodLink RX2 77 yX2_momentOfNextBoat, Cond.instanceMethod yX2_momentOfNextBoat, Cond.selects RX2 yX2_momentOfNextBoat yX2_momentOfNextBoat, Cond.code yX2_momentOfNextBoat cX2_momentOfNextBoat 4 (some .int), Cond.code yX2_bestByRiding cX2_bestByRiding 17 (some .long), Cond.static yX6_otherSide, Cond.code yX6_otherSide cX6_otherSide 1 (some .int), Cond.methodLink RX6 184 yX2_endOf, Cond.static yX2_endOf, Cond.code yX2_endOf cX2_endOf 2 (some .int), Cond.constantLong RX2 28 (65535)]
def wsX6_ends : List Cond := .code yX6_ends cX6_ends 2 (some .int) :: ((wsX6_ends_r1 ++ (wsX6_ends_r2 ++ (wsX6_ends_r3 ++ (wsX6_ends_r4 ++ (wsX6_ends_r5 ++ wsX6_ends_r6))))) ++ wsX60 ++ wsX20 ++ wsJx4a65c0 ++ wsX00 ++ wsX10 ++ wsX50 ++ wsX40)
def wsX6_stock : List Cond := .code yX6_stock cX6_stock 2 (some .long) :: ([.methodLink RX6 93 yX6_isSide, .static yX6_isSide, .initialized RX6, .code yX6_isSide cX6_isSide 1 (some .boolean), .methodLink RX6 97 yX6_waterAt, .instanceMethod yX6_waterAt, .selects RX6 yX6_waterAt yX6_waterAt, .code yX6_waterAt cX6_waterAt 2 (some (.object "BoatLift$Water")), .fieldLink RX6 46 "BoatLift" "lower" "LBoatLift$Water;", .fieldLink RX6 50 "BoatLift" "upper" "LBoatLift$Water;", .methodLink RX6 186 yX5_tonnes, .instanceMethod yX5_tonnes, .selects RX5 yX5_tonnes yX5_tonnes, .initialized RX5, .code yX5_tonnes cX5_tonnes 1 (some .long), .fieldLink RX5 13 "BoatLift$Water" "stock" "J"] ++ wsX60 ++ wsX50)
def wsX6_level : List Cond := .code yX6_level cX6_level 2 (some .int) :: ([.methodLink RX6 93 yX6_isSide, .static yX6_isSide, .initialized RX6, .code yX6_isSide cX6_isSide 1 (some .boolean), .methodLink RX6 97 yX6_waterAt, .instanceMethod yX6_waterAt, .selects RX6 yX6_waterAt yX6_waterAt, .code yX6_waterAt cX6_waterAt 2 (some (.object "BoatLift$Water")), .fieldLink RX6 46 "BoatLift" "lower" "LBoatLift$Water;", .fieldLink RX6 50 "BoatLift" "upper" "LBoatLift$Water;", .methodLink RX6 189 yX5_centimetres, .instanceMethod yX5_centimetres, .selects RX5 yX5_centimetres yX5_centimetres, .initialized RX5, .code yX5_centimetres cX5_centimetres 1 (some .int), .fieldLink RX5 7 "BoatLift$Water" "area" "I", .fieldLink RX5 13 "BoatLift$Water" "stock" "J", .methodLink RX5 17 yJ9_floorDiv_f86c9, .static yJ9_floorDiv_f86c9, .initialized RJ9, .code yJ9_floorDiv_f86c9 cJ9_floorDiv_f86c9 6 (some .long)] ++ wsX60 ++ wsX50)
def wsX6_depth_r1 : List Cond := [Cond.methodLink RX6 93 yX6_isSide, Cond.static yX6_isSide, Cond.initialized RX6, Cond.code yX6_isSide cX6_isSide 1 (some .boolean), Cond.methodLink RX6 97 yX6_waterAt, Cond.instanceMethod yX6_waterAt, Cond.selects RX6 yX6_waterAt yX6_waterAt, Cond.code yX6_waterAt cX6_waterAt 2 (some (.object "BoatLift$Water")), Cond.fieldLink RX6 46 "BoatLift" "lower" "LBoatLift$Water;", Cond.fieldLink RX6 50 "BoatLift" "upper" "LBoatLift$Water;", Cond.methodLink RX6 192 yX5_decimetres, Cond.instanceMethod yX5_decimetres, Cond.selects RX5 yX5_decimetres yX5_decimetres, Cond.initialized RX5, Cond.code yX5_decimetres cX5_decimetres 1 (some .int), Cond.methodLink RX5 23 yX5_centimetres, Cond.instanceMethod yX5_centimetres, Cond.selects RX5 yX5_centimetres yX5_centimetres, Cond.code yX5_centimetres cX5_centimetres 1 (some .int), Cond.fieldLink RX5 7 "BoatLift$Water" "area" "I", Cond.fieldLink RX5 13 "BoatLift$Water" "stock" "J", Cond.methodLink RX5 17 yJ9_floorDiv_f86c9, Cond.static yJ9_floorDiv_f86c9, Cond.initialized RJ9]
def wsX6_depth_r2 : List Cond := [Cond.code yJ9_floorDiv_f86c9 cJ9_floorDiv_f86c9 6 (some .long), Cond.methodLink RX5 27 yJ9_floorDiv_7cf53, Cond.static yJ9_floorDiv_7cf53, Cond.code yJ9_floorDiv_7cf53 cJ9_floorDiv_7cf53 3 (some .int)]
def wsX6_depth : List Cond := .code yX6_depth cX6_depth 2 (some .int) :: ((wsX6_depth_r1 ++ wsX6_depth_r2) ++ wsX60 ++ wsX50)
def wsX6_look_r1 : List Cond := [Cond.fieldLink RX6 56 "BoatLift" "byNumber" "Ljava/util/List;", Cond.classLink RX6 119 "BoatLift$Boat", Cond.fieldLink RX6 195 "BoatLift$Boat" "side" "I", Cond.fieldLink RX6 198 "BoatLift$Boat" "minute" "I", Cond.fieldLink RX6 201 "BoatLift$Boat" "length" "I", Cond.fieldLink RX6 204 "BoatLift$Boat" "draught" "I", Cond.fieldLink RX6 207 "BoatLift$Boat" "weight" "I", Cond.fieldLink RX6 210 "BoatLift$Boat" "rank" "I", Cond.fieldLink RX6 217 "BoatLift$Boat" "began" "I", Cond.methodLink RX6 116 ⟨"java/util/List", "size", "()I"⟩, Cond.selects RJx4a65c ⟨"java/util/List", "size", "()I"⟩ yJx4a65c_size_8abf5, Cond.instanceMethod yJx4a65c_size_8abf5, Cond.initialized RJx4a65c, Cond.code yJx4a65c_size_8abf5 cJx4a65c_size_8abf5 1 (some .int), Cond.fieldLink RJx4a65c 48 "java/util/ArrayList" "size" "I", Cond.methodLink RX6 82 yX6_within, Cond.static yX6_within, Cond.initialized RX6, Cond.code yX6_within cX6_within 3 (some .boolean), Cond.methodLink RX6 138 ⟨"java/util/List", "get", "(I)Ljava/lang/Object;"⟩, Cond.selects RJx4a65c ⟨"java/util/List", "get", "(I)Ljava/lang/Object;"⟩ yJx4a65c_get_915e3, Cond.instanceMethod yJx4a65c_get_915e3, Cond.code yJx4a65c_get_915e3 cJx4a65c_get_915e3 2 (some (.object "java/lang/Object")), Cond.methodLink RJx4a65c 118 yJ15_checkIndex_7cf53]
def wsX6_look_r2 : List Cond := [Cond.static yJ15_checkIndex_7cf53, Cond.initialized RJ15, Cond.code yJ15_checkIndex_7cf53 cJ15_checkIndex_7cf53 2 (some .int), Cond.methodLink RJ15 105 yJ3_checkIndex_8e157, Cond.static yJ3_checkIndex_8e157, Cond.initialized RJ3, Cond.code yJ3_checkIndex_8e157 cJ3_checkIndex_8e157 3 (some .int), Cond.methodLink RJx4a65c 123 yJx4a65c_elementData_915e3, Cond.instanceMethod yJx4a65c_elementData_915e3, Cond.selects RJx4a65c yJx4a65c_elementData_915e3 yJx4a65c_elementData_915e3, Cond.code yJx4a65c_elementData_915e3 cJx4a65c_elementData_915e3 2 (some (.object "java/lang/Object")), Cond.fieldLink RJx4a65c 9 "java/util/ArrayList" "elementData" "[Ljava/lang/Object;", Cond.methodLink RX6 213 yX6_isFit, Cond.instanceMethod yX6_isFit, Cond.selects RX6 yX6_isFit yX6_isFit, Cond.code yX6_isFit cX6_isFit 3 (some .boolean), Cond.fieldLink RX6 21 "BoatLift" "rules" "LBoatLift$Law;", Cond.fieldLink RX6 63 "BoatLift" "troughLength" "I", Cond.fieldLink RX6 46 "BoatLift" "lower" "LBoatLift$Water;", Cond.fieldLink RX6 50 "BoatLift" "upper" "LBoatLift$Water;", Cond.methodLink RX6 158 yX1_number, Cond.instanceMethod yX1_number, Cond.selects RX1 yX1_number yX1_number, Cond.initialized RX1]
def wsX6_look_r3 : List Cond := [Cond.code yX1_number cX1_number 2 (some .int), Cond.fieldLink RX1 20 "BoatLift$Law" "numbers" "[I", Cond.methodLink RX6 192 yX5_decimetres, Cond.instanceMethod yX5_decimetres, Cond.selects RX5 yX5_decimetres yX5_decimetres, Cond.initialized RX5, Cond.code yX5_decimetres cX5_decimetres 1 (some .int), Cond.methodLink RX5 23 yX5_centimetres, Cond.instanceMethod yX5_centimetres, Cond.selects RX5 yX5_centimetres yX5_centimetres, Cond.code yX5_centimetres cX5_centimetres 1 (some .int), Cond.fieldLink RX5 7 "BoatLift$Water" "area" "I", Cond.fieldLink RX5 13 "BoatLift$Water" "stock" "J", Cond.methodLink RX5 17 yJ9_floorDiv_f86c9, Cond.static yJ9_floorDiv_f86c9, Cond.initialized RJ9, Cond.code yJ9_floorDiv_f86c9 cJ9_floorDiv_f86c9 6 (some .long), Cond.methodLink RX5 27 yJ9_floorDiv_7cf53, Cond.static yJ9_floorDiv_7cf53, Cond.code yJ9_floorDiv_7cf53 cJ9_floorDiv_7cf53 3 (some .int), Cond.methodLink RX6 220 yX0_waited, Cond.instanceMethod yX0_waited, Cond.selects RX0 yX0_waited yX0_waited, Cond.initialized RX0]
def wsX6_look_r4 : List Cond := [Cond.code yX0_waited cX0_waited 1 (some .int), Cond.fieldLink RX0 9 "BoatLift$Boat" "began" "I", Cond.fieldLink RX0 21 "BoatLift$Boat" "minute" "I"]
def wsX6_look : List Cond := .code yX6_look cX6_look 4 (some .int) :: ((wsX6_look_r1 ++ (wsX6_look_r2 ++ (wsX6_look_r3 ++ wsX6_look_r4))) ++ wsX60 ++ wsX00 ++ wsJx4a65c0 ++ wsX10 ++ wsX50)
def wsX6_count_r1 : List Cond := [Cond.fieldLink RX6 21 "BoatLift" "rules" "LBoatLift$Law;", Cond.fieldLink RX6 63 "BoatLift" "troughLength" "I", Cond.fieldLink RX6 67 "BoatLift" "troughSide" "I", Cond.fieldLink RX6 149 "BoatLift" "freeFrom" "I", Cond.fieldLink RX6 155 "BoatLift" "sealRides" "I", Cond.fieldLink RX6 170 "BoatLift" "ridesEver" "I", Cond.fieldLink RX6 56 "BoatLift" "byNumber" "Ljava/util/List;", Cond.fieldLink RX6 223 "BoatLift" "carried" "I", Cond.fieldLink RX6 10 "BoatLift" "tape" "LBoatLift$Tape;", Cond.fieldLink RX6 226 "BoatLift" "waitedTogether" "I", Cond.fieldLink RX6 46 "BoatLift" "lower" "LBoatLift$Water;", Cond.fieldLink RX6 50 "BoatLift" "upper" "LBoatLift$Water;", Cond.methodLink RX6 82 yX6_within, Cond.static yX6_within, Cond.initialized RX6, Cond.code yX6_within cX6_within 3 (some .boolean), Cond.methodLink RX6 158 yX1_number, Cond.instanceMethod yX1_number, Cond.selects RX1 yX1_number yX1_number, Cond.initialized RX1, Cond.code yX1_number cX1_number 2 (some .int), Cond.fieldLink RX1 20 "BoatLift$Law" "numbers" "[I", Cond.methodLink RX6 116 ⟨"java/util/List", "size", "()I"⟩, Cond.selects RJx4a65c ⟨"java/util/List", "size", "()I"⟩ yJx4a65c_size_8abf5]
def wsX6_count_r2 : List Cond := [Cond.instanceMethod yJx4a65c_size_8abf5, Cond.initialized RJx4a65c, Cond.code yJx4a65c_size_8abf5 cJx4a65c_size_8abf5 1 (some .int), Cond.fieldLink RJx4a65c 48 "java/util/ArrayList" "size" "I", Cond.methodLink RX6 78 yX3_size, Cond.instanceMethod yX3_size, Cond.selects RX3 yX3_size yX3_size, Cond.initialized RX3, Cond.code yX3_size cX3_size 1 (some .int), Cond.fieldLink RX3 15 "BoatLift$Tape" "size" "I", Cond.methodLink RX6 229 yX5_spread, Cond.instanceMethod yX5_spread, Cond.selects RX5 yX5_spread yX5_spread, Cond.initialized RX5, Cond.code yX5_spread cX5_spread 1 (some .int), Cond.fieldLink RX5 7 "BoatLift$Water" "area" "I"]
def wsX6_count : List Cond := .code yX6_count cX6_count 2 (some .int) :: ((wsX6_count_r1 ++ wsX6_count_r2) ++ wsX60 ++ wsX10 ++ wsJx4a65c0 ++ wsX30 ++ wsX50)
def wsX7_asAtFirst : List Cond := .code yX7_asAtFirst cX7_asAtFirst 1 none :: ([])
def wsX7_init_r1 : List Cond := [Cond.methodLink RX7 1 objectInit, Cond.instanceMethod objectInit, Cond.code objectInit ⟨#[0xb1]⟩ 1 none, Cond.arrayClass .byte, Cond.fieldLink RX7 7 "BoatLiftModel" "tape" "[B", Cond.fieldLink RX7 13 "BoatLiftModel" "length" "I", Cond.arrayClass .int, Cond.fieldLink RX7 17 "BoatLiftModel" "law" "[I", Cond.fieldLink RX7 21 "BoatLiftModel" "read" "[I", Cond.fieldLink RX7 24 "BoatLiftModel" "area" "[I", Cond.arrayClass .long, Cond.fieldLink RX7 27 "BoatLiftModel" "stock" "[J", Cond.fieldLink RX7 31 "BoatLiftModel" "iceFrom" "[I", Cond.fieldLink RX7 34 "BoatLiftModel" "iceTo" "[I", Cond.fieldLink RX7 37 "BoatLiftModel" "at" "[I", Cond.fieldLink RX7 40 "BoatLiftModel" "there" "[I", Cond.fieldLink RX7 43 "BoatLiftModel" "size" "[I", Cond.fieldLink RX7 46 "BoatLiftModel" "draught" "[I", Cond.fieldLink RX7 49 "BoatLiftModel" "weight" "[I", Cond.fieldLink RX7 52 "BoatLiftModel" "rank" "[I", Cond.fieldLink RX7 55 "BoatLiftModel" "began" "[I", Cond.fieldLink RX7 58 "BoatLiftModel" "queue" "[I", Cond.constant RX7 61 (262144), Cond.fieldLink RX7 62 "BoatLiftModel" "slot" "[I"]
def wsX7_init_r2 : List Cond := [Cond.fieldLink RX7 65 "BoatLiftModel" "slotTurn" "[I", Cond.fieldLink RX7 68 "BoatLiftModel" "wayKey" "[I", Cond.fieldLink RX7 71 "BoatLiftModel" "wayWait" "[I", Cond.fieldLink RX7 74 "BoatLiftModel" "next" "[I", Cond.constant RX7 77 (40000), Cond.fieldLink RX7 78 "BoatLiftModel" "head" "[I", Cond.fieldLink RX7 81 "BoatLiftModel" "plan" "[I", Cond.methodLink RX7 84 yX7_asAtFirst, Cond.static yX7_asAtFirst, Cond.initialized RX7, Cond.code yX7_asAtFirst cX7_asAtFirst 1 none]
def wsX7_init : List Cond := .code yX7_init cX7_init 1 none :: ((wsX7_init_r1 ++ wsX7_init_r2) ++ wsX70)
def wsX7_lies : List Cond := .code yX7_lies cX7_lies 3 (some .boolean) :: ([])
def wsX7_push : List Cond := .code yX7_push cX7_push 3 none :: ([.fieldLink RX7 7 "BoatLiftModel" "tape" "[B", .fieldLink RX7 88 "BoatLiftModel" "taped" "I"] ++ wsX70)
def wsX7_feed : List Cond := .code yX7_feed cX7_feed 6 (some .int) :: ([.fieldLink RX7 88 "BoatLiftModel" "taped" "I", .methodLink RX7 91 yX7_push, .instanceMethod yX7_push, .selects RX7 yX7_push yX7_push, .initialized RX7, .code yX7_push cX7_push 3 none, .fieldLink RX7 7 "BoatLiftModel" "tape" "[B"] ++ wsX70)
def wsX7_letter : List Cond := .code yX7_letter cX7_letter 1 (some .int) :: ([])
def wsX7_canBe : List Cond := .code yX7_canBe cX7_canBe 2 (some .boolean) :: ([.methodLink RX7 95 yX7_lies, .static yX7_lies, .initialized RX7, .code yX7_lies cX7_lies 3 (some .boolean)])
def wsX7_byteAt : List Cond := .code yX7_byteAt cX7_byteAt 3 (some .int) :: ([.fieldLink RX7 7 "BoatLiftModel" "tape" "[B"] ++ wsX70)
def wsX7_reads : List Cond := .code yX7_reads cX7_reads 7 (some .int) :: ([.fieldLink RX7 21 "BoatLiftModel" "read" "[I", .methodLink RX7 84 yX7_asAtFirst, .static yX7_asAtFirst, .initialized RX7, .code yX7_asAtFirst cX7_asAtFirst 1 none, .methodLink RX7 99 yX7_byteAt, .instanceMethod yX7_byteAt, .selects RX7 yX7_byteAt yX7_byteAt, .code yX7_byteAt cX7_byteAt 3 (some .int), .fieldLink RX7 7 "BoatLiftModel" "tape" "[B", .methodLink RX7 103 yX7_letter, .static yX7_letter, .code yX7_letter cX7_letter 1 (some .int), .methodLink RX7 95 yX7_lies, .static yX7_lies, .code yX7_lies cX7_lies 3 (some .boolean), .methodLink RX7 107 yX7_canBe, .static yX7_canBe, .code yX7_canBe cX7_canBe 2 (some .boolean)] ++ wsX70)
def wsX7_law_r1 : List Cond := [Cond.fieldLink RX7 88 "BoatLiftModel" "taped" "I", Cond.fieldLink RX7 17 "BoatLiftModel" "law" "[I", Cond.fieldLink RX7 21 "BoatLiftModel" "read" "[I", Cond.methodLink RX7 111 yX7_reads, Cond.instanceMethod yX7_reads, Cond.selects RX7 yX7_reads yX7_reads, Cond.initialized RX7, Cond.code yX7_reads cX7_reads 7 (some .int), Cond.methodLink RX7 84 yX7_asAtFirst, Cond.static yX7_asAtFirst, Cond.code yX7_asAtFirst cX7_asAtFirst 1 none, Cond.methodLink RX7 99 yX7_byteAt, Cond.instanceMethod yX7_byteAt, Cond.selects RX7 yX7_byteAt yX7_byteAt, Cond.code yX7_byteAt cX7_byteAt 3 (some .int), Cond.fieldLink RX7 7 "BoatLiftModel" "tape" "[B", Cond.methodLink RX7 103 yX7_letter, Cond.static yX7_letter, Cond.code yX7_letter cX7_letter 1 (some .int), Cond.methodLink RX7 95 yX7_lies, Cond.static yX7_lies, Cond.code yX7_lies cX7_lies 3 (some .boolean), Cond.methodLink RX7 107 yX7_canBe, Cond.static yX7_canBe]
def wsX7_law_r2 : List Cond := [Cond.code yX7_canBe cX7_canBe 2 (some .boolean)]
def wsX7_law : List Cond := .code yX7_law cX7_law 4 (some .int) :: ((wsX7_law_r1 ++ wsX7_law_r2) ++ wsX70)
def wsX7_trough : List Cond := .code yX7_trough cX7_trough 2 (some .boolean) :: ([.fieldLink RX7 13 "BoatLiftModel" "length" "I", .methodLink RX7 95 yX7_lies, .static yX7_lies, .initialized RX7, .code yX7_lies cX7_lies 3 (some .boolean)] ++ wsX70)
def wsX7_isSide : List Cond := .code yX7_isSide cX7_isSide 1 (some .boolean) :: ([.methodLink RX7 95 yX7_lies, .static yX7_lies, .initialized RX7, .code yX7_lies cX7_lies 3 (some .boolean)])
def wsX7_area : List Cond := .code yX7_area cX7_area 3 (some .boolean) :: ([.fieldLink RX7 24 "BoatLiftModel" "area" "[I", .methodLink RX7 114 yX7_isSide, .static yX7_isSide, .initialized RX7, .code yX7_isSide cX7_isSide 1 (some .boolean), .methodLink RX7 95 yX7_lies, .static yX7_lies, .code yX7_lies cX7_lies 3 (some .boolean)] ++ wsX70)
def wsX7_flow : List Cond := .code yX7_flow cX7_flow 3 (some .boolean) :: ([.constant RX7 118 (-1000000), .constant RX7 119 (1000000), .fieldLink RX7 27 "BoatLiftModel" "stock" "[J", .methodLink RX7 114 yX7_isSide, .static yX7_isSide, .initialized RX7, .code yX7_isSide cX7_isSide 1 (some .boolean), .methodLink RX7 95 yX7_lies, .static yX7_lies, .code yX7_lies cX7_lies 3 (some .boolean)] ++ wsX70)
def wsX7_ice : List Cond := .code yX7_ice cX7_ice 3 (some .boolean) :: ([.fieldLink RX7 120 "BoatLiftModel" "ices" "I", .fieldLink RX7 31 "BoatLiftModel" "iceFrom" "[I", .fieldLink RX7 34 "BoatLiftModel" "iceTo" "[I", .methodLink RX7 95 yX7_lies, .static yX7_lies, .initialized RX7, .code yX7_lies cX7_lies 3 (some .boolean)] ++ wsX70)
def wsX7_isIce : List Cond := .code yX7_isIce cX7_isIce 3 (some .boolean) :: ([.fieldLink RX7 120 "BoatLiftModel" "ices" "I", .fieldLink RX7 31 "BoatLiftModel" "iceFrom" "[I", .fieldLink RX7 34 "BoatLiftModel" "iceTo" "[I"] ++ wsX70)
def wsX7_lasts : List Cond := .code yX7_lasts cX7_lasts 2 (some .int) :: ([.fieldLink RX7 17 "BoatLiftModel" "law" "[I", .methodLink RX7 123 yX7_isIce, .instanceMethod yX7_isIce, .selects RX7 yX7_isIce yX7_isIce, .initialized RX7, .code yX7_isIce cX7_isIce 3 (some .boolean), .fieldLink RX7 120 "BoatLiftModel" "ices" "I", .fieldLink RX7 31 "BoatLiftModel" "iceFrom" "[I", .fieldLink RX7 34 "BoatLiftModel" "iceTo" "[I"] ++ wsX70)
def wsX7_boat : List Cond := .code yX7_boat cX7_boat 7 (some .int) :: ([.fieldLink RX7 126 "BoatLiftModel" "boats" "I", .fieldLink RX7 37 "BoatLiftModel" "at" "[I", .fieldLink RX7 40 "BoatLiftModel" "there" "[I", .fieldLink RX7 43 "BoatLiftModel" "size" "[I", .fieldLink RX7 46 "BoatLiftModel" "draught" "[I", .fieldLink RX7 49 "BoatLiftModel" "weight" "[I", .fieldLink RX7 52 "BoatLiftModel" "rank" "[I", .fieldLink RX7 55 "BoatLiftModel" "began" "[I", .methodLink RX7 114 yX7_isSide, .static yX7_isSide, .initialized RX7, .code yX7_isSide cX7_isSide 1 (some .boolean), .methodLink RX7 95 yX7_lies, .static yX7_lies, .code yX7_lies cX7_lies 3 (some .boolean)] ++ wsX70)
def wsX7_down : List Cond := .code yX7_down cX7_down 4 (some .long) :: ([])
def wsX7_levelOf : List Cond := .code yX7_levelOf cX7_levelOf 2 (some .int) :: ([.fieldLink RX7 27 "BoatLiftModel" "stock" "[J", .fieldLink RX7 24 "BoatLiftModel" "area" "[I", .methodLink RX7 129 yX7_down, .static yX7_down, .initialized RX7, .code yX7_down cX7_down 4 (some .long)] ++ wsX70)
def wsX7_depthOf : List Cond := .code yX7_depthOf cX7_depthOf 2 (some .int) :: ([.constantLong RX7 136 (10), .methodLink RX7 133 yX7_levelOf, .instanceMethod yX7_levelOf, .selects RX7 yX7_levelOf yX7_levelOf, .initialized RX7, .code yX7_levelOf cX7_levelOf 2 (some .int), .fieldLink RX7 27 "BoatLiftModel" "stock" "[J", .fieldLink RX7 24 "BoatLiftModel" "area" "[I", .methodLink RX7 129 yX7_down, .static yX7_down, .code yX7_down cX7_down 4 (some .long)] ++ wsX70)
def wsX7_isFit : List Cond := .code yX7_isFit cX7_isFit 2 (some .boolean) :: ([.fieldLink RX7 43 "BoatLiftModel" "size" "[I", .fieldLink RX7 13 "BoatLiftModel" "length" "I", .fieldLink RX7 46 "BoatLiftModel" "draught" "[I", .fieldLink RX7 17 "BoatLiftModel" "law" "[I", .methodLink RX7 138 yX7_depthOf, .instanceMethod yX7_depthOf, .selects RX7 yX7_depthOf yX7_depthOf, .initialized RX7, .code yX7_depthOf cX7_depthOf 2 (some .int), .constantLong RX7 136 (10), .methodLink RX7 133 yX7_levelOf, .instanceMethod yX7_levelOf, .selects RX7 yX7_levelOf yX7_levelOf, .code yX7_levelOf cX7_levelOf 2 (some .int), .fieldLink RX7 27 "BoatLiftModel" "stock" "[J", .fieldLink RX7 24 "BoatLiftModel" "area" "[I", .methodLink RX7 129 yX7_down, .static yX7_down, .code yX7_down cX7_down 4 (some .long)] ++ wsX70)
def wsX7_isLeft : List Cond := .code yX7_isLeft cX7_isLeft 2 (some .boolean) :: ([.fieldLink RX7 55 "BoatLiftModel" "began" "[I", .methodLink RX7 141 yX7_isFit, .instanceMethod yX7_isFit, .selects RX7 yX7_isFit yX7_isFit, .initialized RX7, .code yX7_isFit cX7_isFit 2 (some .boolean), .fieldLink RX7 43 "BoatLiftModel" "size" "[I", .fieldLink RX7 13 "BoatLiftModel" "length" "I", .fieldLink RX7 46 "BoatLiftModel" "draught" "[I", .fieldLink RX7 17 "BoatLiftModel" "law" "[I", .methodLink RX7 138 yX7_depthOf, .instanceMethod yX7_depthOf, .selects RX7 yX7_depthOf yX7_depthOf, .code yX7_depthOf cX7_depthOf 2 (some .int), .constantLong RX7 136 (10), .methodLink RX7 133 yX7_levelOf, .instanceMethod yX7_levelOf, .selects RX7 yX7_levelOf yX7_levelOf, .code yX7_levelOf cX7_levelOf 2 (some .int), .fieldLink RX7 27 "BoatLiftModel" "stock" "[J", .fieldLink RX7 24 "BoatLiftModel" "area" "[I", .methodLink RX7 129 yX7_down, .static yX7_down, .code yX7_down cX7_down 4 (some .long)] ++ wsX70)
def wsX7_isAhead : List Cond := .code yX7_isAhead cX7_isAhead 3 (some .boolean) :: ([.fieldLink RX7 52 "BoatLiftModel" "rank" "[I", .fieldLink RX7 40 "BoatLiftModel" "there" "[I"] ++ wsX70)
def wsX7_queues_r1 : List Cond := [Cond.fieldLink RX7 144 "BoatLiftModel" "queued" "I", Cond.fieldLink RX7 126 "BoatLiftModel" "boats" "I", Cond.fieldLink RX7 37 "BoatLiftModel" "at" "[I", Cond.fieldLink RX7 40 "BoatLiftModel" "there" "[I", Cond.fieldLink RX7 58 "BoatLiftModel" "queue" "[I", Cond.methodLink RX7 147 yX7_isLeft, Cond.instanceMethod yX7_isLeft, Cond.selects RX7 yX7_isLeft yX7_isLeft, Cond.initialized RX7, Cond.code yX7_isLeft cX7_isLeft 2 (some .boolean), Cond.fieldLink RX7 55 "BoatLiftModel" "began" "[I", Cond.methodLink RX7 141 yX7_isFit, Cond.instanceMethod yX7_isFit, Cond.selects RX7 yX7_isFit yX7_isFit, Cond.code yX7_isFit cX7_isFit 2 (some .boolean), Cond.fieldLink RX7 43 "BoatLiftModel" "size" "[I", Cond.fieldLink RX7 13 "BoatLiftModel" "length" "I", Cond.fieldLink RX7 46 "BoatLiftModel" "draught" "[I", Cond.fieldLink RX7 17 "BoatLiftModel" "law" "[I", Cond.methodLink RX7 138 yX7_depthOf, Cond.instanceMethod yX7_depthOf, Cond.selects RX7 yX7_depthOf yX7_depthOf, Cond.code yX7_depthOf cX7_depthOf 2 (some .int), Cond.constantLong RX7 136 (10)]
def wsX7_queues_r2 : List Cond := [Cond.methodLink RX7 133 yX7_levelOf, Cond.instanceMethod yX7_levelOf, Cond.selects RX7 yX7_levelOf yX7_levelOf, Cond.code yX7_levelOf cX7_levelOf 2 (some .int), Cond.fieldLink RX7 27 "BoatLiftModel" "stock" "[J", Cond.fieldLink RX7 24 "BoatLiftModel" "area" "[I", Cond.methodLink RX7 129 yX7_down, Cond.static yX7_down, Cond.code yX7_down cX7_down 4 (some .long), Cond.methodLink RX7 150 yX7_isAhead, Cond.instanceMethod yX7_isAhead, Cond.selects RX7 yX7_isAhead yX7_isAhead, Cond.code yX7_isAhead cX7_isAhead 3 (some .boolean), Cond.fieldLink RX7 52 "BoatLiftModel" "rank" "[I"]
def wsX7_queues : List Cond := .code yX7_queues cX7_queues 6 none :: ((wsX7_queues_r1 ++ wsX7_queues_r2) ++ wsX70)
def wsX7_fits : List Cond := .code yX7_fits cX7_fits 3 (some .int) :: ([.fieldLink RX7 144 "BoatLiftModel" "queued" "I", .fieldLink RX7 43 "BoatLiftModel" "size" "[I", .fieldLink RX7 58 "BoatLiftModel" "queue" "[I", .fieldLink RX7 13 "BoatLiftModel" "length" "I"] ++ wsX70)
def wsX7_queue_r1 : List Cond := [Cond.fieldLink RX7 144 "BoatLiftModel" "queued" "I", Cond.fieldLink RX7 58 "BoatLiftModel" "queue" "[I", Cond.methodLink RX7 114 yX7_isSide, Cond.static yX7_isSide, Cond.initialized RX7, Cond.code yX7_isSide cX7_isSide 1 (some .boolean), Cond.methodLink RX7 95 yX7_lies, Cond.static yX7_lies, Cond.code yX7_lies cX7_lies 3 (some .boolean), Cond.methodLink RX7 153 yX7_queues, Cond.instanceMethod yX7_queues, Cond.selects RX7 yX7_queues yX7_queues, Cond.code yX7_queues cX7_queues 6 none, Cond.fieldLink RX7 126 "BoatLiftModel" "boats" "I", Cond.fieldLink RX7 37 "BoatLiftModel" "at" "[I", Cond.fieldLink RX7 40 "BoatLiftModel" "there" "[I", Cond.methodLink RX7 147 yX7_isLeft, Cond.instanceMethod yX7_isLeft, Cond.selects RX7 yX7_isLeft yX7_isLeft, Cond.code yX7_isLeft cX7_isLeft 2 (some .boolean), Cond.fieldLink RX7 55 "BoatLiftModel" "began" "[I", Cond.methodLink RX7 141 yX7_isFit, Cond.instanceMethod yX7_isFit, Cond.selects RX7 yX7_isFit yX7_isFit]
def wsX7_queue_r2 : List Cond := [Cond.code yX7_isFit cX7_isFit 2 (some .boolean), Cond.fieldLink RX7 43 "BoatLiftModel" "size" "[I", Cond.fieldLink RX7 13 "BoatLiftModel" "length" "I", Cond.fieldLink RX7 46 "BoatLiftModel" "draught" "[I", Cond.fieldLink RX7 17 "BoatLiftModel" "law" "[I", Cond.methodLink RX7 138 yX7_depthOf, Cond.instanceMethod yX7_depthOf, Cond.selects RX7 yX7_depthOf yX7_depthOf, Cond.code yX7_depthOf cX7_depthOf 2 (some .int), Cond.constantLong RX7 136 (10), Cond.methodLink RX7 133 yX7_levelOf, Cond.instanceMethod yX7_levelOf, Cond.selects RX7 yX7_levelOf yX7_levelOf, Cond.code yX7_levelOf cX7_levelOf 2 (some .int), Cond.fieldLink RX7 27 "BoatLiftModel" "stock" "[J", Cond.fieldLink RX7 24 "BoatLiftModel" "area" "[I", Cond.methodLink RX7 129 yX7_down, Cond.static yX7_down, Cond.code yX7_down cX7_down 4 (some .long), Cond.methodLink RX7 150 yX7_isAhead, Cond.instanceMethod yX7_isAhead, Cond.selects RX7 yX7_isAhead yX7_isAhead, Cond.code yX7_isAhead cX7_isAhead 3 (some .boolean), Cond.fieldLink RX7 52 "BoatLiftModel" "rank" "[I"]
def wsX7_queue : List Cond := .code yX7_queue cX7_queue 4 (some .int) :: ((wsX7_queue_r1 ++ wsX7_queue_r2) ++ wsX70)
def wsX7_fitting_r1 : List Cond := [Cond.fieldLink RX7 157 "BoatLiftModel" "side" "I", Cond.methodLink RX7 95 yX7_lies, Cond.static yX7_lies, Cond.initialized RX7, Cond.code yX7_lies cX7_lies 3 (some .boolean), Cond.methodLink RX7 153 yX7_queues, Cond.instanceMethod yX7_queues, Cond.selects RX7 yX7_queues yX7_queues, Cond.code yX7_queues cX7_queues 6 none, Cond.fieldLink RX7 144 "BoatLiftModel" "queued" "I", Cond.fieldLink RX7 126 "BoatLiftModel" "boats" "I", Cond.fieldLink RX7 37 "BoatLiftModel" "at" "[I", Cond.fieldLink RX7 40 "BoatLiftModel" "there" "[I", Cond.fieldLink RX7 58 "BoatLiftModel" "queue" "[I", Cond.methodLink RX7 147 yX7_isLeft, Cond.instanceMethod yX7_isLeft, Cond.selects RX7 yX7_isLeft yX7_isLeft, Cond.code yX7_isLeft cX7_isLeft 2 (some .boolean), Cond.fieldLink RX7 55 "BoatLiftModel" "began" "[I", Cond.methodLink RX7 141 yX7_isFit, Cond.instanceMethod yX7_isFit, Cond.selects RX7 yX7_isFit yX7_isFit, Cond.code yX7_isFit cX7_isFit 2 (some .boolean), Cond.fieldLink RX7 43 "BoatLiftModel" "size" "[I"]
def wsX7_fitting_r2 : List Cond := [Cond.fieldLink RX7 13 "BoatLiftModel" "length" "I", Cond.fieldLink RX7 46 "BoatLiftModel" "draught" "[I", Cond.fieldLink RX7 17 "BoatLiftModel" "law" "[I", Cond.methodLink RX7 138 yX7_depthOf, Cond.instanceMethod yX7_depthOf, Cond.selects RX7 yX7_depthOf yX7_depthOf, Cond.code yX7_depthOf cX7_depthOf 2 (some .int), Cond.constantLong RX7 136 (10), Cond.methodLink RX7 133 yX7_levelOf, Cond.instanceMethod yX7_levelOf, Cond.selects RX7 yX7_levelOf yX7_levelOf, Cond.code yX7_levelOf cX7_levelOf 2 (some .int), Cond.fieldLink RX7 27 "BoatLiftModel" "stock" "[J", Cond.fieldLink RX7 24 "BoatLiftModel" "area" "[I", Cond.methodLink RX7 129 yX7_down, Cond.static yX7_down, Cond.code yX7_down cX7_down 4 (some .long), Cond.methodLink RX7 150 yX7_isAhead, Cond.instanceMethod yX7_isAhead, Cond.selects RX7 yX7_isAhead yX7_isAhead, Cond.code yX7_isAhead cX7_isAhead 3 (some .boolean), Cond.fieldLink RX7 52 "BoatLiftModel" "rank" "[I", Cond.methodLink RX7 160 yX7_fits, Cond.instanceMethod yX7_fits]
def wsX7_fitting_r3 : List Cond := [Cond.selects RX7 yX7_fits yX7_fits, Cond.code yX7_fits cX7_fits 3 (some .int)]
def wsX7_fitting : List Cond := .code yX7_fitting cX7_fitting 2 (some .int) :: ((wsX7_fitting_r1 ++ (wsX7_fitting_r2 ++ wsX7_fitting_r3)) ++ wsX70)
def wsX7_ride_r1 : List Cond := [Cond.fieldLink RX7 164 "BoatLiftModel" "free" "I", Cond.fieldLink RX7 167 "BoatLiftModel" "rides" "I", Cond.fieldLink RX7 17 "BoatLiftModel" "law" "[I", Cond.fieldLink RX7 157 "BoatLiftModel" "side" "I", Cond.fieldLink RX7 49 "BoatLiftModel" "weight" "[I", Cond.fieldLink RX7 58 "BoatLiftModel" "queue" "[I", Cond.fieldLink RX7 55 "BoatLiftModel" "began" "[I", Cond.fieldLink RX7 27 "BoatLiftModel" "stock" "[J", Cond.fieldLink RX7 173 "BoatLiftModel" "allRides" "I", Cond.methodLink RX7 95 yX7_lies, Cond.static yX7_lies, Cond.initialized RX7, Cond.code yX7_lies cX7_lies 3 (some .boolean), Cond.methodLink RX7 170 yX7_lasts, Cond.instanceMethod yX7_lasts, Cond.selects RX7 yX7_lasts yX7_lasts, Cond.code yX7_lasts cX7_lasts 2 (some .int), Cond.methodLink RX7 123 yX7_isIce, Cond.instanceMethod yX7_isIce, Cond.selects RX7 yX7_isIce yX7_isIce, Cond.code yX7_isIce cX7_isIce 3 (some .boolean), Cond.fieldLink RX7 120 "BoatLiftModel" "ices" "I", Cond.fieldLink RX7 31 "BoatLiftModel" "iceFrom" "[I", Cond.fieldLink RX7 34 "BoatLiftModel" "iceTo" "[I"]
def wsX7_ride_r2 : List Cond := [Cond.methodLink RX7 153 yX7_queues, Cond.instanceMethod yX7_queues, Cond.selects RX7 yX7_queues yX7_queues, Cond.code yX7_queues cX7_queues 6 none, Cond.fieldLink RX7 144 "BoatLiftModel" "queued" "I", Cond.fieldLink RX7 126 "BoatLiftModel" "boats" "I", Cond.fieldLink RX7 37 "BoatLiftModel" "at" "[I", Cond.fieldLink RX7 40 "BoatLiftModel" "there" "[I", Cond.methodLink RX7 147 yX7_isLeft, Cond.instanceMethod yX7_isLeft, Cond.selects RX7 yX7_isLeft yX7_isLeft, Cond.code yX7_isLeft cX7_isLeft 2 (some .boolean), Cond.methodLink RX7 141 yX7_isFit, Cond.instanceMethod yX7_isFit, Cond.selects RX7 yX7_isFit yX7_isFit, Cond.code yX7_isFit cX7_isFit 2 (some .boolean), Cond.fieldLink RX7 43 "BoatLiftModel" "size" "[I", Cond.fieldLink RX7 13 "BoatLiftModel" "length" "I", Cond.fieldLink RX7 46 "BoatLiftModel" "draught" "[I", Cond.methodLink RX7 138 yX7_depthOf, Cond.instanceMethod yX7_depthOf, Cond.selects RX7 yX7_depthOf yX7_depthOf, Cond.code yX7_depthOf cX7_depthOf 2 (some .int), Cond.constantLong RX7 136 (10)]
def wsX7_ride_r3 : List Cond := [Cond.methodLink RX7 133 yX7_levelOf, Cond.instanceMethod yX7_levelOf, Cond.selects RX7 yX7_levelOf yX7_levelOf, Cond.code yX7_levelOf cX7_levelOf 2 (some .int), Cond.fieldLink RX7 24 "BoatLiftModel" "area" "[I", Cond.methodLink RX7 129 yX7_down, Cond.static yX7_down, Cond.code yX7_down cX7_down 4 (some .long), Cond.methodLink RX7 150 yX7_isAhead, Cond.instanceMethod yX7_isAhead, Cond.selects RX7 yX7_isAhead yX7_isAhead, Cond.code yX7_isAhead cX7_isAhead 3 (some .boolean), Cond.fieldLink RX7 52 "BoatLiftModel" "rank" "[I", Cond.methodLink RX7 160 yX7_fits, Cond.instanceMethod yX7_fits, Cond.selects RX7 yX7_fits yX7_fits, Cond.code yX7_fits cX7_fits 3 (some .int)]
def wsX7_ride : List Cond := .code yX7_ride cX7_ride 6 (some .int) :: ((wsX7_ride_r1 ++ (wsX7_ride_r2 ++ wsX7_ride_r3)) ++ wsX70)
def wsX7_renew : List Cond := .code yX7_renew cX7_renew 2 (some .int) :: ([.fieldLink RX7 164 "BoatLiftModel" "free" "I", .fieldLink RX7 17 "BoatLiftModel" "law" "[I", .fieldLink RX7 167 "BoatLiftModel" "rides" "I", .methodLink RX7 95 yX7_lies, .static yX7_lies, .initialized RX7, .code yX7_lies cX7_lies 3 (some .boolean)] ++ wsX70)
def wsX7_boatsOf : List Cond := .code yX7_boatsOf cX7_boatsOf 4 (some .int) :: ([.fieldLink RX7 176 "BoatLiftModel" "left" "I", .fieldLink RX7 81 "BoatLiftModel" "plan" "[I"] ++ wsX70)
def wsX7_keeps : List Cond := .code yX7_keeps cX7_keeps 9 none :: ([.constant RX7 179 (262143), .fieldLink RX7 65 "BoatLiftModel" "slotTurn" "[I", .fieldLink RX7 180 "BoatLiftModel" "turn" "I", .fieldLink RX7 68 "BoatLiftModel" "wayKey" "[I", .fieldLink RX7 62 "BoatLiftModel" "slot" "[I", .fieldLink RX7 71 "BoatLiftModel" "wayWait" "[I", .fieldLink RX7 183 "BoatLiftModel" "ways" "I", .fieldLink RX7 74 "BoatLiftModel" "next" "[I", .fieldLink RX7 78 "BoatLiftModel" "head" "[I"] ++ wsX70)
def wsX7_numberOf : List Cond := .code yX7_numberOf cX7_numberOf 3 (some .int) :: ([.fieldLink RX7 81 "BoatLiftModel" "plan" "[I"] ++ wsX70)
def wsX7_begins_r1 : List Cond := [Cond.fieldLink RX7 58 "BoatLiftModel" "queue" "[I", Cond.fieldLink RX7 40 "BoatLiftModel" "there" "[I", Cond.methodLink RX7 186 yX7_boatsOf, Cond.instanceMethod yX7_boatsOf, Cond.selects RX7 yX7_boatsOf yX7_boatsOf, Cond.initialized RX7, Cond.code yX7_boatsOf cX7_boatsOf 4 (some .int), Cond.fieldLink RX7 176 "BoatLiftModel" "left" "I", Cond.fieldLink RX7 81 "BoatLiftModel" "plan" "[I", Cond.methodLink RX7 153 yX7_queues, Cond.instanceMethod yX7_queues, Cond.selects RX7 yX7_queues yX7_queues, Cond.code yX7_queues cX7_queues 6 none, Cond.fieldLink RX7 144 "BoatLiftModel" "queued" "I", Cond.fieldLink RX7 126 "BoatLiftModel" "boats" "I", Cond.fieldLink RX7 37 "BoatLiftModel" "at" "[I", Cond.methodLink RX7 147 yX7_isLeft, Cond.instanceMethod yX7_isLeft, Cond.selects RX7 yX7_isLeft yX7_isLeft, Cond.code yX7_isLeft cX7_isLeft 2 (some .boolean), Cond.fieldLink RX7 55 "BoatLiftModel" "began" "[I", Cond.methodLink RX7 141 yX7_isFit, Cond.instanceMethod yX7_isFit, Cond.selects RX7 yX7_isFit yX7_isFit]
def wsX7_begins_r2 : List Cond := [Cond.code yX7_isFit cX7_isFit 2 (some .boolean), Cond.fieldLink RX7 43 "BoatLiftModel" "size" "[I", Cond.fieldLink RX7 13 "BoatLiftModel" "length" "I", Cond.fieldLink RX7 46 "BoatLiftModel" "draught" "[I", Cond.fieldLink RX7 17 "BoatLiftModel" "law" "[I", Cond.methodLink RX7 138 yX7_depthOf, Cond.instanceMethod yX7_depthOf, Cond.selects RX7 yX7_depthOf yX7_depthOf, Cond.code yX7_depthOf cX7_depthOf 2 (some .int), Cond.constantLong RX7 136 (10), Cond.methodLink RX7 133 yX7_levelOf, Cond.instanceMethod yX7_levelOf, Cond.selects RX7 yX7_levelOf yX7_levelOf, Cond.code yX7_levelOf cX7_levelOf 2 (some .int), Cond.fieldLink RX7 27 "BoatLiftModel" "stock" "[J", Cond.fieldLink RX7 24 "BoatLiftModel" "area" "[I", Cond.methodLink RX7 129 yX7_down, Cond.static yX7_down, Cond.code yX7_down cX7_down 4 (some .long), Cond.methodLink RX7 150 yX7_isAhead, Cond.instanceMethod yX7_isAhead, Cond.selects RX7 yX7_isAhead yX7_isAhead, Cond.code yX7_isAhead cX7_isAhead 3 (some .boolean), Cond.fieldLink RX7 52 "BoatLiftModel" "rank" "[I"]
def wsX7_begins_r3 : List Cond := [Cond.methodLink RX7 160 yX7_fits, Cond.instanceMethod yX7_fits, Cond.selects RX7 yX7_fits yX7_fits, Cond.code yX7_fits cX7_fits 3 (some .int), Cond.methodLink RX7 189 yX7_numberOf, Cond.instanceMethod yX7_numberOf, Cond.selects RX7 yX7_numberOf yX7_numberOf, Cond.code yX7_numberOf cX7_numberOf 3 (some .int), Cond.methodLink RX7 170 yX7_lasts, Cond.instanceMethod yX7_lasts, Cond.selects RX7 yX7_lasts yX7_lasts, Cond.code yX7_lasts cX7_lasts 2 (some .int), Cond.methodLink RX7 123 yX7_isIce, Cond.instanceMethod yX7_isIce, Cond.selects RX7 yX7_isIce yX7_isIce, Cond.code yX7_isIce cX7_isIce 3 (some .boolean), Cond.fieldLink RX7 120 "BoatLiftModel" "ices" "I", Cond.fieldLink RX7 31 "BoatLiftModel" "iceFrom" "[I", Cond.fieldLink RX7 34 "BoatLiftModel" "iceTo" "[I", Cond.methodLink RX7 192 yX7_keeps, Cond.instanceMethod yX7_keeps, Cond.selects RX7 yX7_keeps yX7_keeps, Cond.code yX7_keeps cX7_keeps 9 none, Cond.constant RX7 179 (262143)]
def wsX7_begins_r4 : List Cond := [Cond.fieldLink RX7 65 "BoatLiftModel" "slotTurn" "[I", Cond.fieldLink RX7 180 "BoatLiftModel" "turn" "I", Cond.fieldLink RX7 68 "BoatLiftModel" "wayKey" "[I", Cond.fieldLink RX7 62 "BoatLiftModel" "slot" "[I", Cond.fieldLink RX7 71 "BoatLiftModel" "wayWait" "[I", Cond.fieldLink RX7 183 "BoatLiftModel" "ways" "I", Cond.fieldLink RX7 74 "BoatLiftModel" "next" "[I", Cond.fieldLink RX7 78 "BoatLiftModel" "head" "[I"]
def wsX7_begins : List Cond := .code yX7_begins cX7_begins 10 none :: ((wsX7_begins_r1 ++ (wsX7_begins_r2 ++ (wsX7_begins_r3 ++ wsX7_begins_r4))) ++ wsX70)
def wsX7_isTooMany_r1 : List Cond := [Cond.fieldLink RX7 176 "BoatLiftModel" "left" "I", Cond.fieldLink RX7 126 "BoatLiftModel" "boats" "I", Cond.fieldLink RX7 81 "BoatLiftModel" "plan" "[I", Cond.methodLink RX7 147 yX7_isLeft, Cond.instanceMethod yX7_isLeft, Cond.selects RX7 yX7_isLeft yX7_isLeft, Cond.initialized RX7, Cond.code yX7_isLeft cX7_isLeft 2 (some .boolean), Cond.fieldLink RX7 55 "BoatLiftModel" "began" "[I", Cond.methodLink RX7 141 yX7_isFit, Cond.instanceMethod yX7_isFit, Cond.selects RX7 yX7_isFit yX7_isFit, Cond.code yX7_isFit cX7_isFit 2 (some .boolean), Cond.fieldLink RX7 43 "BoatLiftModel" "size" "[I", Cond.fieldLink RX7 13 "BoatLiftModel" "length" "I", Cond.fieldLink RX7 46 "BoatLiftModel" "draught" "[I", Cond.fieldLink RX7 17 "BoatLiftModel" "law" "[I", Cond.methodLink RX7 138 yX7_depthOf, Cond.instanceMethod yX7_depthOf, Cond.selects RX7 yX7_depthOf yX7_depthOf, Cond.code yX7_depthOf cX7_depthOf 2 (some .int), Cond.constantLong RX7 136 (10), Cond.methodLink RX7 133 yX7_levelOf, Cond.instanceMethod yX7_levelOf]
def wsX7_isTooMany_r2 : List Cond := [Cond.selects RX7 yX7_levelOf yX7_levelOf, Cond.code yX7_levelOf cX7_levelOf 2 (some .int), Cond.fieldLink RX7 27 "BoatLiftModel" "stock" "[J", Cond.fieldLink RX7 24 "BoatLiftModel" "area" "[I", Cond.methodLink RX7 129 yX7_down, Cond.static yX7_down, Cond.code yX7_down cX7_down 4 (some .long)]
def wsX7_isTooMany : List Cond := .code yX7_isTooMany cX7_isTooMany 2 (some .boolean) :: ((wsX7_isTooMany_r1 ++ wsX7_isTooMany_r2) ++ wsX70)
def wsX7_goesOn_r1 : List Cond := [Cond.fieldLink RX7 68 "BoatLiftModel" "wayKey" "[I", Cond.fieldLink RX7 176 "BoatLiftModel" "left" "I", Cond.fieldLink RX7 196 "BoatLiftModel" "leastWait" "I", Cond.fieldLink RX7 71 "BoatLiftModel" "wayWait" "[I", Cond.fieldLink RX7 199 "BoatLiftModel" "firstEnd" "I", Cond.fieldLink RX7 40 "BoatLiftModel" "there" "[I", Cond.fieldLink RX7 81 "BoatLiftModel" "plan" "[I", Cond.methodLink RX7 202 yX7_begins, Cond.instanceMethod yX7_begins, Cond.selects RX7 yX7_begins yX7_begins, Cond.initialized RX7, Cond.code yX7_begins cX7_begins 10 none, Cond.fieldLink RX7 58 "BoatLiftModel" "queue" "[I", Cond.methodLink RX7 186 yX7_boatsOf, Cond.instanceMethod yX7_boatsOf, Cond.selects RX7 yX7_boatsOf yX7_boatsOf, Cond.code yX7_boatsOf cX7_boatsOf 4 (some .int), Cond.methodLink RX7 153 yX7_queues, Cond.instanceMethod yX7_queues, Cond.selects RX7 yX7_queues yX7_queues, Cond.code yX7_queues cX7_queues 6 none, Cond.fieldLink RX7 144 "BoatLiftModel" "queued" "I", Cond.fieldLink RX7 126 "BoatLiftModel" "boats" "I", Cond.fieldLink RX7 37 "BoatLiftModel" "at" "[I"]
def wsX7_goesOn_r2 : List Cond := [Cond.methodLink RX7 147 yX7_isLeft, Cond.instanceMethod yX7_isLeft, Cond.selects RX7 yX7_isLeft yX7_isLeft, Cond.code yX7_isLeft cX7_isLeft 2 (some .boolean), Cond.fieldLink RX7 55 "BoatLiftModel" "began" "[I", Cond.methodLink RX7 141 yX7_isFit, Cond.instanceMethod yX7_isFit, Cond.selects RX7 yX7_isFit yX7_isFit, Cond.code yX7_isFit cX7_isFit 2 (some .boolean), Cond.fieldLink RX7 43 "BoatLiftModel" "size" "[I", Cond.fieldLink RX7 13 "BoatLiftModel" "length" "I", Cond.fieldLink RX7 46 "BoatLiftModel" "draught" "[I", Cond.fieldLink RX7 17 "BoatLiftModel" "law" "[I", Cond.methodLink RX7 138 yX7_depthOf, Cond.instanceMethod yX7_depthOf, Cond.selects RX7 yX7_depthOf yX7_depthOf, Cond.code yX7_depthOf cX7_depthOf 2 (some .int), Cond.constantLong RX7 136 (10), Cond.methodLink RX7 133 yX7_levelOf, Cond.instanceMethod yX7_levelOf, Cond.selects RX7 yX7_levelOf yX7_levelOf, Cond.code yX7_levelOf cX7_levelOf 2 (some .int), Cond.fieldLink RX7 27 "BoatLiftModel" "stock" "[J", Cond.fieldLink RX7 24 "BoatLiftModel" "area" "[I"]
def wsX7_goesOn_r3 : List Cond := [Cond.methodLink RX7 129 yX7_down, Cond.static yX7_down, Cond.code yX7_down cX7_down 4 (some .long), Cond.methodLink RX7 150 yX7_isAhead, Cond.instanceMethod yX7_isAhead, Cond.selects RX7 yX7_isAhead yX7_isAhead, Cond.code yX7_isAhead cX7_isAhead 3 (some .boolean), Cond.fieldLink RX7 52 "BoatLiftModel" "rank" "[I", Cond.methodLink RX7 160 yX7_fits, Cond.instanceMethod yX7_fits, Cond.selects RX7 yX7_fits yX7_fits, Cond.code yX7_fits cX7_fits 3 (some .int), Cond.methodLink RX7 189 yX7_numberOf, Cond.instanceMethod yX7_numberOf, Cond.selects RX7 yX7_numberOf yX7_numberOf, Cond.code yX7_numberOf cX7_numberOf 3 (some .int), Cond.methodLink RX7 170 yX7_lasts, Cond.instanceMethod yX7_lasts, Cond.selects RX7 yX7_lasts yX7_lasts, Cond.code yX7_lasts cX7_lasts 2 (some .int), Cond.methodLink RX7 123 yX7_isIce, Cond.instanceMethod yX7_isIce, Cond.selects RX7 yX7_isIce yX7_isIce, Cond.code yX7_isIce cX7_isIce 3 (some .boolean)]
def wsX7_goesOn_r4 : List Cond := [Cond.fieldLink RX7 120 "BoatLiftModel" "ices" "I", Cond.fieldLink RX7 31 "BoatLiftModel" "iceFrom" "[I", Cond.fieldLink RX7 34 "BoatLiftModel" "iceTo" "[I", Cond.methodLink RX7 192 yX7_keeps, Cond.instanceMethod yX7_keeps, Cond.selects RX7 yX7_keeps yX7_keeps, Cond.code yX7_keeps cX7_keeps 9 none, Cond.constant RX7 179 (262143), Cond.fieldLink RX7 65 "BoatLiftModel" "slotTurn" "[I", Cond.fieldLink RX7 180 "BoatLiftModel" "turn" "I", Cond.fieldLink RX7 62 "BoatLiftModel" "slot" "[I", Cond.fieldLink RX7 183 "BoatLiftModel" "ways" "I", Cond.fieldLink RX7 74 "BoatLiftModel" "next" "[I", Cond.fieldLink RX7 78 "BoatLiftModel" "head" "[I"]
def wsX7_goesOn : List Cond := .code yX7_goesOn cX7_goesOn 9 none :: ((wsX7_goesOn_r1 ++ (wsX7_goesOn_r2 ++ (wsX7_goesOn_r3 ++ wsX7_goesOn_r4))) ++ wsX70)
def wsX7_works_r1 : List Cond := [Cond.fieldLink RX7 180 "BoatLiftModel" "turn" "I", Cond.fieldLink RX7 183 "BoatLiftModel" "ways" "I", Cond.fieldLink RX7 196 "BoatLiftModel" "leastWait" "I", Cond.fieldLink RX7 199 "BoatLiftModel" "firstEnd" "I", Cond.constant RX7 77 (40000), Cond.fieldLink RX7 78 "BoatLiftModel" "head" "[I", Cond.fieldLink RX7 164 "BoatLiftModel" "free" "I", Cond.fieldLink RX7 157 "BoatLiftModel" "side" "I", Cond.fieldLink RX7 74 "BoatLiftModel" "next" "[I", Cond.methodLink RX7 192 yX7_keeps, Cond.instanceMethod yX7_keeps, Cond.selects RX7 yX7_keeps yX7_keeps, Cond.initialized RX7, Cond.code yX7_keeps cX7_keeps 9 none, Cond.constant RX7 179 (262143), Cond.fieldLink RX7 65 "BoatLiftModel" "slotTurn" "[I", Cond.fieldLink RX7 68 "BoatLiftModel" "wayKey" "[I", Cond.fieldLink RX7 62 "BoatLiftModel" "slot" "[I", Cond.fieldLink RX7 71 "BoatLiftModel" "wayWait" "[I", Cond.methodLink RX7 205 yX7_goesOn, Cond.instanceMethod yX7_goesOn, Cond.selects RX7 yX7_goesOn yX7_goesOn, Cond.code yX7_goesOn cX7_goesOn 9 none, Cond.fieldLink RX7 176 "BoatLiftModel" "left" "I"]
def wsX7_works_r2 : List Cond := [Cond.fieldLink RX7 40 "BoatLiftModel" "there" "[I", Cond.fieldLink RX7 81 "BoatLiftModel" "plan" "[I", Cond.methodLink RX7 202 yX7_begins, Cond.instanceMethod yX7_begins, Cond.selects RX7 yX7_begins yX7_begins, Cond.code yX7_begins cX7_begins 10 none, Cond.fieldLink RX7 58 "BoatLiftModel" "queue" "[I", Cond.methodLink RX7 186 yX7_boatsOf, Cond.instanceMethod yX7_boatsOf, Cond.selects RX7 yX7_boatsOf yX7_boatsOf, Cond.code yX7_boatsOf cX7_boatsOf 4 (some .int), Cond.methodLink RX7 153 yX7_queues, Cond.instanceMethod yX7_queues, Cond.selects RX7 yX7_queues yX7_queues, Cond.code yX7_queues cX7_queues 6 none, Cond.fieldLink RX7 144 "BoatLiftModel" "queued" "I", Cond.fieldLink RX7 126 "BoatLiftModel" "boats" "I", Cond.fieldLink RX7 37 "BoatLiftModel" "at" "[I", Cond.methodLink RX7 147 yX7_isLeft, Cond.instanceMethod yX7_isLeft, Cond.selects RX7 yX7_isLeft yX7_isLeft, Cond.code yX7_isLeft cX7_isLeft 2 (some .boolean), Cond.fieldLink RX7 55 "BoatLiftModel" "began" "[I", Cond.methodLink RX7 141 yX7_isFit]
def wsX7_works_r3 : List Cond := [Cond.instanceMethod yX7_isFit, Cond.selects RX7 yX7_isFit yX7_isFit, Cond.code yX7_isFit cX7_isFit 2 (some .boolean), Cond.fieldLink RX7 43 "BoatLiftModel" "size" "[I", Cond.fieldLink RX7 13 "BoatLiftModel" "length" "I", Cond.fieldLink RX7 46 "BoatLiftModel" "draught" "[I", Cond.fieldLink RX7 17 "BoatLiftModel" "law" "[I", Cond.methodLink RX7 138 yX7_depthOf, Cond.instanceMethod yX7_depthOf, Cond.selects RX7 yX7_depthOf yX7_depthOf, Cond.code yX7_depthOf cX7_depthOf 2 (some .int), Cond.constantLong RX7 136 (10), Cond.methodLink RX7 133 yX7_levelOf, Cond.instanceMethod yX7_levelOf, Cond.selects RX7 yX7_levelOf yX7_levelOf, Cond.code yX7_levelOf cX7_levelOf 2 (some .int), Cond.fieldLink RX7 27 "BoatLiftModel" "stock" "[J", Cond.fieldLink RX7 24 "BoatLiftModel" "area" "[I", Cond.methodLink RX7 129 yX7_down, Cond.static yX7_down, Cond.code yX7_down cX7_down 4 (some .long), Cond.methodLink RX7 150 yX7_isAhead, Cond.instanceMethod yX7_isAhead, Cond.selects RX7 yX7_isAhead yX7_isAhead]
def wsX7_works_r4 : List Cond := [Cond.code yX7_isAhead cX7_isAhead 3 (some .boolean), Cond.fieldLink RX7 52 "BoatLiftModel" "rank" "[I", Cond.methodLink RX7 160 yX7_fits, Cond.instanceMethod yX7_fits, Cond.selects RX7 yX7_fits yX7_fits, Cond.code yX7_fits cX7_fits 3 (some .int), Cond.methodLink RX7 189 yX7_numberOf, Cond.instanceMethod yX7_numberOf, Cond.selects RX7 yX7_numberOf yX7_numberOf, Cond.code yX7_numberOf cX7_numberOf 3 (some .int), Cond.methodLink RX7 170 yX7_lasts, Cond.instanceMethod yX7_lasts, Cond.selects RX7 yX7_lasts yX7_lasts, Cond.code yX7_lasts cX7_lasts 2 (some .int), Cond.methodLink RX7 123 yX7_isIce, Cond.instanceMethod yX7_isIce, Cond.selects RX7 yX7_isIce yX7_isIce, Cond.code yX7_isIce cX7_isIce 3 (some .boolean), Cond.fieldLink RX7 120 "BoatLiftModel" "ices" "I", Cond.fieldLink RX7 31 "BoatLiftModel" "iceFrom" "[I", Cond.fieldLink RX7 34 "BoatLiftModel" "iceTo" "[I"]
def wsX7_works : List Cond := .code yX7_works cX7_works 3 none :: ((wsX7_works_r1 ++ (wsX7_works_r2 ++ (wsX7_works_r3 ++ wsX7_works_r4))) ++ wsX70)
def wsX7_plan_r1 : List Cond := [Cond.fieldLink RX7 196 "BoatLiftModel" "leastWait" "I", Cond.methodLink RX7 209 yX7_isTooMany, Cond.instanceMethod yX7_isTooMany, Cond.selects RX7 yX7_isTooMany yX7_isTooMany, Cond.initialized RX7, Cond.code yX7_isTooMany cX7_isTooMany 2 (some .boolean), Cond.fieldLink RX7 176 "BoatLiftModel" "left" "I", Cond.fieldLink RX7 126 "BoatLiftModel" "boats" "I", Cond.fieldLink RX7 81 "BoatLiftModel" "plan" "[I", Cond.methodLink RX7 147 yX7_isLeft, Cond.instanceMethod yX7_isLeft, Cond.selects RX7 yX7_isLeft yX7_isLeft, Cond.code yX7_isLeft cX7_isLeft 2 (some .boolean), Cond.fieldLink RX7 55 "BoatLiftModel" "began" "[I", Cond.methodLink RX7 141 yX7_isFit, Cond.instanceMethod yX7_isFit, Cond.selects RX7 yX7_isFit yX7_isFit, Cond.code yX7_isFit cX7_isFit 2 (some .boolean), Cond.fieldLink RX7 43 "BoatLiftModel" "size" "[I", Cond.fieldLink RX7 13 "BoatLiftModel" "length" "I", Cond.fieldLink RX7 46 "BoatLiftModel" "draught" "[I", Cond.fieldLink RX7 17 "BoatLiftModel" "law" "[I", Cond.methodLink RX7 138 yX7_depthOf, Cond.instanceMethod yX7_depthOf]
def wsX7_plan_r2 : List Cond := [Cond.selects RX7 yX7_depthOf yX7_depthOf, Cond.code yX7_depthOf cX7_depthOf 2 (some .int), Cond.constantLong RX7 136 (10), Cond.methodLink RX7 133 yX7_levelOf, Cond.instanceMethod yX7_levelOf, Cond.selects RX7 yX7_levelOf yX7_levelOf, Cond.code yX7_levelOf cX7_levelOf 2 (some .int), Cond.fieldLink RX7 27 "BoatLiftModel" "stock" "[J", Cond.fieldLink RX7 24 "BoatLiftModel" "area" "[I", Cond.methodLink RX7 129 yX7_down, Cond.static yX7_down, Cond.code yX7_down cX7_down 4 (some .long), Cond.methodLink RX7 213 yX7_works, Cond.instanceMethod yX7_works, Cond.selects RX7 yX7_works yX7_works, Cond.code yX7_works cX7_works 3 none, Cond.fieldLink RX7 180 "BoatLiftModel" "turn" "I", Cond.fieldLink RX7 183 "BoatLiftModel" "ways" "I", Cond.fieldLink RX7 199 "BoatLiftModel" "firstEnd" "I", Cond.constant RX7 77 (40000), Cond.fieldLink RX7 78 "BoatLiftModel" "head" "[I", Cond.fieldLink RX7 164 "BoatLiftModel" "free" "I", Cond.fieldLink RX7 157 "BoatLiftModel" "side" "I", Cond.fieldLink RX7 74 "BoatLiftModel" "next" "[I"]
def wsX7_plan_r3 : List Cond := [Cond.methodLink RX7 192 yX7_keeps, Cond.instanceMethod yX7_keeps, Cond.selects RX7 yX7_keeps yX7_keeps, Cond.code yX7_keeps cX7_keeps 9 none, Cond.constant RX7 179 (262143), Cond.fieldLink RX7 65 "BoatLiftModel" "slotTurn" "[I", Cond.fieldLink RX7 68 "BoatLiftModel" "wayKey" "[I", Cond.fieldLink RX7 62 "BoatLiftModel" "slot" "[I", Cond.fieldLink RX7 71 "BoatLiftModel" "wayWait" "[I", Cond.methodLink RX7 205 yX7_goesOn, Cond.instanceMethod yX7_goesOn, Cond.selects RX7 yX7_goesOn yX7_goesOn, Cond.code yX7_goesOn cX7_goesOn 9 none, Cond.fieldLink RX7 40 "BoatLiftModel" "there" "[I", Cond.methodLink RX7 202 yX7_begins, Cond.instanceMethod yX7_begins, Cond.selects RX7 yX7_begins yX7_begins, Cond.code yX7_begins cX7_begins 10 none, Cond.fieldLink RX7 58 "BoatLiftModel" "queue" "[I", Cond.methodLink RX7 186 yX7_boatsOf, Cond.instanceMethod yX7_boatsOf, Cond.selects RX7 yX7_boatsOf yX7_boatsOf, Cond.code yX7_boatsOf cX7_boatsOf 4 (some .int), Cond.methodLink RX7 153 yX7_queues]
def wsX7_plan_r4 : List Cond := [Cond.instanceMethod yX7_queues, Cond.selects RX7 yX7_queues yX7_queues, Cond.code yX7_queues cX7_queues 6 none, Cond.fieldLink RX7 144 "BoatLiftModel" "queued" "I", Cond.fieldLink RX7 37 "BoatLiftModel" "at" "[I", Cond.methodLink RX7 150 yX7_isAhead, Cond.instanceMethod yX7_isAhead, Cond.selects RX7 yX7_isAhead yX7_isAhead, Cond.code yX7_isAhead cX7_isAhead 3 (some .boolean), Cond.fieldLink RX7 52 "BoatLiftModel" "rank" "[I", Cond.methodLink RX7 160 yX7_fits, Cond.instanceMethod yX7_fits, Cond.selects RX7 yX7_fits yX7_fits, Cond.code yX7_fits cX7_fits 3 (some .int), Cond.methodLink RX7 189 yX7_numberOf, Cond.instanceMethod yX7_numberOf, Cond.selects RX7 yX7_numberOf yX7_numberOf, Cond.code yX7_numberOf cX7_numberOf 3 (some .int), Cond.methodLink RX7 170 yX7_lasts, Cond.instanceMethod yX7_lasts, Cond.selects RX7 yX7_lasts yX7_lasts, Cond.code yX7_lasts cX7_lasts 2 (some .int), Cond.methodLink RX7 123 yX7_isIce, Cond.instanceMethod yX7_isIce]
def wsX7_plan_r5 : List Cond := [Cond.selects RX7 yX7_isIce yX7_isIce, Cond.code yX7_isIce cX7_isIce 3 (some .boolean), Cond.fieldLink RX7 120 "BoatLiftModel" "ices" "I", Cond.fieldLink RX7 31 "BoatLiftModel" "iceFrom" "[I", Cond.fieldLink RX7 34 "BoatLiftModel" "iceTo" "[I"]
def wsX7_plan : List Cond := .code yX7_plan cX7_plan 1 (some .int) :: ((wsX7_plan_r1 ++ (wsX7_plan_r2 ++ (wsX7_plan_r3 ++ (wsX7_plan_r4 ++ wsX7_plan_r5)))) ++ wsX70)
def wsX7_ends_r1 : List Cond := [Cond.fieldLink RX7 176 "BoatLiftModel" "left" "I", Cond.fieldLink RX7 199 "BoatLiftModel" "firstEnd" "I", Cond.methodLink RX7 209 yX7_isTooMany, Cond.instanceMethod yX7_isTooMany, Cond.selects RX7 yX7_isTooMany yX7_isTooMany, Cond.initialized RX7, Cond.code yX7_isTooMany cX7_isTooMany 2 (some .boolean), Cond.fieldLink RX7 126 "BoatLiftModel" "boats" "I", Cond.fieldLink RX7 81 "BoatLiftModel" "plan" "[I", Cond.methodLink RX7 147 yX7_isLeft, Cond.instanceMethod yX7_isLeft, Cond.selects RX7 yX7_isLeft yX7_isLeft, Cond.code yX7_isLeft cX7_isLeft 2 (some .boolean), Cond.fieldLink RX7 55 "BoatLiftModel" "began" "[I", Cond.methodLink RX7 141 yX7_isFit, Cond.instanceMethod yX7_isFit, Cond.selects RX7 yX7_isFit yX7_isFit, Cond.code yX7_isFit cX7_isFit 2 (some .boolean), Cond.fieldLink RX7 43 "BoatLiftModel" "size" "[I", Cond.fieldLink RX7 13 "BoatLiftModel" "length" "I", Cond.fieldLink RX7 46 "BoatLiftModel" "draught" "[I", Cond.fieldLink RX7 17 "BoatLiftModel" "law" "[I", Cond.methodLink RX7 138 yX7_depthOf, Cond.instanceMethod yX7_depthOf]
def wsX7_ends_r2 : List Cond := [Cond.selects RX7 yX7_depthOf yX7_depthOf, Cond.code yX7_depthOf cX7_depthOf 2 (some .int), Cond.constantLong RX7 136 (10), Cond.methodLink RX7 133 yX7_levelOf, Cond.instanceMethod yX7_levelOf, Cond.selects RX7 yX7_levelOf yX7_levelOf, Cond.code yX7_levelOf cX7_levelOf 2 (some .int), Cond.fieldLink RX7 27 "BoatLiftModel" "stock" "[J", Cond.fieldLink RX7 24 "BoatLiftModel" "area" "[I", Cond.methodLink RX7 129 yX7_down, Cond.static yX7_down, Cond.code yX7_down cX7_down 4 (some .long), Cond.methodLink RX7 213 yX7_works, Cond.instanceMethod yX7_works, Cond.selects RX7 yX7_works yX7_works, Cond.code yX7_works cX7_works 3 none, Cond.fieldLink RX7 180 "BoatLiftModel" "turn" "I", Cond.fieldLink RX7 183 "BoatLiftModel" "ways" "I", Cond.fieldLink RX7 196 "BoatLiftModel" "leastWait" "I", Cond.constant RX7 77 (40000), Cond.fieldLink RX7 78 "BoatLiftModel" "head" "[I", Cond.fieldLink RX7 164 "BoatLiftModel" "free" "I", Cond.fieldLink RX7 157 "BoatLiftModel" "side" "I", Cond.fieldLink RX7 74 "BoatLiftModel" "next" "[I"]
def wsX7_ends_r3 : List Cond := [Cond.methodLink RX7 192 yX7_keeps, Cond.instanceMethod yX7_keeps, Cond.selects RX7 yX7_keeps yX7_keeps, Cond.code yX7_keeps cX7_keeps 9 none, Cond.constant RX7 179 (262143), Cond.fieldLink RX7 65 "BoatLiftModel" "slotTurn" "[I", Cond.fieldLink RX7 68 "BoatLiftModel" "wayKey" "[I", Cond.fieldLink RX7 62 "BoatLiftModel" "slot" "[I", Cond.fieldLink RX7 71 "BoatLiftModel" "wayWait" "[I", Cond.methodLink RX7 205 yX7_goesOn, Cond.instanceMethod yX7_goesOn, Cond.selects RX7 yX7_goesOn yX7_goesOn, Cond.code yX7_goesOn cX7_goesOn 9 none, Cond.fieldLink RX7 40 "BoatLiftModel" "there" "[I", Cond.methodLink RX7 202 yX7_begins, Cond.instanceMethod yX7_begins, Cond.selects RX7 yX7_begins yX7_begins, Cond.code yX7_begins cX7_begins 10 none, Cond.fieldLink RX7 58 "BoatLiftModel" "queue" "[I", Cond.methodLink RX7 186 yX7_boatsOf, Cond.instanceMethod yX7_boatsOf, Cond.selects RX7 yX7_boatsOf yX7_boatsOf, Cond.code yX7_boatsOf cX7_boatsOf 4 (some .int), Cond.methodLink RX7 153 yX7_queues]
def wsX7_ends_r4 : List Cond := [Cond.instanceMethod yX7_queues, Cond.selects RX7 yX7_queues yX7_queues, Cond.code yX7_queues cX7_queues 6 none, Cond.fieldLink RX7 144 "BoatLiftModel" "queued" "I", Cond.fieldLink RX7 37 "BoatLiftModel" "at" "[I", Cond.methodLink RX7 150 yX7_isAhead, Cond.instanceMethod yX7_isAhead, Cond.selects RX7 yX7_isAhead yX7_isAhead, Cond.code yX7_isAhead cX7_isAhead 3 (some .boolean), Cond.fieldLink RX7 52 "BoatLiftModel" "rank" "[I", Cond.methodLink RX7 160 yX7_fits, Cond.instanceMethod yX7_fits, Cond.selects RX7 yX7_fits yX7_fits, Cond.code yX7_fits cX7_fits 3 (some .int), Cond.methodLink RX7 189 yX7_numberOf, Cond.instanceMethod yX7_numberOf, Cond.selects RX7 yX7_numberOf yX7_numberOf, Cond.code yX7_numberOf cX7_numberOf 3 (some .int), Cond.methodLink RX7 170 yX7_lasts, Cond.instanceMethod yX7_lasts, Cond.selects RX7 yX7_lasts yX7_lasts, Cond.code yX7_lasts cX7_lasts 2 (some .int), Cond.methodLink RX7 123 yX7_isIce, Cond.instanceMethod yX7_isIce]
def wsX7_ends_r5 : List Cond := [Cond.selects RX7 yX7_isIce yX7_isIce, Cond.code yX7_isIce cX7_isIce 3 (some .boolean), Cond.fieldLink RX7 120 "BoatLiftModel" "ices" "I", Cond.fieldLink RX7 31 "BoatLiftModel" "iceFrom" "[I", Cond.fieldLink RX7 34 "BoatLiftModel" "iceTo" "[I"]
def wsX7_ends : List Cond := .code yX7_ends cX7_ends 1 (some .int) :: ((wsX7_ends_r1 ++ (wsX7_ends_r2 ++ (wsX7_ends_r3 ++ (wsX7_ends_r4 ++ wsX7_ends_r5)))) ++ wsX70)
def wsX7_stock : List Cond := .code yX7_stock cX7_stock 2 (some .long) :: ([.fieldLink RX7 27 "BoatLiftModel" "stock" "[J", .methodLink RX7 114 yX7_isSide, .static yX7_isSide, .initialized RX7, .code yX7_isSide cX7_isSide 1 (some .boolean), .methodLink RX7 95 yX7_lies, .static yX7_lies, .code yX7_lies cX7_lies 3 (some .boolean)] ++ wsX70)
def wsX7_level : List Cond := .code yX7_level cX7_level 2 (some .int) :: ([.methodLink RX7 114 yX7_isSide, .static yX7_isSide, .initialized RX7, .code yX7_isSide cX7_isSide 1 (some .boolean), .methodLink RX7 95 yX7_lies, .static yX7_lies, .code yX7_lies cX7_lies 3 (some .boolean), .methodLink RX7 133 yX7_levelOf, .instanceMethod yX7_levelOf, .selects RX7 yX7_levelOf yX7_levelOf, .code yX7_levelOf cX7_levelOf 2 (some .int), .fieldLink RX7 27 "BoatLiftModel" "stock" "[J", .fieldLink RX7 24 "BoatLiftModel" "area" "[I", .methodLink RX7 129 yX7_down, .static yX7_down, .code yX7_down cX7_down 4 (some .long)] ++ wsX70)
def wsX7_depth : List Cond := .code yX7_depth cX7_depth 2 (some .int) :: ([.methodLink RX7 114 yX7_isSide, .static yX7_isSide, .initialized RX7, .code yX7_isSide cX7_isSide 1 (some .boolean), .methodLink RX7 95 yX7_lies, .static yX7_lies, .code yX7_lies cX7_lies 3 (some .boolean), .methodLink RX7 138 yX7_depthOf, .instanceMethod yX7_depthOf, .selects RX7 yX7_depthOf yX7_depthOf, .code yX7_depthOf cX7_depthOf 2 (some .int), .constantLong RX7 136 (10), .methodLink RX7 133 yX7_levelOf, .instanceMethod yX7_levelOf, .selects RX7 yX7_levelOf yX7_levelOf, .code yX7_levelOf cX7_levelOf 2 (some .int), .fieldLink RX7 27 "BoatLiftModel" "stock" "[J", .fieldLink RX7 24 "BoatLiftModel" "area" "[I", .methodLink RX7 129 yX7_down, .static yX7_down, .code yX7_down cX7_down 4 (some .long)] ++ wsX70)
def wsX7_look_r1 : List Cond := [Cond.fieldLink RX7 126 "BoatLiftModel" "boats" "I", Cond.fieldLink RX7 37 "BoatLiftModel" "at" "[I", Cond.fieldLink RX7 40 "BoatLiftModel" "there" "[I", Cond.fieldLink RX7 43 "BoatLiftModel" "size" "[I", Cond.fieldLink RX7 46 "BoatLiftModel" "draught" "[I", Cond.fieldLink RX7 49 "BoatLiftModel" "weight" "[I", Cond.fieldLink RX7 52 "BoatLiftModel" "rank" "[I", Cond.fieldLink RX7 55 "BoatLiftModel" "began" "[I", Cond.methodLink RX7 95 yX7_lies, Cond.static yX7_lies, Cond.initialized RX7, Cond.code yX7_lies cX7_lies 3 (some .boolean), Cond.methodLink RX7 141 yX7_isFit, Cond.instanceMethod yX7_isFit, Cond.selects RX7 yX7_isFit yX7_isFit, Cond.code yX7_isFit cX7_isFit 2 (some .boolean), Cond.fieldLink RX7 13 "BoatLiftModel" "length" "I", Cond.fieldLink RX7 17 "BoatLiftModel" "law" "[I", Cond.methodLink RX7 138 yX7_depthOf, Cond.instanceMethod yX7_depthOf, Cond.selects RX7 yX7_depthOf yX7_depthOf, Cond.code yX7_depthOf cX7_depthOf 2 (some .int), Cond.constantLong RX7 136 (10), Cond.methodLink RX7 133 yX7_levelOf]
def wsX7_look_r2 : List Cond := [Cond.instanceMethod yX7_levelOf, Cond.selects RX7 yX7_levelOf yX7_levelOf, Cond.code yX7_levelOf cX7_levelOf 2 (some .int), Cond.fieldLink RX7 27 "BoatLiftModel" "stock" "[J", Cond.fieldLink RX7 24 "BoatLiftModel" "area" "[I", Cond.methodLink RX7 129 yX7_down, Cond.static yX7_down, Cond.code yX7_down cX7_down 4 (some .long)]
def wsX7_look : List Cond := .code yX7_look cX7_look 3 (some .int) :: ((wsX7_look_r1 ++ wsX7_look_r2) ++ wsX70)
def wsX7_count : List Cond := .code yX7_count cX7_count 4 (some .int) :: ([.fieldLink RX7 17 "BoatLiftModel" "law" "[I", .fieldLink RX7 24 "BoatLiftModel" "area" "[I", .fieldLink RX7 13 "BoatLiftModel" "length" "I", .fieldLink RX7 157 "BoatLiftModel" "side" "I", .fieldLink RX7 164 "BoatLiftModel" "free" "I", .fieldLink RX7 167 "BoatLiftModel" "rides" "I", .fieldLink RX7 173 "BoatLiftModel" "allRides" "I", .fieldLink RX7 126 "BoatLiftModel" "boats" "I", .fieldLink RX7 55 "BoatLiftModel" "began" "[I", .fieldLink RX7 88 "BoatLiftModel" "taped" "I", .fieldLink RX7 40 "BoatLiftModel" "there" "[I", .methodLink RX7 95 yX7_lies, .static yX7_lies, .initialized RX7, .code yX7_lies cX7_lies 3 (some .boolean)] ++ wsX70)
def wsJ9_max_7cf53 : List Cond := .code yJ9_max_7cf53 cJ9_max_7cf53 2 (some .int) :: ([])
def wsJ9_min_7cf53 : List Cond := .code yJ9_min_7cf53 cJ9_min_7cf53 2 (some .int) :: ([])
def wsJ9_min_f86c9 : List Cond := .code yJ9_min_f86c9 cJ9_min_f86c9 4 (some .long) :: ([])
def wsL_law_r1 : List Cond := [Cond.classLink RL 7 RX6, Cond.instantiable RX6 15, Cond.initialized RX6, Cond.classLink RL 10 RX7, Cond.instantiable RX7 36, Cond.initialized RX7, Cond.methodLink RL 9 yX6_init, Cond.instanceMethod yX6_init, Cond.code yX6_init cX6_init 1 none, Cond.methodLink RX6 1 objectInit, Cond.instanceMethod objectInit, Cond.code objectInit ⟨#[0xb1]⟩ 1 none, Cond.classLink RX6 7 RX3, Cond.instantiable RX3 2, Cond.initialized RX3, Cond.fieldLink RX6 10 "BoatLift" "tape" "LBoatLift$Tape;", Cond.classLink RX6 16 RX1, Cond.instantiable RX1 5, Cond.initialized RX1, Cond.fieldLink RX6 21 "BoatLift" "rules" "LBoatLift$Law;", Cond.classLink RX6 25 RX4, Cond.instantiable RX4 4, Cond.initialized RX4, Cond.fieldLink RX6 30 "BoatLift" "timetable" "LBoatLift$Timetable;"]
def wsL_law_r2 : List Cond := [Cond.classLink RX6 34 RX2, Cond.instantiable RX2 9, Cond.initialized RX2, Cond.fieldLink RX6 39 "BoatLift" "planner" "LBoatLift$Planner;", Cond.classLink RX6 43 RX5, Cond.instantiable RX5 2, Cond.initialized RX5, Cond.fieldLink RX6 46 "BoatLift" "lower" "LBoatLift$Water;", Cond.fieldLink RX6 50 "BoatLift" "upper" "LBoatLift$Water;", Cond.classLink RX6 53 RJx4a65c, Cond.instantiable RJx4a65c 3, Cond.initialized RJx4a65c, Cond.fieldLink RX6 56 "BoatLift" "byNumber" "Ljava/util/List;", Cond.fieldLink RX6 60 "BoatLift" "byTurn" "Ljava/util/List;", Cond.fieldLink RX6 63 "BoatLift" "troughLength" "I", Cond.fieldLink RX6 67 "BoatLift" "troughSide" "I", Cond.instanceMethod yX3_init, Cond.code yX3_init cX3_init 1 none, Cond.methodLink RX3 3 objectInit, Cond.arrayClass .int, Cond.fieldLink RX3 11 "BoatLift$Tape" "bytes" "[I", Cond.methodLink RX6 18 yX1_init, Cond.instanceMethod yX1_init, Cond.code yX1_init cX1_init 2 none]
def wsL_law_r3 : List Cond := [Cond.methodLink RX1 3 objectInit, Cond.fieldLink RX1 9 "BoatLift$Law" "FIRST" "[I", Cond.methodLink RX1 15 ⟨"[I", "clone", "()Ljava/lang/Object;"⟩, Cond.sameMethod "[I" "java/lang/Object" "clone" "()Ljava/lang/Object;", Cond.native ⟨"java/lang/Object", "clone", "()Ljava/lang/Object;"⟩, Cond.instanceMethod ⟨"java/lang/Object", "clone", "()Ljava/lang/Object;"⟩, Cond.selects "[I" ⟨"[I", "clone", "()Ljava/lang/Object;"⟩ ⟨"java/lang/Object", "clone", "()Ljava/lang/Object;"⟩, Cond.classLink RX1 16 "[I", Cond.fieldLink RX1 20 "BoatLift$Law" "numbers" "[I", Cond.fieldLink RX1 23 "BoatLift$Law" "draft" "[I", Cond.fieldLink RX1 26 "BoatLift$Law" "tape" "LBoatLift$Tape;", Cond.methodLink RX6 27 yX4_init, Cond.instanceMethod yX4_init, Cond.code yX4_init cX4_init 2 none, Cond.methodLink RX4 1 objectInit, Cond.fieldLink RX4 9 "BoatLift$Timetable" "iceFrom" "[I", Cond.fieldLink RX4 13 "BoatLift$Timetable" "iceTo" "[I", Cond.fieldLink RX4 16 "BoatLift$Timetable" "rules" "LBoatLift$Law;", Cond.methodLink RX6 36 yX2_init, Cond.instanceMethod yX2_init, Cond.code yX2_init cX2_init 2 none, Cond.methodLink RX2 5 objectInit, Cond.fieldLink RX2 11 "BoatLift$Planner" "sides" "[I", Cond.fieldLink RX2 15 "BoatLift$Planner" "comes" "[I"]
def wsL_law_r4 : List Cond := [Cond.fieldLink RX2 18 "BoatLift$Planner" "lengths" "[I", Cond.fieldLink RX2 21 "BoatLift$Planner" "minutes" "[I", Cond.fieldLink RX2 24 "BoatLift$Planner" "timetable" "LBoatLift$Timetable;", Cond.instanceMethod yX5_init, Cond.code yX5_init cX5_init 1 none, Cond.methodLink RX5 1 objectInit, Cond.fieldLink RX5 7 "BoatLift$Water" "area" "I", Cond.methodLink RX6 55 yJx4a65c_init_da8c8, Cond.instanceMethod yJx4a65c_init_da8c8, Cond.code yJx4a65c_init_da8c8 cJx4a65c_init_da8c8 1 none, Cond.fieldLink RJx4a65c 39 "java/util/ArrayList" "DEFAULTCAPACITY_EMPTY_ELEMENTDATA" "[Ljava/lang/Object;", Cond.fieldLink RJx4a65c 9 "java/util/ArrayList" "elementData" "[Ljava/lang/Object;", Cond.methodLink RJx4a65c 1 yJxc12de_init_da8c8, Cond.instanceMethod yJxc12de_init_da8c8, Cond.initialized RJxc12de, Cond.code yJxc12de_init_da8c8 cJxc12de_init_da8c8 1 none, Cond.fieldLink RJxc12de 7 "java/util/AbstractList" "modCount" "I", Cond.methodLink RJxc12de 1 yJxa1e45_init_da8c8, Cond.instanceMethod yJxa1e45_init_da8c8, Cond.initialized RJxa1e45, Cond.code yJxa1e45_init_da8c8 cJxa1e45_init_da8c8 1 none, Cond.methodLink RJxa1e45 1 objectInit, Cond.methodLink RL 12 yX7_init, Cond.instanceMethod yX7_init]
def wsL_law_r5 : List Cond := [Cond.code yX7_init cX7_init 1 none, Cond.methodLink RX7 1 objectInit, Cond.arrayClass .byte, Cond.fieldLink RX7 7 "BoatLiftModel" "tape" "[B", Cond.fieldLink RX7 13 "BoatLiftModel" "length" "I", Cond.fieldLink RX7 17 "BoatLiftModel" "law" "[I", Cond.fieldLink RX7 21 "BoatLiftModel" "read" "[I", Cond.fieldLink RX7 24 "BoatLiftModel" "area" "[I", Cond.arrayClass .long, Cond.fieldLink RX7 27 "BoatLiftModel" "stock" "[J", Cond.fieldLink RX7 31 "BoatLiftModel" "iceFrom" "[I", Cond.fieldLink RX7 34 "BoatLiftModel" "iceTo" "[I", Cond.fieldLink RX7 37 "BoatLiftModel" "at" "[I", Cond.fieldLink RX7 40 "BoatLiftModel" "there" "[I", Cond.fieldLink RX7 43 "BoatLiftModel" "size" "[I", Cond.fieldLink RX7 46 "BoatLiftModel" "draught" "[I", Cond.fieldLink RX7 49 "BoatLiftModel" "weight" "[I", Cond.fieldLink RX7 52 "BoatLiftModel" "rank" "[I", Cond.fieldLink RX7 55 "BoatLiftModel" "began" "[I", Cond.fieldLink RX7 58 "BoatLiftModel" "queue" "[I", Cond.constant RX7 61 (262144), Cond.fieldLink RX7 62 "BoatLiftModel" "slot" "[I", Cond.fieldLink RX7 65 "BoatLiftModel" "slotTurn" "[I", Cond.fieldLink RX7 68 "BoatLiftModel" "wayKey" "[I"]
def wsL_law_r6 : List Cond := [Cond.fieldLink RX7 71 "BoatLiftModel" "wayWait" "[I", Cond.fieldLink RX7 74 "BoatLiftModel" "next" "[I", Cond.constant RX7 77 (40000), Cond.fieldLink RX7 78 "BoatLiftModel" "head" "[I", Cond.fieldLink RX7 81 "BoatLiftModel" "plan" "[I", Cond.methodLink RX7 84 yX7_asAtFirst, Cond.static yX7_asAtFirst, Cond.code yX7_asAtFirst cX7_asAtFirst 1 none, Cond.methodLink RL 13 yX6_feed, Cond.instanceMethod yX6_feed, Cond.selects RX6 yX6_feed yX6_feed, Cond.code yX6_feed cX6_feed 6 (some .int), Cond.methodLink RX6 70 yX3_hasRoom, Cond.instanceMethod yX3_hasRoom, Cond.selects RX3 yX3_hasRoom yX3_hasRoom, Cond.code yX3_hasRoom cX3_hasRoom 1 (some .boolean), Cond.fieldLink RX3 15 "BoatLift$Tape" "size" "I", Cond.methodLink RX6 74 yX3_put, Cond.instanceMethod yX3_put, Cond.selects RX3 yX3_put yX3_put, Cond.code yX3_put cX3_put 3 none, Cond.methodLink RX6 78 yX3_size, Cond.instanceMethod yX3_size, Cond.selects RX3 yX3_size yX3_size]
def wsL_law_r7 : List Cond := [Cond.code yX3_size cX3_size 1 (some .int), Cond.methodLink RL 17 yX7_feed, Cond.instanceMethod yX7_feed, Cond.selects RX7 yX7_feed yX7_feed, Cond.code yX7_feed cX7_feed 6 (some .int), Cond.fieldLink RX7 88 "BoatLiftModel" "taped" "I", Cond.methodLink RX7 91 yX7_push, Cond.instanceMethod yX7_push, Cond.selects RX7 yX7_push yX7_push, Cond.code yX7_push cX7_push 3 none, Cond.methodLink RL 18 yX6_law, Cond.instanceMethod yX6_law, Cond.selects RX6 yX6_law yX6_law, Cond.code yX6_law cX6_law 3 (some .int), Cond.methodLink RX6 82 yX6_within, Cond.static yX6_within, Cond.code yX6_within cX6_within 3 (some .boolean), Cond.methodLink RX6 86 yX1_enact, Cond.instanceMethod yX1_enact, Cond.selects RX1 yX1_enact yX1_enact, Cond.code yX1_enact cX1_enact 3 (some .int), Cond.fieldLink RX1 30 "BoatLift$Law" "size" "I", Cond.fieldLink RX1 34 "BoatLift$Law" "place" "I", Cond.methodLink RX1 37 arraycopyName]
def wsL_law_r8 : List Cond := [Cond.native arraycopyName, Cond.static arraycopyName, Cond.initialized "java/lang/System", Cond.methodLink RX1 43 yX1_faultOfText, Cond.instanceMethod yX1_faultOfText, Cond.selects RX1 yX1_faultOfText yX1_faultOfText, Cond.code yX1_faultOfText cX1_faultOfText 3 (some .int), Cond.methodLink RX1 47 yX1_faultOfClause, Cond.instanceMethod yX1_faultOfClause, Cond.selects RX1 yX1_faultOfClause yX1_faultOfClause, Cond.code yX1_faultOfClause cX1_faultOfClause 4 (some .int), Cond.fieldLink RX1 65 "BoatLift$Law" "LEAST" "[I", Cond.fieldLink RX1 68 "BoatLift$Law" "MOST" "[I", Cond.methodLink RX1 50 yX1_sign, Cond.instanceMethod yX1_sign, Cond.selects RX1 yX1_sign yX1_sign, Cond.code yX1_sign cX1_sign 1 (some .int), Cond.methodLink RX1 71 yX3_at, Cond.instanceMethod yX3_at, Cond.selects RX3 yX3_at yX3_at, Cond.code yX3_at cX3_at 2 (some .int), Cond.methodLink RX1 57 yX1_letterOf, Cond.static yX1_letterOf, Cond.code yX1_letterOf cX1_letterOf 2 (some .int)]
def wsL_law_r9 : List Cond := [Cond.fieldLink RX1 76 "BoatLift$Law" "LETTER" "[I", Cond.methodLink RX1 53 yX1_fault, Cond.static yX1_fault, Cond.code yX1_fault cX1_fault 2 (some .int), Cond.methodLink RX1 61 yX1_isDigit, Cond.static yX1_isDigit, Cond.code yX1_isDigit cX1_isDigit 1 (some .boolean), Cond.methodLink RX6 90 yX3_empty, Cond.instanceMethod yX3_empty, Cond.selects RX3 yX3_empty yX3_empty, Cond.code yX3_empty cX3_empty 1 none, Cond.methodLink RL 22 yX7_law, Cond.instanceMethod yX7_law, Cond.selects RX7 yX7_law yX7_law, Cond.code yX7_law cX7_law 4 (some .int), Cond.methodLink RX7 111 yX7_reads, Cond.instanceMethod yX7_reads, Cond.selects RX7 yX7_reads yX7_reads, Cond.code yX7_reads cX7_reads 7 (some .int), Cond.methodLink RX7 99 yX7_byteAt, Cond.instanceMethod yX7_byteAt, Cond.selects RX7 yX7_byteAt yX7_byteAt, Cond.code yX7_byteAt cX7_byteAt 3 (some .int), Cond.methodLink RX7 103 yX7_letter]
def wsL_law_r10 : List Cond := [Cond.static yX7_letter, Cond.code yX7_letter cX7_letter 1 (some .int), Cond.methodLink RX7 95 yX7_lies, Cond.static yX7_lies, Cond.code yX7_lies cX7_lies 3 (some .boolean), Cond.methodLink RX7 107 yX7_canBe, Cond.static yX7_canBe, Cond.code yX7_canBe cX7_canBe 2 (some .boolean), Cond.methodLink RL 23 yX6_trough, Cond.instanceMethod yX6_trough, Cond.selects RX6 yX6_trough yX6_trough, Cond.code yX6_trough cX6_trough 2 (some .boolean), Cond.methodLink RL 27 yX7_trough, Cond.instanceMethod yX7_trough, Cond.selects RX7 yX7_trough yX7_trough, Cond.code yX7_trough cX7_trough 2 (some .boolean), Cond.methodLink RL 28 yX6_area, Cond.instanceMethod yX6_area, Cond.selects RX6 yX6_area yX6_area, Cond.code yX6_area cX6_area 3 (some .boolean), Cond.methodLink RX6 93 yX6_isSide, Cond.static yX6_isSide, Cond.code yX6_isSide cX6_isSide 1 (some .boolean), Cond.methodLink RX6 97 yX6_waterAt]
def wsL_law_r11 : List Cond := [Cond.instanceMethod yX6_waterAt, Cond.selects RX6 yX6_waterAt yX6_waterAt, Cond.code yX6_waterAt cX6_waterAt 2 (some (.object "BoatLift$Water")), Cond.methodLink RX6 101 yX5_spreadOver, Cond.instanceMethod yX5_spreadOver, Cond.selects RX5 yX5_spreadOver yX5_spreadOver, Cond.code yX5_spreadOver cX5_spreadOver 2 none, Cond.methodLink RL 32 yX7_area, Cond.instanceMethod yX7_area, Cond.selects RX7 yX7_area yX7_area, Cond.code yX7_area cX7_area 3 (some .boolean), Cond.methodLink RX7 114 yX7_isSide, Cond.static yX7_isSide, Cond.code yX7_isSide cX7_isSide 1 (some .boolean), Cond.methodLink RL 33 yX6_flow, Cond.instanceMethod yX6_flow, Cond.selects RX6 yX6_flow yX6_flow, Cond.code yX6_flow cX6_flow 3 (some .boolean), Cond.constant RX6 104 (-1000000), Cond.constant RX6 105 (1000000), Cond.methodLink RX6 106 yX5_gain, Cond.instanceMethod yX5_gain, Cond.selects RX5 yX5_gain yX5_gain, Cond.code yX5_gain cX5_gain 2 none]
def wsL_law_r12 : List Cond := [Cond.fieldLink RX5 13 "BoatLift$Water" "stock" "J", Cond.methodLink RL 36 yX7_flow, Cond.instanceMethod yX7_flow, Cond.selects RX7 yX7_flow yX7_flow, Cond.code yX7_flow cX7_flow 3 (some .boolean), Cond.constant RX7 118 (-1000000), Cond.constant RX7 119 (1000000), Cond.methodLink RL 37 yX6_ice, Cond.instanceMethod yX6_ice, Cond.selects RX6 yX6_ice yX6_ice, Cond.code yX6_ice cX6_ice 3 (some .boolean), Cond.methodLink RX6 109 yX6_isMinute, Cond.static yX6_isMinute, Cond.code yX6_isMinute cX6_isMinute 1 (some .boolean), Cond.methodLink RX6 112 yX4_addIce, Cond.instanceMethod yX4_addIce, Cond.selects RX4 yX4_addIce yX4_addIce, Cond.code yX4_addIce cX4_addIce 3 (some .boolean), Cond.fieldLink RX4 20 "BoatLift$Timetable" "told" "I", Cond.methodLink RL 40 yX7_ice, Cond.instanceMethod yX7_ice, Cond.selects RX7 yX7_ice yX7_ice, Cond.code yX7_ice cX7_ice 3 (some .boolean), Cond.fieldLink RX7 120 "BoatLiftModel" "ices" "I"]
def wsL_law_r13 : List Cond := [Cond.methodLink RL 41 yX6_boat, Cond.instanceMethod yX6_boat, Cond.selects RX6 yX6_boat yX6_boat, Cond.code yX6_boat cX6_boat 8 (some .int), Cond.classLink RX6 119 RX0, Cond.instantiable RX0 8, Cond.initialized RX0, Cond.fieldLink RX6 135 "BoatLift$Boat" "number" "I", Cond.methodLink RX6 116 ⟨"java/util/List", "size", "()I"⟩, Cond.selects RJx4a65c ⟨"java/util/List", "size", "()I"⟩ yJx4a65c_size_8abf5, Cond.instanceMethod yJx4a65c_size_8abf5, Cond.code yJx4a65c_size_8abf5 cJx4a65c_size_8abf5 1 (some .int), Cond.fieldLink RJx4a65c 48 "java/util/ArrayList" "size" "I", Cond.methodLink RX6 121 yX0_init, Cond.instanceMethod yX0_init, Cond.code yX0_init cX0_init 8 none, Cond.methodLink RX0 3 objectInit, Cond.fieldLink RX0 9 "BoatLift$Boat" "began" "I", Cond.fieldLink RX0 15 "BoatLift$Boat" "number" "I", Cond.fieldLink RX0 18 "BoatLift$Boat" "side" "I", Cond.fieldLink RX0 21 "BoatLift$Boat" "minute" "I", Cond.fieldLink RX0 24 "BoatLift$Boat" "length" "I", Cond.fieldLink RX0 27 "BoatLift$Boat" "draught" "I", Cond.fieldLink RX0 30 "BoatLift$Boat" "weight" "I"]
def wsL_law_r14 : List Cond := [Cond.fieldLink RX0 33 "BoatLift$Boat" "rank" "I", Cond.methodLink RX6 124 ⟨"java/util/List", "add", "(Ljava/lang/Object;)Z"⟩, Cond.selects RJx4a65c ⟨"java/util/List", "add", "(Ljava/lang/Object;)Z"⟩ yJx4a65c_add_9ea2d, Cond.instanceMethod yJx4a65c_add_9ea2d, Cond.code yJx4a65c_add_9ea2d cJx4a65c_add_9ea2d 2 (some .boolean), Cond.fieldLink RJx4a65c 63 "java/util/ArrayList" "modCount" "I", Cond.sameField "java/util/ArrayList" "java/util/AbstractList" "modCount" "I", Cond.methodLink RJx4a65c 131 yJx4a65c_add_72be8, Cond.instanceMethod yJx4a65c_add_72be8, Cond.selects RJx4a65c yJx4a65c_add_72be8 yJx4a65c_add_72be8, Cond.code yJx4a65c_add_72be8 cJx4a65c_add_72be8 4 none, Cond.methodLink RJx4a65c 129 yJx4a65c_grow_d5877, Cond.instanceMethod yJx4a65c_grow_d5877, Cond.selects RJx4a65c yJx4a65c_grow_d5877 yJx4a65c_grow_d5877, Cond.code yJx4a65c_grow_d5877 cJx4a65c_grow_d5877 1 (some (.array (.object "java/lang/Object"))), Cond.methodLink RJx4a65c 69 yJx4a65c_grow_92f84, Cond.instanceMethod yJx4a65c_grow_92f84, Cond.selects RJx4a65c yJx4a65c_grow_92f84 yJx4a65c_grow_92f84, Cond.code yJx4a65c_grow_92f84 cJx4a65c_grow_92f84 4 (some (.array (.object "java/lang/Object"))), Cond.methodLink RJx4a65c 79 Lib.Math.max.name, Cond.static Lib.Math.max.name, Cond.initialized "java/lang/Math", Cond.code Lib.Math.max.name Lib.Math.max.code 2 (some .int), Cond.classLink RJx4a65c 7 "java/lang/Object"]
def wsL_law_r15 : List Cond := [Cond.methodLink RJx4a65c 73 yJ8_newLength_cabcc, Cond.static yJ8_newLength_cabcc, Cond.initialized RJ8, Cond.code yJ8_newLength_cabcc cJ8_newLength_cabcc 4 (some .int), Cond.methodLink RJ8 194 Lib.Math.max.name, Cond.constant RJ8 200 (2147483639), Cond.methodLink RJ8 201 yJ8_hugeLength_7cf53, Cond.static yJ8_hugeLength_7cf53, Cond.code yJ8_hugeLength_7cf53 cJ8_hugeLength_7cf53 3 (some .int), Cond.methodLink RJx4a65c 66 yJ7_copyOf_1904c, Cond.static yJ7_copyOf_1904c, Cond.initialized RJ7, Cond.code yJ7_copyOf_1904c cJ7_copyOf_1904c 2 (some (.array (.object "java/lang/Object"))), Cond.methodLink RJ7 86 ⟨"java/lang/Object", "getClass", "()Ljava/lang/Class;"⟩, Cond.selects "[Ljava/lang/Object;" ⟨"java/lang/Object", "getClass", "()Ljava/lang/Class;"⟩ ⟨"java/lang/Object", "getClass", "()Ljava/lang/Class;"⟩, Cond.instanceMethod ⟨"java/lang/Object", "getClass", "()Ljava/lang/Class;"⟩, Cond.native ⟨"java/lang/Object", "getClass", "()Ljava/lang/Class;"⟩, Cond.methodLink RJ7 300 yJ7_copyOf_6403c, Cond.static yJ7_copyOf_6403c, Cond.code yJ7_copyOf_6403c cJ7_copyOf_6403c 4 (some (.array (.object "java/lang/Object"))), Cond.classLink RJ7 110 "[Ljava/lang/Object;", Cond.classLink RJ7 2 "java/lang/Object", Cond.methodLink RJ7 304 Lib.Math.min.name, Cond.static Lib.Math.min.name]
def wsL_law_r16 : List Cond := [Cond.code Lib.Math.min.name Lib.Math.min.code 2 (some .int), Cond.methodLink RJ7 150 arraycopyName, Cond.methodLink RX6 128 yX6_turnOf, Cond.instanceMethod yX6_turnOf, Cond.selects RX6 yX6_turnOf yX6_turnOf, Cond.code yX6_turnOf cX6_turnOf 3 (some .int), Cond.classLink RX6 119 "BoatLift$Boat", Cond.methodLink RX6 138 ⟨"java/util/List", "get", "(I)Ljava/lang/Object;"⟩, Cond.selects RJx4a65c ⟨"java/util/List", "get", "(I)Ljava/lang/Object;"⟩ yJx4a65c_get_915e3, Cond.instanceMethod yJx4a65c_get_915e3, Cond.code yJx4a65c_get_915e3 cJx4a65c_get_915e3 2 (some (.object "java/lang/Object")), Cond.methodLink RJx4a65c 118 yJ15_checkIndex_7cf53, Cond.static yJ15_checkIndex_7cf53, Cond.initialized RJ15, Cond.code yJ15_checkIndex_7cf53 cJ15_checkIndex_7cf53 2 (some .int), Cond.methodLink RJ15 105 yJ3_checkIndex_8e157, Cond.static yJ3_checkIndex_8e157, Cond.initialized RJ3, Cond.code yJ3_checkIndex_8e157 cJ3_checkIndex_8e157 3 (some .int), Cond.methodLink RJx4a65c 123 yJx4a65c_elementData_915e3, Cond.instanceMethod yJx4a65c_elementData_915e3, Cond.selects RJx4a65c yJx4a65c_elementData_915e3 yJx4a65c_elementData_915e3, Cond.code yJx4a65c_elementData_915e3 cJx4a65c_elementData_915e3 2 (some (.object "java/lang/Object")), Cond.methodLink RX6 235 yX0_goesAheadOf]
def wsL_law_r17 : List Cond := [Cond.instanceMethod yX0_goesAheadOf, Cond.selects RX0 yX0_goesAheadOf yX0_goesAheadOf, Cond.code yX0_goesAheadOf cX0_goesAheadOf 2 (some .boolean), Cond.methodLink RX6 132 ⟨"java/util/List", "add", "(ILjava/lang/Object;)V"⟩, Cond.selects RJx4a65c ⟨"java/util/List", "add", "(ILjava/lang/Object;)V"⟩ yJx4a65c_add_7a177, Cond.instanceMethod yJx4a65c_add_7a177, Cond.code yJx4a65c_add_7a177 cJx4a65c_add_7a177 5 none, Cond.methodLink RJx4a65c 112 arraycopyName, Cond.methodLink RJx4a65c 135 yJx4a65c_rangeCheckForAdd_d00df, Cond.instanceMethod yJx4a65c_rangeCheckForAdd_d00df, Cond.selects RJx4a65c yJx4a65c_rangeCheckForAdd_d00df yJx4a65c_rangeCheckForAdd_d00df, Cond.code yJx4a65c_rangeCheckForAdd_d00df cJx4a65c_rangeCheckForAdd_d00df 2 none, Cond.methodLink RL 45 yX7_boat, Cond.instanceMethod yX7_boat, Cond.selects RX7 yX7_boat yX7_boat, Cond.code yX7_boat cX7_boat 7 (some .int), Cond.fieldLink RX7 126 "BoatLiftModel" "boats" "I", Cond.methodLink RL 46 yX6_queue, Cond.instanceMethod yX6_queue, Cond.selects RX6 yX6_queue yX6_queue, Cond.code yX6_queue cX6_queue 7 (some .int), Cond.methodLink RX6 142 yX6_isQueued, Cond.instanceMethod yX6_isQueued, Cond.selects RX6 yX6_isQueued yX6_isQueued]
def wsL_law_r18 : List Cond := [Cond.code yX6_isQueued cX6_isQueued 4 (some .boolean), Cond.fieldLink RX6 195 "BoatLift$Boat" "side" "I", Cond.fieldLink RX6 198 "BoatLift$Boat" "minute" "I", Cond.methodLink RX6 232 yX6_isLeft, Cond.instanceMethod yX6_isLeft, Cond.selects RX6 yX6_isLeft yX6_isLeft, Cond.code yX6_isLeft cX6_isLeft 2 (some .boolean), Cond.fieldLink RX6 217 "BoatLift$Boat" "began" "I", Cond.methodLink RX6 213 yX6_isFit, Cond.instanceMethod yX6_isFit, Cond.selects RX6 yX6_isFit yX6_isFit, Cond.code yX6_isFit cX6_isFit 3 (some .boolean), Cond.fieldLink RX6 204 "BoatLift$Boat" "draught" "I", Cond.fieldLink RX6 201 "BoatLift$Boat" "length" "I", Cond.methodLink RX6 158 yX1_number, Cond.instanceMethod yX1_number, Cond.selects RX1 yX1_number yX1_number, Cond.code yX1_number cX1_number 2 (some .int), Cond.methodLink RX6 192 yX5_decimetres, Cond.instanceMethod yX5_decimetres, Cond.selects RX5 yX5_decimetres yX5_decimetres, Cond.code yX5_decimetres cX5_decimetres 1 (some .int), Cond.methodLink RX5 23 yX5_centimetres, Cond.instanceMethod yX5_centimetres]
def wsL_law_r19 : List Cond := [Cond.selects RX5 yX5_centimetres yX5_centimetres, Cond.code yX5_centimetres cX5_centimetres 1 (some .int), Cond.methodLink RX5 17 yJ9_floorDiv_f86c9, Cond.static yJ9_floorDiv_f86c9, Cond.initialized RJ9, Cond.code yJ9_floorDiv_f86c9 cJ9_floorDiv_f86c9 6 (some .long), Cond.methodLink RX5 27 yJ9_floorDiv_7cf53, Cond.static yJ9_floorDiv_7cf53, Cond.code yJ9_floorDiv_7cf53 cJ9_floorDiv_7cf53 3 (some .int), Cond.methodLink RL 50 yX7_queue, Cond.instanceMethod yX7_queue, Cond.selects RX7 yX7_queue yX7_queue, Cond.code yX7_queue cX7_queue 4 (some .int), Cond.fieldLink RX7 144 "BoatLiftModel" "queued" "I", Cond.methodLink RX7 153 yX7_queues, Cond.instanceMethod yX7_queues, Cond.selects RX7 yX7_queues yX7_queues, Cond.code yX7_queues cX7_queues 6 none, Cond.methodLink RX7 147 yX7_isLeft, Cond.instanceMethod yX7_isLeft, Cond.selects RX7 yX7_isLeft yX7_isLeft, Cond.code yX7_isLeft cX7_isLeft 2 (some .boolean), Cond.methodLink RX7 141 yX7_isFit, Cond.instanceMethod yX7_isFit]
def wsL_law_r20 : List Cond := [Cond.selects RX7 yX7_isFit yX7_isFit, Cond.code yX7_isFit cX7_isFit 2 (some .boolean), Cond.methodLink RX7 138 yX7_depthOf, Cond.instanceMethod yX7_depthOf, Cond.selects RX7 yX7_depthOf yX7_depthOf, Cond.code yX7_depthOf cX7_depthOf 2 (some .int), Cond.constantLong RX7 136 (10), Cond.methodLink RX7 133 yX7_levelOf, Cond.instanceMethod yX7_levelOf, Cond.selects RX7 yX7_levelOf yX7_levelOf, Cond.code yX7_levelOf cX7_levelOf 2 (some .int), Cond.methodLink RX7 129 yX7_down, Cond.static yX7_down, Cond.code yX7_down cX7_down 4 (some .long), Cond.methodLink RX7 150 yX7_isAhead, Cond.instanceMethod yX7_isAhead, Cond.selects RX7 yX7_isAhead yX7_isAhead, Cond.code yX7_isAhead cX7_isAhead 3 (some .boolean), Cond.methodLink RL 51 yX6_fitting, Cond.instanceMethod yX6_fitting, Cond.selects RX6 yX6_fitting yX6_fitting, Cond.code yX6_fitting cX6_fitting 2 (some .int), Cond.methodLink RX6 146 yX6_fittingAt, Cond.instanceMethod yX6_fittingAt]
def wsL_law_r21 : List Cond := [Cond.selects RX6 yX6_fittingAt yX6_fittingAt, Cond.code yX6_fittingAt cX6_fittingAt 6 (some .int), Cond.methodLink RL 54 yX7_fitting, Cond.instanceMethod yX7_fitting, Cond.selects RX7 yX7_fitting yX7_fitting, Cond.code yX7_fitting cX7_fitting 2 (some .int), Cond.fieldLink RX7 157 "BoatLiftModel" "side" "I", Cond.methodLink RX7 160 yX7_fits, Cond.instanceMethod yX7_fits, Cond.selects RX7 yX7_fits yX7_fits, Cond.code yX7_fits cX7_fits 3 (some .int), Cond.methodLink RL 55 yX6_ride, Cond.instanceMethod yX6_ride, Cond.selects RX6 yX6_ride yX6_ride, Cond.code yX6_ride cX6_ride 5 (some .int), Cond.fieldLink RX6 149 "BoatLift" "freeFrom" "I", Cond.fieldLink RX6 155 "BoatLift" "sealRides" "I", Cond.fieldLink RX6 170 "BoatLift" "ridesEver" "I", Cond.methodLink RX6 152 yX4_endOf, Cond.instanceMethod yX4_endOf, Cond.selects RX4 yX4_endOf yX4_endOf, Cond.code yX4_endOf cX4_endOf 3 (some .int), Cond.methodLink RX4 26 yX1_number, Cond.methodLink RX4 30 yX4_inIce]
def wsL_law_r22 : List Cond := [Cond.instanceMethod yX4_inIce, Cond.selects RX4 yX4_inIce yX4_inIce, Cond.code yX4_inIce cX4_inIce 3 (some .boolean), Cond.methodLink RX6 160 yX6_carryFirst, Cond.instanceMethod yX6_carryFirst, Cond.selects RX6 yX6_carryFirst yX6_carryFirst, Cond.code yX6_carryFirst cX6_carryFirst 7 (some .int), Cond.fieldLink RX6 207 "BoatLift$Boat" "weight" "I", Cond.fieldLink RX6 226 "BoatLift" "waitedTogether" "I", Cond.fieldLink RX6 223 "BoatLift" "carried" "I", Cond.methodLink RX6 220 yX0_waited, Cond.instanceMethod yX0_waited, Cond.selects RX0 yX0_waited yX0_waited, Cond.code yX0_waited cX0_waited 1 (some .int), Cond.methodLink RX6 164 yX6_sendDown, Cond.instanceMethod yX6_sendDown, Cond.selects RX6 yX6_sendDown yX6_sendDown, Cond.code yX6_sendDown cX6_sendDown 2 none, Cond.methodLink RX6 167 yX6_otherSide, Cond.static yX6_otherSide, Cond.code yX6_otherSide cX6_otherSide 1 (some .int), Cond.methodLink RL 59 yX7_ride, Cond.instanceMethod yX7_ride, Cond.selects RX7 yX7_ride yX7_ride]
def wsL_law_r23 : List Cond := [Cond.code yX7_ride cX7_ride 6 (some .int), Cond.fieldLink RX7 164 "BoatLiftModel" "free" "I", Cond.fieldLink RX7 167 "BoatLiftModel" "rides" "I", Cond.fieldLink RX7 173 "BoatLiftModel" "allRides" "I", Cond.methodLink RX7 170 yX7_lasts, Cond.instanceMethod yX7_lasts, Cond.selects RX7 yX7_lasts yX7_lasts, Cond.code yX7_lasts cX7_lasts 2 (some .int), Cond.methodLink RX7 123 yX7_isIce, Cond.instanceMethod yX7_isIce, Cond.selects RX7 yX7_isIce yX7_isIce, Cond.code yX7_isIce cX7_isIce 3 (some .boolean), Cond.methodLink RL 60 yX6_renew, Cond.instanceMethod yX6_renew, Cond.selects RX6 yX6_renew yX6_renew, Cond.code yX6_renew cX6_renew 3 (some .int), Cond.methodLink RL 63 yX7_renew, Cond.instanceMethod yX7_renew, Cond.selects RX7 yX7_renew yX7_renew, Cond.code yX7_renew cX7_renew 2 (some .int), Cond.methodLink RL 64 yX6_plan, Cond.instanceMethod yX6_plan, Cond.selects RX6 yX6_plan yX6_plan, Cond.code yX6_plan cX6_plan 2 (some .int)]
def wsL_law_r24 : List Cond := [Cond.methodLink RX6 173 yX6_gatherLeft, Cond.instanceMethod yX6_gatherLeft, Cond.selects RX6 yX6_gatherLeft yX6_gatherLeft, Cond.code yX6_gatherLeft cX6_gatherLeft 4 (some .int), Cond.methodLink RX6 238 yX2_forgetBoats, Cond.instanceMethod yX2_forgetBoats, Cond.selects RX2 yX2_forgetBoats yX2_forgetBoats, Cond.code yX2_forgetBoats cX2_forgetBoats 1 none, Cond.fieldLink RX2 30 "BoatLift$Planner" "boats" "I", Cond.methodLink RX6 241 yX2_addBoat, Cond.instanceMethod yX2_addBoat, Cond.selects RX2 yX2_addBoat yX2_addBoat, Cond.code yX2_addBoat cX2_addBoat 2 none, Cond.fieldLink RX2 34 "BoatLift$Boat" "side" "I", Cond.fieldLink RX2 39 "BoatLift$Boat" "minute" "I", Cond.fieldLink RX2 42 "BoatLift$Boat" "length" "I", Cond.methodLink RX6 176 yX6_bestPlan, Cond.instanceMethod yX6_bestPlan, Cond.selects RX6 yX6_bestPlan yX6_bestPlan, Cond.code yX6_bestPlan cX6_bestPlan 1 (some .long), Cond.methodLink RX6 245 yX2_best, Cond.instanceMethod yX2_best, Cond.selects RX2 yX2_best yX2_best, Cond.code yX2_best cX2_best 5 (some .long)]
def wsL_law_r25 : List Cond := [Cond.fieldLink RX2 45 "BoatLift$Planner" "known" "[J", Cond.fieldLink RX2 49 "BoatLift$Planner" "round" "J", Cond.fieldLink RX2 53 "BoatLift$Planner" "troughLength" "I", Cond.methodLink RX2 56 yX2_layOutRow, Cond.instanceMethod yX2_layOutRow, Cond.selects RX2 yX2_layOutRow yX2_layOutRow, Cond.code yX2_layOutRow cX2_layOutRow 5 none, Cond.methodLink RX2 64 yX4_endOf, Cond.methodLink RX2 60 yX2_bestFrom, Cond.instanceMethod yX2_bestFrom, Cond.selects RX2 yX2_bestFrom yX2_bestFrom, Cond.code yX2_bestFrom cX2_bestFrom 10 (some .long), Cond.constantLong RX2 70 (274877906944), Cond.constantLong RX2 72 (1099511627775), Cond.methodLink RX2 80 Lib.MathLoose.min_long.x, Cond.static Lib.MathLoose.min_long.x, Cond.code Lib.MathLoose.min_long.x Lib.MathLoose.min_long.code 4 (some .long), Cond.methodLink RX2 74 yX2_bestByRiding, Cond.instanceMethod yX2_bestByRiding, Cond.selects RX2 yX2_bestByRiding yX2_bestByRiding, Cond.methodLink RX2 77 yX2_momentOfNextBoat, Cond.instanceMethod yX2_momentOfNextBoat, Cond.selects RX2 yX2_momentOfNextBoat yX2_momentOfNextBoat, Cond.code yX2_momentOfNextBoat cX2_momentOfNextBoat 4 (some .int)]
def wsL_law_r26 : List Cond := [Cond.code yX2_bestByRiding cX2_bestByRiding 17 (some .long), Cond.methodLink RX6 180 yX2_waitsOf, Cond.static yX2_waitsOf, Cond.code yX2_waitsOf cX2_waitsOf 2 (some .int), Cond.methodLink RL 68 yX7_plan, Cond.instanceMethod yX7_plan, Cond.selects RX7 yX7_plan yX7_plan, Cond.code yX7_plan cX7_plan 1 (some .int), Cond.fieldLink RX7 196 "BoatLiftModel" "leastWait" "I", Cond.methodLink RX7 209 yX7_isTooMany, Cond.instanceMethod yX7_isTooMany, Cond.selects RX7 yX7_isTooMany yX7_isTooMany, Cond.code yX7_isTooMany cX7_isTooMany 2 (some .boolean), Cond.fieldLink RX7 176 "BoatLiftModel" "left" "I", Cond.methodLink RX7 213 yX7_works, Cond.instanceMethod yX7_works, Cond.selects RX7 yX7_works yX7_works, Cond.code yX7_works cX7_works 3 none, Cond.fieldLink RX7 180 "BoatLiftModel" "turn" "I", Cond.fieldLink RX7 183 "BoatLiftModel" "ways" "I", Cond.fieldLink RX7 199 "BoatLiftModel" "firstEnd" "I", Cond.methodLink RX7 192 yX7_keeps, Cond.instanceMethod yX7_keeps, Cond.selects RX7 yX7_keeps yX7_keeps]
def wsL_law_r27 : List Cond := [Cond.code yX7_keeps cX7_keeps 9 none, Cond.constant RX7 179 (262143), Cond.methodLink RX7 205 yX7_goesOn, Cond.instanceMethod yX7_goesOn, Cond.selects RX7 yX7_goesOn yX7_goesOn, Cond.code yX7_goesOn cX7_goesOn 9 none, Cond.methodLink RX7 202 yX7_begins, Cond.instanceMethod yX7_begins, Cond.selects RX7 yX7_begins yX7_begins, Cond.code yX7_begins cX7_begins 10 none, Cond.methodLink RX7 186 yX7_boatsOf, Cond.instanceMethod yX7_boatsOf, Cond.selects RX7 yX7_boatsOf yX7_boatsOf, Cond.code yX7_boatsOf cX7_boatsOf 4 (some .int), Cond.methodLink RX7 189 yX7_numberOf, Cond.instanceMethod yX7_numberOf, Cond.selects RX7 yX7_numberOf yX7_numberOf, Cond.code yX7_numberOf cX7_numberOf 3 (some .int), Cond.methodLink RL 69 yX6_ends, Cond.instanceMethod yX6_ends, Cond.selects RX6 yX6_ends yX6_ends, Cond.code yX6_ends cX6_ends 2 (some .int), Cond.methodLink RX6 184 yX2_endOf, Cond.static yX2_endOf]
def wsL_law_r28 : List Cond := [Cond.code yX2_endOf cX2_endOf 2 (some .int), Cond.constantLong RX2 28 (65535), Cond.methodLink RL 72 yX7_ends, Cond.instanceMethod yX7_ends, Cond.selects RX7 yX7_ends yX7_ends, Cond.code yX7_ends cX7_ends 1 (some .int), Cond.methodLink RL 73 yX6_stock, Cond.instanceMethod yX6_stock, Cond.selects RX6 yX6_stock yX6_stock, Cond.code yX6_stock cX6_stock 2 (some .long), Cond.methodLink RX6 186 yX5_tonnes, Cond.instanceMethod yX5_tonnes, Cond.selects RX5 yX5_tonnes yX5_tonnes, Cond.code yX5_tonnes cX5_tonnes 1 (some .long), Cond.methodLink RL 77 yX7_stock, Cond.instanceMethod yX7_stock, Cond.selects RX7 yX7_stock yX7_stock, Cond.code yX7_stock cX7_stock 2 (some .long), Cond.methodLink RL 78 yX6_level, Cond.instanceMethod yX6_level, Cond.selects RX6 yX6_level yX6_level, Cond.code yX6_level cX6_level 2 (some .int), Cond.methodLink RX6 189 yX5_centimetres, Cond.methodLink RL 81 yX7_level]
def wsL_law_r29 : List Cond := [Cond.instanceMethod yX7_level, Cond.selects RX7 yX7_level yX7_level, Cond.code yX7_level cX7_level 2 (some .int), Cond.methodLink RL 82 yX6_depth, Cond.instanceMethod yX6_depth, Cond.selects RX6 yX6_depth yX6_depth, Cond.code yX6_depth cX6_depth 2 (some .int), Cond.methodLink RL 85 yX7_depth, Cond.instanceMethod yX7_depth, Cond.selects RX7 yX7_depth yX7_depth, Cond.code yX7_depth cX7_depth 2 (some .int), Cond.methodLink RL 86 yX6_look, Cond.instanceMethod yX6_look, Cond.selects RX6 yX6_look yX6_look, Cond.code yX6_look cX6_look 4 (some .int), Cond.fieldLink RX6 210 "BoatLift$Boat" "rank" "I", Cond.methodLink RL 89 yX7_look, Cond.instanceMethod yX7_look, Cond.selects RX7 yX7_look yX7_look, Cond.code yX7_look cX7_look 3 (some .int), Cond.methodLink RL 90 yX6_count, Cond.instanceMethod yX6_count, Cond.selects RX6 yX6_count yX6_count, Cond.code yX6_count cX6_count 2 (some .int)]
def wsL_law_r30 : List Cond := [Cond.methodLink RX6 229 yX5_spread, Cond.instanceMethod yX5_spread, Cond.selects RX5 yX5_spread yX5_spread, Cond.code yX5_spread cX5_spread 1 (some .int), Cond.methodLink RL 93 yX7_count, Cond.instanceMethod yX7_count, Cond.selects RX7 yX7_count yX7_count, Cond.code yX7_count cX7_count 4 (some .int)]
def wsL_law : List Cond := (wsL_law_r1 ++ (wsL_law_r2 ++ (wsL_law_r3 ++ (wsL_law_r4 ++ (wsL_law_r5 ++ (wsL_law_r6 ++ (wsL_law_r7 ++ (wsL_law_r8 ++ (wsL_law_r9 ++ (wsL_law_r10 ++ (wsL_law_r11 ++ (wsL_law_r12 ++ (wsL_law_r13 ++ (wsL_law_r14 ++ (wsL_law_r15 ++ (wsL_law_r16 ++ (wsL_law_r17 ++ (wsL_law_r18 ++ (wsL_law_r19 ++ (wsL_law_r20 ++ (wsL_law_r21 ++ (wsL_law_r22 ++ (wsL_law_r23 ++ (wsL_law_r24 ++ (wsL_law_r25 ++ (wsL_law_r26 ++ (wsL_law_r27 ++ (wsL_law_r28 ++ (wsL_law_r29 ++ wsL_law_r30))))))))))))))))))))))))))))) ++ wsX60 ++ wsX70 ++ wsX30 ++ wsX10 ++ wsX40 ++ wsX20 ++ wsX50 ++ wsJx4a65c0 ++ wsX00 ++ ([] : List Cond)
abbrev vwCl : List vw_C := [(RJx4a65c, TJx4a65c, 3), (RX0, TX0, 8), (RX1, TX1, 5), (RX2, TX2, 9), (RX3, TX3, 2), (RX4, TX4, 4), (RX5, TX5, 2), (RX6, TX6, 15), (RX7, TX7, 36)]
end
section
theorem dX0_init_0 : decode cX0_init 0 = .ok (.aload_n 0, 1) := by decide +kernel
theorem dX0_init_1 : decode cX0_init 1 = .ok (.invokespecial 3, 3) := by decide +kernel
theorem dX0_init_4 : decode cX0_init 4 = .ok (.aload_n 0, 1) := by decide +kernel
theorem dX0_init_5 : decode cX0_init 5 = .ok (.iconst (-1), 1) := by decide +kernel
theorem dX0_init_6 : decode cX0_init 6 = .ok (.putfield 9, 3) := by decide +kernel
theorem dX0_init_9 : decode cX0_init 9 = .ok (.aload_n 0, 1) := by decide +kernel
theorem dX0_init_10 : decode cX0_init 10 = .ok (.iload_n 1, 1) := by decide +kernel
theorem dX0_init_11 : decode cX0_init 11 = .ok (.putfield 15, 3) := by decide +kernel
theorem dX0_init_14 : decode cX0_init 14 = .ok (.aload_n 0, 1) := by decide +kernel
theorem dX0_init_15 : decode cX0_init 15 = .ok (.iload_n 2, 1) := by decide +kernel
theorem dX0_init_16 : decode cX0_init 16 = .ok (.putfield 18, 3) := by decide +kernel
theorem dX0_init_19 : decode cX0_init 19 = .ok (.aload_n 0, 1) := by decide +kernel
theorem dX0_init_20 : decode cX0_init 20 = .ok (.iload_n 3, 1) := by decide +kernel
theorem dX0_init_21 : decode cX0_init 21 = .ok (.putfield 21, 3) := by decide +kernel
theorem dX0_init_24 : decode cX0_init 24 = .ok (.aload_n 0, 1) := by decide +kernel
theorem dX0_init_25 : decode cX0_init 25 = .ok (.iload 4, 2) := by decide +kernel
theorem dX0_init_27 : decode cX0_init 27 = .ok (.putfield 24, 3) := by decide +kernel
theorem dX0_init_30 : decode cX0_init 30 = .ok (.aload_n 0, 1) := by decide +kernel
theorem dX0_init_31 : decode cX0_init 31 = .ok (.iload 5, 2) := by decide +kernel
theorem dX0_init_33 : decode cX0_init 33 = .ok (.putfield 27, 3) := by decide +kernel
theorem dX0_init_36 : decode cX0_init 36 = .ok (.aload_n 0, 1) := by decide +kernel
theorem dX0_init_37 : decode cX0_init 37 = .ok (.iload 6, 2) := by decide +kernel
theorem dX0_init_39 : decode cX0_init 39 = .ok (.putfield 30, 3) := by decide +kernel
theorem dX0_init_42 : decode cX0_init 42 = .ok (.aload_n 0, 1) := by decide +kernel
theorem dX0_init_43 : decode cX0_init 43 = .ok (.iload 7, 2) := by decide +kernel
theorem dX0_init_45 : decode cX0_init 45 = .ok (.putfield 33, 3) := by decide +kernel
theorem dX0_init_48 : decode cX0_init 48 = .ok (.return_, 1) := by decide +kernel
theorem dX0_waited_0 : decode cX0_waited 0 = .ok (.aload_n 0, 1) := by decide +kernel
theorem dX0_waited_1 : decode cX0_waited 1 = .ok (.getfield 9, 3) := by decide +kernel
theorem dX0_waited_4 : decode cX0_waited 4 = .ok (.iconst (-1), 1) := by decide +kernel
theorem dX0_waited_5 : decode cX0_waited 5 = .ok (.if_icmp .ne 7, 3) := by decide +kernel
theorem dX0_waited_8 : decode cX0_waited 8 = .ok (.iconst (-1), 1) := by decide +kernel
theorem dX0_waited_9 : decode cX0_waited 9 = .ok (.goto 12, 3) := by decide +kernel
theorem dX0_waited_12 : decode cX0_waited 12 = .ok (.aload_n 0, 1) := by decide +kernel
theorem dX0_waited_13 : decode cX0_waited 13 = .ok (.getfield 9, 3) := by decide +kernel
theorem dX0_waited_16 : decode cX0_waited 16 = .ok (.aload_n 0, 1) := by decide +kernel
theorem dX0_waited_17 : decode cX0_waited 17 = .ok (.getfield 21, 3) := by decide +kernel
theorem dX0_waited_20 : decode cX0_waited 20 = .ok (.isub, 1) := by decide +kernel
theorem dX0_waited_21 : decode cX0_waited 21 = .ok (.ireturn, 1) := by decide +kernel
theorem dX0_goesAheadOf_0 : decode cX0_goesAheadOf 0 = .ok (.aload_n 0, 1) := by decide +kernel
theorem dX0_goesAheadOf_1 : decode cX0_goesAheadOf 1 = .ok (.getfield 33, 3) := by decide +kernel
theorem dX0_goesAheadOf_4 : decode cX0_goesAheadOf 4 = .ok (.aload_n 1, 1) := by decide +kernel
theorem dX0_goesAheadOf_5 : decode cX0_goesAheadOf 5 = .ok (.getfield 33, 3) := by decide +kernel
theorem dX0_goesAheadOf_8 : decode cX0_goesAheadOf 8 = .ok (.if_icmp .lt 25, 3) := by decide +kernel
theorem dX0_goesAheadOf_11 : decode cX0_goesAheadOf 11 = .ok (.aload_n 0, 1) := by decide +kernel
theorem dX0_goesAheadOf_12 : decode cX0_goesAheadOf 12 = .ok (.getfield 33, 3) := by decide +kernel
theorem dX0_goesAheadOf_15 : decode cX0_goesAheadOf 15 = .ok (.aload_n 1, 1) := by decide +kernel
theorem dX0_goesAheadOf_16 : decode cX0_goesAheadOf 16 = .ok (.getfield 33, 3) := by decide +kernel
theorem dX0_goesAheadOf_19 : decode cX0_goesAheadOf 19 = .ok (.if_icmp .ne 18, 3) := by decide +kernel
theorem dX0_goesAheadOf_22 : decode cX0_goesAheadOf 22 = .ok (.aload_n 0, 1) := by decide +kernel
theorem dX0_goesAheadOf_23 : decode cX0_goesAheadOf 23 = .ok (.getfield 21, 3) := by decide +kernel
theorem dX0_goesAheadOf_26 : decode cX0_goesAheadOf 26 = .ok (.aload_n 1, 1) := by decide +kernel
theorem dX0_goesAheadOf_27 : decode cX0_goesAheadOf 27 = .ok (.getfield 21, 3) := by decide +kernel
theorem dX0_goesAheadOf_30 : decode cX0_goesAheadOf 30 = .ok (.if_icmp .ge 7, 3) := by decide +kernel
theorem dX0_goesAheadOf_33 : decode cX0_goesAheadOf 33 = .ok (.iconst 1, 1) := by decide +kernel
theorem dX0_goesAheadOf_34 : decode cX0_goesAheadOf 34 = .ok (.goto 4, 3) := by decide +kernel
theorem dX0_goesAheadOf_37 : decode cX0_goesAheadOf 37 = .ok (.iconst 0, 1) := by decide +kernel
theorem dX0_goesAheadOf_38 : decode cX0_goesAheadOf 38 = .ok (.ireturn, 1) := by decide +kernel
theorem dX1_init_0 : decode cX1_init 0 = .ok (.aload_n 0, 1) := by decide +kernel
theorem dX1_init_1 : decode cX1_init 1 = .ok (.invokespecial 3, 3) := by decide +kernel
theorem dX1_init_4 : decode cX1_init 4 = .ok (.aload_n 0, 1) := by decide +kernel
theorem dX1_init_5 : decode cX1_init 5 = .ok (.getstatic 9, 3) := by decide +kernel
theorem dX1_init_8 : decode cX1_init 8 = .ok (.invokevirtual 15, 3) := by decide +kernel
theorem dX1_init_11 : decode cX1_init 11 = .ok (.checkcast 16, 3) := by decide +kernel
theorem dX1_init_14 : decode cX1_init 14 = .ok (.putfield 20, 3) := by decide +kernel
theorem dX1_init_17 : decode cX1_init 17 = .ok (.aload_n 0, 1) := by decide +kernel
theorem dX1_init_18 : decode cX1_init 18 = .ok (.getstatic 9, 3) := by decide +kernel
theorem dX1_init_21 : decode cX1_init 21 = .ok (.invokevirtual 15, 3) := by decide +kernel
theorem dX1_init_24 : decode cX1_init 24 = .ok (.checkcast 16, 3) := by decide +kernel
theorem dX1_init_27 : decode cX1_init 27 = .ok (.putfield 23, 3) := by decide +kernel
theorem dX1_init_30 : decode cX1_init 30 = .ok (.aload_n 0, 1) := by decide +kernel
theorem dX1_init_31 : decode cX1_init 31 = .ok (.aload_n 1, 1) := by decide +kernel
theorem dX1_init_32 : decode cX1_init 32 = .ok (.putfield 26, 3) := by decide +kernel
theorem dX1_init_35 : decode cX1_init 35 = .ok (.return_, 1) := by decide +kernel
theorem dX1_number_0 : decode cX1_number 0 = .ok (.iload_n 1, 1) := by decide +kernel
theorem dX1_number_1 : decode cX1_number 1 = .ok (.ifCond .lt 18, 3) := by decide +kernel
theorem dX1_number_4 : decode cX1_number 4 = .ok (.iload_n 1, 1) := by decide +kernel
theorem dX1_number_5 : decode cX1_number 5 = .ok (.bipush 6, 2) := by decide +kernel
theorem dX1_number_7 : decode cX1_number 7 = .ok (.if_icmp .ge 12, 3) := by decide +kernel
theorem dX1_number_10 : decode cX1_number 10 = .ok (.aload_n 0, 1) := by decide +kernel
theorem dX1_number_11 : decode cX1_number 11 = .ok (.getfield 20, 3) := by decide +kernel
theorem dX1_number_14 : decode cX1_number 14 = .ok (.iload_n 1, 1) := by decide +kernel
theorem dX1_number_15 : decode cX1_number 15 = .ok (.iaload, 1) := by decide +kernel
theorem dX1_number_16 : decode cX1_number 16 = .ok (.goto 4, 3) := by decide +kernel
theorem dX1_number_19 : decode cX1_number 19 = .ok (.iconst (-1), 1) := by decide +kernel
theorem dX1_number_20 : decode cX1_number 20 = .ok (.ireturn, 1) := by decide +kernel
set_option maxRecDepth 20000 in
theorem ggX1_enact_X1_faultOfText : GoodIn wsX1_enact wsX1_faultOfText := goodIn_r _ [14, 1, 2, 15, 16, 17, 13, 18, 19, 20, 4, 21, 22, 23, 24, 25, 26, 27, 28, 29, 30, 31, 32, 33, 34, 35, 36, 37, 38, 39, 40, 41, 42, 43, 44, 45, 46, 47, 48, 49] (by decide +kernel) (by decide +kernel)
set_option maxRecDepth 20000 in
theorem gX1_enact_X1_faultOfText : GoodIn wsX1_enact (wsV RX1 43 RX1 yX1_faultOfText wsX1_faultOfText) := goodIn_app (goodIn_of _ (by decide +kernel)) ggX1_enact_X1_faultOfText
theorem dX1_enact_0 : decode cX1_enact 0 = .ok (.aload_n 0, 1) := by decide +kernel
theorem dX1_enact_1 : decode cX1_enact 1 = .ok (.iload_n 1, 1) := by decide +kernel
theorem dX1_enact_2 : decode cX1_enact 2 = .ok (.putfield 30, 3) := by decide +kernel
theorem dX1_enact_5 : decode cX1_enact 5 = .ok (.aload_n 0, 1) := by decide +kernel
theorem dX1_enact_6 : decode cX1_enact 6 = .ok (.iconst 0, 1) := by decide +kernel
theorem dX1_enact_7 : decode cX1_enact 7 = .ok (.putfield 34, 3) := by decide +kernel
theorem dX1_enact_10 : decode cX1_enact 10 = .ok (.getstatic 9, 3) := by decide +kernel
theorem dX1_enact_13 : decode cX1_enact 13 = .ok (.iconst 0, 1) := by decide +kernel
theorem dX1_enact_14 : decode cX1_enact 14 = .ok (.aload_n 0, 1) := by decide +kernel
theorem dX1_enact_15 : decode cX1_enact 15 = .ok (.getfield 23, 3) := by decide +kernel
theorem dX1_enact_18 : decode cX1_enact 18 = .ok (.iconst 0, 1) := by decide +kernel
theorem dX1_enact_19 : decode cX1_enact 19 = .ok (.bipush 6, 2) := by decide +kernel
theorem dX1_enact_21 : decode cX1_enact 21 = .ok (.invokestatic 37, 3) := by decide +kernel
theorem dX1_enact_24 : decode cX1_enact 24 = .ok (.aload_n 0, 1) := by decide +kernel
theorem dX1_enact_25 : decode cX1_enact 25 = .ok (.invokevirtual 43, 3) := by decide +kernel
theorem dX1_enact_28 : decode cX1_enact 28 = .ok (.istore_n 2, 1) := by decide +kernel
theorem dX1_enact_29 : decode cX1_enact 29 = .ok (.iload_n 2, 1) := by decide +kernel
theorem dX1_enact_30 : decode cX1_enact 30 = .ok (.ifCond .ne 18, 3) := by decide +kernel
theorem dX1_enact_33 : decode cX1_enact 33 = .ok (.aload_n 0, 1) := by decide +kernel
theorem dX1_enact_34 : decode cX1_enact 34 = .ok (.getfield 23, 3) := by decide +kernel
theorem dX1_enact_37 : decode cX1_enact 37 = .ok (.iconst 0, 1) := by decide +kernel
theorem dX1_enact_38 : decode cX1_enact 38 = .ok (.aload_n 0, 1) := by decide +kernel
theorem dX1_enact_39 : decode cX1_enact 39 = .ok (.getfield 20, 3) := by decide +kernel
theorem dX1_enact_42 : decode cX1_enact 42 = .ok (.iconst 0, 1) := by decide +kernel
theorem dX1_enact_43 : decode cX1_enact 43 = .ok (.bipush 6, 2) := by decide +kernel
theorem dX1_enact_45 : decode cX1_enact 45 = .ok (.invokestatic 37, 3) := by decide +kernel
theorem dX1_enact_48 : decode cX1_enact 48 = .ok (.iload_n 2, 1) := by decide +kernel
theorem dX1_enact_49 : decode cX1_enact 49 = .ok (.ireturn, 1) := by decide +kernel
set_option maxRecDepth 20000 in
theorem ggX1_faultOfText_X1_faultOfClause : GoodIn wsX1_faultOfText wsX1_faultOfClause := goodIn_r _ [7, 2, 1, 8, 9, 10, 11, 12, 13, 6, 14, 15, 16, 17, 18, 19, 20, 21, 22, 23, 24, 25, 26, 27, 28, 29, 30, 31, 32, 33, 34, 35, 36, 37, 38, 39] (by decide +kernel) (by decide +kernel)
set_option maxRecDepth 20000 in
theorem gX1_faultOfText_X1_faultOfClause : GoodIn wsX1_faultOfText (wsV RX1 47 RX1 yX1_faultOfClause wsX1_faultOfClause) := goodIn_app (goodIn_of _ (by decide +kernel)) ggX1_faultOfText_X1_faultOfClause
set_option maxRecDepth 20000 in
theorem ggX1_faultOfText_X1_sign : GoodIn wsX1_faultOfText wsX1_sign := goodIn_r _ [14, 2, 1, 15, 16, 17, 18, 19, 20, 21, 22, 33, 34, 35, 36, 37, 38, 39] (by decide +kernel) (by decide +kernel)
set_option maxRecDepth 20000 in
theorem gX1_faultOfText_X1_sign : GoodIn wsX1_faultOfText (wsV RX1 50 RX1 yX1_sign wsX1_sign) := goodIn_app (goodIn_of _ (by decide +kernel)) ggX1_faultOfText_X1_sign
set_option maxRecDepth 20000 in
theorem ggX1_faultOfText_X1_fault : GoodIn wsX1_faultOfText wsX1_fault := goodIn_r _ [29] (by decide +kernel) (by decide +kernel)
set_option maxRecDepth 20000 in
theorem gX1_faultOfText_X1_fault : GoodIn wsX1_faultOfText (va_wsS RX1 53 yX1_fault wsX1_fault) := goodIn_app (goodIn_of _ (by decide +kernel)) ggX1_faultOfText_X1_fault
theorem dX1_faultOfText_0 : decode cX1_faultOfText 0 = .ok (.iconst 0, 1) := by decide +kernel
theorem dX1_faultOfText_1 : decode cX1_faultOfText 1 = .ok (.istore_n 1, 1) := by decide +kernel
theorem dX1_faultOfText_2 : decode cX1_faultOfText 2 = .ok (.iload_n 1, 1) := by decide +kernel
theorem dX1_faultOfText_3 : decode cX1_faultOfText 3 = .ok (.aload_n 0, 1) := by decide +kernel
theorem dX1_faultOfText_4 : decode cX1_faultOfText 4 = .ok (.getfield 30, 3) := by decide +kernel
theorem dX1_faultOfText_7 : decode cX1_faultOfText 7 = .ok (.if_icmp .gt 59, 3) := by decide +kernel
theorem dX1_faultOfText_10 : decode cX1_faultOfText 10 = .ok (.aload_n 0, 1) := by decide +kernel
theorem dX1_faultOfText_11 : decode cX1_faultOfText 11 = .ok (.invokevirtual 47, 3) := by decide +kernel
theorem dX1_faultOfText_14 : decode cX1_faultOfText 14 = .ok (.istore_n 2, 1) := by decide +kernel
theorem dX1_faultOfText_15 : decode cX1_faultOfText 15 = .ok (.iload_n 2, 1) := by decide +kernel
theorem dX1_faultOfText_16 : decode cX1_faultOfText 16 = .ok (.ifCond .ne 14, 3) := by decide +kernel
theorem dX1_faultOfText_19 : decode cX1_faultOfText 19 = .ok (.aload_n 0, 1) := by decide +kernel
theorem dX1_faultOfText_20 : decode cX1_faultOfText 20 = .ok (.getfield 34, 3) := by decide +kernel
theorem dX1_faultOfText_23 : decode cX1_faultOfText 23 = .ok (.aload_n 0, 1) := by decide +kernel
theorem dX1_faultOfText_24 : decode cX1_faultOfText 24 = .ok (.getfield 30, 3) := by decide +kernel
theorem dX1_faultOfText_27 : decode cX1_faultOfText 27 = .ok (.if_icmp .lt 5, 3) := by decide +kernel
theorem dX1_faultOfText_30 : decode cX1_faultOfText 30 = .ok (.iload_n 2, 1) := by decide +kernel
theorem dX1_faultOfText_31 : decode cX1_faultOfText 31 = .ok (.ireturn, 1) := by decide +kernel
theorem dX1_faultOfText_32 : decode cX1_faultOfText 32 = .ok (.aload_n 0, 1) := by decide +kernel
theorem dX1_faultOfText_33 : decode cX1_faultOfText 33 = .ok (.invokevirtual 50, 3) := by decide +kernel
theorem dX1_faultOfText_36 : decode cX1_faultOfText 36 = .ok (.bipush 59, 2) := by decide +kernel
theorem dX1_faultOfText_38 : decode cX1_faultOfText 38 = .ok (.if_icmp .eq 12, 3) := by decide +kernel
theorem dX1_faultOfText_41 : decode cX1_faultOfText 41 = .ok (.iconst 5, 1) := by decide +kernel
theorem dX1_faultOfText_42 : decode cX1_faultOfText 42 = .ok (.aload_n 0, 1) := by decide +kernel
theorem dX1_faultOfText_43 : decode cX1_faultOfText 43 = .ok (.getfield 34, 3) := by decide +kernel
theorem dX1_faultOfText_46 : decode cX1_faultOfText 46 = .ok (.invokestatic 53, 3) := by decide +kernel
theorem dX1_faultOfText_49 : decode cX1_faultOfText 49 = .ok (.ireturn, 1) := by decide +kernel
theorem dX1_faultOfText_50 : decode cX1_faultOfText 50 = .ok (.aload_n 0, 1) := by decide +kernel
theorem dX1_faultOfText_51 : decode cX1_faultOfText 51 = .ok (.dup, 1) := by decide +kernel
theorem dX1_faultOfText_52 : decode cX1_faultOfText 52 = .ok (.getfield 34, 3) := by decide +kernel
theorem dX1_faultOfText_55 : decode cX1_faultOfText 55 = .ok (.iconst 1, 1) := by decide +kernel
theorem dX1_faultOfText_56 : decode cX1_faultOfText 56 = .ok (.iadd, 1) := by decide +kernel
theorem dX1_faultOfText_57 : decode cX1_faultOfText 57 = .ok (.putfield 34, 3) := by decide +kernel
theorem dX1_faultOfText_60 : decode cX1_faultOfText 60 = .ok (.iinc 1 1, 3) := by decide +kernel
theorem dX1_faultOfText_63 : decode cX1_faultOfText 63 = .ok (.goto (-61), 3) := by decide +kernel
theorem dX1_faultOfText_66 : decode cX1_faultOfText 66 = .ok (.iconst 0, 1) := by decide +kernel
theorem dX1_faultOfText_67 : decode cX1_faultOfText 67 = .ok (.ireturn, 1) := by decide +kernel
set_option maxRecDepth 20000 in
theorem ggX1_faultOfClause_X1_sign : GoodIn wsX1_faultOfClause wsX1_sign := goodIn_r _ [10, 1, 2, 11, 12, 13, 14, 15, 16, 17, 18, 29, 30, 31, 32, 33, 34, 35] (by decide +kernel) (by decide +kernel)
set_option maxRecDepth 20000 in
theorem gX1_faultOfClause_X1_sign : GoodIn wsX1_faultOfClause (wsV RX1 50 RX1 yX1_sign wsX1_sign) := goodIn_app (goodIn_of _ (by decide +kernel)) ggX1_faultOfClause_X1_sign
set_option maxRecDepth 20000 in
theorem ggX1_faultOfClause_X1_letterOf : GoodIn wsX1_faultOfClause wsX1_letterOf := goodIn_r _ [21, 22] (by decide +kernel) (by decide +kernel)
set_option maxRecDepth 20000 in
theorem gX1_faultOfClause_X1_letterOf : GoodIn wsX1_faultOfClause (va_wsS RX1 57 yX1_letterOf wsX1_letterOf) := goodIn_app (goodIn_of _ (by decide +kernel)) ggX1_faultOfClause_X1_letterOf
set_option maxRecDepth 20000 in
theorem ggX1_faultOfClause_X1_fault : GoodIn wsX1_faultOfClause wsX1_fault := goodIn_r _ [25] (by decide +kernel) (by decide +kernel)
set_option maxRecDepth 20000 in
theorem gX1_faultOfClause_X1_fault : GoodIn wsX1_faultOfClause (va_wsS RX1 53 yX1_fault wsX1_fault) := goodIn_app (goodIn_of _ (by decide +kernel)) ggX1_faultOfClause_X1_fault
set_option maxRecDepth 20000 in
theorem ggX1_faultOfClause_X1_isDigit : GoodIn wsX1_faultOfClause wsX1_isDigit := goodIn_r _ [28] (by decide +kernel) (by decide +kernel)
set_option maxRecDepth 20000 in
theorem gX1_faultOfClause_X1_isDigit : GoodIn wsX1_faultOfClause (va_wsS RX1 61 yX1_isDigit wsX1_isDigit) := goodIn_app (goodIn_of _ (by decide +kernel)) ggX1_faultOfClause_X1_isDigit
theorem dX1_faultOfClause_0 : decode cX1_faultOfClause 0 = .ok (.aload_n 0, 1) := by decide +kernel
theorem dX1_faultOfClause_1 : decode cX1_faultOfClause 1 = .ok (.invokevirtual 50, 3) := by decide +kernel
theorem dX1_faultOfClause_4 : decode cX1_faultOfClause 4 = .ok (.invokestatic 57, 3) := by decide +kernel
theorem dX1_faultOfClause_7 : decode cX1_faultOfClause 7 = .ok (.istore_n 1, 1) := by decide +kernel
theorem dX1_faultOfClause_8 : decode cX1_faultOfClause 8 = .ok (.iload_n 1, 1) := by decide +kernel
theorem dX1_faultOfClause_9 : decode cX1_faultOfClause 9 = .ok (.ifCond .ge 12, 3) := by decide +kernel
theorem dX1_faultOfClause_12 : decode cX1_faultOfClause 12 = .ok (.iconst 1, 1) := by decide +kernel
theorem dX1_faultOfClause_13 : decode cX1_faultOfClause 13 = .ok (.aload_n 0, 1) := by decide +kernel
theorem dX1_faultOfClause_14 : decode cX1_faultOfClause 14 = .ok (.getfield 34, 3) := by decide +kernel
theorem dX1_faultOfClause_17 : decode cX1_faultOfClause 17 = .ok (.invokestatic 53, 3) := by decide +kernel
theorem dX1_faultOfClause_20 : decode cX1_faultOfClause 20 = .ok (.ireturn, 1) := by decide +kernel
theorem dX1_faultOfClause_21 : decode cX1_faultOfClause 21 = .ok (.aload_n 0, 1) := by decide +kernel
theorem dX1_faultOfClause_22 : decode cX1_faultOfClause 22 = .ok (.dup, 1) := by decide +kernel
theorem dX1_faultOfClause_23 : decode cX1_faultOfClause 23 = .ok (.getfield 34, 3) := by decide +kernel
theorem dX1_faultOfClause_26 : decode cX1_faultOfClause 26 = .ok (.iconst 1, 1) := by decide +kernel
theorem dX1_faultOfClause_27 : decode cX1_faultOfClause 27 = .ok (.iadd, 1) := by decide +kernel
theorem dX1_faultOfClause_28 : decode cX1_faultOfClause 28 = .ok (.putfield 34, 3) := by decide +kernel
theorem dX1_faultOfClause_31 : decode cX1_faultOfClause 31 = .ok (.aload_n 0, 1) := by decide +kernel
theorem dX1_faultOfClause_32 : decode cX1_faultOfClause 32 = .ok (.getfield 34, 3) := by decide +kernel
theorem dX1_faultOfClause_35 : decode cX1_faultOfClause 35 = .ok (.istore_n 2, 1) := by decide +kernel
theorem dX1_faultOfClause_36 : decode cX1_faultOfClause 36 = .ok (.iconst 0, 1) := by decide +kernel
theorem dX1_faultOfClause_37 : decode cX1_faultOfClause 37 = .ok (.istore_n 3, 1) := by decide +kernel
theorem dX1_faultOfClause_38 : decode cX1_faultOfClause 38 = .ok (.aload_n 0, 1) := by decide +kernel
theorem dX1_faultOfClause_39 : decode cX1_faultOfClause 39 = .ok (.getfield 34, 3) := by decide +kernel
theorem dX1_faultOfClause_42 : decode cX1_faultOfClause 42 = .ok (.aload_n 0, 1) := by decide +kernel
theorem dX1_faultOfClause_43 : decode cX1_faultOfClause 43 = .ok (.getfield 30, 3) := by decide +kernel
theorem dX1_faultOfClause_46 : decode cX1_faultOfClause 46 = .ok (.if_icmp .ge 58, 3) := by decide +kernel
theorem dX1_faultOfClause_49 : decode cX1_faultOfClause 49 = .ok (.aload_n 0, 1) := by decide +kernel
theorem dX1_faultOfClause_50 : decode cX1_faultOfClause 50 = .ok (.invokevirtual 50, 3) := by decide +kernel
theorem dX1_faultOfClause_53 : decode cX1_faultOfClause 53 = .ok (.invokestatic 61, 3) := by decide +kernel
theorem dX1_faultOfClause_56 : decode cX1_faultOfClause 56 = .ok (.ifCond .eq 48, 3) := by decide +kernel
theorem dX1_faultOfClause_59 : decode cX1_faultOfClause 59 = .ok (.aload_n 0, 1) := by decide +kernel
theorem dX1_faultOfClause_60 : decode cX1_faultOfClause 60 = .ok (.getfield 34, 3) := by decide +kernel
theorem dX1_faultOfClause_63 : decode cX1_faultOfClause 63 = .ok (.iload_n 2, 1) := by decide +kernel
theorem dX1_faultOfClause_64 : decode cX1_faultOfClause 64 = .ok (.isub, 1) := by decide +kernel
theorem dX1_faultOfClause_65 : decode cX1_faultOfClause 65 = .ok (.iconst 4, 1) := by decide +kernel
theorem dX1_faultOfClause_66 : decode cX1_faultOfClause 66 = .ok (.if_icmp .ne 12, 3) := by decide +kernel
theorem dX1_faultOfClause_69 : decode cX1_faultOfClause 69 = .ok (.iconst 3, 1) := by decide +kernel
theorem dX1_faultOfClause_70 : decode cX1_faultOfClause 70 = .ok (.aload_n 0, 1) := by decide +kernel
theorem dX1_faultOfClause_71 : decode cX1_faultOfClause 71 = .ok (.getfield 34, 3) := by decide +kernel
theorem dX1_faultOfClause_74 : decode cX1_faultOfClause 74 = .ok (.invokestatic 53, 3) := by decide +kernel
theorem dX1_faultOfClause_77 : decode cX1_faultOfClause 77 = .ok (.ireturn, 1) := by decide +kernel
theorem dX1_faultOfClause_78 : decode cX1_faultOfClause 78 = .ok (.iload_n 3, 1) := by decide +kernel
theorem dX1_faultOfClause_79 : decode cX1_faultOfClause 79 = .ok (.bipush 10, 2) := by decide +kernel
theorem dX1_faultOfClause_81 : decode cX1_faultOfClause 81 = .ok (.imul, 1) := by decide +kernel
theorem dX1_faultOfClause_82 : decode cX1_faultOfClause 82 = .ok (.aload_n 0, 1) := by decide +kernel
theorem dX1_faultOfClause_83 : decode cX1_faultOfClause 83 = .ok (.invokevirtual 50, 3) := by decide +kernel
theorem dX1_faultOfClause_86 : decode cX1_faultOfClause 86 = .ok (.iadd, 1) := by decide +kernel
theorem dX1_faultOfClause_87 : decode cX1_faultOfClause 87 = .ok (.bipush 48, 2) := by decide +kernel
theorem dX1_faultOfClause_89 : decode cX1_faultOfClause 89 = .ok (.isub, 1) := by decide +kernel
theorem dX1_faultOfClause_90 : decode cX1_faultOfClause 90 = .ok (.istore_n 3, 1) := by decide +kernel
theorem dX1_faultOfClause_91 : decode cX1_faultOfClause 91 = .ok (.aload_n 0, 1) := by decide +kernel
theorem dX1_faultOfClause_92 : decode cX1_faultOfClause 92 = .ok (.dup, 1) := by decide +kernel
theorem dX1_faultOfClause_93 : decode cX1_faultOfClause 93 = .ok (.getfield 34, 3) := by decide +kernel
theorem dX1_faultOfClause_96 : decode cX1_faultOfClause 96 = .ok (.iconst 1, 1) := by decide +kernel
theorem dX1_faultOfClause_97 : decode cX1_faultOfClause 97 = .ok (.iadd, 1) := by decide +kernel
theorem dX1_faultOfClause_98 : decode cX1_faultOfClause 98 = .ok (.putfield 34, 3) := by decide +kernel
theorem dX1_faultOfClause_101 : decode cX1_faultOfClause 101 = .ok (.goto (-63), 3) := by decide +kernel
theorem dX1_faultOfClause_104 : decode cX1_faultOfClause 104 = .ok (.aload_n 0, 1) := by decide +kernel
theorem dX1_faultOfClause_105 : decode cX1_faultOfClause 105 = .ok (.getfield 34, 3) := by decide +kernel
theorem dX1_faultOfClause_108 : decode cX1_faultOfClause 108 = .ok (.iload_n 2, 1) := by decide +kernel
theorem dX1_faultOfClause_109 : decode cX1_faultOfClause 109 = .ok (.if_icmp .ne 9, 3) := by decide +kernel
theorem dX1_faultOfClause_112 : decode cX1_faultOfClause 112 = .ok (.iconst 2, 1) := by decide +kernel
theorem dX1_faultOfClause_113 : decode cX1_faultOfClause 113 = .ok (.iload_n 2, 1) := by decide +kernel
theorem dX1_faultOfClause_114 : decode cX1_faultOfClause 114 = .ok (.invokestatic 53, 3) := by decide +kernel
theorem dX1_faultOfClause_117 : decode cX1_faultOfClause 117 = .ok (.ireturn, 1) := by decide +kernel
theorem dX1_faultOfClause_118 : decode cX1_faultOfClause 118 = .ok (.iload_n 3, 1) := by decide +kernel
theorem dX1_faultOfClause_119 : decode cX1_faultOfClause 119 = .ok (.getstatic 65, 3) := by decide +kernel
theorem dX1_faultOfClause_122 : decode cX1_faultOfClause 122 = .ok (.iload_n 1, 1) := by decide +kernel
theorem dX1_faultOfClause_123 : decode cX1_faultOfClause 123 = .ok (.iaload, 1) := by decide +kernel
theorem dX1_faultOfClause_124 : decode cX1_faultOfClause 124 = .ok (.if_icmp .lt 12, 3) := by decide +kernel
theorem dX1_faultOfClause_127 : decode cX1_faultOfClause 127 = .ok (.iload_n 3, 1) := by decide +kernel
theorem dX1_faultOfClause_128 : decode cX1_faultOfClause 128 = .ok (.getstatic 68, 3) := by decide +kernel
theorem dX1_faultOfClause_131 : decode cX1_faultOfClause 131 = .ok (.iload_n 1, 1) := by decide +kernel
theorem dX1_faultOfClause_132 : decode cX1_faultOfClause 132 = .ok (.iaload, 1) := by decide +kernel
theorem dX1_faultOfClause_133 : decode cX1_faultOfClause 133 = .ok (.if_icmp .le 9, 3) := by decide +kernel
theorem dX1_faultOfClause_136 : decode cX1_faultOfClause 136 = .ok (.iconst 4, 1) := by decide +kernel
theorem dX1_faultOfClause_137 : decode cX1_faultOfClause 137 = .ok (.iload_n 2, 1) := by decide +kernel
theorem dX1_faultOfClause_138 : decode cX1_faultOfClause 138 = .ok (.invokestatic 53, 3) := by decide +kernel
theorem dX1_faultOfClause_141 : decode cX1_faultOfClause 141 = .ok (.ireturn, 1) := by decide +kernel
theorem dX1_faultOfClause_142 : decode cX1_faultOfClause 142 = .ok (.aload_n 0, 1) := by decide +kernel
theorem dX1_faultOfClause_143 : decode cX1_faultOfClause 143 = .ok (.getfield 23, 3) := by decide +kernel
theorem dX1_faultOfClause_146 : decode cX1_faultOfClause 146 = .ok (.iload_n 1, 1) := by decide +kernel
theorem dX1_faultOfClause_147 : decode cX1_faultOfClause 147 = .ok (.iload_n 3, 1) := by decide +kernel
theorem dX1_faultOfClause_148 : decode cX1_faultOfClause 148 = .ok (.iastore, 1) := by decide +kernel
theorem dX1_faultOfClause_149 : decode cX1_faultOfClause 149 = .ok (.iconst 0, 1) := by decide +kernel
theorem dX1_faultOfClause_150 : decode cX1_faultOfClause 150 = .ok (.ireturn, 1) := by decide +kernel
set_option maxRecDepth 20000 in
theorem ggX1_sign_X3_at : GoodIn wsX1_sign wsX3_at := goodIn_r _ [8, 9, 10, 16, 17] (by decide +kernel) (by decide +kernel)
set_option maxRecDepth 20000 in
theorem gX1_sign_X3_at : GoodIn wsX1_sign (wsV RX1 71 RX3 yX3_at wsX3_at) := goodIn_app (goodIn_of _ (by decide +kernel)) ggX1_sign_X3_at
theorem dX1_sign_0 : decode cX1_sign 0 = .ok (.aload_n 0, 1) := by decide +kernel
theorem dX1_sign_1 : decode cX1_sign 1 = .ok (.getfield 34, 3) := by decide +kernel
theorem dX1_sign_4 : decode cX1_sign 4 = .ok (.aload_n 0, 1) := by decide +kernel
theorem dX1_sign_5 : decode cX1_sign 5 = .ok (.getfield 30, 3) := by decide +kernel
theorem dX1_sign_8 : decode cX1_sign 8 = .ok (.if_icmp .ge 17, 3) := by decide +kernel
theorem dX1_sign_11 : decode cX1_sign 11 = .ok (.aload_n 0, 1) := by decide +kernel
theorem dX1_sign_12 : decode cX1_sign 12 = .ok (.getfield 26, 3) := by decide +kernel
theorem dX1_sign_15 : decode cX1_sign 15 = .ok (.aload_n 0, 1) := by decide +kernel
theorem dX1_sign_16 : decode cX1_sign 16 = .ok (.getfield 34, 3) := by decide +kernel
theorem dX1_sign_19 : decode cX1_sign 19 = .ok (.invokevirtual 71, 3) := by decide +kernel
theorem dX1_sign_22 : decode cX1_sign 22 = .ok (.goto 4, 3) := by decide +kernel
theorem dX1_sign_25 : decode cX1_sign 25 = .ok (.iconst (-1), 1) := by decide +kernel
theorem dX1_sign_26 : decode cX1_sign 26 = .ok (.ireturn, 1) := by decide +kernel
theorem dX1_letterOf_0 : decode cX1_letterOf 0 = .ok (.iconst 0, 1) := by decide +kernel
theorem dX1_letterOf_1 : decode cX1_letterOf 1 = .ok (.istore_n 1, 1) := by decide +kernel
theorem dX1_letterOf_2 : decode cX1_letterOf 2 = .ok (.iload_n 1, 1) := by decide +kernel
theorem dX1_letterOf_3 : decode cX1_letterOf 3 = .ok (.bipush 6, 2) := by decide +kernel
theorem dX1_letterOf_5 : decode cX1_letterOf 5 = .ok (.if_icmp .ge 20, 3) := by decide +kernel
theorem dX1_letterOf_8 : decode cX1_letterOf 8 = .ok (.getstatic 76, 3) := by decide +kernel
theorem dX1_letterOf_11 : decode cX1_letterOf 11 = .ok (.iload_n 1, 1) := by decide +kernel
theorem dX1_letterOf_12 : decode cX1_letterOf 12 = .ok (.iaload, 1) := by decide +kernel
theorem dX1_letterOf_13 : decode cX1_letterOf 13 = .ok (.iload_n 0, 1) := by decide +kernel
theorem dX1_letterOf_14 : decode cX1_letterOf 14 = .ok (.if_icmp .ne 5, 3) := by decide +kernel
theorem dX1_letterOf_17 : decode cX1_letterOf 17 = .ok (.iload_n 1, 1) := by decide +kernel
theorem dX1_letterOf_18 : decode cX1_letterOf 18 = .ok (.ireturn, 1) := by decide +kernel
theorem dX1_letterOf_19 : decode cX1_letterOf 19 = .ok (.iinc 1 1, 3) := by decide +kernel
theorem dX1_letterOf_22 : decode cX1_letterOf 22 = .ok (.goto (-20), 3) := by decide +kernel
theorem dX1_letterOf_25 : decode cX1_letterOf 25 = .ok (.iconst (-1), 1) := by decide +kernel
theorem dX1_letterOf_26 : decode cX1_letterOf 26 = .ok (.ireturn, 1) := by decide +kernel
theorem dX1_isDigit_0 : decode cX1_isDigit 0 = .ok (.iload_n 0, 1) := by decide +kernel
theorem dX1_isDigit_1 : decode cX1_isDigit 1 = .ok (.bipush 48, 2) := by decide +kernel
theorem dX1_isDigit_3 : decode cX1_isDigit 3 = .ok (.if_icmp .lt 13, 3) := by decide +kernel
theorem dX1_isDigit_6 : decode cX1_isDigit 6 = .ok (.iload_n 0, 1) := by decide +kernel
theorem dX1_isDigit_7 : decode cX1_isDigit 7 = .ok (.bipush 57, 2) := by decide +kernel
theorem dX1_isDigit_9 : decode cX1_isDigit 9 = .ok (.if_icmp .gt 7, 3) := by decide +kernel
theorem dX1_isDigit_12 : decode cX1_isDigit 12 = .ok (.iconst 1, 1) := by decide +kernel
theorem dX1_isDigit_13 : decode cX1_isDigit 13 = .ok (.goto 4, 3) := by decide +kernel
theorem dX1_isDigit_16 : decode cX1_isDigit 16 = .ok (.iconst 0, 1) := by decide +kernel
theorem dX1_isDigit_17 : decode cX1_isDigit 17 = .ok (.ireturn, 1) := by decide +kernel
theorem dX1_fault_0 : decode cX1_fault 0 = .ok (.bipush 100, 2) := by decide +kernel
theorem dX1_fault_2 : decode cX1_fault 2 = .ok (.iload_n 0, 1) := by decide +kernel
theorem dX1_fault_3 : decode cX1_fault 3 = .ok (.imul, 1) := by decide +kernel
theorem dX1_fault_4 : decode cX1_fault 4 = .ok (.iload_n 1, 1) := by decide +kernel
theorem dX1_fault_5 : decode cX1_fault 5 = .ok (.iadd, 1) := by decide +kernel
theorem dX1_fault_6 : decode cX1_fault 6 = .ok (.ireturn, 1) := by decide +kernel
theorem dX2_init_0 : decode cX2_init 0 = .ok (.aload_n 0, 1) := by decide +kernel
theorem dX2_init_1 : decode cX2_init 1 = .ok (.invokespecial 5, 3) := by decide +kernel
theorem dX2_init_4 : decode cX2_init 4 = .ok (.aload_n 0, 1) := by decide +kernel
theorem dX2_init_5 : decode cX2_init 5 = .ok (.bipush 6, 2) := by decide +kernel
theorem dX2_init_7 : decode cX2_init 7 = .ok (.newarray .int, 2) := by decide +kernel
theorem dX2_init_9 : decode cX2_init 9 = .ok (.putfield 11, 3) := by decide +kernel
theorem dX2_init_12 : decode cX2_init 12 = .ok (.aload_n 0, 1) := by decide +kernel
theorem dX2_init_13 : decode cX2_init 13 = .ok (.bipush 6, 2) := by decide +kernel
theorem dX2_init_15 : decode cX2_init 15 = .ok (.newarray .int, 2) := by decide +kernel
theorem dX2_init_17 : decode cX2_init 17 = .ok (.putfield 15, 3) := by decide +kernel
theorem dX2_init_20 : decode cX2_init 20 = .ok (.aload_n 0, 1) := by decide +kernel
theorem dX2_init_21 : decode cX2_init 21 = .ok (.bipush 6, 2) := by decide +kernel
theorem dX2_init_23 : decode cX2_init 23 = .ok (.newarray .int, 2) := by decide +kernel
theorem dX2_init_25 : decode cX2_init 25 = .ok (.putfield 18, 3) := by decide +kernel
theorem dX2_init_28 : decode cX2_init 28 = .ok (.aload_n 0, 1) := by decide +kernel
theorem dX2_init_29 : decode cX2_init 29 = .ok (.bipush 91, 2) := by decide +kernel
theorem dX2_init_31 : decode cX2_init 31 = .ok (.newarray .int, 2) := by decide +kernel
theorem dX2_init_33 : decode cX2_init 33 = .ok (.putfield 21, 3) := by decide +kernel
theorem dX2_init_36 : decode cX2_init 36 = .ok (.aload_n 0, 1) := by decide +kernel
theorem dX2_init_37 : decode cX2_init 37 = .ok (.aload_n 1, 1) := by decide +kernel
theorem dX2_init_38 : decode cX2_init 38 = .ok (.putfield 24, 3) := by decide +kernel
theorem dX2_init_41 : decode cX2_init 41 = .ok (.return_, 1) := by decide +kernel
theorem dX2_waitsOf_0 : decode cX2_waitsOf 0 = .ok (.lload_n 0, 1) := by decide +kernel
theorem dX2_waitsOf_1 : decode cX2_waitsOf 1 = .ok (.bipush 16, 2) := by decide +kernel
theorem dX2_waitsOf_3 : decode cX2_waitsOf 3 = .ok (.lshr, 1) := by decide +kernel
theorem dX2_waitsOf_4 : decode cX2_waitsOf 4 = .ok (.l2i, 1) := by decide +kernel
theorem dX2_waitsOf_5 : decode cX2_waitsOf 5 = .ok (.ireturn, 1) := by decide +kernel
theorem dX2_endOf_0 : decode cX2_endOf 0 = .ok (.lload_n 0, 1) := by decide +kernel
theorem dX2_endOf_1 : decode cX2_endOf 1 = .ok (.ldc2_w 28, 3) := by decide +kernel
theorem dX2_endOf_4 : decode cX2_endOf 4 = .ok (.land, 1) := by decide +kernel
theorem dX2_endOf_5 : decode cX2_endOf 5 = .ok (.l2i, 1) := by decide +kernel
theorem dX2_endOf_6 : decode cX2_endOf 6 = .ok (.ireturn, 1) := by decide +kernel
theorem dX2_forgetBoats_0 : decode cX2_forgetBoats 0 = .ok (.aload_n 0, 1) := by decide +kernel
theorem dX2_forgetBoats_1 : decode cX2_forgetBoats 1 = .ok (.iconst 0, 1) := by decide +kernel
theorem dX2_forgetBoats_2 : decode cX2_forgetBoats 2 = .ok (.putfield 30, 3) := by decide +kernel
theorem dX2_forgetBoats_5 : decode cX2_forgetBoats 5 = .ok (.return_, 1) := by decide +kernel
theorem dX2_addBoat_0 : decode cX2_addBoat 0 = .ok (.aload_n 0, 1) := by decide +kernel
theorem dX2_addBoat_1 : decode cX2_addBoat 1 = .ok (.getfield 30, 3) := by decide +kernel
theorem dX2_addBoat_4 : decode cX2_addBoat 4 = .ok (.bipush 6, 2) := by decide +kernel
theorem dX2_addBoat_6 : decode cX2_addBoat 6 = .ok (.if_icmp .ge 52, 3) := by decide +kernel
theorem dX2_addBoat_9 : decode cX2_addBoat 9 = .ok (.aload_n 0, 1) := by decide +kernel
theorem dX2_addBoat_10 : decode cX2_addBoat 10 = .ok (.getfield 11, 3) := by decide +kernel
theorem dX2_addBoat_13 : decode cX2_addBoat 13 = .ok (.aload_n 0, 1) := by decide +kernel
theorem dX2_addBoat_14 : decode cX2_addBoat 14 = .ok (.getfield 30, 3) := by decide +kernel
theorem dX2_addBoat_17 : decode cX2_addBoat 17 = .ok (.aload_n 1, 1) := by decide +kernel
theorem dX2_addBoat_18 : decode cX2_addBoat 18 = .ok (.getfield 34, 3) := by decide +kernel
theorem dX2_addBoat_21 : decode cX2_addBoat 21 = .ok (.iastore, 1) := by decide +kernel
theorem dX2_addBoat_22 : decode cX2_addBoat 22 = .ok (.aload_n 0, 1) := by decide +kernel
theorem dX2_addBoat_23 : decode cX2_addBoat 23 = .ok (.getfield 15, 3) := by decide +kernel
theorem dX2_addBoat_26 : decode cX2_addBoat 26 = .ok (.aload_n 0, 1) := by decide +kernel
theorem dX2_addBoat_27 : decode cX2_addBoat 27 = .ok (.getfield 30, 3) := by decide +kernel
theorem dX2_addBoat_30 : decode cX2_addBoat 30 = .ok (.aload_n 1, 1) := by decide +kernel
theorem dX2_addBoat_31 : decode cX2_addBoat 31 = .ok (.getfield 39, 3) := by decide +kernel
theorem dX2_addBoat_34 : decode cX2_addBoat 34 = .ok (.iastore, 1) := by decide +kernel
theorem dX2_addBoat_35 : decode cX2_addBoat 35 = .ok (.aload_n 0, 1) := by decide +kernel
theorem dX2_addBoat_36 : decode cX2_addBoat 36 = .ok (.getfield 18, 3) := by decide +kernel
theorem dX2_addBoat_39 : decode cX2_addBoat 39 = .ok (.aload_n 0, 1) := by decide +kernel
theorem dX2_addBoat_40 : decode cX2_addBoat 40 = .ok (.getfield 30, 3) := by decide +kernel
theorem dX2_addBoat_43 : decode cX2_addBoat 43 = .ok (.aload_n 1, 1) := by decide +kernel
theorem dX2_addBoat_44 : decode cX2_addBoat 44 = .ok (.getfield 42, 3) := by decide +kernel
theorem dX2_addBoat_47 : decode cX2_addBoat 47 = .ok (.iastore, 1) := by decide +kernel
theorem dX2_addBoat_48 : decode cX2_addBoat 48 = .ok (.aload_n 0, 1) := by decide +kernel
theorem dX2_addBoat_49 : decode cX2_addBoat 49 = .ok (.dup, 1) := by decide +kernel
theorem dX2_addBoat_50 : decode cX2_addBoat 50 = .ok (.getfield 30, 3) := by decide +kernel
theorem dX2_addBoat_53 : decode cX2_addBoat 53 = .ok (.iconst 1, 1) := by decide +kernel
theorem dX2_addBoat_54 : decode cX2_addBoat 54 = .ok (.iadd, 1) := by decide +kernel
theorem dX2_addBoat_55 : decode cX2_addBoat 55 = .ok (.putfield 30, 3) := by decide +kernel
theorem dX2_addBoat_58 : decode cX2_addBoat 58 = .ok (.return_, 1) := by decide +kernel
set_option maxRecDepth 20000 in
theorem ggX2_best_X2_layOutRow : GoodIn wsX2_best wsX2_layOutRow := goodIn_r _ [11, 12, 13, 14, 15, 16, 17, 18, 19, 20, 21, 22, 23, 24, 25, 26, 27, 28, 29, 30, 31, 32, 56, 57, 58, 59, 60, 61, 62, 63, 64, 65, 66, 67, 68, 69, 70, 71, 72, 73] (by decide +kernel) (by decide +kernel)
set_option maxRecDepth 20000 in
theorem gX2_best_X2_layOutRow : GoodIn wsX2_best (wsV RX2 56 RX2 yX2_layOutRow wsX2_layOutRow) := goodIn_app (goodIn_of _ (by decide +kernel)) ggX2_best_X2_layOutRow
set_option maxRecDepth 20000 in
theorem ggX2_best_X2_bestFrom : GoodIn wsX2_best wsX2_bestFrom := goodIn_r _ [36, 37, 5, 12, 1, 3, 38, 39, 40, 41, 42, 43, 44, 45, 10, 46, 47, 48, 49, 6, 33, 34, 35, 50, 4, 51, 52, 53, 54, 55, 56, 57, 58, 59, 60, 61, 62, 63, 64] (by decide +kernel) (by decide +kernel)
set_option maxRecDepth 20000 in
theorem gX2_best_X2_bestFrom : GoodIn wsX2_best (wsV RX2 60 RX2 yX2_bestFrom wsX2_bestFrom) := goodIn_app (goodIn_of _ (by decide +kernel)) ggX2_best_X2_bestFrom
theorem dX2_best_0 : decode cX2_best 0 = .ok (.aload_n 0, 1) := by decide +kernel
theorem dX2_best_1 : decode cX2_best 1 = .ok (.getfield 45, 3) := by decide +kernel
theorem dX2_best_4 : decode cX2_best 4 = .ok (.ifnonnull 12, 3) := by decide +kernel
theorem dX2_best_7 : decode cX2_best 7 = .ok (.aload_n 0, 1) := by decide +kernel
theorem dX2_best_8 : decode cX2_best 8 = .ok (.sipush 23296, 3) := by decide +kernel
theorem dX2_best_11 : decode cX2_best 11 = .ok (.newarray .long, 2) := by decide +kernel
theorem dX2_best_13 : decode cX2_best 13 = .ok (.putfield 45, 3) := by decide +kernel
theorem dX2_best_16 : decode cX2_best 16 = .ok (.aload_n 0, 1) := by decide +kernel
theorem dX2_best_17 : decode cX2_best 17 = .ok (.dup, 1) := by decide +kernel
theorem dX2_best_18 : decode cX2_best 18 = .ok (.getfield 49, 3) := by decide +kernel
theorem dX2_best_21 : decode cX2_best 21 = .ok (.lconst 1, 1) := by decide +kernel
theorem dX2_best_22 : decode cX2_best 22 = .ok (.ladd, 1) := by decide +kernel
theorem dX2_best_23 : decode cX2_best 23 = .ok (.putfield 49, 3) := by decide +kernel
theorem dX2_best_26 : decode cX2_best 26 = .ok (.aload_n 0, 1) := by decide +kernel
theorem dX2_best_27 : decode cX2_best 27 = .ok (.iload_n 3, 1) := by decide +kernel
theorem dX2_best_28 : decode cX2_best 28 = .ok (.putfield 53, 3) := by decide +kernel
theorem dX2_best_31 : decode cX2_best 31 = .ok (.aload_n 0, 1) := by decide +kernel
theorem dX2_best_32 : decode cX2_best 32 = .ok (.iconst 0, 1) := by decide +kernel
theorem dX2_best_33 : decode cX2_best 33 = .ok (.iload_n 2, 1) := by decide +kernel
theorem dX2_best_34 : decode cX2_best 34 = .ok (.invokevirtual 56, 3) := by decide +kernel
theorem dX2_best_37 : decode cX2_best 37 = .ok (.iconst 0, 1) := by decide +kernel
theorem dX2_best_38 : decode cX2_best 38 = .ok (.istore 4, 2) := by decide +kernel
theorem dX2_best_40 : decode cX2_best 40 = .ok (.iload 4, 2) := by decide +kernel
theorem dX2_best_42 : decode cX2_best 42 = .ok (.aload_n 0, 1) := by decide +kernel
theorem dX2_best_43 : decode cX2_best 43 = .ok (.getfield 30, 3) := by decide +kernel
theorem dX2_best_46 : decode cX2_best 46 = .ok (.if_icmp .ge 24, 3) := by decide +kernel
theorem dX2_best_49 : decode cX2_best 49 = .ok (.aload_n 0, 1) := by decide +kernel
theorem dX2_best_50 : decode cX2_best 50 = .ok (.iload 4, 2) := by decide +kernel
theorem dX2_best_52 : decode cX2_best 52 = .ok (.iconst 1, 1) := by decide +kernel
theorem dX2_best_53 : decode cX2_best 53 = .ok (.iadd, 1) := by decide +kernel
theorem dX2_best_54 : decode cX2_best 54 = .ok (.aload_n 0, 1) := by decide +kernel
theorem dX2_best_55 : decode cX2_best 55 = .ok (.getfield 15, 3) := by decide +kernel
theorem dX2_best_58 : decode cX2_best 58 = .ok (.iload 4, 2) := by decide +kernel
theorem dX2_best_60 : decode cX2_best 60 = .ok (.iaload, 1) := by decide +kernel
theorem dX2_best_61 : decode cX2_best 61 = .ok (.invokevirtual 56, 3) := by decide +kernel
theorem dX2_best_64 : decode cX2_best 64 = .ok (.iinc 4 1, 3) := by decide +kernel
theorem dX2_best_67 : decode cX2_best 67 = .ok (.goto (-27), 3) := by decide +kernel
theorem dX2_best_70 : decode cX2_best 70 = .ok (.aload_n 0, 1) := by decide +kernel
theorem dX2_best_71 : decode cX2_best 71 = .ok (.iconst 0, 1) := by decide +kernel
theorem dX2_best_72 : decode cX2_best 72 = .ok (.iload_n 1, 1) := by decide +kernel
theorem dX2_best_73 : decode cX2_best 73 = .ok (.iconst 0, 1) := by decide +kernel
theorem dX2_best_74 : decode cX2_best 74 = .ok (.iconst 0, 1) := by decide +kernel
theorem dX2_best_75 : decode cX2_best 75 = .ok (.iconst 0, 1) := by decide +kernel
theorem dX2_best_76 : decode cX2_best 76 = .ok (.invokevirtual 60, 3) := by decide +kernel
theorem dX2_best_79 : decode cX2_best 79 = .ok (.lreturn, 1) := by decide +kernel
set_option maxRecDepth 20000 in
theorem ggX2_layOutRow_X4_endOf : GoodIn wsX2_layOutRow wsX4_endOf := goodIn_r _ [7, 8, 9, 10, 11, 12, 13, 14, 15, 16, 17, 6, 18, 19, 20, 21, 31, 32, 33, 34, 35, 36, 37, 38, 39] (by decide +kernel) (by decide +kernel)
set_option maxRecDepth 20000 in
theorem gX2_layOutRow_X4_endOf : GoodIn wsX2_layOutRow (wsV RX2 64 RX4 yX4_endOf wsX4_endOf) := goodIn_app (goodIn_of _ (by decide +kernel)) ggX2_layOutRow_X4_endOf
theorem dX2_layOutRow_0 : decode cX2_layOutRow 0 = .ok (.iload_n 2, 1) := by decide +kernel
theorem dX2_layOutRow_1 : decode cX2_layOutRow 1 = .ok (.istore_n 3, 1) := by decide +kernel
theorem dX2_layOutRow_2 : decode cX2_layOutRow 2 = .ok (.iload_n 1, 1) := by decide +kernel
theorem dX2_layOutRow_3 : decode cX2_layOutRow 3 = .ok (.bipush 13, 2) := by decide +kernel
theorem dX2_layOutRow_5 : decode cX2_layOutRow 5 = .ok (.imul, 1) := by decide +kernel
theorem dX2_layOutRow_6 : decode cX2_layOutRow 6 = .ok (.istore 4, 2) := by decide +kernel
theorem dX2_layOutRow_8 : decode cX2_layOutRow 8 = .ok (.iload 4, 2) := by decide +kernel
theorem dX2_layOutRow_10 : decode cX2_layOutRow 10 = .ok (.iload_n 1, 1) := by decide +kernel
theorem dX2_layOutRow_11 : decode cX2_layOutRow 11 = .ok (.iconst 1, 1) := by decide +kernel
theorem dX2_layOutRow_12 : decode cX2_layOutRow 12 = .ok (.iadd, 1) := by decide +kernel
theorem dX2_layOutRow_13 : decode cX2_layOutRow 13 = .ok (.bipush 13, 2) := by decide +kernel
theorem dX2_layOutRow_15 : decode cX2_layOutRow 15 = .ok (.imul, 1) := by decide +kernel
theorem dX2_layOutRow_16 : decode cX2_layOutRow 16 = .ok (.if_icmp .ge 33, 3) := by decide +kernel
theorem dX2_layOutRow_19 : decode cX2_layOutRow 19 = .ok (.iload 4, 2) := by decide +kernel
theorem dX2_layOutRow_21 : decode cX2_layOutRow 21 = .ok (.bipush 91, 2) := by decide +kernel
theorem dX2_layOutRow_23 : decode cX2_layOutRow 23 = .ok (.if_icmp .ge 26, 3) := by decide +kernel
theorem dX2_layOutRow_26 : decode cX2_layOutRow 26 = .ok (.aload_n 0, 1) := by decide +kernel
theorem dX2_layOutRow_27 : decode cX2_layOutRow 27 = .ok (.getfield 21, 3) := by decide +kernel
theorem dX2_layOutRow_30 : decode cX2_layOutRow 30 = .ok (.iload 4, 2) := by decide +kernel
theorem dX2_layOutRow_32 : decode cX2_layOutRow 32 = .ok (.iload_n 3, 1) := by decide +kernel
theorem dX2_layOutRow_33 : decode cX2_layOutRow 33 = .ok (.iastore, 1) := by decide +kernel
theorem dX2_layOutRow_34 : decode cX2_layOutRow 34 = .ok (.aload_n 0, 1) := by decide +kernel
theorem dX2_layOutRow_35 : decode cX2_layOutRow 35 = .ok (.getfield 24, 3) := by decide +kernel
theorem dX2_layOutRow_38 : decode cX2_layOutRow 38 = .ok (.iload_n 3, 1) := by decide +kernel
theorem dX2_layOutRow_39 : decode cX2_layOutRow 39 = .ok (.invokevirtual 64, 3) := by decide +kernel
theorem dX2_layOutRow_42 : decode cX2_layOutRow 42 = .ok (.istore_n 3, 1) := by decide +kernel
theorem dX2_layOutRow_43 : decode cX2_layOutRow 43 = .ok (.iinc 4 1, 3) := by decide +kernel
theorem dX2_layOutRow_46 : decode cX2_layOutRow 46 = .ok (.goto (-38), 3) := by decide +kernel
theorem dX2_layOutRow_49 : decode cX2_layOutRow 49 = .ok (.return_, 1) := by decide +kernel
set_option maxRecDepth 20000 in
theorem ggX2_bestFrom_X2_bestByRiding : GoodIn wsX2_bestFrom wsX2_bestByRiding := goodIn_r _ [23, 1, 3, 24, 2, 25, 19, 26, 7, 8, 9, 10, 27, 28, 29, 20, 21, 22, 14, 0, 4, 5, 6, 11, 12, 13, 15, 16, 17, 18, 30, 31, 32, 33, 34, 35, 36, 37, 38] (by decide +kernel) (by decide +kernel)
set_option maxRecDepth 20000 in
theorem gX2_bestFrom_X2_bestByRiding : GoodIn wsX2_bestFrom (wsV RX2 74 RX2 yX2_bestByRiding wsX2_bestByRiding) := goodIn_app (goodIn_of _ (by decide +kernel)) ggX2_bestFrom_X2_bestByRiding
set_option maxRecDepth 20000 in
theorem ggX2_bestFrom_X2_momentOfNextBoat : GoodIn wsX2_bestFrom wsX2_momentOfNextBoat := goodIn_r _ [18, 2, 19, 30, 31, 32, 33, 34, 35, 36, 37, 38] (by decide +kernel) (by decide +kernel)
set_option maxRecDepth 20000 in
theorem gX2_bestFrom_X2_momentOfNextBoat : GoodIn wsX2_bestFrom (wsV RX2 77 RX2 yX2_momentOfNextBoat wsX2_momentOfNextBoat) := goodIn_app (goodIn_of _ (by decide +kernel)) ggX2_bestFrom_X2_momentOfNextBoat
set_option maxRecDepth 20000 in
theorem ggX2_bestFrom_X2_bestFrom : GoodIn wsX2_bestFrom wsX2_bestFrom := goodIn_r _ [0, 1, 2, 3, 4, 5, 6, 7, 8, 9, 10, 11, 12, 13, 14, 15, 16, 17, 18, 19, 20, 21, 22, 23, 24, 25, 26, 27, 28, 29, 30, 31, 32, 33, 34, 35, 36, 37, 38] (by decide +kernel) (by decide +kernel)
set_option maxRecDepth 20000 in
theorem gX2_bestFrom_X2_bestFrom : GoodIn wsX2_bestFrom (wsV RX2 60 RX2 yX2_bestFrom wsX2_bestFrom) := goodIn_app (goodIn_of _ (by decide +kernel)) ggX2_bestFrom_X2_bestFrom
theorem dX2_bestFrom_0 : decode cX2_bestFrom 0 = .ok (.iload_n 1, 1) := by decide +kernel
theorem dX2_bestFrom_1 : decode cX2_bestFrom 1 = .ok (.ifCond .lt 16, 3) := by decide +kernel
theorem dX2_bestFrom_4 : decode cX2_bestFrom 4 = .ok (.iload_n 1, 1) := by decide +kernel
theorem dX2_bestFrom_5 : decode cX2_bestFrom 5 = .ok (.bipush 91, 2) := by decide +kernel
theorem dX2_bestFrom_7 : decode cX2_bestFrom 7 = .ok (.if_icmp .ge 10, 3) := by decide +kernel
theorem dX2_bestFrom_10 : decode cX2_bestFrom 10 = .ok (.iload 5, 2) := by decide +kernel
theorem dX2_bestFrom_12 : decode cX2_bestFrom 12 = .ok (.bipush 18, 2) := by decide +kernel
theorem dX2_bestFrom_14 : decode cX2_bestFrom 14 = .ok (.if_icmp .le 7, 3) := by decide +kernel
theorem dX2_bestFrom_17 : decode cX2_bestFrom 17 = .ok (.ldc2_w 70, 3) := by decide +kernel
theorem dX2_bestFrom_20 : decode cX2_bestFrom 20 = .ok (.lreturn, 1) := by decide +kernel
theorem dX2_bestFrom_21 : decode cX2_bestFrom 21 = .ok (.iload_n 3, 1) := by decide +kernel
theorem dX2_bestFrom_22 : decode cX2_bestFrom 22 = .ok (.iconst 1, 1) := by decide +kernel
theorem dX2_bestFrom_23 : decode cX2_bestFrom 23 = .ok (.aload_n 0, 1) := by decide +kernel
theorem dX2_bestFrom_24 : decode cX2_bestFrom 24 = .ok (.getfield 30, 3) := by decide +kernel
theorem dX2_bestFrom_27 : decode cX2_bestFrom 27 = .ok (.ishl, 1) := by decide +kernel
theorem dX2_bestFrom_28 : decode cX2_bestFrom 28 = .ok (.iconst 1, 1) := by decide +kernel
theorem dX2_bestFrom_29 : decode cX2_bestFrom 29 = .ok (.isub, 1) := by decide +kernel
theorem dX2_bestFrom_30 : decode cX2_bestFrom 30 = .ok (.if_icmp .ne 11, 3) := by decide +kernel
theorem dX2_bestFrom_33 : decode cX2_bestFrom 33 = .ok (.aload_n 0, 1) := by decide +kernel
theorem dX2_bestFrom_34 : decode cX2_bestFrom 34 = .ok (.getfield 21, 3) := by decide +kernel
theorem dX2_bestFrom_37 : decode cX2_bestFrom 37 = .ok (.iload_n 1, 1) := by decide +kernel
theorem dX2_bestFrom_38 : decode cX2_bestFrom 38 = .ok (.iaload, 1) := by decide +kernel
theorem dX2_bestFrom_39 : decode cX2_bestFrom 39 = .ok (.i2l, 1) := by decide +kernel
theorem dX2_bestFrom_40 : decode cX2_bestFrom 40 = .ok (.lreturn, 1) := by decide +kernel
theorem dX2_bestFrom_41 : decode cX2_bestFrom 41 = .ok (.iload_n 1, 1) := by decide +kernel
theorem dX2_bestFrom_42 : decode cX2_bestFrom 42 = .ok (.iconst 2, 1) := by decide +kernel
theorem dX2_bestFrom_43 : decode cX2_bestFrom 43 = .ok (.imul, 1) := by decide +kernel
theorem dX2_bestFrom_44 : decode cX2_bestFrom 44 = .ok (.iload_n 2, 1) := by decide +kernel
theorem dX2_bestFrom_45 : decode cX2_bestFrom 45 = .ok (.iadd, 1) := by decide +kernel
theorem dX2_bestFrom_46 : decode cX2_bestFrom 46 = .ok (.bipush 64, 2) := by decide +kernel
theorem dX2_bestFrom_48 : decode cX2_bestFrom 48 = .ok (.imul, 1) := by decide +kernel
theorem dX2_bestFrom_49 : decode cX2_bestFrom 49 = .ok (.iload_n 3, 1) := by decide +kernel
theorem dX2_bestFrom_50 : decode cX2_bestFrom 50 = .ok (.iadd, 1) := by decide +kernel
theorem dX2_bestFrom_51 : decode cX2_bestFrom 51 = .ok (.iconst 2, 1) := by decide +kernel
theorem dX2_bestFrom_52 : decode cX2_bestFrom 52 = .ok (.imul, 1) := by decide +kernel
theorem dX2_bestFrom_53 : decode cX2_bestFrom 53 = .ok (.iload 4, 2) := by decide +kernel
theorem dX2_bestFrom_55 : decode cX2_bestFrom 55 = .ok (.ifCond .eq 7, 3) := by decide +kernel
theorem dX2_bestFrom_58 : decode cX2_bestFrom 58 = .ok (.iconst 1, 1) := by decide +kernel
theorem dX2_bestFrom_59 : decode cX2_bestFrom 59 = .ok (.goto 4, 3) := by decide +kernel
theorem dX2_bestFrom_62 : decode cX2_bestFrom 62 = .ok (.iconst 0, 1) := by decide +kernel
theorem dX2_bestFrom_63 : decode cX2_bestFrom 63 = .ok (.iadd, 1) := by decide +kernel
theorem dX2_bestFrom_64 : decode cX2_bestFrom 64 = .ok (.istore 6, 2) := by decide +kernel
theorem dX2_bestFrom_66 : decode cX2_bestFrom 66 = .ok (.aload_n 0, 1) := by decide +kernel
theorem dX2_bestFrom_67 : decode cX2_bestFrom 67 = .ok (.getfield 45, 3) := by decide +kernel
theorem dX2_bestFrom_70 : decode cX2_bestFrom 70 = .ok (.ifnull 18, 3) := by decide +kernel
theorem dX2_bestFrom_73 : decode cX2_bestFrom 73 = .ok (.iload 6, 2) := by decide +kernel
theorem dX2_bestFrom_75 : decode cX2_bestFrom 75 = .ok (.ifCond .lt 13, 3) := by decide +kernel
theorem dX2_bestFrom_78 : decode cX2_bestFrom 78 = .ok (.iload 6, 2) := by decide +kernel
theorem dX2_bestFrom_80 : decode cX2_bestFrom 80 = .ok (.aload_n 0, 1) := by decide +kernel
theorem dX2_bestFrom_81 : decode cX2_bestFrom 81 = .ok (.getfield 45, 3) := by decide +kernel
theorem dX2_bestFrom_84 : decode cX2_bestFrom 84 = .ok (.arraylength, 1) := by decide +kernel
theorem dX2_bestFrom_85 : decode cX2_bestFrom 85 = .ok (.if_icmp .lt 7, 3) := by decide +kernel
theorem dX2_bestFrom_88 : decode cX2_bestFrom 88 = .ok (.ldc2_w 70, 3) := by decide +kernel
theorem dX2_bestFrom_91 : decode cX2_bestFrom 91 = .ok (.lreturn, 1) := by decide +kernel
theorem dX2_bestFrom_92 : decode cX2_bestFrom 92 = .ok (.aload_n 0, 1) := by decide +kernel
theorem dX2_bestFrom_93 : decode cX2_bestFrom 93 = .ok (.getfield 45, 3) := by decide +kernel
theorem dX2_bestFrom_96 : decode cX2_bestFrom 96 = .ok (.iload 6, 2) := by decide +kernel
theorem dX2_bestFrom_98 : decode cX2_bestFrom 98 = .ok (.laload, 1) := by decide +kernel
theorem dX2_bestFrom_99 : decode cX2_bestFrom 99 = .ok (.bipush 40, 2) := by decide +kernel
theorem dX2_bestFrom_101 : decode cX2_bestFrom 101 = .ok (.lushr, 1) := by decide +kernel
theorem dX2_bestFrom_102 : decode cX2_bestFrom 102 = .ok (.aload_n 0, 1) := by decide +kernel
theorem dX2_bestFrom_103 : decode cX2_bestFrom 103 = .ok (.getfield 49, 3) := by decide +kernel
theorem dX2_bestFrom_106 : decode cX2_bestFrom 106 = .ok (.lcmp, 1) := by decide +kernel
theorem dX2_bestFrom_107 : decode cX2_bestFrom 107 = .ok (.ifCond .ne 15, 3) := by decide +kernel
theorem dX2_bestFrom_110 : decode cX2_bestFrom 110 = .ok (.aload_n 0, 1) := by decide +kernel
theorem dX2_bestFrom_111 : decode cX2_bestFrom 111 = .ok (.getfield 45, 3) := by decide +kernel
theorem dX2_bestFrom_114 : decode cX2_bestFrom 114 = .ok (.iload 6, 2) := by decide +kernel
theorem dX2_bestFrom_116 : decode cX2_bestFrom 116 = .ok (.laload, 1) := by decide +kernel
theorem dX2_bestFrom_117 : decode cX2_bestFrom 117 = .ok (.ldc2_w 72, 3) := by decide +kernel
theorem dX2_bestFrom_120 : decode cX2_bestFrom 120 = .ok (.land, 1) := by decide +kernel
theorem dX2_bestFrom_121 : decode cX2_bestFrom 121 = .ok (.lreturn, 1) := by decide +kernel
theorem dX2_bestFrom_122 : decode cX2_bestFrom 122 = .ok (.aload_n 0, 1) := by decide +kernel
theorem dX2_bestFrom_123 : decode cX2_bestFrom 123 = .ok (.iload_n 1, 1) := by decide +kernel
theorem dX2_bestFrom_124 : decode cX2_bestFrom 124 = .ok (.iload_n 2, 1) := by decide +kernel
theorem dX2_bestFrom_125 : decode cX2_bestFrom 125 = .ok (.iload_n 3, 1) := by decide +kernel
theorem dX2_bestFrom_126 : decode cX2_bestFrom 126 = .ok (.iload 4, 2) := by decide +kernel
theorem dX2_bestFrom_128 : decode cX2_bestFrom 128 = .ok (.iload 5, 2) := by decide +kernel
theorem dX2_bestFrom_130 : decode cX2_bestFrom 130 = .ok (.invokevirtual 74, 3) := by decide +kernel
theorem dX2_bestFrom_133 : decode cX2_bestFrom 133 = .ok (.lstore 7, 2) := by decide +kernel
theorem dX2_bestFrom_135 : decode cX2_bestFrom 135 = .ok (.aload_n 0, 1) := by decide +kernel
theorem dX2_bestFrom_136 : decode cX2_bestFrom 136 = .ok (.aload_n 0, 1) := by decide +kernel
theorem dX2_bestFrom_137 : decode cX2_bestFrom 137 = .ok (.getfield 21, 3) := by decide +kernel
theorem dX2_bestFrom_140 : decode cX2_bestFrom 140 = .ok (.iload_n 1, 1) := by decide +kernel
theorem dX2_bestFrom_141 : decode cX2_bestFrom 141 = .ok (.iaload, 1) := by decide +kernel
theorem dX2_bestFrom_142 : decode cX2_bestFrom 142 = .ok (.invokevirtual 77, 3) := by decide +kernel
theorem dX2_bestFrom_145 : decode cX2_bestFrom 145 = .ok (.istore 9, 2) := by decide +kernel
theorem dX2_bestFrom_147 : decode cX2_bestFrom 147 = .ok (.iload 9, 2) := by decide +kernel
theorem dX2_bestFrom_149 : decode cX2_bestFrom 149 = .ok (.iconst (-1), 1) := by decide +kernel
theorem dX2_bestFrom_150 : decode cX2_bestFrom 150 = .ok (.if_icmp .eq 24, 3) := by decide +kernel
theorem dX2_bestFrom_153 : decode cX2_bestFrom 153 = .ok (.lload 7, 2) := by decide +kernel
theorem dX2_bestFrom_155 : decode cX2_bestFrom 155 = .ok (.aload_n 0, 1) := by decide +kernel
theorem dX2_bestFrom_156 : decode cX2_bestFrom 156 = .ok (.iload 9, 2) := by decide +kernel
theorem dX2_bestFrom_158 : decode cX2_bestFrom 158 = .ok (.iload_n 2, 1) := by decide +kernel
theorem dX2_bestFrom_159 : decode cX2_bestFrom 159 = .ok (.iload_n 3, 1) := by decide +kernel
theorem dX2_bestFrom_160 : decode cX2_bestFrom 160 = .ok (.iload 4, 2) := by decide +kernel
theorem dX2_bestFrom_162 : decode cX2_bestFrom 162 = .ok (.iload 5, 2) := by decide +kernel
theorem dX2_bestFrom_164 : decode cX2_bestFrom 164 = .ok (.iconst 1, 1) := by decide +kernel
theorem dX2_bestFrom_165 : decode cX2_bestFrom 165 = .ok (.iadd, 1) := by decide +kernel
theorem dX2_bestFrom_166 : decode cX2_bestFrom 166 = .ok (.invokevirtual 60, 3) := by decide +kernel
theorem dX2_bestFrom_169 : decode cX2_bestFrom 169 = .ok (.invokestatic 80, 3) := by decide +kernel
theorem dX2_bestFrom_172 : decode cX2_bestFrom 172 = .ok (.lstore 7, 2) := by decide +kernel
theorem dX2_bestFrom_174 : decode cX2_bestFrom 174 = .ok (.aload_n 0, 1) := by decide +kernel
theorem dX2_bestFrom_175 : decode cX2_bestFrom 175 = .ok (.getfield 45, 3) := by decide +kernel
theorem dX2_bestFrom_178 : decode cX2_bestFrom 178 = .ok (.iload 6, 2) := by decide +kernel
theorem dX2_bestFrom_180 : decode cX2_bestFrom 180 = .ok (.aload_n 0, 1) := by decide +kernel
theorem dX2_bestFrom_181 : decode cX2_bestFrom 181 = .ok (.getfield 49, 3) := by decide +kernel
theorem dX2_bestFrom_184 : decode cX2_bestFrom 184 = .ok (.bipush 40, 2) := by decide +kernel
theorem dX2_bestFrom_186 : decode cX2_bestFrom 186 = .ok (.lshl, 1) := by decide +kernel
theorem dX2_bestFrom_187 : decode cX2_bestFrom 187 = .ok (.lload 7, 2) := by decide +kernel
theorem dX2_bestFrom_189 : decode cX2_bestFrom 189 = .ok (.lor, 1) := by decide +kernel
theorem dX2_bestFrom_190 : decode cX2_bestFrom 190 = .ok (.lastore, 1) := by decide +kernel
theorem dX2_bestFrom_191 : decode cX2_bestFrom 191 = .ok (.lload 7, 2) := by decide +kernel
theorem dX2_bestFrom_193 : decode cX2_bestFrom 193 = .ok (.lreturn, 1) := by decide +kernel
set_option maxRecDepth 20000 in
theorem ggX2_bestByRiding_X6_otherSide : GoodIn wsX2_bestByRiding wsX6_otherSide := goodIn_r _ [14] (by decide +kernel) (by decide +kernel)
set_option maxRecDepth 20000 in
theorem gX2_bestByRiding_X6_otherSide_n86 : GoodIn wsX2_bestByRiding (wsX6_otherSide) := ggX2_bestByRiding_X6_otherSide
set_option maxRecDepth 20000 in
theorem ggX2_bestByRiding_X2_bestFrom : GoodIn wsX2_bestByRiding wsX2_bestFrom := goodIn_r _ [19, 1, 4, 2, 20, 21, 22, 8, 9, 10, 11, 23, 24, 25, 18, 26, 27, 28, 29, 6, 15, 16, 17, 0, 3, 5, 7, 12, 13, 14, 30, 31, 32, 33, 34, 35, 36, 37, 38] (by decide +kernel) (by decide +kernel)
set_option maxRecDepth 20000 in
theorem gX2_bestByRiding_X2_bestFrom : GoodIn wsX2_bestByRiding (wsV RX2 60 RX2 yX2_bestFrom wsX2_bestFrom) := goodIn_app (goodIn_of _ (by decide +kernel)) ggX2_bestByRiding_X2_bestFrom
theorem dX2_bestByRiding_0 : decode cX2_bestByRiding 0 = .ok (.iload_n 1, 1) := by decide +kernel
theorem dX2_bestByRiding_1 : decode cX2_bestByRiding 1 = .ok (.bipush 13, 2) := by decide +kernel
theorem dX2_bestByRiding_3 : decode cX2_bestByRiding 3 = .ok (.irem, 1) := by decide +kernel
theorem dX2_bestByRiding_4 : decode cX2_bestByRiding 4 = .ok (.bipush 12, 2) := by decide +kernel
theorem dX2_bestByRiding_6 : decode cX2_bestByRiding 6 = .ok (.if_icmp .ne 7, 3) := by decide +kernel
theorem dX2_bestByRiding_9 : decode cX2_bestByRiding 9 = .ok (.ldc2_w 70, 3) := by decide +kernel
theorem dX2_bestByRiding_12 : decode cX2_bestByRiding 12 = .ok (.lreturn, 1) := by decide +kernel
theorem dX2_bestByRiding_13 : decode cX2_bestByRiding 13 = .ok (.aload_n 0, 1) := by decide +kernel
theorem dX2_bestByRiding_14 : decode cX2_bestByRiding 14 = .ok (.getfield 21, 3) := by decide +kernel
theorem dX2_bestByRiding_17 : decode cX2_bestByRiding 17 = .ok (.iload_n 1, 1) := by decide +kernel
theorem dX2_bestByRiding_18 : decode cX2_bestByRiding 18 = .ok (.iaload, 1) := by decide +kernel
theorem dX2_bestByRiding_19 : decode cX2_bestByRiding 19 = .ok (.istore 6, 2) := by decide +kernel
theorem dX2_bestByRiding_21 : decode cX2_bestByRiding 21 = .ok (.iload_n 2, 1) := by decide +kernel
theorem dX2_bestByRiding_22 : decode cX2_bestByRiding 22 = .ok (.invokestatic 86, 3) := by decide +kernel
theorem dX2_bestByRiding_25 : decode cX2_bestByRiding 25 = .ok (.istore 7, 2) := by decide +kernel
theorem dX2_bestByRiding_27 : decode cX2_bestByRiding 27 = .ok (.iload 4, 2) := by decide +kernel
theorem dX2_bestByRiding_29 : decode cX2_bestByRiding 29 = .ok (.ifCond .eq 9, 3) := by decide +kernel
theorem dX2_bestByRiding_32 : decode cX2_bestByRiding 32 = .ok (.ldc2_w 70, 3) := by decide +kernel
theorem dX2_bestByRiding_35 : decode cX2_bestByRiding 35 = .ok (.goto 18, 3) := by decide +kernel
theorem dX2_bestByRiding_38 : decode cX2_bestByRiding 38 = .ok (.aload_n 0, 1) := by decide +kernel
theorem dX2_bestByRiding_39 : decode cX2_bestByRiding 39 = .ok (.iload_n 1, 1) := by decide +kernel
theorem dX2_bestByRiding_40 : decode cX2_bestByRiding 40 = .ok (.iconst 1, 1) := by decide +kernel
theorem dX2_bestByRiding_41 : decode cX2_bestByRiding 41 = .ok (.iadd, 1) := by decide +kernel
theorem dX2_bestByRiding_42 : decode cX2_bestByRiding 42 = .ok (.iload 7, 2) := by decide +kernel
theorem dX2_bestByRiding_44 : decode cX2_bestByRiding 44 = .ok (.iload_n 3, 1) := by decide +kernel
theorem dX2_bestByRiding_45 : decode cX2_bestByRiding 45 = .ok (.iconst 1, 1) := by decide +kernel
theorem dX2_bestByRiding_46 : decode cX2_bestByRiding 46 = .ok (.iload 5, 2) := by decide +kernel
theorem dX2_bestByRiding_48 : decode cX2_bestByRiding 48 = .ok (.iconst 1, 1) := by decide +kernel
theorem dX2_bestByRiding_49 : decode cX2_bestByRiding 49 = .ok (.iadd, 1) := by decide +kernel
theorem dX2_bestByRiding_50 : decode cX2_bestByRiding 50 = .ok (.invokevirtual 60, 3) := by decide +kernel
theorem dX2_bestByRiding_53 : decode cX2_bestByRiding 53 = .ok (.lstore 8, 2) := by decide +kernel
theorem dX2_bestByRiding_55 : decode cX2_bestByRiding 55 = .ok (.aload_n 0, 1) := by decide +kernel
theorem dX2_bestByRiding_56 : decode cX2_bestByRiding 56 = .ok (.getfield 53, 3) := by decide +kernel
theorem dX2_bestByRiding_59 : decode cX2_bestByRiding 59 = .ok (.istore 10, 2) := by decide +kernel
theorem dX2_bestByRiding_61 : decode cX2_bestByRiding 61 = .ok (.lconst 0, 1) := by decide +kernel
theorem dX2_bestByRiding_62 : decode cX2_bestByRiding 62 = .ok (.lstore 11, 2) := by decide +kernel
theorem dX2_bestByRiding_64 : decode cX2_bestByRiding 64 = .ok (.iload_n 3, 1) := by decide +kernel
theorem dX2_bestByRiding_65 : decode cX2_bestByRiding 65 = .ok (.istore 13, 2) := by decide +kernel
theorem dX2_bestByRiding_67 : decode cX2_bestByRiding 67 = .ok (.iconst 0, 1) := by decide +kernel
theorem dX2_bestByRiding_68 : decode cX2_bestByRiding 68 = .ok (.istore 14, 2) := by decide +kernel
theorem dX2_bestByRiding_70 : decode cX2_bestByRiding 70 = .ok (.iload 14, 2) := by decide +kernel
theorem dX2_bestByRiding_72 : decode cX2_bestByRiding 72 = .ok (.aload_n 0, 1) := by decide +kernel
theorem dX2_bestByRiding_73 : decode cX2_bestByRiding 73 = .ok (.getfield 30, 3) := by decide +kernel
theorem dX2_bestByRiding_76 : decode cX2_bestByRiding 76 = .ok (.if_icmp .ge 119, 3) := by decide +kernel
theorem dX2_bestByRiding_79 : decode cX2_bestByRiding 79 = .ok (.aload_n 0, 1) := by decide +kernel
theorem dX2_bestByRiding_80 : decode cX2_bestByRiding 80 = .ok (.getfield 11, 3) := by decide +kernel
theorem dX2_bestByRiding_83 : decode cX2_bestByRiding 83 = .ok (.iload 14, 2) := by decide +kernel
theorem dX2_bestByRiding_85 : decode cX2_bestByRiding 85 = .ok (.iaload, 1) := by decide +kernel
theorem dX2_bestByRiding_86 : decode cX2_bestByRiding 86 = .ok (.iload_n 2, 1) := by decide +kernel
theorem dX2_bestByRiding_87 : decode cX2_bestByRiding 87 = .ok (.if_icmp .ne 102, 3) := by decide +kernel
theorem dX2_bestByRiding_90 : decode cX2_bestByRiding 90 = .ok (.aload_n 0, 1) := by decide +kernel
theorem dX2_bestByRiding_91 : decode cX2_bestByRiding 91 = .ok (.getfield 15, 3) := by decide +kernel
theorem dX2_bestByRiding_94 : decode cX2_bestByRiding 94 = .ok (.iload 14, 2) := by decide +kernel
theorem dX2_bestByRiding_96 : decode cX2_bestByRiding 96 = .ok (.iaload, 1) := by decide +kernel
theorem dX2_bestByRiding_97 : decode cX2_bestByRiding 97 = .ok (.iload 6, 2) := by decide +kernel
theorem dX2_bestByRiding_99 : decode cX2_bestByRiding 99 = .ok (.if_icmp .gt 90, 3) := by decide +kernel
theorem dX2_bestByRiding_102 : decode cX2_bestByRiding 102 = .ok (.iload_n 3, 1) := by decide +kernel
theorem dX2_bestByRiding_103 : decode cX2_bestByRiding 103 = .ok (.iload 14, 2) := by decide +kernel
theorem dX2_bestByRiding_105 : decode cX2_bestByRiding 105 = .ok (.ishr, 1) := by decide +kernel
theorem dX2_bestByRiding_106 : decode cX2_bestByRiding 106 = .ok (.iconst 1, 1) := by decide +kernel
theorem dX2_bestByRiding_107 : decode cX2_bestByRiding 107 = .ok (.iand, 1) := by decide +kernel
theorem dX2_bestByRiding_108 : decode cX2_bestByRiding 108 = .ok (.ifCond .ne 81, 3) := by decide +kernel
theorem dX2_bestByRiding_111 : decode cX2_bestByRiding 111 = .ok (.iload 10, 2) := by decide +kernel
theorem dX2_bestByRiding_113 : decode cX2_bestByRiding 113 = .ok (.aload_n 0, 1) := by decide +kernel
theorem dX2_bestByRiding_114 : decode cX2_bestByRiding 114 = .ok (.getfield 18, 3) := by decide +kernel
theorem dX2_bestByRiding_117 : decode cX2_bestByRiding 117 = .ok (.iload 14, 2) := by decide +kernel
theorem dX2_bestByRiding_119 : decode cX2_bestByRiding 119 = .ok (.iaload, 1) := by decide +kernel
theorem dX2_bestByRiding_120 : decode cX2_bestByRiding 120 = .ok (.isub, 1) := by decide +kernel
theorem dX2_bestByRiding_121 : decode cX2_bestByRiding 121 = .ok (.istore 10, 2) := by decide +kernel
theorem dX2_bestByRiding_123 : decode cX2_bestByRiding 123 = .ok (.iload 10, 2) := by decide +kernel
theorem dX2_bestByRiding_125 : decode cX2_bestByRiding 125 = .ok (.ifCond .ge 6, 3) := by decide +kernel
theorem dX2_bestByRiding_128 : decode cX2_bestByRiding 128 = .ok (.goto 67, 3) := by decide +kernel
theorem dX2_bestByRiding_131 : decode cX2_bestByRiding 131 = .ok (.lload 11, 2) := by decide +kernel
theorem dX2_bestByRiding_133 : decode cX2_bestByRiding 133 = .ok (.iload 6, 2) := by decide +kernel
theorem dX2_bestByRiding_135 : decode cX2_bestByRiding 135 = .ok (.aload_n 0, 1) := by decide +kernel
theorem dX2_bestByRiding_136 : decode cX2_bestByRiding 136 = .ok (.getfield 15, 3) := by decide +kernel
theorem dX2_bestByRiding_139 : decode cX2_bestByRiding 139 = .ok (.iload 14, 2) := by decide +kernel
theorem dX2_bestByRiding_141 : decode cX2_bestByRiding 141 = .ok (.iaload, 1) := by decide +kernel
theorem dX2_bestByRiding_142 : decode cX2_bestByRiding 142 = .ok (.isub, 1) := by decide +kernel
theorem dX2_bestByRiding_143 : decode cX2_bestByRiding 143 = .ok (.i2l, 1) := by decide +kernel
theorem dX2_bestByRiding_144 : decode cX2_bestByRiding 144 = .ok (.ladd, 1) := by decide +kernel
theorem dX2_bestByRiding_145 : decode cX2_bestByRiding 145 = .ok (.lstore 11, 2) := by decide +kernel
theorem dX2_bestByRiding_147 : decode cX2_bestByRiding 147 = .ok (.iload 13, 2) := by decide +kernel
theorem dX2_bestByRiding_149 : decode cX2_bestByRiding 149 = .ok (.iconst 1, 1) := by decide +kernel
theorem dX2_bestByRiding_150 : decode cX2_bestByRiding 150 = .ok (.iload 14, 2) := by decide +kernel
theorem dX2_bestByRiding_152 : decode cX2_bestByRiding 152 = .ok (.ishl, 1) := by decide +kernel
theorem dX2_bestByRiding_153 : decode cX2_bestByRiding 153 = .ok (.ior, 1) := by decide +kernel
theorem dX2_bestByRiding_154 : decode cX2_bestByRiding 154 = .ok (.istore 13, 2) := by decide +kernel
theorem dX2_bestByRiding_156 : decode cX2_bestByRiding 156 = .ok (.aload_n 0, 1) := by decide +kernel
theorem dX2_bestByRiding_157 : decode cX2_bestByRiding 157 = .ok (.iload_n 1, 1) := by decide +kernel
theorem dX2_bestByRiding_158 : decode cX2_bestByRiding 158 = .ok (.iconst 1, 1) := by decide +kernel
theorem dX2_bestByRiding_159 : decode cX2_bestByRiding 159 = .ok (.iadd, 1) := by decide +kernel
theorem dX2_bestByRiding_160 : decode cX2_bestByRiding 160 = .ok (.iload 7, 2) := by decide +kernel
theorem dX2_bestByRiding_162 : decode cX2_bestByRiding 162 = .ok (.iload 13, 2) := by decide +kernel
theorem dX2_bestByRiding_164 : decode cX2_bestByRiding 164 = .ok (.iconst 0, 1) := by decide +kernel
theorem dX2_bestByRiding_165 : decode cX2_bestByRiding 165 = .ok (.iload 5, 2) := by decide +kernel
theorem dX2_bestByRiding_167 : decode cX2_bestByRiding 167 = .ok (.iconst 1, 1) := by decide +kernel
theorem dX2_bestByRiding_168 : decode cX2_bestByRiding 168 = .ok (.iadd, 1) := by decide +kernel
theorem dX2_bestByRiding_169 : decode cX2_bestByRiding 169 = .ok (.invokevirtual 60, 3) := by decide +kernel
theorem dX2_bestByRiding_172 : decode cX2_bestByRiding 172 = .ok (.lstore 15, 2) := by decide +kernel
theorem dX2_bestByRiding_174 : decode cX2_bestByRiding 174 = .ok (.lload 8, 2) := by decide +kernel
theorem dX2_bestByRiding_176 : decode cX2_bestByRiding 176 = .ok (.lload 11, 2) := by decide +kernel
theorem dX2_bestByRiding_178 : decode cX2_bestByRiding 178 = .ok (.bipush 16, 2) := by decide +kernel
theorem dX2_bestByRiding_180 : decode cX2_bestByRiding 180 = .ok (.lshl, 1) := by decide +kernel
theorem dX2_bestByRiding_181 : decode cX2_bestByRiding 181 = .ok (.lload 15, 2) := by decide +kernel
theorem dX2_bestByRiding_183 : decode cX2_bestByRiding 183 = .ok (.ladd, 1) := by decide +kernel
theorem dX2_bestByRiding_184 : decode cX2_bestByRiding 184 = .ok (.invokestatic 80, 3) := by decide +kernel
theorem dX2_bestByRiding_187 : decode cX2_bestByRiding 187 = .ok (.lstore 8, 2) := by decide +kernel
theorem dX2_bestByRiding_189 : decode cX2_bestByRiding 189 = .ok (.iinc 14 1, 3) := by decide +kernel
theorem dX2_bestByRiding_192 : decode cX2_bestByRiding 192 = .ok (.goto (-122), 3) := by decide +kernel
theorem dX2_bestByRiding_195 : decode cX2_bestByRiding 195 = .ok (.lload 8, 2) := by decide +kernel
theorem dX2_bestByRiding_197 : decode cX2_bestByRiding 197 = .ok (.lreturn, 1) := by decide +kernel
theorem dX2_momentOfNextBoat_0 : decode cX2_momentOfNextBoat 0 = .ok (.iconst (-1), 1) := by decide +kernel
theorem dX2_momentOfNextBoat_1 : decode cX2_momentOfNextBoat 1 = .ok (.istore_n 2, 1) := by decide +kernel
theorem dX2_momentOfNextBoat_2 : decode cX2_momentOfNextBoat 2 = .ok (.iconst 0, 1) := by decide +kernel
theorem dX2_momentOfNextBoat_3 : decode cX2_momentOfNextBoat 3 = .ok (.istore_n 3, 1) := by decide +kernel
theorem dX2_momentOfNextBoat_4 : decode cX2_momentOfNextBoat 4 = .ok (.iload_n 3, 1) := by decide +kernel
theorem dX2_momentOfNextBoat_5 : decode cX2_momentOfNextBoat 5 = .ok (.aload_n 0, 1) := by decide +kernel
theorem dX2_momentOfNextBoat_6 : decode cX2_momentOfNextBoat 6 = .ok (.getfield 30, 3) := by decide +kernel
theorem dX2_momentOfNextBoat_9 : decode cX2_momentOfNextBoat 9 = .ok (.if_icmp .ge 41, 3) := by decide +kernel
theorem dX2_momentOfNextBoat_12 : decode cX2_momentOfNextBoat 12 = .ok (.aload_n 0, 1) := by decide +kernel
theorem dX2_momentOfNextBoat_13 : decode cX2_momentOfNextBoat 13 = .ok (.getfield 15, 3) := by decide +kernel
theorem dX2_momentOfNextBoat_16 : decode cX2_momentOfNextBoat 16 = .ok (.iload_n 3, 1) := by decide +kernel
theorem dX2_momentOfNextBoat_17 : decode cX2_momentOfNextBoat 17 = .ok (.iaload, 1) := by decide +kernel
theorem dX2_momentOfNextBoat_18 : decode cX2_momentOfNextBoat 18 = .ok (.iload_n 1, 1) := by decide +kernel
theorem dX2_momentOfNextBoat_19 : decode cX2_momentOfNextBoat 19 = .ok (.if_icmp .le 25, 3) := by decide +kernel
theorem dX2_momentOfNextBoat_22 : decode cX2_momentOfNextBoat 22 = .ok (.iload_n 2, 1) := by decide +kernel
theorem dX2_momentOfNextBoat_23 : decode cX2_momentOfNextBoat 23 = .ok (.iconst (-1), 1) := by decide +kernel
end
section
theorem dX2_momentOfNextBoat_24 : decode cX2_momentOfNextBoat 24 = .ok (.if_icmp .eq 18, 3) := by decide +kernel
theorem dX2_momentOfNextBoat_27 : decode cX2_momentOfNextBoat 27 = .ok (.aload_n 0, 1) := by decide +kernel
theorem dX2_momentOfNextBoat_28 : decode cX2_momentOfNextBoat 28 = .ok (.getfield 15, 3) := by decide +kernel
theorem dX2_momentOfNextBoat_31 : decode cX2_momentOfNextBoat 31 = .ok (.iload_n 3, 1) := by decide +kernel
theorem dX2_momentOfNextBoat_32 : decode cX2_momentOfNextBoat 32 = .ok (.iaload, 1) := by decide +kernel
theorem dX2_momentOfNextBoat_33 : decode cX2_momentOfNextBoat 33 = .ok (.aload_n 0, 1) := by decide +kernel
theorem dX2_momentOfNextBoat_34 : decode cX2_momentOfNextBoat 34 = .ok (.getfield 15, 3) := by decide +kernel
theorem dX2_momentOfNextBoat_37 : decode cX2_momentOfNextBoat 37 = .ok (.iload_n 2, 1) := by decide +kernel
theorem dX2_momentOfNextBoat_38 : decode cX2_momentOfNextBoat 38 = .ok (.iaload, 1) := by decide +kernel
theorem dX2_momentOfNextBoat_39 : decode cX2_momentOfNextBoat 39 = .ok (.if_icmp .ge 5, 3) := by decide +kernel
theorem dX2_momentOfNextBoat_42 : decode cX2_momentOfNextBoat 42 = .ok (.iload_n 3, 1) := by decide +kernel
theorem dX2_momentOfNextBoat_43 : decode cX2_momentOfNextBoat 43 = .ok (.istore_n 2, 1) := by decide +kernel
theorem dX2_momentOfNextBoat_44 : decode cX2_momentOfNextBoat 44 = .ok (.iinc 3 1, 3) := by decide +kernel
theorem dX2_momentOfNextBoat_47 : decode cX2_momentOfNextBoat 47 = .ok (.goto (-43), 3) := by decide +kernel
theorem dX2_momentOfNextBoat_50 : decode cX2_momentOfNextBoat 50 = .ok (.iload_n 2, 1) := by decide +kernel
theorem dX2_momentOfNextBoat_51 : decode cX2_momentOfNextBoat 51 = .ok (.iconst (-1), 1) := by decide +kernel
theorem dX2_momentOfNextBoat_52 : decode cX2_momentOfNextBoat 52 = .ok (.if_icmp .ne 7, 3) := by decide +kernel
theorem dX2_momentOfNextBoat_55 : decode cX2_momentOfNextBoat 55 = .ok (.iconst (-1), 1) := by decide +kernel
theorem dX2_momentOfNextBoat_56 : decode cX2_momentOfNextBoat 56 = .ok (.goto 9, 3) := by decide +kernel
theorem dX2_momentOfNextBoat_59 : decode cX2_momentOfNextBoat 59 = .ok (.iload_n 2, 1) := by decide +kernel
theorem dX2_momentOfNextBoat_60 : decode cX2_momentOfNextBoat 60 = .ok (.iconst 1, 1) := by decide +kernel
theorem dX2_momentOfNextBoat_61 : decode cX2_momentOfNextBoat 61 = .ok (.iadd, 1) := by decide +kernel
theorem dX2_momentOfNextBoat_62 : decode cX2_momentOfNextBoat 62 = .ok (.bipush 13, 2) := by decide +kernel
theorem dX2_momentOfNextBoat_64 : decode cX2_momentOfNextBoat 64 = .ok (.imul, 1) := by decide +kernel
theorem dX2_momentOfNextBoat_65 : decode cX2_momentOfNextBoat 65 = .ok (.ireturn, 1) := by decide +kernel
theorem dX3_init_0 : decode cX3_init 0 = .ok (.aload_n 0, 1) := by decide +kernel
theorem dX3_init_1 : decode cX3_init 1 = .ok (.invokespecial 3, 3) := by decide +kernel
theorem dX3_init_4 : decode cX3_init 4 = .ok (.aload_n 0, 1) := by decide +kernel
theorem dX3_init_5 : decode cX3_init 5 = .ok (.bipush 60, 2) := by decide +kernel
theorem dX3_init_7 : decode cX3_init 7 = .ok (.newarray .int, 2) := by decide +kernel
theorem dX3_init_9 : decode cX3_init 9 = .ok (.putfield 11, 3) := by decide +kernel
theorem dX3_init_12 : decode cX3_init 12 = .ok (.return_, 1) := by decide +kernel
theorem dX3_size_0 : decode cX3_size 0 = .ok (.aload_n 0, 1) := by decide +kernel
theorem dX3_size_1 : decode cX3_size 1 = .ok (.getfield 15, 3) := by decide +kernel
theorem dX3_size_4 : decode cX3_size 4 = .ok (.ireturn, 1) := by decide +kernel
theorem dX3_hasRoom_0 : decode cX3_hasRoom 0 = .ok (.aload_n 0, 1) := by decide +kernel
theorem dX3_hasRoom_1 : decode cX3_hasRoom 1 = .ok (.getfield 15, 3) := by decide +kernel
theorem dX3_hasRoom_4 : decode cX3_hasRoom 4 = .ok (.bipush 20, 2) := by decide +kernel
theorem dX3_hasRoom_6 : decode cX3_hasRoom 6 = .ok (.iadd, 1) := by decide +kernel
theorem dX3_hasRoom_7 : decode cX3_hasRoom 7 = .ok (.bipush 60, 2) := by decide +kernel
theorem dX3_hasRoom_9 : decode cX3_hasRoom 9 = .ok (.if_icmp .gt 7, 3) := by decide +kernel
theorem dX3_hasRoom_12 : decode cX3_hasRoom 12 = .ok (.iconst 1, 1) := by decide +kernel
theorem dX3_hasRoom_13 : decode cX3_hasRoom 13 = .ok (.goto 4, 3) := by decide +kernel
theorem dX3_hasRoom_16 : decode cX3_hasRoom 16 = .ok (.iconst 0, 1) := by decide +kernel
theorem dX3_hasRoom_17 : decode cX3_hasRoom 17 = .ok (.ireturn, 1) := by decide +kernel
theorem dX3_put_0 : decode cX3_put 0 = .ok (.bipush 24, 2) := by decide +kernel
theorem dX3_put_2 : decode cX3_put 2 = .ok (.istore_n 2, 1) := by decide +kernel
theorem dX3_put_3 : decode cX3_put 3 = .ok (.iload_n 2, 1) := by decide +kernel
theorem dX3_put_4 : decode cX3_put 4 = .ok (.ifCond .lt 44, 3) := by decide +kernel
theorem dX3_put_7 : decode cX3_put 7 = .ok (.aload_n 0, 1) := by decide +kernel
theorem dX3_put_8 : decode cX3_put 8 = .ok (.getfield 15, 3) := by decide +kernel
theorem dX3_put_11 : decode cX3_put 11 = .ok (.bipush 60, 2) := by decide +kernel
theorem dX3_put_13 : decode cX3_put 13 = .ok (.if_icmp .ge 35, 3) := by decide +kernel
theorem dX3_put_16 : decode cX3_put 16 = .ok (.aload_n 0, 1) := by decide +kernel
theorem dX3_put_17 : decode cX3_put 17 = .ok (.getfield 11, 3) := by decide +kernel
theorem dX3_put_20 : decode cX3_put 20 = .ok (.aload_n 0, 1) := by decide +kernel
theorem dX3_put_21 : decode cX3_put 21 = .ok (.getfield 15, 3) := by decide +kernel
theorem dX3_put_24 : decode cX3_put 24 = .ok (.iload_n 1, 1) := by decide +kernel
theorem dX3_put_25 : decode cX3_put 25 = .ok (.iload_n 2, 1) := by decide +kernel
theorem dX3_put_26 : decode cX3_put 26 = .ok (.iushr, 1) := by decide +kernel
theorem dX3_put_27 : decode cX3_put 27 = .ok (.sipush 255, 3) := by decide +kernel
theorem dX3_put_30 : decode cX3_put 30 = .ok (.iand, 1) := by decide +kernel
theorem dX3_put_31 : decode cX3_put 31 = .ok (.iastore, 1) := by decide +kernel
theorem dX3_put_32 : decode cX3_put 32 = .ok (.aload_n 0, 1) := by decide +kernel
theorem dX3_put_33 : decode cX3_put 33 = .ok (.dup, 1) := by decide +kernel
theorem dX3_put_34 : decode cX3_put 34 = .ok (.getfield 15, 3) := by decide +kernel
theorem dX3_put_37 : decode cX3_put 37 = .ok (.iconst 1, 1) := by decide +kernel
theorem dX3_put_38 : decode cX3_put 38 = .ok (.iadd, 1) := by decide +kernel
theorem dX3_put_39 : decode cX3_put 39 = .ok (.putfield 15, 3) := by decide +kernel
theorem dX3_put_42 : decode cX3_put 42 = .ok (.iinc 2 (-8), 3) := by decide +kernel
theorem dX3_put_45 : decode cX3_put 45 = .ok (.goto (-42), 3) := by decide +kernel
theorem dX3_put_48 : decode cX3_put 48 = .ok (.return_, 1) := by decide +kernel
theorem dX3_at_0 : decode cX3_at 0 = .ok (.iload_n 1, 1) := by decide +kernel
theorem dX3_at_1 : decode cX3_at 1 = .ok (.ifCond .lt 20, 3) := by decide +kernel
theorem dX3_at_4 : decode cX3_at 4 = .ok (.iload_n 1, 1) := by decide +kernel
theorem dX3_at_5 : decode cX3_at 5 = .ok (.aload_n 0, 1) := by decide +kernel
theorem dX3_at_6 : decode cX3_at 6 = .ok (.getfield 15, 3) := by decide +kernel
theorem dX3_at_9 : decode cX3_at 9 = .ok (.if_icmp .ge 12, 3) := by decide +kernel
theorem dX3_at_12 : decode cX3_at 12 = .ok (.aload_n 0, 1) := by decide +kernel
theorem dX3_at_13 : decode cX3_at 13 = .ok (.getfield 11, 3) := by decide +kernel
theorem dX3_at_16 : decode cX3_at 16 = .ok (.iload_n 1, 1) := by decide +kernel
theorem dX3_at_17 : decode cX3_at 17 = .ok (.iaload, 1) := by decide +kernel
theorem dX3_at_18 : decode cX3_at 18 = .ok (.goto 4, 3) := by decide +kernel
theorem dX3_at_21 : decode cX3_at 21 = .ok (.iconst (-1), 1) := by decide +kernel
theorem dX3_at_22 : decode cX3_at 22 = .ok (.ireturn, 1) := by decide +kernel
theorem dX3_empty_0 : decode cX3_empty 0 = .ok (.aload_n 0, 1) := by decide +kernel
theorem dX3_empty_1 : decode cX3_empty 1 = .ok (.iconst 0, 1) := by decide +kernel
theorem dX3_empty_2 : decode cX3_empty 2 = .ok (.putfield 15, 3) := by decide +kernel
theorem dX3_empty_5 : decode cX3_empty 5 = .ok (.return_, 1) := by decide +kernel
theorem dX4_init_0 : decode cX4_init 0 = .ok (.aload_n 0, 1) := by decide +kernel
theorem dX4_init_1 : decode cX4_init 1 = .ok (.invokespecial 1, 3) := by decide +kernel
theorem dX4_init_4 : decode cX4_init 4 = .ok (.aload_n 0, 1) := by decide +kernel
theorem dX4_init_5 : decode cX4_init 5 = .ok (.bipush 8, 2) := by decide +kernel
theorem dX4_init_7 : decode cX4_init 7 = .ok (.newarray .int, 2) := by decide +kernel
theorem dX4_init_9 : decode cX4_init 9 = .ok (.putfield 9, 3) := by decide +kernel
theorem dX4_init_12 : decode cX4_init 12 = .ok (.aload_n 0, 1) := by decide +kernel
theorem dX4_init_13 : decode cX4_init 13 = .ok (.bipush 8, 2) := by decide +kernel
theorem dX4_init_15 : decode cX4_init 15 = .ok (.newarray .int, 2) := by decide +kernel
theorem dX4_init_17 : decode cX4_init 17 = .ok (.putfield 13, 3) := by decide +kernel
theorem dX4_init_20 : decode cX4_init 20 = .ok (.aload_n 0, 1) := by decide +kernel
theorem dX4_init_21 : decode cX4_init 21 = .ok (.aload_n 1, 1) := by decide +kernel
theorem dX4_init_22 : decode cX4_init 22 = .ok (.putfield 16, 3) := by decide +kernel
theorem dX4_init_25 : decode cX4_init 25 = .ok (.return_, 1) := by decide +kernel
theorem dX4_addIce_0 : decode cX4_addIce 0 = .ok (.aload_n 0, 1) := by decide +kernel
theorem dX4_addIce_1 : decode cX4_addIce 1 = .ok (.getfield 20, 3) := by decide +kernel
theorem dX4_addIce_4 : decode cX4_addIce 4 = .ok (.bipush 8, 2) := by decide +kernel
theorem dX4_addIce_6 : decode cX4_addIce 6 = .ok (.if_icmp .lt 5, 3) := by decide +kernel
theorem dX4_addIce_9 : decode cX4_addIce 9 = .ok (.iconst 0, 1) := by decide +kernel
theorem dX4_addIce_10 : decode cX4_addIce 10 = .ok (.ireturn, 1) := by decide +kernel
theorem dX4_addIce_11 : decode cX4_addIce 11 = .ok (.aload_n 0, 1) := by decide +kernel
theorem dX4_addIce_12 : decode cX4_addIce 12 = .ok (.getfield 9, 3) := by decide +kernel
theorem dX4_addIce_15 : decode cX4_addIce 15 = .ok (.aload_n 0, 1) := by decide +kernel
theorem dX4_addIce_16 : decode cX4_addIce 16 = .ok (.getfield 20, 3) := by decide +kernel
theorem dX4_addIce_19 : decode cX4_addIce 19 = .ok (.iload_n 1, 1) := by decide +kernel
theorem dX4_addIce_20 : decode cX4_addIce 20 = .ok (.iastore, 1) := by decide +kernel
theorem dX4_addIce_21 : decode cX4_addIce 21 = .ok (.aload_n 0, 1) := by decide +kernel
theorem dX4_addIce_22 : decode cX4_addIce 22 = .ok (.getfield 13, 3) := by decide +kernel
theorem dX4_addIce_25 : decode cX4_addIce 25 = .ok (.aload_n 0, 1) := by decide +kernel
theorem dX4_addIce_26 : decode cX4_addIce 26 = .ok (.getfield 20, 3) := by decide +kernel
theorem dX4_addIce_29 : decode cX4_addIce 29 = .ok (.iload_n 2, 1) := by decide +kernel
theorem dX4_addIce_30 : decode cX4_addIce 30 = .ok (.iastore, 1) := by decide +kernel
theorem dX4_addIce_31 : decode cX4_addIce 31 = .ok (.aload_n 0, 1) := by decide +kernel
theorem dX4_addIce_32 : decode cX4_addIce 32 = .ok (.dup, 1) := by decide +kernel
theorem dX4_addIce_33 : decode cX4_addIce 33 = .ok (.getfield 20, 3) := by decide +kernel
theorem dX4_addIce_36 : decode cX4_addIce 36 = .ok (.iconst 1, 1) := by decide +kernel
theorem dX4_addIce_37 : decode cX4_addIce 37 = .ok (.iadd, 1) := by decide +kernel
theorem dX4_addIce_38 : decode cX4_addIce 38 = .ok (.putfield 20, 3) := by decide +kernel
theorem dX4_addIce_41 : decode cX4_addIce 41 = .ok (.iconst 1, 1) := by decide +kernel
theorem dX4_addIce_42 : decode cX4_addIce 42 = .ok (.ireturn, 1) := by decide +kernel
set_option maxRecDepth 20000 in
theorem ggX4_endOf_X1_number : GoodIn wsX4_endOf wsX1_number := goodIn_r _ [6, 7, 20, 21, 22, 23, 24] (by decide +kernel) (by decide +kernel)
set_option maxRecDepth 20000 in
theorem gX4_endOf_X1_number : GoodIn wsX4_endOf (wsV RX4 26 RX1 yX1_number wsX1_number) := goodIn_app (goodIn_of _ (by decide +kernel)) ggX4_endOf_X1_number
set_option maxRecDepth 20000 in
theorem ggX4_endOf_X4_inIce : GoodIn wsX4_endOf wsX4_inIce := goodIn_r _ [12, 13, 14, 15, 16, 17, 18, 19] (by decide +kernel) (by decide +kernel)
set_option maxRecDepth 20000 in
theorem gX4_endOf_X4_inIce : GoodIn wsX4_endOf (wsV RX4 30 RX4 yX4_inIce wsX4_inIce) := goodIn_app (goodIn_of _ (by decide +kernel)) ggX4_endOf_X4_inIce
theorem dX4_endOf_0 : decode cX4_endOf 0 = .ok (.iload_n 1, 1) := by decide +kernel
theorem dX4_endOf_1 : decode cX4_endOf 1 = .ok (.aload_n 0, 1) := by decide +kernel
theorem dX4_endOf_2 : decode cX4_endOf 2 = .ok (.getfield 16, 3) := by decide +kernel
theorem dX4_endOf_5 : decode cX4_endOf 5 = .ok (.iconst 0, 1) := by decide +kernel
theorem dX4_endOf_6 : decode cX4_endOf 6 = .ok (.invokevirtual 26, 3) := by decide +kernel
theorem dX4_endOf_9 : decode cX4_endOf 9 = .ok (.iadd, 1) := by decide +kernel
theorem dX4_endOf_10 : decode cX4_endOf 10 = .ok (.iconst 2, 1) := by decide +kernel
theorem dX4_endOf_11 : decode cX4_endOf 11 = .ok (.aload_n 0, 1) := by decide +kernel
theorem dX4_endOf_12 : decode cX4_endOf 12 = .ok (.getfield 16, 3) := by decide +kernel
theorem dX4_endOf_15 : decode cX4_endOf 15 = .ok (.iconst 1, 1) := by decide +kernel
theorem dX4_endOf_16 : decode cX4_endOf 16 = .ok (.invokevirtual 26, 3) := by decide +kernel
theorem dX4_endOf_19 : decode cX4_endOf 19 = .ok (.imul, 1) := by decide +kernel
theorem dX4_endOf_20 : decode cX4_endOf 20 = .ok (.iadd, 1) := by decide +kernel
theorem dX4_endOf_21 : decode cX4_endOf 21 = .ok (.istore_n 2, 1) := by decide +kernel
theorem dX4_endOf_22 : decode cX4_endOf 22 = .ok (.aload_n 0, 1) := by decide +kernel
theorem dX4_endOf_23 : decode cX4_endOf 23 = .ok (.iload_n 1, 1) := by decide +kernel
theorem dX4_endOf_24 : decode cX4_endOf 24 = .ok (.invokevirtual 30, 3) := by decide +kernel
theorem dX4_endOf_27 : decode cX4_endOf 27 = .ok (.ifCond .eq 16, 3) := by decide +kernel
theorem dX4_endOf_30 : decode cX4_endOf 30 = .ok (.iload_n 2, 1) := by decide +kernel
theorem dX4_endOf_31 : decode cX4_endOf 31 = .ok (.aload_n 0, 1) := by decide +kernel
theorem dX4_endOf_32 : decode cX4_endOf 32 = .ok (.getfield 16, 3) := by decide +kernel
theorem dX4_endOf_35 : decode cX4_endOf 35 = .ok (.iconst 2, 1) := by decide +kernel
theorem dX4_endOf_36 : decode cX4_endOf 36 = .ok (.invokevirtual 26, 3) := by decide +kernel
theorem dX4_endOf_39 : decode cX4_endOf 39 = .ok (.iadd, 1) := by decide +kernel
theorem dX4_endOf_40 : decode cX4_endOf 40 = .ok (.goto 4, 3) := by decide +kernel
theorem dX4_endOf_43 : decode cX4_endOf 43 = .ok (.iload_n 2, 1) := by decide +kernel
theorem dX4_endOf_44 : decode cX4_endOf 44 = .ok (.ireturn, 1) := by decide +kernel
theorem dX4_inIce_0 : decode cX4_inIce 0 = .ok (.iconst 0, 1) := by decide +kernel
theorem dX4_inIce_1 : decode cX4_inIce 1 = .ok (.istore_n 2, 1) := by decide +kernel
theorem dX4_inIce_2 : decode cX4_inIce 2 = .ok (.iload_n 2, 1) := by decide +kernel
theorem dX4_inIce_3 : decode cX4_inIce 3 = .ok (.aload_n 0, 1) := by decide +kernel
theorem dX4_inIce_4 : decode cX4_inIce 4 = .ok (.getfield 20, 3) := by decide +kernel
theorem dX4_inIce_7 : decode cX4_inIce 7 = .ok (.if_icmp .ge 37, 3) := by decide +kernel
theorem dX4_inIce_10 : decode cX4_inIce 10 = .ok (.iload_n 2, 1) := by decide +kernel
theorem dX4_inIce_11 : decode cX4_inIce 11 = .ok (.bipush 8, 2) := by decide +kernel
theorem dX4_inIce_13 : decode cX4_inIce 13 = .ok (.if_icmp .ge 31, 3) := by decide +kernel
theorem dX4_inIce_16 : decode cX4_inIce 16 = .ok (.aload_n 0, 1) := by decide +kernel
theorem dX4_inIce_17 : decode cX4_inIce 17 = .ok (.getfield 9, 3) := by decide +kernel
theorem dX4_inIce_20 : decode cX4_inIce 20 = .ok (.iload_n 2, 1) := by decide +kernel
theorem dX4_inIce_21 : decode cX4_inIce 21 = .ok (.iaload, 1) := by decide +kernel
theorem dX4_inIce_22 : decode cX4_inIce 22 = .ok (.iload_n 1, 1) := by decide +kernel
theorem dX4_inIce_23 : decode cX4_inIce 23 = .ok (.if_icmp .gt 15, 3) := by decide +kernel
theorem dX4_inIce_26 : decode cX4_inIce 26 = .ok (.iload_n 1, 1) := by decide +kernel
theorem dX4_inIce_27 : decode cX4_inIce 27 = .ok (.aload_n 0, 1) := by decide +kernel
theorem dX4_inIce_28 : decode cX4_inIce 28 = .ok (.getfield 13, 3) := by decide +kernel
theorem dX4_inIce_31 : decode cX4_inIce 31 = .ok (.iload_n 2, 1) := by decide +kernel
theorem dX4_inIce_32 : decode cX4_inIce 32 = .ok (.iaload, 1) := by decide +kernel
theorem dX4_inIce_33 : decode cX4_inIce 33 = .ok (.if_icmp .ge 5, 3) := by decide +kernel
theorem dX4_inIce_36 : decode cX4_inIce 36 = .ok (.iconst 1, 1) := by decide +kernel
theorem dX4_inIce_37 : decode cX4_inIce 37 = .ok (.ireturn, 1) := by decide +kernel
theorem dX4_inIce_38 : decode cX4_inIce 38 = .ok (.iinc 2 1, 3) := by decide +kernel
theorem dX4_inIce_41 : decode cX4_inIce 41 = .ok (.goto (-39), 3) := by decide +kernel
theorem dX4_inIce_44 : decode cX4_inIce 44 = .ok (.iconst 0, 1) := by decide +kernel
theorem dX4_inIce_45 : decode cX4_inIce 45 = .ok (.ireturn, 1) := by decide +kernel
theorem dX5_init_0 : decode cX5_init 0 = .ok (.aload_n 0, 1) := by decide +kernel
theorem dX5_init_1 : decode cX5_init 1 = .ok (.invokespecial 1, 3) := by decide +kernel
theorem dX5_init_4 : decode cX5_init 4 = .ok (.aload_n 0, 1) := by decide +kernel
theorem dX5_init_5 : decode cX5_init 5 = .ok (.sipush 1000, 3) := by decide +kernel
theorem dX5_init_8 : decode cX5_init 8 = .ok (.putfield 7, 3) := by decide +kernel
theorem dX5_init_11 : decode cX5_init 11 = .ok (.return_, 1) := by decide +kernel
theorem dX5_spreadOver_0 : decode cX5_spreadOver 0 = .ok (.aload_n 0, 1) := by decide +kernel
theorem dX5_spreadOver_1 : decode cX5_spreadOver 1 = .ok (.iload_n 1, 1) := by decide +kernel
theorem dX5_spreadOver_2 : decode cX5_spreadOver 2 = .ok (.putfield 7, 3) := by decide +kernel
theorem dX5_spreadOver_5 : decode cX5_spreadOver 5 = .ok (.return_, 1) := by decide +kernel
theorem dX5_spread_0 : decode cX5_spread 0 = .ok (.aload_n 0, 1) := by decide +kernel
theorem dX5_spread_1 : decode cX5_spread 1 = .ok (.getfield 7, 3) := by decide +kernel
theorem dX5_spread_4 : decode cX5_spread 4 = .ok (.ireturn, 1) := by decide +kernel
theorem dX5_gain_0 : decode cX5_gain 0 = .ok (.aload_n 0, 1) := by decide +kernel
theorem dX5_gain_1 : decode cX5_gain 1 = .ok (.dup, 1) := by decide +kernel
theorem dX5_gain_2 : decode cX5_gain 2 = .ok (.getfield 13, 3) := by decide +kernel
theorem dX5_gain_5 : decode cX5_gain 5 = .ok (.iload_n 1, 1) := by decide +kernel
theorem dX5_gain_6 : decode cX5_gain 6 = .ok (.i2l, 1) := by decide +kernel
theorem dX5_gain_7 : decode cX5_gain 7 = .ok (.ladd, 1) := by decide +kernel
theorem dX5_gain_8 : decode cX5_gain 8 = .ok (.putfield 13, 3) := by decide +kernel
theorem dX5_gain_11 : decode cX5_gain 11 = .ok (.return_, 1) := by decide +kernel
theorem dX5_tonnes_0 : decode cX5_tonnes 0 = .ok (.aload_n 0, 1) := by decide +kernel
theorem dX5_tonnes_1 : decode cX5_tonnes 1 = .ok (.getfield 13, 3) := by decide +kernel
theorem dX5_tonnes_4 : decode cX5_tonnes 4 = .ok (.lreturn, 1) := by decide +kernel
set_option maxRecDepth 20000 in
theorem ggX5_centimetres_J9_floorDiv_f86c9 : GoodIn wsX5_centimetres wsJ9_floorDiv_f86c9 := goodIn_r _ [6] (by decide +kernel) (by decide +kernel)
set_option maxRecDepth 20000 in
theorem gX5_centimetres_J9_floorDiv_f86c9 : GoodIn wsX5_centimetres (va_wsS RX5 17 yJ9_floorDiv_f86c9 wsJ9_floorDiv_f86c9) := goodIn_app (goodIn_of _ (by decide +kernel)) ggX5_centimetres_J9_floorDiv_f86c9
theorem dX5_centimetres_0 : decode cX5_centimetres 0 = .ok (.aload_n 0, 1) := by decide +kernel
theorem dX5_centimetres_1 : decode cX5_centimetres 1 = .ok (.getfield 7, 3) := by decide +kernel
theorem dX5_centimetres_4 : decode cX5_centimetres 4 = .ok (.ifCond .le 19, 3) := by decide +kernel
theorem dX5_centimetres_7 : decode cX5_centimetres 7 = .ok (.aload_n 0, 1) := by decide +kernel
theorem dX5_centimetres_8 : decode cX5_centimetres 8 = .ok (.getfield 13, 3) := by decide +kernel
theorem dX5_centimetres_11 : decode cX5_centimetres 11 = .ok (.aload_n 0, 1) := by decide +kernel
theorem dX5_centimetres_12 : decode cX5_centimetres 12 = .ok (.getfield 7, 3) := by decide +kernel
theorem dX5_centimetres_15 : decode cX5_centimetres 15 = .ok (.i2l, 1) := by decide +kernel
theorem dX5_centimetres_16 : decode cX5_centimetres 16 = .ok (.invokestatic 17, 3) := by decide +kernel
theorem dX5_centimetres_19 : decode cX5_centimetres 19 = .ok (.l2i, 1) := by decide +kernel
theorem dX5_centimetres_20 : decode cX5_centimetres 20 = .ok (.goto 4, 3) := by decide +kernel
theorem dX5_centimetres_23 : decode cX5_centimetres 23 = .ok (.iconst 0, 1) := by decide +kernel
theorem dX5_centimetres_24 : decode cX5_centimetres 24 = .ok (.ireturn, 1) := by decide +kernel
set_option maxRecDepth 20000 in
theorem ggX5_decimetres_X5_centimetres : GoodIn wsX5_decimetres wsX5_centimetres := goodIn_r _ [5, 6, 7, 8, 9, 10, 11, 15, 16] (by decide +kernel) (by decide +kernel)
set_option maxRecDepth 20000 in
theorem gX5_decimetres_X5_centimetres : GoodIn wsX5_decimetres (wsV RX5 23 RX5 yX5_centimetres wsX5_centimetres) := goodIn_app (goodIn_of _ (by decide +kernel)) ggX5_decimetres_X5_centimetres
set_option maxRecDepth 20000 in
theorem ggX5_decimetres_J9_floorDiv_7cf53 : GoodIn wsX5_decimetres wsJ9_floorDiv_7cf53 := goodIn_r _ [14] (by decide +kernel) (by decide +kernel)
set_option maxRecDepth 20000 in
theorem gX5_decimetres_J9_floorDiv_7cf53 : GoodIn wsX5_decimetres (va_wsS RX5 27 yJ9_floorDiv_7cf53 wsJ9_floorDiv_7cf53) := goodIn_app (goodIn_of _ (by decide +kernel)) ggX5_decimetres_J9_floorDiv_7cf53
theorem dX5_decimetres_0 : decode cX5_decimetres 0 = .ok (.bipush 30, 2) := by decide +kernel
theorem dX5_decimetres_2 : decode cX5_decimetres 2 = .ok (.aload_n 0, 1) := by decide +kernel
theorem dX5_decimetres_3 : decode cX5_decimetres 3 = .ok (.invokevirtual 23, 3) := by decide +kernel
theorem dX5_decimetres_6 : decode cX5_decimetres 6 = .ok (.bipush 10, 2) := by decide +kernel
theorem dX5_decimetres_8 : decode cX5_decimetres 8 = .ok (.invokestatic 27, 3) := by decide +kernel
theorem dX5_decimetres_11 : decode cX5_decimetres 11 = .ok (.iadd, 1) := by decide +kernel
theorem dX5_decimetres_12 : decode cX5_decimetres 12 = .ok (.ireturn, 1) := by decide +kernel
set_option maxRecDepth 20000 in
theorem ggX6_init_X3_init : GoodIn wsX6_init wsX3_init := goodIn_r _ [33, 34, 2, 3, 35, 36, 86, 87] (by decide +kernel) (by decide +kernel)
set_option maxRecDepth 20000 in
theorem gX6_init_X3_init_n9 : GoodIn wsX6_init (wsX3_init) := ggX6_init_X3_init
set_option maxRecDepth 20000 in
theorem ggX6_init_X1_init : GoodIn wsX6_init wsX1_init := goodIn_r _ [39, 40, 2, 3, 41, 42, 43, 44, 45, 46, 47, 48, 49, 50, 103, 104, 105, 106, 107] (by decide +kernel) (by decide +kernel)
set_option maxRecDepth 20000 in
theorem gX6_init_X1_init : GoodIn wsX6_init (wsX1_init) := ggX6_init_X1_init
set_option maxRecDepth 20000 in
theorem ggX6_init_X4_init : GoodIn wsX6_init wsX4_init := goodIn_r _ [53, 54, 2, 3, 35, 55, 56, 57, 108, 109, 110, 111] (by decide +kernel) (by decide +kernel)
set_option maxRecDepth 20000 in
theorem gX6_init_X4_init : GoodIn wsX6_init (wsX4_init) := ggX6_init_X4_init
set_option maxRecDepth 20000 in
theorem ggX6_init_X2_init : GoodIn wsX6_init wsX2_init := goodIn_r _ [60, 61, 2, 3, 35, 62, 63, 64, 65, 66, 112, 113, 114, 115, 116, 117, 118, 119, 120] (by decide +kernel) (by decide +kernel)
set_option maxRecDepth 20000 in
theorem gX6_init_X2_init : GoodIn wsX6_init (wsX2_init) := ggX6_init_X2_init
set_option maxRecDepth 20000 in
theorem ggX6_init_X5_init : GoodIn wsX6_init wsX5_init := goodIn_r _ [68, 69, 2, 3, 70, 121, 122] (by decide +kernel) (by decide +kernel)
set_option maxRecDepth 20000 in
theorem gX6_init_X5_init_n45 : GoodIn wsX6_init (wsX5_init) := ggX6_init_X5_init
set_option maxRecDepth 20000 in
theorem ggX6_init_Jx4a65c_init_da8c8 : GoodIn wsX6_init wsJx4a65c_init_da8c8 := goodIn_r _ [73, 74, 75, 76, 77, 78, 79, 80, 81, 82, 83, 84, 85, 2, 3, 123, 124, 125] (by decide +kernel) (by decide +kernel)
set_option maxRecDepth 20000 in
theorem gX6_init_Jx4a65c_init_da8c8 : GoodIn wsX6_init (wsJx4a65c_init_da8c8) := ggX6_init_Jx4a65c_init_da8c8
theorem dX6_init_0 : decode cX6_init 0 = .ok (.aload_n 0, 1) := by decide +kernel
theorem dX6_init_1 : decode cX6_init 1 = .ok (.invokespecial 1, 3) := by decide +kernel
theorem dX6_init_4 : decode cX6_init 4 = .ok (.aload_n 0, 1) := by decide +kernel
theorem dX6_init_5 : decode cX6_init 5 = .ok (.new 7, 3) := by decide +kernel
theorem dX6_init_8 : decode cX6_init 8 = .ok (.dup, 1) := by decide +kernel
theorem dX6_init_9 : decode cX6_init 9 = .ok (.invokespecial 9, 3) := by decide +kernel
theorem dX6_init_12 : decode cX6_init 12 = .ok (.putfield 10, 3) := by decide +kernel
theorem dX6_init_15 : decode cX6_init 15 = .ok (.aload_n 0, 1) := by decide +kernel
theorem dX6_init_16 : decode cX6_init 16 = .ok (.new 16, 3) := by decide +kernel
theorem dX6_init_19 : decode cX6_init 19 = .ok (.dup, 1) := by decide +kernel
theorem dX6_init_20 : decode cX6_init 20 = .ok (.aload_n 0, 1) := by decide +kernel
theorem dX6_init_21 : decode cX6_init 21 = .ok (.getfield 10, 3) := by decide +kernel
theorem dX6_init_24 : decode cX6_init 24 = .ok (.invokespecial 18, 3) := by decide +kernel
theorem dX6_init_27 : decode cX6_init 27 = .ok (.putfield 21, 3) := by decide +kernel
theorem dX6_init_30 : decode cX6_init 30 = .ok (.aload_n 0, 1) := by decide +kernel
theorem dX6_init_31 : decode cX6_init 31 = .ok (.new 25, 3) := by decide +kernel
theorem dX6_init_34 : decode cX6_init 34 = .ok (.dup, 1) := by decide +kernel
theorem dX6_init_35 : decode cX6_init 35 = .ok (.aload_n 0, 1) := by decide +kernel
theorem dX6_init_36 : decode cX6_init 36 = .ok (.getfield 21, 3) := by decide +kernel
theorem dX6_init_39 : decode cX6_init 39 = .ok (.invokespecial 27, 3) := by decide +kernel
theorem dX6_init_42 : decode cX6_init 42 = .ok (.putfield 30, 3) := by decide +kernel
theorem dX6_init_45 : decode cX6_init 45 = .ok (.aload_n 0, 1) := by decide +kernel
theorem dX6_init_46 : decode cX6_init 46 = .ok (.new 34, 3) := by decide +kernel
theorem dX6_init_49 : decode cX6_init 49 = .ok (.dup, 1) := by decide +kernel
theorem dX6_init_50 : decode cX6_init 50 = .ok (.aload_n 0, 1) := by decide +kernel
theorem dX6_init_51 : decode cX6_init 51 = .ok (.getfield 30, 3) := by decide +kernel
theorem dX6_init_54 : decode cX6_init 54 = .ok (.invokespecial 36, 3) := by decide +kernel
theorem dX6_init_57 : decode cX6_init 57 = .ok (.putfield 39, 3) := by decide +kernel
theorem dX6_init_60 : decode cX6_init 60 = .ok (.aload_n 0, 1) := by decide +kernel
theorem dX6_init_61 : decode cX6_init 61 = .ok (.new 43, 3) := by decide +kernel
theorem dX6_init_64 : decode cX6_init 64 = .ok (.dup, 1) := by decide +kernel
theorem dX6_init_65 : decode cX6_init 65 = .ok (.invokespecial 45, 3) := by decide +kernel
theorem dX6_init_68 : decode cX6_init 68 = .ok (.putfield 46, 3) := by decide +kernel
theorem dX6_init_71 : decode cX6_init 71 = .ok (.aload_n 0, 1) := by decide +kernel
theorem dX6_init_72 : decode cX6_init 72 = .ok (.new 43, 3) := by decide +kernel
theorem dX6_init_75 : decode cX6_init 75 = .ok (.dup, 1) := by decide +kernel
theorem dX6_init_76 : decode cX6_init 76 = .ok (.invokespecial 45, 3) := by decide +kernel
theorem dX6_init_79 : decode cX6_init 79 = .ok (.putfield 50, 3) := by decide +kernel
theorem dX6_init_82 : decode cX6_init 82 = .ok (.aload_n 0, 1) := by decide +kernel
theorem dX6_init_83 : decode cX6_init 83 = .ok (.new 53, 3) := by decide +kernel
theorem dX6_init_86 : decode cX6_init 86 = .ok (.dup, 1) := by decide +kernel
theorem dX6_init_87 : decode cX6_init 87 = .ok (.invokespecial 55, 3) := by decide +kernel
theorem dX6_init_90 : decode cX6_init 90 = .ok (.putfield 56, 3) := by decide +kernel
theorem dX6_init_93 : decode cX6_init 93 = .ok (.aload_n 0, 1) := by decide +kernel
theorem dX6_init_94 : decode cX6_init 94 = .ok (.new 53, 3) := by decide +kernel
theorem dX6_init_97 : decode cX6_init 97 = .ok (.dup, 1) := by decide +kernel
theorem dX6_init_98 : decode cX6_init 98 = .ok (.invokespecial 55, 3) := by decide +kernel
theorem dX6_init_101 : decode cX6_init 101 = .ok (.putfield 60, 3) := by decide +kernel
theorem dX6_init_104 : decode cX6_init 104 = .ok (.aload_n 0, 1) := by decide +kernel
theorem dX6_init_105 : decode cX6_init 105 = .ok (.bipush 100, 2) := by decide +kernel
theorem dX6_init_107 : decode cX6_init 107 = .ok (.putfield 63, 3) := by decide +kernel
theorem dX6_init_110 : decode cX6_init 110 = .ok (.aload_n 0, 1) := by decide +kernel
theorem dX6_init_111 : decode cX6_init 111 = .ok (.iconst 0, 1) := by decide +kernel
theorem dX6_init_112 : decode cX6_init 112 = .ok (.putfield 67, 3) := by decide +kernel
theorem dX6_init_115 : decode cX6_init 115 = .ok (.return_, 1) := by decide +kernel
set_option maxRecDepth 20000 in
theorem ggX6_feed_X3_hasRoom : GoodIn wsX6_feed wsX3_hasRoom := goodIn_r _ [6, 7, 32, 33] (by decide +kernel) (by decide +kernel)
set_option maxRecDepth 20000 in
theorem gX6_feed_X3_hasRoom : GoodIn wsX6_feed (wsV RX6 70 RX3 yX3_hasRoom wsX3_hasRoom) := goodIn_app (goodIn_of _ (by decide +kernel)) ggX6_feed_X3_hasRoom
set_option maxRecDepth 20000 in
theorem ggX6_feed_X3_put : GoodIn wsX6_feed wsX3_put := goodIn_r _ [11, 7, 12, 32, 33] (by decide +kernel) (by decide +kernel)
set_option maxRecDepth 20000 in
theorem gX6_feed_X3_put : GoodIn wsX6_feed (wsV RX6 74 RX3 yX3_put wsX3_put) := goodIn_app (goodIn_of _ (by decide +kernel)) ggX6_feed_X3_put
set_option maxRecDepth 20000 in
theorem ggX6_feed_X3_size : GoodIn wsX6_feed wsX3_size := goodIn_r _ [16, 7, 32, 33] (by decide +kernel) (by decide +kernel)
set_option maxRecDepth 20000 in
theorem gX6_feed_X3_size : GoodIn wsX6_feed (wsV RX6 78 RX3 yX3_size wsX3_size) := goodIn_app (goodIn_of _ (by decide +kernel)) ggX6_feed_X3_size
theorem dX6_feed_0 : decode cX6_feed 0 = .ok (.aload_n 0, 1) := by decide +kernel
theorem dX6_feed_1 : decode cX6_feed 1 = .ok (.getfield 10, 3) := by decide +kernel
theorem dX6_feed_4 : decode cX6_feed 4 = .ok (.invokevirtual 70, 3) := by decide +kernel
theorem dX6_feed_7 : decode cX6_feed 7 = .ok (.ifCond .ne 5, 3) := by decide +kernel
theorem dX6_feed_10 : decode cX6_feed 10 = .ok (.iconst (-1), 1) := by decide +kernel
theorem dX6_feed_11 : decode cX6_feed 11 = .ok (.ireturn, 1) := by decide +kernel
theorem dX6_feed_12 : decode cX6_feed 12 = .ok (.aload_n 0, 1) := by decide +kernel
theorem dX6_feed_13 : decode cX6_feed 13 = .ok (.getfield 10, 3) := by decide +kernel
theorem dX6_feed_16 : decode cX6_feed 16 = .ok (.iload_n 1, 1) := by decide +kernel
theorem dX6_feed_17 : decode cX6_feed 17 = .ok (.invokevirtual 74, 3) := by decide +kernel
theorem dX6_feed_20 : decode cX6_feed 20 = .ok (.aload_n 0, 1) := by decide +kernel
theorem dX6_feed_21 : decode cX6_feed 21 = .ok (.getfield 10, 3) := by decide +kernel
theorem dX6_feed_24 : decode cX6_feed 24 = .ok (.iload_n 2, 1) := by decide +kernel
theorem dX6_feed_25 : decode cX6_feed 25 = .ok (.invokevirtual 74, 3) := by decide +kernel
theorem dX6_feed_28 : decode cX6_feed 28 = .ok (.aload_n 0, 1) := by decide +kernel
theorem dX6_feed_29 : decode cX6_feed 29 = .ok (.getfield 10, 3) := by decide +kernel
theorem dX6_feed_32 : decode cX6_feed 32 = .ok (.iload_n 3, 1) := by decide +kernel
theorem dX6_feed_33 : decode cX6_feed 33 = .ok (.invokevirtual 74, 3) := by decide +kernel
theorem dX6_feed_36 : decode cX6_feed 36 = .ok (.aload_n 0, 1) := by decide +kernel
theorem dX6_feed_37 : decode cX6_feed 37 = .ok (.getfield 10, 3) := by decide +kernel
theorem dX6_feed_40 : decode cX6_feed 40 = .ok (.iload 4, 2) := by decide +kernel
theorem dX6_feed_42 : decode cX6_feed 42 = .ok (.invokevirtual 74, 3) := by decide +kernel
theorem dX6_feed_45 : decode cX6_feed 45 = .ok (.aload_n 0, 1) := by decide +kernel
theorem dX6_feed_46 : decode cX6_feed 46 = .ok (.getfield 10, 3) := by decide +kernel
theorem dX6_feed_49 : decode cX6_feed 49 = .ok (.iload 5, 2) := by decide +kernel
theorem dX6_feed_51 : decode cX6_feed 51 = .ok (.invokevirtual 74, 3) := by decide +kernel
theorem dX6_feed_54 : decode cX6_feed 54 = .ok (.aload_n 0, 1) := by decide +kernel
theorem dX6_feed_55 : decode cX6_feed 55 = .ok (.getfield 10, 3) := by decide +kernel
theorem dX6_feed_58 : decode cX6_feed 58 = .ok (.invokevirtual 78, 3) := by decide +kernel
theorem dX6_feed_61 : decode cX6_feed 61 = .ok (.ireturn, 1) := by decide +kernel
set_option maxRecDepth 20000 in
theorem ggX6_law_X3_size : GoodIn wsX6_law wsX3_size := goodIn_r _ [7, 8, 76, 77] (by decide +kernel) (by decide +kernel)
set_option maxRecDepth 20000 in
theorem gX6_law_X3_size : GoodIn wsX6_law (wsV RX6 78 RX3 yX3_size wsX3_size) := goodIn_app (goodIn_of _ (by decide +kernel)) ggX6_law_X3_size
set_option maxRecDepth 20000 in
theorem ggX6_law_X6_within : GoodIn wsX6_law wsX6_within := goodIn_r _ [12] (by decide +kernel) (by decide +kernel)
set_option maxRecDepth 20000 in
theorem gX6_law_X6_within : GoodIn wsX6_law (va_wsS RX6 82 yX6_within wsX6_within) := goodIn_app (goodIn_of _ (by decide +kernel)) ggX6_law_X6_within
set_option maxRecDepth 20000 in
theorem ggX6_law_X1_enact : GoodIn wsX6_law wsX1_enact := goodIn_r _ [17, 18, 19, 20, 21, 22, 23, 24, 25, 26, 27, 28, 29, 16, 30, 31, 32, 33, 34, 35, 36, 37, 38, 39, 40, 41, 42, 43, 44, 6, 45, 8, 46, 47, 48, 49, 50, 51, 52, 53, 54, 55, 56, 78, 79, 80, 81, 82, 76, 77] (by decide +kernel) (by decide +kernel)
set_option maxRecDepth 20000 in
theorem gX6_law_X1_enact : GoodIn wsX6_law (wsV RX6 86 RX1 yX1_enact wsX1_enact) := goodIn_app (goodIn_of _ (by decide +kernel)) ggX6_law_X1_enact
set_option maxRecDepth 20000 in
theorem ggX6_law_X3_empty : GoodIn wsX6_law wsX3_empty := goodIn_r _ [60, 8, 76, 77] (by decide +kernel) (by decide +kernel)
set_option maxRecDepth 20000 in
theorem gX6_law_X3_empty : GoodIn wsX6_law (wsV RX6 90 RX3 yX3_empty wsX3_empty) := goodIn_app (goodIn_of _ (by decide +kernel)) ggX6_law_X3_empty
theorem dX6_law_0 : decode cX6_law 0 = .ok (.iload_n 1, 1) := by decide +kernel
theorem dX6_law_1 : decode cX6_law 1 = .ok (.iconst 0, 1) := by decide +kernel
theorem dX6_law_2 : decode cX6_law 2 = .ok (.aload_n 0, 1) := by decide +kernel
theorem dX6_law_3 : decode cX6_law 3 = .ok (.getfield 10, 3) := by decide +kernel
theorem dX6_law_6 : decode cX6_law 6 = .ok (.invokevirtual 78, 3) := by decide +kernel
theorem dX6_law_9 : decode cX6_law 9 = .ok (.invokestatic 82, 3) := by decide +kernel
theorem dX6_law_12 : decode cX6_law 12 = .ok (.ifCond .ne 5, 3) := by decide +kernel
theorem dX6_law_15 : decode cX6_law 15 = .ok (.iconst (-1), 1) := by decide +kernel
theorem dX6_law_16 : decode cX6_law 16 = .ok (.ireturn, 1) := by decide +kernel
theorem dX6_law_17 : decode cX6_law 17 = .ok (.aload_n 0, 1) := by decide +kernel
theorem dX6_law_18 : decode cX6_law 18 = .ok (.getfield 21, 3) := by decide +kernel
theorem dX6_law_21 : decode cX6_law 21 = .ok (.iload_n 1, 1) := by decide +kernel
theorem dX6_law_22 : decode cX6_law 22 = .ok (.invokevirtual 86, 3) := by decide +kernel
theorem dX6_law_25 : decode cX6_law 25 = .ok (.istore_n 2, 1) := by decide +kernel
theorem dX6_law_26 : decode cX6_law 26 = .ok (.aload_n 0, 1) := by decide +kernel
theorem dX6_law_27 : decode cX6_law 27 = .ok (.getfield 10, 3) := by decide +kernel
theorem dX6_law_30 : decode cX6_law 30 = .ok (.invokevirtual 90, 3) := by decide +kernel
theorem dX6_law_33 : decode cX6_law 33 = .ok (.iload_n 2, 1) := by decide +kernel
theorem dX6_law_34 : decode cX6_law 34 = .ok (.ireturn, 1) := by decide +kernel
set_option maxRecDepth 20000 in
theorem ggX6_trough_X6_within : GoodIn wsX6_trough wsX6_within := goodIn_r _ [5] (by decide +kernel) (by decide +kernel)
set_option maxRecDepth 20000 in
theorem gX6_trough_X6_within : GoodIn wsX6_trough (va_wsS RX6 82 yX6_within wsX6_within) := goodIn_app (goodIn_of _ (by decide +kernel)) ggX6_trough_X6_within
theorem dX6_trough_0 : decode cX6_trough 0 = .ok (.iload_n 1, 1) := by decide +kernel
theorem dX6_trough_1 : decode cX6_trough 1 = .ok (.bipush 10, 2) := by decide +kernel
theorem dX6_trough_3 : decode cX6_trough 3 = .ok (.sipush 200, 3) := by decide +kernel
theorem dX6_trough_6 : decode cX6_trough 6 = .ok (.invokestatic 82, 3) := by decide +kernel
theorem dX6_trough_9 : decode cX6_trough 9 = .ok (.ifCond .ne 5, 3) := by decide +kernel
theorem dX6_trough_12 : decode cX6_trough 12 = .ok (.iconst 0, 1) := by decide +kernel
theorem dX6_trough_13 : decode cX6_trough 13 = .ok (.ireturn, 1) := by decide +kernel
theorem dX6_trough_14 : decode cX6_trough 14 = .ok (.aload_n 0, 1) := by decide +kernel
theorem dX6_trough_15 : decode cX6_trough 15 = .ok (.iload_n 1, 1) := by decide +kernel
theorem dX6_trough_16 : decode cX6_trough 16 = .ok (.putfield 63, 3) := by decide +kernel
theorem dX6_trough_19 : decode cX6_trough 19 = .ok (.iconst 1, 1) := by decide +kernel
theorem dX6_trough_20 : decode cX6_trough 20 = .ok (.ireturn, 1) := by decide +kernel
set_option maxRecDepth 20000 in
theorem ggX6_area_X6_isSide : GoodIn wsX6_area wsX6_isSide := goodIn_r _ [4] (by decide +kernel) (by decide +kernel)
set_option maxRecDepth 20000 in
theorem gX6_area_X6_isSide : GoodIn wsX6_area (va_wsS RX6 93 yX6_isSide wsX6_isSide) := goodIn_app (goodIn_of _ (by decide +kernel)) ggX6_area_X6_isSide
set_option maxRecDepth 20000 in
theorem ggX6_area_X6_within : GoodIn wsX6_area wsX6_within := goodIn_r _ [7] (by decide +kernel) (by decide +kernel)
set_option maxRecDepth 20000 in
theorem gX6_area_X6_within : GoodIn wsX6_area (va_wsS RX6 82 yX6_within wsX6_within) := goodIn_app (goodIn_of _ (by decide +kernel)) ggX6_area_X6_within
set_option maxRecDepth 20000 in
theorem ggX6_area_X6_waterAt : GoodIn wsX6_area wsX6_waterAt := goodIn_r _ [11, 12, 13, 20, 21, 22, 23, 24, 25, 26, 27, 28, 29, 30, 31, 32, 33, 34] (by decide +kernel) (by decide +kernel)
set_option maxRecDepth 20000 in
theorem gX6_area_X6_waterAt : GoodIn wsX6_area (wsV RX6 97 RX6 yX6_waterAt wsX6_waterAt) := goodIn_app (goodIn_of _ (by decide +kernel)) ggX6_area_X6_waterAt
set_option maxRecDepth 20000 in
theorem ggX6_area_X5_spreadOver : GoodIn wsX6_area wsX5_spreadOver := goodIn_r _ [18, 19, 35, 36] (by decide +kernel) (by decide +kernel)
set_option maxRecDepth 20000 in
theorem gX6_area_X5_spreadOver : GoodIn wsX6_area (wsV RX6 101 RX5 yX5_spreadOver wsX5_spreadOver) := goodIn_app (goodIn_of _ (by decide +kernel)) ggX6_area_X5_spreadOver
theorem dX6_area_0 : decode cX6_area 0 = .ok (.iload_n 1, 1) := by decide +kernel
theorem dX6_area_1 : decode cX6_area 1 = .ok (.invokestatic 93, 3) := by decide +kernel
theorem dX6_area_4 : decode cX6_area 4 = .ok (.ifCond .eq 14, 3) := by decide +kernel
theorem dX6_area_7 : decode cX6_area 7 = .ok (.iload_n 2, 1) := by decide +kernel
theorem dX6_area_8 : decode cX6_area 8 = .ok (.iconst 1, 1) := by decide +kernel
theorem dX6_area_9 : decode cX6_area 9 = .ok (.sipush 10000, 3) := by decide +kernel
theorem dX6_area_12 : decode cX6_area 12 = .ok (.invokestatic 82, 3) := by decide +kernel
theorem dX6_area_15 : decode cX6_area 15 = .ok (.ifCond .ne 5, 3) := by decide +kernel
theorem dX6_area_18 : decode cX6_area 18 = .ok (.iconst 0, 1) := by decide +kernel
theorem dX6_area_19 : decode cX6_area 19 = .ok (.ireturn, 1) := by decide +kernel
theorem dX6_area_20 : decode cX6_area 20 = .ok (.aload_n 0, 1) := by decide +kernel
theorem dX6_area_21 : decode cX6_area 21 = .ok (.iload_n 1, 1) := by decide +kernel
theorem dX6_area_22 : decode cX6_area 22 = .ok (.invokevirtual 97, 3) := by decide +kernel
theorem dX6_area_25 : decode cX6_area 25 = .ok (.iload_n 2, 1) := by decide +kernel
theorem dX6_area_26 : decode cX6_area 26 = .ok (.invokevirtual 101, 3) := by decide +kernel
theorem dX6_area_29 : decode cX6_area 29 = .ok (.iconst 1, 1) := by decide +kernel
theorem dX6_area_30 : decode cX6_area 30 = .ok (.ireturn, 1) := by decide +kernel
set_option maxRecDepth 20000 in
theorem ggX6_flow_X6_isSide : GoodIn wsX6_flow wsX6_isSide := goodIn_r _ [6] (by decide +kernel) (by decide +kernel)
set_option maxRecDepth 20000 in
theorem gX6_flow_X6_isSide : GoodIn wsX6_flow (va_wsS RX6 93 yX6_isSide wsX6_isSide) := goodIn_app (goodIn_of _ (by decide +kernel)) ggX6_flow_X6_isSide
set_option maxRecDepth 20000 in
theorem ggX6_flow_X6_within : GoodIn wsX6_flow wsX6_within := goodIn_r _ [9] (by decide +kernel) (by decide +kernel)
set_option maxRecDepth 20000 in
theorem gX6_flow_X6_within : GoodIn wsX6_flow (va_wsS RX6 82 yX6_within wsX6_within) := goodIn_app (goodIn_of _ (by decide +kernel)) ggX6_flow_X6_within
set_option maxRecDepth 20000 in
theorem ggX6_flow_X6_waterAt : GoodIn wsX6_flow wsX6_waterAt := goodIn_r _ [13, 14, 15, 22, 23, 24, 25, 26, 27, 28, 29, 30, 31, 32, 33, 34, 35, 36] (by decide +kernel) (by decide +kernel)
set_option maxRecDepth 20000 in
theorem gX6_flow_X6_waterAt : GoodIn wsX6_flow (wsV RX6 97 RX6 yX6_waterAt wsX6_waterAt) := goodIn_app (goodIn_of _ (by decide +kernel)) ggX6_flow_X6_waterAt
set_option maxRecDepth 20000 in
theorem ggX6_flow_X5_gain : GoodIn wsX6_flow wsX5_gain := goodIn_r _ [20, 21, 37, 38] (by decide +kernel) (by decide +kernel)
set_option maxRecDepth 20000 in
theorem gX6_flow_X5_gain : GoodIn wsX6_flow (wsV RX6 106 RX5 yX5_gain wsX5_gain) := goodIn_app (goodIn_of _ (by decide +kernel)) ggX6_flow_X5_gain
theorem dX6_flow_0 : decode cX6_flow 0 = .ok (.iload_n 1, 1) := by decide +kernel
theorem dX6_flow_1 : decode cX6_flow 1 = .ok (.invokestatic 93, 3) := by decide +kernel
theorem dX6_flow_4 : decode cX6_flow 4 = .ok (.ifCond .eq 14, 3) := by decide +kernel
theorem dX6_flow_7 : decode cX6_flow 7 = .ok (.iload_n 2, 1) := by decide +kernel
theorem dX6_flow_8 : decode cX6_flow 8 = .ok (.ldc 104, 2) := by decide +kernel
theorem dX6_flow_10 : decode cX6_flow 10 = .ok (.ldc 105, 2) := by decide +kernel
theorem dX6_flow_12 : decode cX6_flow 12 = .ok (.invokestatic 82, 3) := by decide +kernel
theorem dX6_flow_15 : decode cX6_flow 15 = .ok (.ifCond .ne 5, 3) := by decide +kernel
theorem dX6_flow_18 : decode cX6_flow 18 = .ok (.iconst 0, 1) := by decide +kernel
theorem dX6_flow_19 : decode cX6_flow 19 = .ok (.ireturn, 1) := by decide +kernel
theorem dX6_flow_20 : decode cX6_flow 20 = .ok (.aload_n 0, 1) := by decide +kernel
theorem dX6_flow_21 : decode cX6_flow 21 = .ok (.iload_n 1, 1) := by decide +kernel
theorem dX6_flow_22 : decode cX6_flow 22 = .ok (.invokevirtual 97, 3) := by decide +kernel
theorem dX6_flow_25 : decode cX6_flow 25 = .ok (.iload_n 2, 1) := by decide +kernel
theorem dX6_flow_26 : decode cX6_flow 26 = .ok (.invokevirtual 106, 3) := by decide +kernel
theorem dX6_flow_29 : decode cX6_flow 29 = .ok (.iconst 1, 1) := by decide +kernel
theorem dX6_flow_30 : decode cX6_flow 30 = .ok (.ireturn, 1) := by decide +kernel
set_option maxRecDepth 20000 in
theorem ggX6_ice_X6_isMinute : GoodIn wsX6_ice wsX6_isMinute := goodIn_r _ [5, 6, 7, 4, 8] (by decide +kernel) (by decide +kernel)
set_option maxRecDepth 20000 in
theorem gX6_ice_X6_isMinute : GoodIn wsX6_ice (va_wsS RX6 109 yX6_isMinute wsX6_isMinute) := goodIn_app (goodIn_of _ (by decide +kernel)) ggX6_ice_X6_isMinute
set_option maxRecDepth 20000 in
theorem ggX6_ice_X4_addIce : GoodIn wsX6_ice wsX4_addIce := goodIn_r _ [13, 14, 15, 16, 32, 33, 34, 35] (by decide +kernel) (by decide +kernel)
set_option maxRecDepth 20000 in
theorem gX6_ice_X4_addIce : GoodIn wsX6_ice (wsV RX6 112 RX4 yX4_addIce wsX4_addIce) := goodIn_app (goodIn_of _ (by decide +kernel)) ggX6_ice_X4_addIce
theorem dX6_ice_0 : decode cX6_ice 0 = .ok (.iload_n 1, 1) := by decide +kernel
theorem dX6_ice_1 : decode cX6_ice 1 = .ok (.invokestatic 109, 3) := by decide +kernel
theorem dX6_ice_4 : decode cX6_ice 4 = .ok (.ifCond .eq 15, 3) := by decide +kernel
theorem dX6_ice_7 : decode cX6_ice 7 = .ok (.iload_n 2, 1) := by decide +kernel
theorem dX6_ice_8 : decode cX6_ice 8 = .ok (.invokestatic 109, 3) := by decide +kernel
theorem dX6_ice_11 : decode cX6_ice 11 = .ok (.ifCond .eq 8, 3) := by decide +kernel
theorem dX6_ice_14 : decode cX6_ice 14 = .ok (.iload_n 1, 1) := by decide +kernel
theorem dX6_ice_15 : decode cX6_ice 15 = .ok (.iload_n 2, 1) := by decide +kernel
theorem dX6_ice_16 : decode cX6_ice 16 = .ok (.if_icmp .lt 5, 3) := by decide +kernel
theorem dX6_ice_19 : decode cX6_ice 19 = .ok (.iconst 0, 1) := by decide +kernel
theorem dX6_ice_20 : decode cX6_ice 20 = .ok (.ireturn, 1) := by decide +kernel
theorem dX6_ice_21 : decode cX6_ice 21 = .ok (.aload_n 0, 1) := by decide +kernel
theorem dX6_ice_22 : decode cX6_ice 22 = .ok (.getfield 30, 3) := by decide +kernel
theorem dX6_ice_25 : decode cX6_ice 25 = .ok (.iload_n 1, 1) := by decide +kernel
theorem dX6_ice_26 : decode cX6_ice 26 = .ok (.iload_n 2, 1) := by decide +kernel
theorem dX6_ice_27 : decode cX6_ice 27 = .ok (.invokevirtual 112, 3) := by decide +kernel
theorem dX6_ice_30 : decode cX6_ice 30 = .ok (.ireturn, 1) := by decide +kernel
set_option maxRecDepth 20000 in
theorem ggX6_boat_X6_isSide : GoodIn wsX6_boat wsX6_isSide := goodIn_r _ [10] (by decide +kernel) (by decide +kernel)
set_option maxRecDepth 20000 in
theorem gX6_boat_X6_isSide : GoodIn wsX6_boat (va_wsS RX6 93 yX6_isSide wsX6_isSide) := goodIn_app (goodIn_of _ (by decide +kernel)) ggX6_boat_X6_isSide
set_option maxRecDepth 20000 in
theorem ggX6_boat_X6_isMinute : GoodIn wsX6_boat wsX6_isMinute := goodIn_r _ [13, 14, 15, 9, 16] (by decide +kernel) (by decide +kernel)
set_option maxRecDepth 20000 in
theorem gX6_boat_X6_isMinute : GoodIn wsX6_boat (va_wsS RX6 109 yX6_isMinute wsX6_isMinute) := goodIn_app (goodIn_of _ (by decide +kernel)) ggX6_boat_X6_isMinute
set_option maxRecDepth 20000 in
theorem ggX6_boat_X6_within : GoodIn wsX6_boat wsX6_within := goodIn_r _ [16] (by decide +kernel) (by decide +kernel)
set_option maxRecDepth 20000 in
theorem gX6_boat_X6_within : GoodIn wsX6_boat (va_wsS RX6 82 yX6_within wsX6_within) := goodIn_app (goodIn_of _ (by decide +kernel)) ggX6_boat_X6_within
set_option maxRecDepth 20000 in
theorem ggX6_boat_Jx4a65c_size_8abf5 : GoodIn wsX6_boat wsJx4a65c_size_8abf5 := goodIn_r _ [21, 22, 148, 149, 150] (by decide +kernel) (by decide +kernel)
set_option maxRecDepth 20000 in
theorem gX6_boat_Jx4a65c_size_8abf5_f116Jx4a65c : GoodIn wsX6_boat (va_wsF RX6 116 RJx4a65c ⟨"java/util/List", "size", "()I"⟩ yJx4a65c_size_8abf5 wsJx4a65c_size_8abf5) := goodIn_app (goodIn_of _ (by decide +kernel)) ggX6_boat_Jx4a65c_size_8abf5
set_option maxRecDepth 20000 in
theorem ggX6_boat_X0_init : GoodIn wsX6_boat wsX0_init := goodIn_r _ [25, 26, 27, 28, 29, 30, 31, 32, 33, 34, 35, 36, 140, 141, 142, 143, 144, 145, 146, 147] (by decide +kernel) (by decide +kernel)
set_option maxRecDepth 20000 in
theorem gX6_boat_X0_init : GoodIn wsX6_boat (wsX0_init) := ggX6_boat_X0_init
set_option maxRecDepth 20000 in
theorem ggX6_boat_Jx4a65c_add_9ea2d : GoodIn wsX6_boat wsJx4a65c_add_9ea2d := goodIn_r _ [40, 41, 42, 43, 22, 44, 45, 46, 20, 47, 48, 49, 50, 51, 52, 53, 54, 55, 56, 57, 58, 59, 60, 61, 62, 63, 64, 65, 66, 67, 68, 69, 70, 71, 72, 73, 74, 75, 76, 77, 78, 79, 80, 81, 82, 83, 84, 85, 86, 87, 88, 89, 90, 148, 149, 150] (by decide +kernel) (by decide +kernel)
set_option maxRecDepth 20000 in
theorem gX6_boat_Jx4a65c_add_9ea2d_f124Jx4a65c : GoodIn wsX6_boat (va_wsF RX6 124 RJx4a65c ⟨"java/util/List", "add", "(Ljava/lang/Object;)Z"⟩ yJx4a65c_add_9ea2d wsJx4a65c_add_9ea2d) := goodIn_app (goodIn_of _ (by decide +kernel)) ggX6_boat_Jx4a65c_add_9ea2d
set_option maxRecDepth 20000 in
theorem ggX6_boat_X6_turnOf : GoodIn wsX6_boat wsX6_turnOf := goodIn_r _ [94, 5, 95, 17, 18, 19, 20, 21, 22, 96, 97, 98, 99, 100, 101, 102, 103, 104, 105, 106, 107, 108, 109, 110, 111, 43, 112, 113, 114, 4, 115, 36, 32, 125, 126, 127, 128, 129, 130, 131, 132, 133, 134, 135, 136, 137, 138, 139, 148, 149, 150, 140, 141, 142, 143, 144, 145, 146, 147] (by decide +kernel) (by decide +kernel)
set_option maxRecDepth 20000 in
theorem gX6_boat_X6_turnOf : GoodIn wsX6_boat (wsV RX6 128 RX6 yX6_turnOf wsX6_turnOf) := goodIn_app (goodIn_of _ (by decide +kernel)) ggX6_boat_X6_turnOf
set_option maxRecDepth 20000 in
theorem ggX6_boat_Jx4a65c_add_7a177 : GoodIn wsX6_boat wsJx4a65c_add_7a177 := goodIn_r _ [119, 41, 42, 22, 43, 120, 88, 89, 90, 121, 122, 123, 20, 124, 48, 49, 50, 51, 52, 53, 54, 55, 56, 57, 58, 59, 60, 61, 62, 63, 64, 65, 66, 67, 68, 69, 70, 71, 72, 73, 74, 75, 76, 77, 78, 79, 80, 81, 82, 83, 84, 85, 86, 87, 148, 149, 150] (by decide +kernel) (by decide +kernel)
set_option maxRecDepth 20000 in
theorem gX6_boat_Jx4a65c_add_7a177_f132Jx4a65c : GoodIn wsX6_boat (va_wsF RX6 132 RJx4a65c ⟨"java/util/List", "add", "(ILjava/lang/Object;)V"⟩ yJx4a65c_add_7a177 wsJx4a65c_add_7a177) := goodIn_app (goodIn_of _ (by decide +kernel)) ggX6_boat_Jx4a65c_add_7a177
theorem dX6_boat_0 : decode cX6_boat 0 = .ok (.iload_n 1, 1) := by decide +kernel
theorem dX6_boat_1 : decode cX6_boat 1 = .ok (.invokestatic 93, 3) := by decide +kernel
theorem dX6_boat_4 : decode cX6_boat 4 = .ok (.ifCond .eq 20, 3) := by decide +kernel
theorem dX6_boat_7 : decode cX6_boat 7 = .ok (.iload_n 2, 1) := by decide +kernel
theorem dX6_boat_8 : decode cX6_boat 8 = .ok (.invokestatic 109, 3) := by decide +kernel
theorem dX6_boat_11 : decode cX6_boat 11 = .ok (.ifCond .eq 13, 3) := by decide +kernel
theorem dX6_boat_14 : decode cX6_boat 14 = .ok (.iload_n 3, 1) := by decide +kernel
theorem dX6_boat_15 : decode cX6_boat 15 = .ok (.iconst 1, 1) := by decide +kernel
theorem dX6_boat_16 : decode cX6_boat 16 = .ok (.bipush 100, 2) := by decide +kernel
theorem dX6_boat_18 : decode cX6_boat 18 = .ok (.invokestatic 82, 3) := by decide +kernel
theorem dX6_boat_21 : decode cX6_boat 21 = .ok (.ifCond .ne 5, 3) := by decide +kernel
theorem dX6_boat_24 : decode cX6_boat 24 = .ok (.iconst (-1), 1) := by decide +kernel
theorem dX6_boat_25 : decode cX6_boat 25 = .ok (.ireturn, 1) := by decide +kernel
theorem dX6_boat_26 : decode cX6_boat 26 = .ok (.iload 4, 2) := by decide +kernel
theorem dX6_boat_28 : decode cX6_boat 28 = .ok (.iconst 1, 1) := by decide +kernel
theorem dX6_boat_29 : decode cX6_boat 29 = .ok (.bipush 40, 2) := by decide +kernel
theorem dX6_boat_31 : decode cX6_boat 31 = .ok (.invokestatic 82, 3) := by decide +kernel
theorem dX6_boat_34 : decode cX6_boat 34 = .ok (.ifCond .eq 25, 3) := by decide +kernel
theorem dX6_boat_37 : decode cX6_boat 37 = .ok (.iload 5, 2) := by decide +kernel
theorem dX6_boat_39 : decode cX6_boat 39 = .ok (.iconst 1, 1) := by decide +kernel
theorem dX6_boat_40 : decode cX6_boat 40 = .ok (.sipush 2000, 3) := by decide +kernel
theorem dX6_boat_43 : decode cX6_boat 43 = .ok (.invokestatic 82, 3) := by decide +kernel
theorem dX6_boat_46 : decode cX6_boat 46 = .ok (.ifCond .eq 13, 3) := by decide +kernel
theorem dX6_boat_49 : decode cX6_boat 49 = .ok (.iload 6, 2) := by decide +kernel
theorem dX6_boat_51 : decode cX6_boat 51 = .ok (.iconst 0, 1) := by decide +kernel
theorem dX6_boat_52 : decode cX6_boat 52 = .ok (.iconst 3, 1) := by decide +kernel
theorem dX6_boat_53 : decode cX6_boat 53 = .ok (.invokestatic 82, 3) := by decide +kernel
theorem dX6_boat_56 : decode cX6_boat 56 = .ok (.ifCond .ne 5, 3) := by decide +kernel
theorem dX6_boat_59 : decode cX6_boat 59 = .ok (.iconst (-1), 1) := by decide +kernel
theorem dX6_boat_60 : decode cX6_boat 60 = .ok (.ireturn, 1) := by decide +kernel
theorem dX6_boat_61 : decode cX6_boat 61 = .ok (.aload_n 0, 1) := by decide +kernel
theorem dX6_boat_62 : decode cX6_boat 62 = .ok (.getfield 56, 3) := by decide +kernel
theorem dX6_boat_65 : decode cX6_boat 65 = .ok (.invokeinterface 116 1, 5) := by decide +kernel
theorem dX6_boat_70 : decode cX6_boat 70 = .ok (.bipush 16, 2) := by decide +kernel
theorem dX6_boat_72 : decode cX6_boat 72 = .ok (.if_icmp .lt 5, 3) := by decide +kernel
theorem dX6_boat_75 : decode cX6_boat 75 = .ok (.iconst (-1), 1) := by decide +kernel
theorem dX6_boat_76 : decode cX6_boat 76 = .ok (.ireturn, 1) := by decide +kernel
theorem dX6_boat_77 : decode cX6_boat 77 = .ok (.new 119, 3) := by decide +kernel
theorem dX6_boat_80 : decode cX6_boat 80 = .ok (.dup, 1) := by decide +kernel
theorem dX6_boat_81 : decode cX6_boat 81 = .ok (.aload_n 0, 1) := by decide +kernel
theorem dX6_boat_82 : decode cX6_boat 82 = .ok (.getfield 56, 3) := by decide +kernel
theorem dX6_boat_85 : decode cX6_boat 85 = .ok (.invokeinterface 116 1, 5) := by decide +kernel
theorem dX6_boat_90 : decode cX6_boat 90 = .ok (.iload_n 1, 1) := by decide +kernel
theorem dX6_boat_91 : decode cX6_boat 91 = .ok (.iload_n 2, 1) := by decide +kernel
theorem dX6_boat_92 : decode cX6_boat 92 = .ok (.iload_n 3, 1) := by decide +kernel
theorem dX6_boat_93 : decode cX6_boat 93 = .ok (.iload 4, 2) := by decide +kernel
theorem dX6_boat_95 : decode cX6_boat 95 = .ok (.iload 5, 2) := by decide +kernel
theorem dX6_boat_97 : decode cX6_boat 97 = .ok (.iload 6, 2) := by decide +kernel
theorem dX6_boat_99 : decode cX6_boat 99 = .ok (.invokespecial 121, 3) := by decide +kernel
theorem dX6_boat_102 : decode cX6_boat 102 = .ok (.astore 7, 2) := by decide +kernel
theorem dX6_boat_104 : decode cX6_boat 104 = .ok (.aload_n 0, 1) := by decide +kernel
theorem dX6_boat_105 : decode cX6_boat 105 = .ok (.getfield 56, 3) := by decide +kernel
theorem dX6_boat_108 : decode cX6_boat 108 = .ok (.aload 7, 2) := by decide +kernel
theorem dX6_boat_110 : decode cX6_boat 110 = .ok (.invokeinterface 124 2, 5) := by decide +kernel
theorem dX6_boat_115 : decode cX6_boat 115 = .ok (.pop, 1) := by decide +kernel
theorem dX6_boat_116 : decode cX6_boat 116 = .ok (.aload_n 0, 1) := by decide +kernel
theorem dX6_boat_117 : decode cX6_boat 117 = .ok (.getfield 60, 3) := by decide +kernel
theorem dX6_boat_120 : decode cX6_boat 120 = .ok (.aload_n 0, 1) := by decide +kernel
theorem dX6_boat_121 : decode cX6_boat 121 = .ok (.aload 7, 2) := by decide +kernel
theorem dX6_boat_123 : decode cX6_boat 123 = .ok (.invokevirtual 128, 3) := by decide +kernel
theorem dX6_boat_126 : decode cX6_boat 126 = .ok (.aload 7, 2) := by decide +kernel
theorem dX6_boat_128 : decode cX6_boat 128 = .ok (.invokeinterface 132 3, 5) := by decide +kernel
theorem dX6_boat_133 : decode cX6_boat 133 = .ok (.aload 7, 2) := by decide +kernel
theorem dX6_boat_135 : decode cX6_boat 135 = .ok (.getfield 135, 3) := by decide +kernel
theorem dX6_boat_138 : decode cX6_boat 138 = .ok (.ireturn, 1) := by decide +kernel
set_option maxRecDepth 20000 in
theorem ggX6_queue_X6_isSide : GoodIn wsX6_queue wsX6_isSide := goodIn_r _ [7] (by decide +kernel) (by decide +kernel)
set_option maxRecDepth 20000 in
theorem gX6_queue_X6_isSide : GoodIn wsX6_queue (va_wsS RX6 93 yX6_isSide wsX6_isSide) := goodIn_app (goodIn_of _ (by decide +kernel)) ggX6_queue_X6_isSide
set_option maxRecDepth 20000 in
theorem ggX6_queue_X6_isMinute : GoodIn wsX6_queue wsX6_isMinute := goodIn_r _ [10, 11, 12, 6, 13] (by decide +kernel) (by decide +kernel)
set_option maxRecDepth 20000 in
theorem gX6_queue_X6_isMinute : GoodIn wsX6_queue (va_wsS RX6 109 yX6_isMinute wsX6_isMinute) := goodIn_app (goodIn_of _ (by decide +kernel)) ggX6_queue_X6_isMinute
set_option maxRecDepth 20000 in
theorem ggX6_queue_Jx4a65c_size_8abf5 : GoodIn wsX6_queue wsJx4a65c_size_8abf5 := goodIn_r _ [18, 19, 105, 106, 107] (by decide +kernel) (by decide +kernel)
set_option maxRecDepth 20000 in
theorem gX6_queue_Jx4a65c_size_8abf5_f116Jx4a65c : GoodIn wsX6_queue (va_wsF RX6 116 RJx4a65c ⟨"java/util/List", "size", "()I"⟩ yJx4a65c_size_8abf5 wsJx4a65c_size_8abf5) := goodIn_app (goodIn_of _ (by decide +kernel)) ggX6_queue_Jx4a65c_size_8abf5
set_option maxRecDepth 20000 in
theorem ggX6_queue_Jx4a65c_get_915e3 : GoodIn wsX6_queue wsJx4a65c_get_915e3 := goodIn_r _ [23, 19, 24, 25, 26, 27, 28, 29, 30, 31, 32, 33, 34, 17, 35, 36, 105, 106, 107] (by decide +kernel) (by decide +kernel)
set_option maxRecDepth 20000 in
theorem gX6_queue_Jx4a65c_get_915e3_f138Jx4a65c : GoodIn wsX6_queue (va_wsF RX6 138 RJx4a65c ⟨"java/util/List", "get", "(I)Ljava/lang/Object;"⟩ yJx4a65c_get_915e3 wsJx4a65c_get_915e3) := goodIn_app (goodIn_of _ (by decide +kernel)) ggX6_queue_Jx4a65c_get_915e3
set_option maxRecDepth 20000 in
theorem ggX6_queue_X6_isQueued : GoodIn wsX6_queue wsX6_isQueued := goodIn_r _ [40, 41, 42, 43, 44, 45, 6, 46, 47, 48, 49, 50, 51, 52, 53, 54, 55, 56, 57, 58, 59, 60, 61, 62, 63, 64, 65, 66, 67, 68, 69, 70, 71, 72, 73, 74, 75, 76, 77, 78, 79, 80, 81, 97, 98, 99, 100, 101, 102, 103, 104, 82, 83, 84, 85, 86, 87, 88, 89, 90, 91, 92, 93, 94, 95, 96, 108, 109, 110, 111, 112, 113, 114] (by decide +kernel) (by decide +kernel)
set_option maxRecDepth 20000 in
theorem gX6_queue_X6_isQueued : GoodIn wsX6_queue (wsV RX6 142 RX6 yX6_isQueued wsX6_isQueued) := goodIn_app (goodIn_of _ (by decide +kernel)) ggX6_queue_X6_isQueued
theorem dX6_queue_0 : decode cX6_queue 0 = .ok (.iload_n 1, 1) := by decide +kernel
theorem dX6_queue_1 : decode cX6_queue 1 = .ok (.invokestatic 93, 3) := by decide +kernel
theorem dX6_queue_4 : decode cX6_queue 4 = .ok (.ifCond .eq 14, 3) := by decide +kernel
theorem dX6_queue_7 : decode cX6_queue 7 = .ok (.iload_n 2, 1) := by decide +kernel
theorem dX6_queue_8 : decode cX6_queue 8 = .ok (.invokestatic 109, 3) := by decide +kernel
theorem dX6_queue_11 : decode cX6_queue 11 = .ok (.ifCond .eq 7, 3) := by decide +kernel
theorem dX6_queue_14 : decode cX6_queue 14 = .ok (.iload_n 3, 1) := by decide +kernel
theorem dX6_queue_15 : decode cX6_queue 15 = .ok (.ifCond .ge 5, 3) := by decide +kernel
theorem dX6_queue_18 : decode cX6_queue 18 = .ok (.iconst (-1), 1) := by decide +kernel
theorem dX6_queue_19 : decode cX6_queue 19 = .ok (.ireturn, 1) := by decide +kernel
theorem dX6_queue_20 : decode cX6_queue 20 = .ok (.iconst 0, 1) := by decide +kernel
theorem dX6_queue_21 : decode cX6_queue 21 = .ok (.istore 4, 2) := by decide +kernel
theorem dX6_queue_23 : decode cX6_queue 23 = .ok (.iconst 0, 1) := by decide +kernel
theorem dX6_queue_24 : decode cX6_queue 24 = .ok (.istore 5, 2) := by decide +kernel
theorem dX6_queue_26 : decode cX6_queue 26 = .ok (.iload 5, 2) := by decide +kernel
theorem dX6_queue_28 : decode cX6_queue 28 = .ok (.aload_n 0, 1) := by decide +kernel
theorem dX6_queue_29 : decode cX6_queue 29 = .ok (.getfield 60, 3) := by decide +kernel
theorem dX6_queue_32 : decode cX6_queue 32 = .ok (.invokeinterface 116 1, 5) := by decide +kernel
theorem dX6_queue_37 : decode cX6_queue 37 = .ok (.if_icmp .ge 51, 3) := by decide +kernel
theorem dX6_queue_40 : decode cX6_queue 40 = .ok (.aload_n 0, 1) := by decide +kernel
theorem dX6_queue_41 : decode cX6_queue 41 = .ok (.getfield 60, 3) := by decide +kernel
theorem dX6_queue_44 : decode cX6_queue 44 = .ok (.iload 5, 2) := by decide +kernel
theorem dX6_queue_46 : decode cX6_queue 46 = .ok (.invokeinterface 138 2, 5) := by decide +kernel
theorem dX6_queue_51 : decode cX6_queue 51 = .ok (.checkcast 119, 3) := by decide +kernel
theorem dX6_queue_54 : decode cX6_queue 54 = .ok (.astore 6, 2) := by decide +kernel
theorem dX6_queue_56 : decode cX6_queue 56 = .ok (.aload_n 0, 1) := by decide +kernel
theorem dX6_queue_57 : decode cX6_queue 57 = .ok (.aload 6, 2) := by decide +kernel
theorem dX6_queue_59 : decode cX6_queue 59 = .ok (.iload_n 1, 1) := by decide +kernel
theorem dX6_queue_60 : decode cX6_queue 60 = .ok (.iload_n 2, 1) := by decide +kernel
theorem dX6_queue_61 : decode cX6_queue 61 = .ok (.invokevirtual 142, 3) := by decide +kernel
theorem dX6_queue_64 : decode cX6_queue 64 = .ok (.ifCond .eq 18, 3) := by decide +kernel
theorem dX6_queue_67 : decode cX6_queue 67 = .ok (.iload 4, 2) := by decide +kernel
theorem dX6_queue_69 : decode cX6_queue 69 = .ok (.iload_n 3, 1) := by decide +kernel
theorem dX6_queue_70 : decode cX6_queue 70 = .ok (.if_icmp .ne 9, 3) := by decide +kernel
theorem dX6_queue_73 : decode cX6_queue 73 = .ok (.aload 6, 2) := by decide +kernel
theorem dX6_queue_75 : decode cX6_queue 75 = .ok (.getfield 135, 3) := by decide +kernel
theorem dX6_queue_78 : decode cX6_queue 78 = .ok (.ireturn, 1) := by decide +kernel
theorem dX6_queue_79 : decode cX6_queue 79 = .ok (.iinc 4 1, 3) := by decide +kernel
theorem dX6_queue_82 : decode cX6_queue 82 = .ok (.iinc 5 1, 3) := by decide +kernel
theorem dX6_queue_85 : decode cX6_queue 85 = .ok (.goto (-59), 3) := by decide +kernel
theorem dX6_queue_88 : decode cX6_queue 88 = .ok (.iconst (-1), 1) := by decide +kernel
theorem dX6_queue_89 : decode cX6_queue 89 = .ok (.ireturn, 1) := by decide +kernel
set_option maxRecDepth 20000 in
theorem ggX6_fitting_X6_isMinute : GoodIn wsX6_fitting wsX6_isMinute := goodIn_r _ [4, 5, 6, 3, 7] (by decide +kernel) (by decide +kernel)
set_option maxRecDepth 20000 in
theorem gX6_fitting_X6_isMinute : GoodIn wsX6_fitting (va_wsS RX6 109 yX6_isMinute wsX6_isMinute) := goodIn_app (goodIn_of _ (by decide +kernel)) ggX6_fitting_X6_isMinute
set_option maxRecDepth 20000 in
theorem ggX6_fitting_X6_fittingAt : GoodIn wsX6_fitting wsX6_fittingAt := goodIn_r _ [11, 12, 13, 14, 15, 16, 17, 18, 19, 20, 21, 22, 23, 24, 25, 26, 27, 28, 29, 30, 31, 32, 33, 34, 35, 36, 37, 38, 39, 40, 41, 42, 3, 43, 44, 45, 46, 47, 48, 49, 50, 51, 52, 53, 54, 55, 56, 57, 58, 59, 60, 61, 62, 63, 64, 65, 66, 67, 68, 69, 70, 71, 72, 73, 74, 75, 76, 77, 78, 79, 80, 81, 82, 83, 84, 85, 86, 87, 88, 89, 90, 91, 92, 93, 94, 95, 96, 97, 98, 99, 100, 101, 102, 103, 104, 105, 106, 107, 108, 109, 110, 111, 112, 113, 114, 115] (by decide +kernel) (by decide +kernel)
set_option maxRecDepth 20000 in
theorem gX6_fitting_X6_fittingAt : GoodIn wsX6_fitting (wsV RX6 146 RX6 yX6_fittingAt wsX6_fittingAt) := goodIn_app (goodIn_of _ (by decide +kernel)) ggX6_fitting_X6_fittingAt
theorem dX6_fitting_0 : decode cX6_fitting 0 = .ok (.iload_n 1, 1) := by decide +kernel
theorem dX6_fitting_1 : decode cX6_fitting 1 = .ok (.invokestatic 109, 3) := by decide +kernel
theorem dX6_fitting_4 : decode cX6_fitting 4 = .ok (.ifCond .eq 11, 3) := by decide +kernel
theorem dX6_fitting_7 : decode cX6_fitting 7 = .ok (.aload_n 0, 1) := by decide +kernel
theorem dX6_fitting_8 : decode cX6_fitting 8 = .ok (.iload_n 1, 1) := by decide +kernel
theorem dX6_fitting_9 : decode cX6_fitting 9 = .ok (.invokevirtual 146, 3) := by decide +kernel
theorem dX6_fitting_12 : decode cX6_fitting 12 = .ok (.goto 4, 3) := by decide +kernel
theorem dX6_fitting_15 : decode cX6_fitting 15 = .ok (.iconst (-1), 1) := by decide +kernel
theorem dX6_fitting_16 : decode cX6_fitting 16 = .ok (.ireturn, 1) := by decide +kernel
set_option maxRecDepth 20000 in
theorem ggX6_ride_X6_isMinute : GoodIn wsX6_ride wsX6_isMinute := goodIn_r _ [10, 11, 12, 9, 13] (by decide +kernel) (by decide +kernel)
set_option maxRecDepth 20000 in
theorem gX6_ride_X6_isMinute : GoodIn wsX6_ride (va_wsS RX6 109 yX6_isMinute wsX6_isMinute) := goodIn_app (goodIn_of _ (by decide +kernel)) ggX6_ride_X6_isMinute
set_option maxRecDepth 20000 in
theorem ggX6_ride_X6_fittingAt : GoodIn wsX6_ride wsX6_fittingAt := goodIn_r _ [17, 18, 19, 20, 5, 21, 22, 23, 24, 25, 26, 27, 28, 29, 30, 31, 32, 33, 34, 35, 36, 37, 38, 39, 40, 41, 42, 43, 44, 45, 46, 47, 9, 48, 49, 50, 51, 52, 53, 54, 55, 56, 57, 58, 59, 60, 4, 61, 62, 63, 64, 65, 66, 67, 68, 69, 70, 71, 72, 73, 74, 75, 76, 77, 78, 79, 80, 81, 82, 83, 84, 85, 86, 126, 127, 128, 129, 130, 131, 132, 133, 134, 135, 136, 137, 138, 139, 140, 141, 142, 143, 144, 145, 146, 147, 148, 149, 150, 151, 152, 153, 154, 155, 156, 157, 158] (by decide +kernel) (by decide +kernel)
set_option maxRecDepth 20000 in
theorem gX6_ride_X6_fittingAt : GoodIn wsX6_ride (wsV RX6 146 RX6 yX6_fittingAt wsX6_fittingAt) := goodIn_app (goodIn_of _ (by decide +kernel)) ggX6_ride_X6_fittingAt
set_option maxRecDepth 20000 in
theorem ggX6_ride_X4_endOf : GoodIn wsX6_ride wsX4_endOf := goodIn_r _ [91, 92, 93, 64, 65, 66, 67, 68, 94, 95, 96, 90, 97, 98, 99, 100, 159, 160, 161, 162, 152, 153, 154, 155, 156] (by decide +kernel) (by decide +kernel)
set_option maxRecDepth 20000 in
theorem gX6_ride_X4_endOf : GoodIn wsX6_ride (wsV RX6 152 RX4 yX4_endOf wsX4_endOf) := goodIn_app (goodIn_of _ (by decide +kernel)) ggX6_ride_X4_endOf
set_option maxRecDepth 20000 in
theorem ggX6_ride_X1_number : GoodIn wsX6_ride wsX1_number := goodIn_r _ [67, 68, 152, 153, 154, 155, 156] (by decide +kernel) (by decide +kernel)
set_option maxRecDepth 20000 in
theorem gX6_ride_X1_number : GoodIn wsX6_ride (wsV RX6 158 RX1 yX1_number wsX1_number) := goodIn_app (goodIn_of _ (by decide +kernel)) ggX6_ride_X1_number
set_option maxRecDepth 20000 in
theorem ggX6_ride_X6_carryFirst : GoodIn wsX6_ride wsX6_carryFirst := goodIn_r _ [104, 19, 20, 5, 55, 105, 106, 107, 22, 23, 24, 25, 26, 27, 28, 29, 30, 31, 32, 33, 34, 35, 36, 37, 38, 39, 40, 41, 42, 43, 44, 45, 46, 47, 9, 48, 49, 50, 51, 52, 53, 54, 56, 57, 58, 59, 60, 4, 21, 18, 61, 62, 63, 64, 65, 66, 67, 68, 69, 70, 71, 72, 73, 74, 75, 76, 77, 78, 79, 80, 81, 82, 83, 84, 85, 86, 108, 109, 110, 111, 112, 113, 114, 126, 127, 128, 129, 130, 131, 132, 133, 134, 135, 136, 137, 138, 139, 140, 141, 142, 143, 144, 145, 146, 147, 148, 149, 150, 151, 152, 153, 154, 155, 156, 157, 158] (by decide +kernel) (by decide +kernel)
set_option maxRecDepth 20000 in
theorem gX6_ride_X6_carryFirst : GoodIn wsX6_ride (wsV RX6 160 RX6 yX6_carryFirst wsX6_carryFirst) := goodIn_app (goodIn_of _ (by decide +kernel)) ggX6_ride_X6_carryFirst
set_option maxRecDepth 20000 in
theorem ggX6_ride_X6_sendDown : GoodIn wsX6_ride wsX6_sendDown := goodIn_r _ [118, 62, 61, 119, 120, 121, 72, 122, 79, 126, 127, 128, 129, 130, 131, 132, 133, 134, 135, 136, 137, 138, 139, 140, 157, 158] (by decide +kernel) (by decide +kernel)
set_option maxRecDepth 20000 in
theorem gX6_ride_X6_sendDown : GoodIn wsX6_ride (wsV RX6 164 RX6 yX6_sendDown wsX6_sendDown) := goodIn_app (goodIn_of _ (by decide +kernel)) ggX6_ride_X6_sendDown
set_option maxRecDepth 20000 in
theorem ggX6_ride_X6_otherSide : GoodIn wsX6_ride wsX6_otherSide := goodIn_r _ [125] (by decide +kernel) (by decide +kernel)
set_option maxRecDepth 20000 in
theorem gX6_ride_X6_otherSide : GoodIn wsX6_ride (va_wsS RX6 167 yX6_otherSide wsX6_otherSide) := goodIn_app (goodIn_of _ (by decide +kernel)) ggX6_ride_X6_otherSide
theorem dX6_ride_0 : decode cX6_ride 0 = .ok (.iload_n 1, 1) := by decide +kernel
theorem dX6_ride_1 : decode cX6_ride 1 = .ok (.invokestatic 109, 3) := by decide +kernel
theorem dX6_ride_4 : decode cX6_ride 4 = .ok (.ifCond .eq 24, 3) := by decide +kernel
theorem dX6_ride_7 : decode cX6_ride 7 = .ok (.iload_n 1, 1) := by decide +kernel
theorem dX6_ride_8 : decode cX6_ride 8 = .ok (.aload_n 0, 1) := by decide +kernel
theorem dX6_ride_9 : decode cX6_ride 9 = .ok (.getfield 149, 3) := by decide +kernel
theorem dX6_ride_12 : decode cX6_ride 12 = .ok (.if_icmp .lt 16, 3) := by decide +kernel
theorem dX6_ride_15 : decode cX6_ride 15 = .ok (.iload_n 2, 1) := by decide +kernel
theorem dX6_ride_16 : decode cX6_ride 16 = .ok (.ifCond .lt 12, 3) := by decide +kernel
theorem dX6_ride_19 : decode cX6_ride 19 = .ok (.iload_n 2, 1) := by decide +kernel
theorem dX6_ride_20 : decode cX6_ride 20 = .ok (.aload_n 0, 1) := by decide +kernel
theorem dX6_ride_21 : decode cX6_ride 21 = .ok (.iload_n 1, 1) := by decide +kernel
theorem dX6_ride_22 : decode cX6_ride 22 = .ok (.invokevirtual 146, 3) := by decide +kernel
theorem dX6_ride_25 : decode cX6_ride 25 = .ok (.if_icmp .le 5, 3) := by decide +kernel
theorem dX6_ride_28 : decode cX6_ride 28 = .ok (.iconst (-1), 1) := by decide +kernel
theorem dX6_ride_29 : decode cX6_ride 29 = .ok (.ireturn, 1) := by decide +kernel
theorem dX6_ride_30 : decode cX6_ride 30 = .ok (.aload_n 0, 1) := by decide +kernel
theorem dX6_ride_31 : decode cX6_ride 31 = .ok (.getfield 30, 3) := by decide +kernel
theorem dX6_ride_34 : decode cX6_ride 34 = .ok (.iload_n 1, 1) := by decide +kernel
theorem dX6_ride_35 : decode cX6_ride 35 = .ok (.invokevirtual 152, 3) := by decide +kernel
theorem dX6_ride_38 : decode cX6_ride 38 = .ok (.istore_n 3, 1) := by decide +kernel
theorem dX6_ride_39 : decode cX6_ride 39 = .ok (.aload_n 0, 1) := by decide +kernel
theorem dX6_ride_40 : decode cX6_ride 40 = .ok (.getfield 155, 3) := by decide +kernel
theorem dX6_ride_43 : decode cX6_ride 43 = .ok (.aload_n 0, 1) := by decide +kernel
theorem dX6_ride_44 : decode cX6_ride 44 = .ok (.getfield 21, 3) := by decide +kernel
theorem dX6_ride_47 : decode cX6_ride 47 = .ok (.iconst 4, 1) := by decide +kernel
theorem dX6_ride_48 : decode cX6_ride 48 = .ok (.invokevirtual 158, 3) := by decide +kernel
theorem dX6_ride_51 : decode cX6_ride 51 = .ok (.if_icmp .ge 10, 3) := by decide +kernel
theorem dX6_ride_54 : decode cX6_ride 54 = .ok (.iload_n 3, 1) := by decide +kernel
theorem dX6_ride_55 : decode cX6_ride 55 = .ok (.sipush 20000, 3) := by decide +kernel
theorem dX6_ride_58 : decode cX6_ride 58 = .ok (.if_icmp .le 5, 3) := by decide +kernel
theorem dX6_ride_61 : decode cX6_ride 61 = .ok (.iconst (-1), 1) := by decide +kernel
theorem dX6_ride_62 : decode cX6_ride 62 = .ok (.ireturn, 1) := by decide +kernel
theorem dX6_ride_63 : decode cX6_ride 63 = .ok (.aload_n 0, 1) := by decide +kernel
theorem dX6_ride_64 : decode cX6_ride 64 = .ok (.iload_n 2, 1) := by decide +kernel
theorem dX6_ride_65 : decode cX6_ride 65 = .ok (.iload_n 1, 1) := by decide +kernel
theorem dX6_ride_66 : decode cX6_ride 66 = .ok (.invokevirtual 160, 3) := by decide +kernel
theorem dX6_ride_69 : decode cX6_ride 69 = .ok (.istore 4, 2) := by decide +kernel
theorem dX6_ride_71 : decode cX6_ride 71 = .ok (.aload_n 0, 1) := by decide +kernel
theorem dX6_ride_72 : decode cX6_ride 72 = .ok (.aload_n 0, 1) := by decide +kernel
theorem dX6_ride_73 : decode cX6_ride 73 = .ok (.getfield 67, 3) := by decide +kernel
theorem dX6_ride_76 : decode cX6_ride 76 = .ok (.ifCond .ne 8, 3) := by decide +kernel
theorem dX6_ride_79 : decode cX6_ride 79 = .ok (.iload 4, 2) := by decide +kernel
theorem dX6_ride_81 : decode cX6_ride 81 = .ok (.goto 6, 3) := by decide +kernel
theorem dX6_ride_84 : decode cX6_ride 84 = .ok (.iload 4, 2) := by decide +kernel
theorem dX6_ride_86 : decode cX6_ride 86 = .ok (.ineg, 1) := by decide +kernel
theorem dX6_ride_87 : decode cX6_ride 87 = .ok (.aload_n 0, 1) := by decide +kernel
theorem dX6_ride_88 : decode cX6_ride 88 = .ok (.getfield 155, 3) := by decide +kernel
theorem dX6_ride_91 : decode cX6_ride 91 = .ok (.iadd, 1) := by decide +kernel
theorem dX6_ride_92 : decode cX6_ride 92 = .ok (.invokevirtual 164, 3) := by decide +kernel
theorem dX6_ride_95 : decode cX6_ride 95 = .ok (.aload_n 0, 1) := by decide +kernel
theorem dX6_ride_96 : decode cX6_ride 96 = .ok (.aload_n 0, 1) := by decide +kernel
theorem dX6_ride_97 : decode cX6_ride 97 = .ok (.getfield 67, 3) := by decide +kernel
theorem dX6_ride_100 : decode cX6_ride 100 = .ok (.invokestatic 167, 3) := by decide +kernel
theorem dX6_ride_103 : decode cX6_ride 103 = .ok (.putfield 67, 3) := by decide +kernel
theorem dX6_ride_106 : decode cX6_ride 106 = .ok (.aload_n 0, 1) := by decide +kernel
theorem dX6_ride_107 : decode cX6_ride 107 = .ok (.iload_n 3, 1) := by decide +kernel
theorem dX6_ride_108 : decode cX6_ride 108 = .ok (.putfield 149, 3) := by decide +kernel
theorem dX6_ride_111 : decode cX6_ride 111 = .ok (.aload_n 0, 1) := by decide +kernel
theorem dX6_ride_112 : decode cX6_ride 112 = .ok (.dup, 1) := by decide +kernel
theorem dX6_ride_113 : decode cX6_ride 113 = .ok (.getfield 155, 3) := by decide +kernel
theorem dX6_ride_116 : decode cX6_ride 116 = .ok (.iconst 1, 1) := by decide +kernel
theorem dX6_ride_117 : decode cX6_ride 117 = .ok (.iadd, 1) := by decide +kernel
theorem dX6_ride_118 : decode cX6_ride 118 = .ok (.putfield 155, 3) := by decide +kernel
theorem dX6_ride_121 : decode cX6_ride 121 = .ok (.aload_n 0, 1) := by decide +kernel
theorem dX6_ride_122 : decode cX6_ride 122 = .ok (.dup, 1) := by decide +kernel
theorem dX6_ride_123 : decode cX6_ride 123 = .ok (.getfield 170, 3) := by decide +kernel
theorem dX6_ride_126 : decode cX6_ride 126 = .ok (.iconst 1, 1) := by decide +kernel
theorem dX6_ride_127 : decode cX6_ride 127 = .ok (.iadd, 1) := by decide +kernel
theorem dX6_ride_128 : decode cX6_ride 128 = .ok (.putfield 170, 3) := by decide +kernel
theorem dX6_ride_131 : decode cX6_ride 131 = .ok (.iload_n 3, 1) := by decide +kernel
theorem dX6_ride_132 : decode cX6_ride 132 = .ok (.ireturn, 1) := by decide +kernel
set_option maxRecDepth 20000 in
theorem ggX6_renew_X6_isMinute : GoodIn wsX6_renew wsX6_isMinute := goodIn_r _ [7, 8, 9, 6, 10] (by decide +kernel) (by decide +kernel)
set_option maxRecDepth 20000 in
theorem gX6_renew_X6_isMinute : GoodIn wsX6_renew (va_wsS RX6 109 yX6_isMinute wsX6_isMinute) := goodIn_app (goodIn_of _ (by decide +kernel)) ggX6_renew_X6_isMinute
set_option maxRecDepth 20000 in
theorem ggX6_renew_X1_number : GoodIn wsX6_renew wsX1_number := goodIn_r _ [15, 16, 32, 33, 34, 35, 36] (by decide +kernel) (by decide +kernel)
set_option maxRecDepth 20000 in
theorem gX6_renew_X1_number : GoodIn wsX6_renew (wsV RX6 158 RX1 yX1_number wsX1_number) := goodIn_app (goodIn_of _ (by decide +kernel)) ggX6_renew_X1_number
theorem dX6_renew_0 : decode cX6_renew 0 = .ok (.iload_n 1, 1) := by decide +kernel
theorem dX6_renew_1 : decode cX6_renew 1 = .ok (.invokestatic 109, 3) := by decide +kernel
theorem dX6_renew_4 : decode cX6_renew 4 = .ok (.ifCond .eq 11, 3) := by decide +kernel
theorem dX6_renew_7 : decode cX6_renew 7 = .ok (.iload_n 1, 1) := by decide +kernel
theorem dX6_renew_8 : decode cX6_renew 8 = .ok (.aload_n 0, 1) := by decide +kernel
theorem dX6_renew_9 : decode cX6_renew 9 = .ok (.getfield 149, 3) := by decide +kernel
theorem dX6_renew_12 : decode cX6_renew 12 = .ok (.if_icmp .ge 5, 3) := by decide +kernel
theorem dX6_renew_15 : decode cX6_renew 15 = .ok (.iconst (-1), 1) := by decide +kernel
theorem dX6_renew_16 : decode cX6_renew 16 = .ok (.ireturn, 1) := by decide +kernel
theorem dX6_renew_17 : decode cX6_renew 17 = .ok (.iload_n 1, 1) := by decide +kernel
theorem dX6_renew_18 : decode cX6_renew 18 = .ok (.aload_n 0, 1) := by decide +kernel
theorem dX6_renew_19 : decode cX6_renew 19 = .ok (.getfield 21, 3) := by decide +kernel
end
section
theorem dX6_renew_22 : decode cX6_renew 22 = .ok (.iconst 5, 1) := by decide +kernel
theorem dX6_renew_23 : decode cX6_renew 23 = .ok (.invokevirtual 158, 3) := by decide +kernel
theorem dX6_renew_26 : decode cX6_renew 26 = .ok (.iadd, 1) := by decide +kernel
theorem dX6_renew_27 : decode cX6_renew 27 = .ok (.istore_n 2, 1) := by decide +kernel
theorem dX6_renew_28 : decode cX6_renew 28 = .ok (.iload_n 2, 1) := by decide +kernel
theorem dX6_renew_29 : decode cX6_renew 29 = .ok (.sipush 20000, 3) := by decide +kernel
theorem dX6_renew_32 : decode cX6_renew 32 = .ok (.if_icmp .le 5, 3) := by decide +kernel
theorem dX6_renew_35 : decode cX6_renew 35 = .ok (.iconst (-1), 1) := by decide +kernel
theorem dX6_renew_36 : decode cX6_renew 36 = .ok (.ireturn, 1) := by decide +kernel
theorem dX6_renew_37 : decode cX6_renew 37 = .ok (.aload_n 0, 1) := by decide +kernel
theorem dX6_renew_38 : decode cX6_renew 38 = .ok (.iload_n 2, 1) := by decide +kernel
theorem dX6_renew_39 : decode cX6_renew 39 = .ok (.putfield 149, 3) := by decide +kernel
theorem dX6_renew_42 : decode cX6_renew 42 = .ok (.aload_n 0, 1) := by decide +kernel
theorem dX6_renew_43 : decode cX6_renew 43 = .ok (.iconst 0, 1) := by decide +kernel
theorem dX6_renew_44 : decode cX6_renew 44 = .ok (.putfield 155, 3) := by decide +kernel
theorem dX6_renew_47 : decode cX6_renew 47 = .ok (.iload_n 2, 1) := by decide +kernel
theorem dX6_renew_48 : decode cX6_renew 48 = .ok (.ireturn, 1) := by decide +kernel
set_option maxRecDepth 20000 in
theorem ggX6_plan_X6_gatherLeft : GoodIn wsX6_plan wsX6_gatherLeft := goodIn_r _ [5, 6, 7, 8, 9, 10, 11, 12, 13, 14, 15, 16, 17, 18, 19, 20, 21, 22, 23, 24, 25, 26, 27, 28, 29, 30, 31, 32, 33, 34, 35, 36, 37, 38, 39, 40, 4, 41, 42, 43, 44, 45, 46, 47, 48, 49, 50, 51, 52, 53, 54, 55, 56, 57, 58, 59, 60, 61, 62, 63, 64, 65, 66, 67, 68, 69, 70, 71, 72, 73, 74, 75, 76, 77, 78, 79, 80, 81, 82, 83, 84, 85, 86, 144, 145, 146, 147, 148, 149, 150, 151, 152, 153, 154, 155, 156, 157, 158, 159, 160, 161, 162, 163, 164, 165, 166, 167, 168, 169, 170, 171, 172, 173, 174, 175, 176, 177, 178, 179, 180, 181, 182, 183, 184, 185] (by decide +kernel) (by decide +kernel)
set_option maxRecDepth 20000 in
theorem gX6_plan_X6_gatherLeft : GoodIn wsX6_plan (wsV RX6 173 RX6 yX6_gatherLeft wsX6_gatherLeft) := goodIn_app (goodIn_of _ (by decide +kernel)) ggX6_plan_X6_gatherLeft
set_option maxRecDepth 20000 in
theorem ggX6_plan_X6_bestPlan : GoodIn wsX6_plan wsX6_bestPlan := goodIn_r _ [90, 6, 91, 92, 50, 93, 94, 95, 12, 96, 97, 98, 99, 100, 14, 83, 101, 102, 103, 104, 105, 106, 107, 108, 109, 110, 111, 112, 113, 54, 55, 56, 57, 58, 114, 115, 116, 117, 118, 119, 120, 121, 122, 123, 124, 125, 126, 127, 128, 129, 130, 131, 132, 133, 134, 135, 136, 137, 138, 81, 85, 139, 4, 140, 144, 145, 146, 147, 148, 149, 150, 151, 152, 153, 154, 155, 156, 157, 158, 159, 160, 161, 162, 163, 164, 165, 166, 167, 186, 187, 188, 189, 179, 180, 181, 182, 183] (by decide +kernel) (by decide +kernel)
set_option maxRecDepth 20000 in
theorem gX6_plan_X6_bestPlan : GoodIn wsX6_plan (wsV RX6 176 RX6 yX6_bestPlan wsX6_bestPlan) := goodIn_app (goodIn_of _ (by decide +kernel)) ggX6_plan_X6_bestPlan
set_option maxRecDepth 20000 in
theorem ggX6_plan_X2_waitsOf : GoodIn wsX6_plan wsX2_waitsOf := goodIn_r _ [143] (by decide +kernel) (by decide +kernel)
set_option maxRecDepth 20000 in
theorem gX6_plan_X2_waitsOf : GoodIn wsX6_plan (va_wsS RX6 180 yX2_waitsOf wsX2_waitsOf) := goodIn_app (goodIn_of _ (by decide +kernel)) ggX6_plan_X2_waitsOf
theorem dX6_plan_0 : decode cX6_plan 0 = .ok (.aload_n 0, 1) := by decide +kernel
theorem dX6_plan_1 : decode cX6_plan 1 = .ok (.invokevirtual 173, 3) := by decide +kernel
theorem dX6_plan_4 : decode cX6_plan 4 = .ok (.istore_n 1, 1) := by decide +kernel
theorem dX6_plan_5 : decode cX6_plan 5 = .ok (.iload_n 1, 1) := by decide +kernel
theorem dX6_plan_6 : decode cX6_plan 6 = .ok (.bipush 6, 2) := by decide +kernel
theorem dX6_plan_8 : decode cX6_plan 8 = .ok (.if_icmp .le 6, 3) := by decide +kernel
theorem dX6_plan_11 : decode cX6_plan 11 = .ok (.bipush (-2), 2) := by decide +kernel
theorem dX6_plan_13 : decode cX6_plan 13 = .ok (.ireturn, 1) := by decide +kernel
theorem dX6_plan_14 : decode cX6_plan 14 = .ok (.iload_n 1, 1) := by decide +kernel
theorem dX6_plan_15 : decode cX6_plan 15 = .ok (.ifCond .ne 7, 3) := by decide +kernel
theorem dX6_plan_18 : decode cX6_plan 18 = .ok (.iconst 0, 1) := by decide +kernel
theorem dX6_plan_19 : decode cX6_plan 19 = .ok (.goto 10, 3) := by decide +kernel
theorem dX6_plan_22 : decode cX6_plan 22 = .ok (.aload_n 0, 1) := by decide +kernel
theorem dX6_plan_23 : decode cX6_plan 23 = .ok (.invokevirtual 176, 3) := by decide +kernel
theorem dX6_plan_26 : decode cX6_plan 26 = .ok (.invokestatic 180, 3) := by decide +kernel
theorem dX6_plan_29 : decode cX6_plan 29 = .ok (.ireturn, 1) := by decide +kernel
set_option maxRecDepth 20000 in
theorem ggX6_ends_X6_gatherLeft : GoodIn wsX6_ends wsX6_gatherLeft := goodIn_r _ [5, 6, 7, 8, 9, 10, 11, 12, 13, 14, 15, 16, 17, 18, 19, 20, 21, 22, 23, 24, 25, 26, 27, 28, 29, 30, 31, 32, 33, 34, 35, 36, 37, 38, 39, 40, 4, 41, 42, 43, 44, 45, 46, 47, 48, 49, 50, 51, 52, 53, 54, 55, 56, 57, 58, 59, 60, 61, 62, 63, 64, 65, 66, 67, 68, 69, 70, 71, 72, 73, 74, 75, 76, 77, 78, 79, 80, 81, 82, 83, 84, 85, 86, 145, 146, 147, 148, 149, 150, 151, 152, 153, 154, 155, 156, 157, 158, 159, 160, 161, 162, 163, 164, 165, 166, 167, 168, 169, 170, 171, 172, 173, 174, 175, 176, 177, 178, 179, 180, 181, 182, 183, 184, 185, 186] (by decide +kernel) (by decide +kernel)
set_option maxRecDepth 20000 in
theorem gX6_ends_X6_gatherLeft : GoodIn wsX6_ends (wsV RX6 173 RX6 yX6_gatherLeft wsX6_gatherLeft) := goodIn_app (goodIn_of _ (by decide +kernel)) ggX6_ends_X6_gatherLeft
set_option maxRecDepth 20000 in
theorem ggX6_ends_X6_bestPlan : GoodIn wsX6_ends wsX6_bestPlan := goodIn_r _ [90, 6, 91, 92, 50, 93, 94, 95, 12, 96, 97, 98, 99, 100, 14, 83, 101, 102, 103, 104, 105, 106, 107, 108, 109, 110, 111, 112, 113, 54, 55, 56, 57, 58, 114, 115, 116, 117, 118, 119, 120, 121, 122, 123, 124, 125, 126, 127, 128, 129, 130, 131, 132, 133, 134, 135, 136, 137, 138, 81, 85, 139, 4, 140, 145, 146, 147, 148, 149, 150, 151, 152, 153, 154, 155, 156, 157, 158, 159, 160, 161, 162, 163, 164, 165, 166, 167, 168, 187, 188, 189, 190, 180, 181, 182, 183, 184] (by decide +kernel) (by decide +kernel)
set_option maxRecDepth 20000 in
theorem gX6_ends_X6_bestPlan : GoodIn wsX6_ends (wsV RX6 176 RX6 yX6_bestPlan wsX6_bestPlan) := goodIn_app (goodIn_of _ (by decide +kernel)) ggX6_ends_X6_bestPlan
set_option maxRecDepth 20000 in
theorem ggX6_ends_X2_endOf : GoodIn wsX6_ends wsX2_endOf := goodIn_r _ [143, 144] (by decide +kernel) (by decide +kernel)
set_option maxRecDepth 20000 in
theorem gX6_ends_X2_endOf : GoodIn wsX6_ends (va_wsS RX6 184 yX2_endOf wsX2_endOf) := goodIn_app (goodIn_of _ (by decide +kernel)) ggX6_ends_X2_endOf
theorem dX6_ends_0 : decode cX6_ends 0 = .ok (.aload_n 0, 1) := by decide +kernel
theorem dX6_ends_1 : decode cX6_ends 1 = .ok (.invokevirtual 173, 3) := by decide +kernel
theorem dX6_ends_4 : decode cX6_ends 4 = .ok (.istore_n 1, 1) := by decide +kernel
theorem dX6_ends_5 : decode cX6_ends 5 = .ok (.iload_n 1, 1) := by decide +kernel
theorem dX6_ends_6 : decode cX6_ends 6 = .ok (.bipush 6, 2) := by decide +kernel
theorem dX6_ends_8 : decode cX6_ends 8 = .ok (.if_icmp .le 6, 3) := by decide +kernel
theorem dX6_ends_11 : decode cX6_ends 11 = .ok (.bipush (-2), 2) := by decide +kernel
theorem dX6_ends_13 : decode cX6_ends 13 = .ok (.ireturn, 1) := by decide +kernel
theorem dX6_ends_14 : decode cX6_ends 14 = .ok (.iload_n 1, 1) := by decide +kernel
theorem dX6_ends_15 : decode cX6_ends 15 = .ok (.ifCond .ne 7, 3) := by decide +kernel
theorem dX6_ends_18 : decode cX6_ends 18 = .ok (.iconst (-1), 1) := by decide +kernel
theorem dX6_ends_19 : decode cX6_ends 19 = .ok (.goto 10, 3) := by decide +kernel
theorem dX6_ends_22 : decode cX6_ends 22 = .ok (.aload_n 0, 1) := by decide +kernel
theorem dX6_ends_23 : decode cX6_ends 23 = .ok (.invokevirtual 176, 3) := by decide +kernel
theorem dX6_ends_26 : decode cX6_ends 26 = .ok (.invokestatic 184, 3) := by decide +kernel
theorem dX6_ends_29 : decode cX6_ends 29 = .ok (.ireturn, 1) := by decide +kernel
set_option maxRecDepth 20000 in
theorem ggX6_stock_X6_isSide : GoodIn wsX6_stock wsX6_isSide := goodIn_r _ [4] (by decide +kernel) (by decide +kernel)
set_option maxRecDepth 20000 in
theorem gX6_stock_X6_isSide : GoodIn wsX6_stock (va_wsS RX6 93 yX6_isSide wsX6_isSide) := goodIn_app (goodIn_of _ (by decide +kernel)) ggX6_stock_X6_isSide
set_option maxRecDepth 20000 in
theorem ggX6_stock_X6_waterAt : GoodIn wsX6_stock wsX6_waterAt := goodIn_r _ [8, 9, 10, 17, 18, 19, 20, 21, 22, 23, 24, 25, 26, 27, 28, 29, 30, 31] (by decide +kernel) (by decide +kernel)
set_option maxRecDepth 20000 in
theorem gX6_stock_X6_waterAt : GoodIn wsX6_stock (wsV RX6 97 RX6 yX6_waterAt wsX6_waterAt) := goodIn_app (goodIn_of _ (by decide +kernel)) ggX6_stock_X6_waterAt
set_option maxRecDepth 20000 in
theorem ggX6_stock_X5_tonnes : GoodIn wsX6_stock wsX5_tonnes := goodIn_r _ [15, 16, 32, 33] (by decide +kernel) (by decide +kernel)
set_option maxRecDepth 20000 in
theorem gX6_stock_X5_tonnes : GoodIn wsX6_stock (wsV RX6 186 RX5 yX5_tonnes wsX5_tonnes) := goodIn_app (goodIn_of _ (by decide +kernel)) ggX6_stock_X5_tonnes
theorem dX6_stock_0 : decode cX6_stock 0 = .ok (.iload_n 1, 1) := by decide +kernel
theorem dX6_stock_1 : decode cX6_stock 1 = .ok (.invokestatic 93, 3) := by decide +kernel
theorem dX6_stock_4 : decode cX6_stock 4 = .ok (.ifCond .eq 14, 3) := by decide +kernel
theorem dX6_stock_7 : decode cX6_stock 7 = .ok (.aload_n 0, 1) := by decide +kernel
theorem dX6_stock_8 : decode cX6_stock 8 = .ok (.iload_n 1, 1) := by decide +kernel
theorem dX6_stock_9 : decode cX6_stock 9 = .ok (.invokevirtual 97, 3) := by decide +kernel
theorem dX6_stock_12 : decode cX6_stock 12 = .ok (.invokevirtual 186, 3) := by decide +kernel
theorem dX6_stock_15 : decode cX6_stock 15 = .ok (.goto 4, 3) := by decide +kernel
theorem dX6_stock_18 : decode cX6_stock 18 = .ok (.lconst 0, 1) := by decide +kernel
theorem dX6_stock_19 : decode cX6_stock 19 = .ok (.lreturn, 1) := by decide +kernel
set_option maxRecDepth 20000 in
theorem ggX6_level_X6_isSide : GoodIn wsX6_level wsX6_isSide := goodIn_r _ [4] (by decide +kernel) (by decide +kernel)
set_option maxRecDepth 20000 in
theorem gX6_level_X6_isSide : GoodIn wsX6_level (va_wsS RX6 93 yX6_isSide wsX6_isSide) := goodIn_app (goodIn_of _ (by decide +kernel)) ggX6_level_X6_isSide
set_option maxRecDepth 20000 in
theorem ggX6_level_X6_waterAt : GoodIn wsX6_level wsX6_waterAt := goodIn_r _ [8, 9, 10, 22, 23, 24, 25, 26, 27, 28, 29, 30, 31, 32, 33, 34, 35, 36] (by decide +kernel) (by decide +kernel)
set_option maxRecDepth 20000 in
theorem gX6_level_X6_waterAt : GoodIn wsX6_level (wsV RX6 97 RX6 yX6_waterAt wsX6_waterAt) := goodIn_app (goodIn_of _ (by decide +kernel)) ggX6_level_X6_waterAt
set_option maxRecDepth 20000 in
theorem ggX6_level_X5_centimetres : GoodIn wsX6_level wsX5_centimetres := goodIn_r _ [15, 16, 17, 18, 19, 20, 21, 37, 38] (by decide +kernel) (by decide +kernel)
set_option maxRecDepth 20000 in
theorem gX6_level_X5_centimetres : GoodIn wsX6_level (wsV RX6 189 RX5 yX5_centimetres wsX5_centimetres) := goodIn_app (goodIn_of _ (by decide +kernel)) ggX6_level_X5_centimetres
theorem dX6_level_0 : decode cX6_level 0 = .ok (.iload_n 1, 1) := by decide +kernel
theorem dX6_level_1 : decode cX6_level 1 = .ok (.invokestatic 93, 3) := by decide +kernel
theorem dX6_level_4 : decode cX6_level 4 = .ok (.ifCond .eq 14, 3) := by decide +kernel
theorem dX6_level_7 : decode cX6_level 7 = .ok (.aload_n 0, 1) := by decide +kernel
theorem dX6_level_8 : decode cX6_level 8 = .ok (.iload_n 1, 1) := by decide +kernel
theorem dX6_level_9 : decode cX6_level 9 = .ok (.invokevirtual 97, 3) := by decide +kernel
theorem dX6_level_12 : decode cX6_level 12 = .ok (.invokevirtual 189, 3) := by decide +kernel
theorem dX6_level_15 : decode cX6_level 15 = .ok (.goto 4, 3) := by decide +kernel
theorem dX6_level_18 : decode cX6_level 18 = .ok (.iconst 0, 1) := by decide +kernel
theorem dX6_level_19 : decode cX6_level 19 = .ok (.ireturn, 1) := by decide +kernel
set_option maxRecDepth 20000 in
theorem ggX6_depth_X6_isSide : GoodIn wsX6_depth wsX6_isSide := goodIn_r _ [4] (by decide +kernel) (by decide +kernel)
set_option maxRecDepth 20000 in
theorem gX6_depth_X6_isSide : GoodIn wsX6_depth (va_wsS RX6 93 yX6_isSide wsX6_isSide) := goodIn_app (goodIn_of _ (by decide +kernel)) ggX6_depth_X6_isSide
set_option maxRecDepth 20000 in
theorem ggX6_depth_X6_waterAt : GoodIn wsX6_depth wsX6_waterAt := goodIn_r _ [8, 9, 10, 29, 30, 31, 32, 33, 34, 35, 36, 37, 38, 39, 40, 41, 42, 43] (by decide +kernel) (by decide +kernel)
set_option maxRecDepth 20000 in
theorem gX6_depth_X6_waterAt : GoodIn wsX6_depth (wsV RX6 97 RX6 yX6_waterAt wsX6_waterAt) := goodIn_app (goodIn_of _ (by decide +kernel)) ggX6_depth_X6_waterAt
set_option maxRecDepth 20000 in
theorem ggX6_depth_X5_decimetres : GoodIn wsX6_depth wsX5_decimetres := goodIn_r _ [15, 16, 17, 18, 14, 19, 20, 21, 22, 23, 24, 25, 26, 27, 28, 44, 45] (by decide +kernel) (by decide +kernel)
set_option maxRecDepth 20000 in
theorem gX6_depth_X5_decimetres : GoodIn wsX6_depth (wsV RX6 192 RX5 yX5_decimetres wsX5_decimetres) := goodIn_app (goodIn_of _ (by decide +kernel)) ggX6_depth_X5_decimetres
theorem dX6_depth_0 : decode cX6_depth 0 = .ok (.iload_n 1, 1) := by decide +kernel
theorem dX6_depth_1 : decode cX6_depth 1 = .ok (.invokestatic 93, 3) := by decide +kernel
theorem dX6_depth_4 : decode cX6_depth 4 = .ok (.ifCond .eq 14, 3) := by decide +kernel
theorem dX6_depth_7 : decode cX6_depth 7 = .ok (.aload_n 0, 1) := by decide +kernel
theorem dX6_depth_8 : decode cX6_depth 8 = .ok (.iload_n 1, 1) := by decide +kernel
theorem dX6_depth_9 : decode cX6_depth 9 = .ok (.invokevirtual 97, 3) := by decide +kernel
theorem dX6_depth_12 : decode cX6_depth 12 = .ok (.invokevirtual 192, 3) := by decide +kernel
theorem dX6_depth_15 : decode cX6_depth 15 = .ok (.goto 4, 3) := by decide +kernel
theorem dX6_depth_18 : decode cX6_depth 18 = .ok (.iconst 0, 1) := by decide +kernel
theorem dX6_depth_19 : decode cX6_depth 19 = .ok (.ireturn, 1) := by decide +kernel
set_option maxRecDepth 20000 in
theorem ggX6_look_Jx4a65c_size_8abf5 : GoodIn wsX6_look wsJx4a65c_size_8abf5 := goodIn_r _ [14, 15, 99, 100, 101] (by decide +kernel) (by decide +kernel)
set_option maxRecDepth 20000 in
theorem gX6_look_Jx4a65c_size_8abf5_f116Jx4a65c : GoodIn wsX6_look (va_wsF RX6 116 RJx4a65c ⟨"java/util/List", "size", "()I"⟩ yJx4a65c_size_8abf5 wsJx4a65c_size_8abf5) := goodIn_app (goodIn_of _ (by decide +kernel)) ggX6_look_Jx4a65c_size_8abf5
set_option maxRecDepth 20000 in
theorem ggX6_look_X6_within : GoodIn wsX6_look wsX6_within := goodIn_r _ [19] (by decide +kernel) (by decide +kernel)
set_option maxRecDepth 20000 in
theorem gX6_look_X6_within : GoodIn wsX6_look (va_wsS RX6 82 yX6_within wsX6_within) := goodIn_app (goodIn_of _ (by decide +kernel)) ggX6_look_X6_within
set_option maxRecDepth 20000 in
theorem ggX6_look_Jx4a65c_get_915e3 : GoodIn wsX6_look wsJx4a65c_get_915e3 := goodIn_r _ [23, 15, 24, 25, 26, 27, 28, 29, 30, 31, 32, 33, 34, 13, 35, 36, 99, 100, 101] (by decide +kernel) (by decide +kernel)
set_option maxRecDepth 20000 in
theorem gX6_look_Jx4a65c_get_915e3_f138Jx4a65c : GoodIn wsX6_look (va_wsF RX6 138 RJx4a65c ⟨"java/util/List", "get", "(I)Ljava/lang/Object;"⟩ yJx4a65c_get_915e3 wsJx4a65c_get_915e3) := goodIn_app (goodIn_of _ (by decide +kernel)) ggX6_look_Jx4a65c_get_915e3
set_option maxRecDepth 20000 in
theorem ggX6_look_X6_isFit : GoodIn wsX6_look wsX6_isFit := goodIn_r _ [40, 6, 41, 5, 42, 43, 44, 45, 46, 47, 48, 49, 50, 51, 52, 53, 54, 55, 56, 57, 58, 59, 60, 61, 62, 63, 64, 65, 66, 67, 68, 91, 92, 93, 94, 95, 96, 97, 98, 76, 77, 78, 79, 80, 81, 82, 83, 84, 85, 86, 87, 88, 89, 90, 102, 103, 104, 105, 106, 107, 108] (by decide +kernel) (by decide +kernel)
set_option maxRecDepth 20000 in
theorem gX6_look_X6_isFit : GoodIn wsX6_look (wsV RX6 213 RX6 yX6_isFit wsX6_isFit) := goodIn_app (goodIn_of _ (by decide +kernel)) ggX6_look_X6_isFit
set_option maxRecDepth 20000 in
theorem ggX6_look_X0_waited : GoodIn wsX6_look wsX0_waited := goodIn_r _ [73, 74, 75, 91, 92, 93, 94, 95, 96, 97, 98] (by decide +kernel) (by decide +kernel)
set_option maxRecDepth 20000 in
theorem gX6_look_X0_waited : GoodIn wsX6_look (wsV RX6 220 RX0 yX0_waited wsX0_waited) := goodIn_app (goodIn_of _ (by decide +kernel)) ggX6_look_X0_waited
theorem dX6_look_0 : decode cX6_look 0 = .ok (.iload_n 1, 1) := by decide +kernel
theorem dX6_look_1 : decode cX6_look 1 = .ok (.iconst 0, 1) := by decide +kernel
theorem dX6_look_2 : decode cX6_look 2 = .ok (.aload_n 0, 1) := by decide +kernel
theorem dX6_look_3 : decode cX6_look 3 = .ok (.getfield 56, 3) := by decide +kernel
theorem dX6_look_6 : decode cX6_look 6 = .ok (.invokeinterface 116 1, 5) := by decide +kernel
theorem dX6_look_11 : decode cX6_look 11 = .ok (.iconst 1, 1) := by decide +kernel
theorem dX6_look_12 : decode cX6_look 12 = .ok (.isub, 1) := by decide +kernel
theorem dX6_look_13 : decode cX6_look 13 = .ok (.invokestatic 82, 3) := by decide +kernel
theorem dX6_look_16 : decode cX6_look 16 = .ok (.ifCond .ne 5, 3) := by decide +kernel
theorem dX6_look_19 : decode cX6_look 19 = .ok (.iconst (-1), 1) := by decide +kernel
theorem dX6_look_20 : decode cX6_look 20 = .ok (.ireturn, 1) := by decide +kernel
theorem dX6_look_21 : decode cX6_look 21 = .ok (.aload_n 0, 1) := by decide +kernel
theorem dX6_look_22 : decode cX6_look 22 = .ok (.getfield 56, 3) := by decide +kernel
theorem dX6_look_25 : decode cX6_look 25 = .ok (.iload_n 1, 1) := by decide +kernel
theorem dX6_look_26 : decode cX6_look 26 = .ok (.invokeinterface 138 2, 5) := by decide +kernel
theorem dX6_look_31 : decode cX6_look 31 = .ok (.checkcast 119, 3) := by decide +kernel
theorem dX6_look_34 : decode cX6_look 34 = .ok (.astore_n 3, 1) := by decide +kernel
theorem dX6_look_35 : decode cX6_look 35 = .ok (.iload_n 2, 1) := by decide +kernel
theorem dX6_look_36 : decode cX6_look 36 = .ok (.tableswitch 106 0 8 #[52, 57, 62, 67, 72, 77, 82, 96, 101], 52) := by decide +kernel
theorem dX6_look_88 : decode cX6_look 88 = .ok (.aload_n 3, 1) := by decide +kernel
theorem dX6_look_89 : decode cX6_look 89 = .ok (.getfield 195, 3) := by decide +kernel
theorem dX6_look_92 : decode cX6_look 92 = .ok (.ireturn, 1) := by decide +kernel
theorem dX6_look_93 : decode cX6_look 93 = .ok (.aload_n 3, 1) := by decide +kernel
theorem dX6_look_94 : decode cX6_look 94 = .ok (.getfield 198, 3) := by decide +kernel
theorem dX6_look_97 : decode cX6_look 97 = .ok (.ireturn, 1) := by decide +kernel
theorem dX6_look_98 : decode cX6_look 98 = .ok (.aload_n 3, 1) := by decide +kernel
theorem dX6_look_99 : decode cX6_look 99 = .ok (.getfield 201, 3) := by decide +kernel
theorem dX6_look_102 : decode cX6_look 102 = .ok (.ireturn, 1) := by decide +kernel
theorem dX6_look_103 : decode cX6_look 103 = .ok (.aload_n 3, 1) := by decide +kernel
theorem dX6_look_104 : decode cX6_look 104 = .ok (.getfield 204, 3) := by decide +kernel
theorem dX6_look_107 : decode cX6_look 107 = .ok (.ireturn, 1) := by decide +kernel
theorem dX6_look_108 : decode cX6_look 108 = .ok (.aload_n 3, 1) := by decide +kernel
theorem dX6_look_109 : decode cX6_look 109 = .ok (.getfield 207, 3) := by decide +kernel
theorem dX6_look_112 : decode cX6_look 112 = .ok (.ireturn, 1) := by decide +kernel
theorem dX6_look_113 : decode cX6_look 113 = .ok (.aload_n 3, 1) := by decide +kernel
theorem dX6_look_114 : decode cX6_look 114 = .ok (.getfield 210, 3) := by decide +kernel
theorem dX6_look_117 : decode cX6_look 117 = .ok (.ireturn, 1) := by decide +kernel
theorem dX6_look_118 : decode cX6_look 118 = .ok (.aload_n 0, 1) := by decide +kernel
theorem dX6_look_119 : decode cX6_look 119 = .ok (.aload_n 3, 1) := by decide +kernel
theorem dX6_look_120 : decode cX6_look 120 = .ok (.invokevirtual 213, 3) := by decide +kernel
theorem dX6_look_123 : decode cX6_look 123 = .ok (.ifCond .eq 7, 3) := by decide +kernel
theorem dX6_look_126 : decode cX6_look 126 = .ok (.iconst 1, 1) := by decide +kernel
theorem dX6_look_127 : decode cX6_look 127 = .ok (.goto 4, 3) := by decide +kernel
theorem dX6_look_130 : decode cX6_look 130 = .ok (.iconst 0, 1) := by decide +kernel
theorem dX6_look_131 : decode cX6_look 131 = .ok (.ireturn, 1) := by decide +kernel
theorem dX6_look_132 : decode cX6_look 132 = .ok (.aload_n 3, 1) := by decide +kernel
theorem dX6_look_133 : decode cX6_look 133 = .ok (.getfield 217, 3) := by decide +kernel
theorem dX6_look_136 : decode cX6_look 136 = .ok (.ireturn, 1) := by decide +kernel
theorem dX6_look_137 : decode cX6_look 137 = .ok (.aload_n 3, 1) := by decide +kernel
theorem dX6_look_138 : decode cX6_look 138 = .ok (.invokevirtual 220, 3) := by decide +kernel
theorem dX6_look_141 : decode cX6_look 141 = .ok (.ireturn, 1) := by decide +kernel
theorem dX6_look_142 : decode cX6_look 142 = .ok (.iconst (-1), 1) := by decide +kernel
theorem dX6_look_143 : decode cX6_look 143 = .ok (.ireturn, 1) := by decide +kernel
set_option maxRecDepth 20000 in
theorem ggX6_count_X6_within : GoodIn wsX6_count wsX6_within := goodIn_r _ [16] (by decide +kernel) (by decide +kernel)
set_option maxRecDepth 20000 in
theorem gX6_count_X6_within : GoodIn wsX6_count (va_wsS RX6 82 yX6_within wsX6_within) := goodIn_app (goodIn_of _ (by decide +kernel)) ggX6_count_X6_within
set_option maxRecDepth 20000 in
theorem ggX6_count_X1_number : GoodIn wsX6_count wsX1_number := goodIn_r _ [21, 22, 56, 57, 58, 59, 60] (by decide +kernel) (by decide +kernel)
set_option maxRecDepth 20000 in
theorem gX6_count_X1_number : GoodIn wsX6_count (wsV RX6 158 RX1 yX1_number wsX1_number) := goodIn_app (goodIn_of _ (by decide +kernel)) ggX6_count_X1_number
set_option maxRecDepth 20000 in
theorem ggX6_count_Jx4a65c_size_8abf5 : GoodIn wsX6_count wsJx4a65c_size_8abf5 := goodIn_r _ [27, 28, 61, 62, 63] (by decide +kernel) (by decide +kernel)
set_option maxRecDepth 20000 in
theorem gX6_count_Jx4a65c_size_8abf5_f116Jx4a65c : GoodIn wsX6_count (va_wsF RX6 116 RJx4a65c ⟨"java/util/List", "size", "()I"⟩ yJx4a65c_size_8abf5 wsJx4a65c_size_8abf5) := goodIn_app (goodIn_of _ (by decide +kernel)) ggX6_count_Jx4a65c_size_8abf5
set_option maxRecDepth 20000 in
theorem ggX6_count_X3_size : GoodIn wsX6_count wsX3_size := goodIn_r _ [33, 34, 64, 65] (by decide +kernel) (by decide +kernel)
set_option maxRecDepth 20000 in
theorem gX6_count_X3_size : GoodIn wsX6_count (wsV RX6 78 RX3 yX3_size wsX3_size) := goodIn_app (goodIn_of _ (by decide +kernel)) ggX6_count_X3_size
set_option maxRecDepth 20000 in
theorem ggX6_count_X5_spread : GoodIn wsX6_count wsX5_spread := goodIn_r _ [39, 40, 66, 67] (by decide +kernel) (by decide +kernel)
set_option maxRecDepth 20000 in
theorem gX6_count_X5_spread : GoodIn wsX6_count (wsV RX6 229 RX5 yX5_spread wsX5_spread) := goodIn_app (goodIn_of _ (by decide +kernel)) ggX6_count_X5_spread
theorem dX6_count_0 : decode cX6_count 0 = .ok (.iload_n 1, 1) := by decide +kernel
theorem dX6_count_1 : decode cX6_count 1 = .ok (.bipush 10, 2) := by decide +kernel
theorem dX6_count_3 : decode cX6_count 3 = .ok (.bipush 15, 2) := by decide +kernel
theorem dX6_count_5 : decode cX6_count 5 = .ok (.invokestatic 82, 3) := by decide +kernel
theorem dX6_count_8 : decode cX6_count 8 = .ok (.ifCond .eq 15, 3) := by decide +kernel
theorem dX6_count_11 : decode cX6_count 11 = .ok (.aload_n 0, 1) := by decide +kernel
theorem dX6_count_12 : decode cX6_count 12 = .ok (.getfield 21, 3) := by decide +kernel
theorem dX6_count_15 : decode cX6_count 15 = .ok (.iload_n 1, 1) := by decide +kernel
theorem dX6_count_16 : decode cX6_count 16 = .ok (.bipush 10, 2) := by decide +kernel
theorem dX6_count_18 : decode cX6_count 18 = .ok (.isub, 1) := by decide +kernel
theorem dX6_count_19 : decode cX6_count 19 = .ok (.invokevirtual 158, 3) := by decide +kernel
theorem dX6_count_22 : decode cX6_count 22 = .ok (.ireturn, 1) := by decide +kernel
theorem dX6_count_23 : decode cX6_count 23 = .ok (.iload_n 1, 1) := by decide +kernel
theorem dX6_count_24 : decode cX6_count 24 = .ok (.tableswitch 173 0 21 #[104, 109, 114, 119, 124, 129, 139, 144, 152, 173, 173, 173, 173, 173, 173, 173, 173, 173, 173, 173, 157, 165], 104) := by decide +kernel
theorem dX6_count_128 : decode cX6_count 128 = .ok (.aload_n 0, 1) := by decide +kernel
theorem dX6_count_129 : decode cX6_count 129 = .ok (.getfield 63, 3) := by decide +kernel
theorem dX6_count_132 : decode cX6_count 132 = .ok (.ireturn, 1) := by decide +kernel
theorem dX6_count_133 : decode cX6_count 133 = .ok (.aload_n 0, 1) := by decide +kernel
theorem dX6_count_134 : decode cX6_count 134 = .ok (.getfield 67, 3) := by decide +kernel
theorem dX6_count_137 : decode cX6_count 137 = .ok (.ireturn, 1) := by decide +kernel
theorem dX6_count_138 : decode cX6_count 138 = .ok (.aload_n 0, 1) := by decide +kernel
theorem dX6_count_139 : decode cX6_count 139 = .ok (.getfield 149, 3) := by decide +kernel
theorem dX6_count_142 : decode cX6_count 142 = .ok (.ireturn, 1) := by decide +kernel
theorem dX6_count_143 : decode cX6_count 143 = .ok (.aload_n 0, 1) := by decide +kernel
theorem dX6_count_144 : decode cX6_count 144 = .ok (.getfield 155, 3) := by decide +kernel
theorem dX6_count_147 : decode cX6_count 147 = .ok (.ireturn, 1) := by decide +kernel
theorem dX6_count_148 : decode cX6_count 148 = .ok (.aload_n 0, 1) := by decide +kernel
theorem dX6_count_149 : decode cX6_count 149 = .ok (.getfield 170, 3) := by decide +kernel
theorem dX6_count_152 : decode cX6_count 152 = .ok (.ireturn, 1) := by decide +kernel
theorem dX6_count_153 : decode cX6_count 153 = .ok (.aload_n 0, 1) := by decide +kernel
theorem dX6_count_154 : decode cX6_count 154 = .ok (.getfield 56, 3) := by decide +kernel
theorem dX6_count_157 : decode cX6_count 157 = .ok (.invokeinterface 116 1, 5) := by decide +kernel
theorem dX6_count_162 : decode cX6_count 162 = .ok (.ireturn, 1) := by decide +kernel
theorem dX6_count_163 : decode cX6_count 163 = .ok (.aload_n 0, 1) := by decide +kernel
theorem dX6_count_164 : decode cX6_count 164 = .ok (.getfield 223, 3) := by decide +kernel
theorem dX6_count_167 : decode cX6_count 167 = .ok (.ireturn, 1) := by decide +kernel
theorem dX6_count_168 : decode cX6_count 168 = .ok (.aload_n 0, 1) := by decide +kernel
theorem dX6_count_169 : decode cX6_count 169 = .ok (.getfield 10, 3) := by decide +kernel
theorem dX6_count_172 : decode cX6_count 172 = .ok (.invokevirtual 78, 3) := by decide +kernel
theorem dX6_count_175 : decode cX6_count 175 = .ok (.ireturn, 1) := by decide +kernel
theorem dX6_count_176 : decode cX6_count 176 = .ok (.aload_n 0, 1) := by decide +kernel
theorem dX6_count_177 : decode cX6_count 177 = .ok (.getfield 226, 3) := by decide +kernel
theorem dX6_count_180 : decode cX6_count 180 = .ok (.ireturn, 1) := by decide +kernel
theorem dX6_count_181 : decode cX6_count 181 = .ok (.aload_n 0, 1) := by decide +kernel
theorem dX6_count_182 : decode cX6_count 182 = .ok (.getfield 46, 3) := by decide +kernel
theorem dX6_count_185 : decode cX6_count 185 = .ok (.invokevirtual 229, 3) := by decide +kernel
theorem dX6_count_188 : decode cX6_count 188 = .ok (.ireturn, 1) := by decide +kernel
theorem dX6_count_189 : decode cX6_count 189 = .ok (.aload_n 0, 1) := by decide +kernel
theorem dX6_count_190 : decode cX6_count 190 = .ok (.getfield 50, 3) := by decide +kernel
theorem dX6_count_193 : decode cX6_count 193 = .ok (.invokevirtual 229, 3) := by decide +kernel
theorem dX6_count_196 : decode cX6_count 196 = .ok (.ireturn, 1) := by decide +kernel
theorem dX6_count_197 : decode cX6_count 197 = .ok (.iconst (-1), 1) := by decide +kernel
theorem dX6_count_198 : decode cX6_count 198 = .ok (.ireturn, 1) := by decide +kernel
theorem dX6_within_0 : decode cX6_within 0 = .ok (.iload_n 0, 1) := by decide +kernel
theorem dX6_within_1 : decode cX6_within 1 = .ok (.iload_n 1, 1) := by decide +kernel
theorem dX6_within_2 : decode cX6_within 2 = .ok (.if_icmp .lt 12, 3) := by decide +kernel
theorem dX6_within_5 : decode cX6_within 5 = .ok (.iload_n 0, 1) := by decide +kernel
theorem dX6_within_6 : decode cX6_within 6 = .ok (.iload_n 2, 1) := by decide +kernel
theorem dX6_within_7 : decode cX6_within 7 = .ok (.if_icmp .gt 7, 3) := by decide +kernel
theorem dX6_within_10 : decode cX6_within 10 = .ok (.iconst 1, 1) := by decide +kernel
theorem dX6_within_11 : decode cX6_within 11 = .ok (.goto 4, 3) := by decide +kernel
theorem dX6_within_14 : decode cX6_within 14 = .ok (.iconst 0, 1) := by decide +kernel
theorem dX6_within_15 : decode cX6_within 15 = .ok (.ireturn, 1) := by decide +kernel
theorem dX6_isSide_0 : decode cX6_isSide 0 = .ok (.iload_n 0, 1) := by decide +kernel
theorem dX6_isSide_1 : decode cX6_isSide 1 = .ok (.ifCond .eq 8, 3) := by decide +kernel
theorem dX6_isSide_4 : decode cX6_isSide 4 = .ok (.iload_n 0, 1) := by decide +kernel
theorem dX6_isSide_5 : decode cX6_isSide 5 = .ok (.iconst 1, 1) := by decide +kernel
theorem dX6_isSide_6 : decode cX6_isSide 6 = .ok (.if_icmp .ne 7, 3) := by decide +kernel
theorem dX6_isSide_9 : decode cX6_isSide 9 = .ok (.iconst 1, 1) := by decide +kernel
theorem dX6_isSide_10 : decode cX6_isSide 10 = .ok (.goto 4, 3) := by decide +kernel
theorem dX6_isSide_13 : decode cX6_isSide 13 = .ok (.iconst 0, 1) := by decide +kernel
theorem dX6_isSide_14 : decode cX6_isSide 14 = .ok (.ireturn, 1) := by decide +kernel
set_option maxRecDepth 20000 in
theorem ggX6_isMinute_X6_within : GoodIn wsX6_isMinute wsX6_within := goodIn_r _ [4] (by decide +kernel) (by decide +kernel)
set_option maxRecDepth 20000 in
theorem gX6_isMinute_X6_within : GoodIn wsX6_isMinute (va_wsS RX6 82 yX6_within wsX6_within) := goodIn_app (goodIn_of _ (by decide +kernel)) ggX6_isMinute_X6_within
theorem dX6_isMinute_0 : decode cX6_isMinute 0 = .ok (.iload_n 0, 1) := by decide +kernel
theorem dX6_isMinute_1 : decode cX6_isMinute 1 = .ok (.iconst 0, 1) := by decide +kernel
theorem dX6_isMinute_2 : decode cX6_isMinute 2 = .ok (.sipush 20000, 3) := by decide +kernel
theorem dX6_isMinute_5 : decode cX6_isMinute 5 = .ok (.invokestatic 82, 3) := by decide +kernel
theorem dX6_isMinute_8 : decode cX6_isMinute 8 = .ok (.ireturn, 1) := by decide +kernel
theorem dX6_otherSide_0 : decode cX6_otherSide 0 = .ok (.iload_n 0, 1) := by decide +kernel
theorem dX6_otherSide_1 : decode cX6_otherSide 1 = .ok (.ifCond .ne 7, 3) := by decide +kernel
theorem dX6_otherSide_4 : decode cX6_otherSide 4 = .ok (.iconst 1, 1) := by decide +kernel
theorem dX6_otherSide_5 : decode cX6_otherSide 5 = .ok (.goto 4, 3) := by decide +kernel
theorem dX6_otherSide_8 : decode cX6_otherSide 8 = .ok (.iconst 0, 1) := by decide +kernel
theorem dX6_otherSide_9 : decode cX6_otherSide 9 = .ok (.ireturn, 1) := by decide +kernel
theorem dX6_waterAt_0 : decode cX6_waterAt 0 = .ok (.iload_n 1, 1) := by decide +kernel
theorem dX6_waterAt_1 : decode cX6_waterAt 1 = .ok (.ifCond .ne 10, 3) := by decide +kernel
theorem dX6_waterAt_4 : decode cX6_waterAt 4 = .ok (.aload_n 0, 1) := by decide +kernel
theorem dX6_waterAt_5 : decode cX6_waterAt 5 = .ok (.getfield 46, 3) := by decide +kernel
theorem dX6_waterAt_8 : decode cX6_waterAt 8 = .ok (.goto 7, 3) := by decide +kernel
theorem dX6_waterAt_11 : decode cX6_waterAt 11 = .ok (.aload_n 0, 1) := by decide +kernel
theorem dX6_waterAt_12 : decode cX6_waterAt 12 = .ok (.getfield 50, 3) := by decide +kernel
theorem dX6_waterAt_15 : decode cX6_waterAt 15 = .ok (.areturn, 1) := by decide +kernel
set_option maxRecDepth 20000 in
theorem ggX6_sendDown_X5_gain : GoodIn wsX6_sendDown wsX5_gain := goodIn_r _ [7, 8, 24, 25] (by decide +kernel) (by decide +kernel)
set_option maxRecDepth 20000 in
theorem gX6_sendDown_X5_gain : GoodIn wsX6_sendDown (wsV RX6 106 RX5 yX5_gain wsX5_gain) := goodIn_app (goodIn_of _ (by decide +kernel)) ggX6_sendDown_X5_gain
theorem dX6_sendDown_0 : decode cX6_sendDown 0 = .ok (.aload_n 0, 1) := by decide +kernel
theorem dX6_sendDown_1 : decode cX6_sendDown 1 = .ok (.getfield 50, 3) := by decide +kernel
theorem dX6_sendDown_4 : decode cX6_sendDown 4 = .ok (.iload_n 1, 1) := by decide +kernel
theorem dX6_sendDown_5 : decode cX6_sendDown 5 = .ok (.ineg, 1) := by decide +kernel
theorem dX6_sendDown_6 : decode cX6_sendDown 6 = .ok (.invokevirtual 106, 3) := by decide +kernel
theorem dX6_sendDown_9 : decode cX6_sendDown 9 = .ok (.aload_n 0, 1) := by decide +kernel
theorem dX6_sendDown_10 : decode cX6_sendDown 10 = .ok (.getfield 46, 3) := by decide +kernel
theorem dX6_sendDown_13 : decode cX6_sendDown 13 = .ok (.iload_n 1, 1) := by decide +kernel
theorem dX6_sendDown_14 : decode cX6_sendDown 14 = .ok (.invokevirtual 106, 3) := by decide +kernel
theorem dX6_sendDown_17 : decode cX6_sendDown 17 = .ok (.return_, 1) := by decide +kernel
set_option maxRecDepth 20000 in
theorem ggX6_isFit_X1_number : GoodIn wsX6_isFit wsX1_number := goodIn_r _ [11, 12, 54, 55, 56, 57, 58] (by decide +kernel) (by decide +kernel)
set_option maxRecDepth 20000 in
theorem gX6_isFit_X1_number : GoodIn wsX6_isFit (wsV RX6 158 RX1 yX1_number wsX1_number) := goodIn_app (goodIn_of _ (by decide +kernel)) ggX6_isFit_X1_number
set_option maxRecDepth 20000 in
theorem ggX6_isFit_X5_decimetres : GoodIn wsX6_isFit wsX5_decimetres := goodIn_r _ [17, 18, 19, 20, 16, 21, 22, 23, 24, 25, 26, 27, 28, 29, 30, 59, 60] (by decide +kernel) (by decide +kernel)
set_option maxRecDepth 20000 in
theorem gX6_isFit_X5_decimetres : GoodIn wsX6_isFit (wsV RX6 192 RX5 yX5_decimetres wsX5_decimetres) := goodIn_app (goodIn_of _ (by decide +kernel)) ggX6_isFit_X5_decimetres
theorem dX6_isFit_0 : decode cX6_isFit 0 = .ok (.aload_n 1, 1) := by decide +kernel
theorem dX6_isFit_1 : decode cX6_isFit 1 = .ok (.getfield 204, 3) := by decide +kernel
theorem dX6_isFit_4 : decode cX6_isFit 4 = .ok (.aload_n 0, 1) := by decide +kernel
theorem dX6_isFit_5 : decode cX6_isFit 5 = .ok (.getfield 21, 3) := by decide +kernel
theorem dX6_isFit_8 : decode cX6_isFit 8 = .ok (.iconst 3, 1) := by decide +kernel
theorem dX6_isFit_9 : decode cX6_isFit 9 = .ok (.invokevirtual 158, 3) := by decide +kernel
theorem dX6_isFit_12 : decode cX6_isFit 12 = .ok (.iadd, 1) := by decide +kernel
theorem dX6_isFit_13 : decode cX6_isFit 13 = .ok (.istore_n 2, 1) := by decide +kernel
theorem dX6_isFit_14 : decode cX6_isFit 14 = .ok (.aload_n 1, 1) := by decide +kernel
theorem dX6_isFit_15 : decode cX6_isFit 15 = .ok (.getfield 201, 3) := by decide +kernel
theorem dX6_isFit_18 : decode cX6_isFit 18 = .ok (.aload_n 0, 1) := by decide +kernel
theorem dX6_isFit_19 : decode cX6_isFit 19 = .ok (.getfield 63, 3) := by decide +kernel
theorem dX6_isFit_22 : decode cX6_isFit 22 = .ok (.if_icmp .gt 29, 3) := by decide +kernel
theorem dX6_isFit_25 : decode cX6_isFit 25 = .ok (.iload_n 2, 1) := by decide +kernel
theorem dX6_isFit_26 : decode cX6_isFit 26 = .ok (.aload_n 0, 1) := by decide +kernel
theorem dX6_isFit_27 : decode cX6_isFit 27 = .ok (.getfield 46, 3) := by decide +kernel
theorem dX6_isFit_30 : decode cX6_isFit 30 = .ok (.invokevirtual 192, 3) := by decide +kernel
theorem dX6_isFit_33 : decode cX6_isFit 33 = .ok (.if_icmp .gt 18, 3) := by decide +kernel
theorem dX6_isFit_36 : decode cX6_isFit 36 = .ok (.iload_n 2, 1) := by decide +kernel
theorem dX6_isFit_37 : decode cX6_isFit 37 = .ok (.aload_n 0, 1) := by decide +kernel
theorem dX6_isFit_38 : decode cX6_isFit 38 = .ok (.getfield 50, 3) := by decide +kernel
theorem dX6_isFit_41 : decode cX6_isFit 41 = .ok (.invokevirtual 192, 3) := by decide +kernel
theorem dX6_isFit_44 : decode cX6_isFit 44 = .ok (.if_icmp .gt 7, 3) := by decide +kernel
theorem dX6_isFit_47 : decode cX6_isFit 47 = .ok (.iconst 1, 1) := by decide +kernel
theorem dX6_isFit_48 : decode cX6_isFit 48 = .ok (.goto 4, 3) := by decide +kernel
theorem dX6_isFit_51 : decode cX6_isFit 51 = .ok (.iconst 0, 1) := by decide +kernel
theorem dX6_isFit_52 : decode cX6_isFit 52 = .ok (.ireturn, 1) := by decide +kernel
set_option maxRecDepth 20000 in
theorem ggX6_isLeft_X6_isFit : GoodIn wsX6_isLeft wsX6_isFit := goodIn_r _ [6, 7, 8, 9, 10, 11, 12, 13, 14, 15, 16, 17, 18, 19, 20, 21, 22, 23, 24, 25, 26, 27, 28, 29, 30, 31, 32, 33, 34, 35, 36, 37, 38, 39, 40, 41, 42, 43, 44, 45, 46, 47, 48, 49, 50, 51, 52, 53, 54, 55, 56, 57, 58, 59, 60, 61, 62, 63, 64, 65, 66] (by decide +kernel) (by decide +kernel)
set_option maxRecDepth 20000 in
theorem gX6_isLeft_X6_isFit : GoodIn wsX6_isLeft (wsV RX6 213 RX6 yX6_isFit wsX6_isFit) := goodIn_app (goodIn_of _ (by decide +kernel)) ggX6_isLeft_X6_isFit
theorem dX6_isLeft_0 : decode cX6_isLeft 0 = .ok (.aload_n 1, 1) := by decide +kernel
theorem dX6_isLeft_1 : decode cX6_isLeft 1 = .ok (.getfield 217, 3) := by decide +kernel
theorem dX6_isLeft_4 : decode cX6_isLeft 4 = .ok (.iconst (-1), 1) := by decide +kernel
theorem dX6_isLeft_5 : decode cX6_isLeft 5 = .ok (.if_icmp .ne 15, 3) := by decide +kernel
theorem dX6_isLeft_8 : decode cX6_isLeft 8 = .ok (.aload_n 0, 1) := by decide +kernel
theorem dX6_isLeft_9 : decode cX6_isLeft 9 = .ok (.aload_n 1, 1) := by decide +kernel
theorem dX6_isLeft_10 : decode cX6_isLeft 10 = .ok (.invokevirtual 213, 3) := by decide +kernel
theorem dX6_isLeft_13 : decode cX6_isLeft 13 = .ok (.ifCond .eq 7, 3) := by decide +kernel
theorem dX6_isLeft_16 : decode cX6_isLeft 16 = .ok (.iconst 1, 1) := by decide +kernel
theorem dX6_isLeft_17 : decode cX6_isLeft 17 = .ok (.goto 4, 3) := by decide +kernel
theorem dX6_isLeft_20 : decode cX6_isLeft 20 = .ok (.iconst 0, 1) := by decide +kernel
theorem dX6_isLeft_21 : decode cX6_isLeft 21 = .ok (.ireturn, 1) := by decide +kernel
set_option maxRecDepth 20000 in
theorem ggX6_isQueued_X6_isLeft : GoodIn wsX6_isQueued wsX6_isLeft := goodIn_r _ [7, 8, 9, 10, 11, 6, 12, 13, 14, 15, 16, 17, 18, 19, 20, 21, 22, 23, 24, 25, 26, 27, 28, 29, 30, 31, 32, 33, 34, 35, 36, 37, 38, 39, 40, 41, 42, 43, 44, 45, 46, 47, 48, 49, 50, 51, 52, 53, 54, 55, 56, 57, 58, 59, 60, 61, 62, 63, 64, 65, 66, 67, 68, 69, 70, 71, 72] (by decide +kernel) (by decide +kernel)
set_option maxRecDepth 20000 in
theorem gX6_isQueued_X6_isLeft : GoodIn wsX6_isQueued (wsV RX6 232 RX6 yX6_isLeft wsX6_isLeft) := goodIn_app (goodIn_of _ (by decide +kernel)) ggX6_isQueued_X6_isLeft
theorem dX6_isQueued_0 : decode cX6_isQueued 0 = .ok (.aload_n 1, 1) := by decide +kernel
theorem dX6_isQueued_1 : decode cX6_isQueued 1 = .ok (.getfield 195, 3) := by decide +kernel
theorem dX6_isQueued_4 : decode cX6_isQueued 4 = .ok (.iload_n 2, 1) := by decide +kernel
theorem dX6_isQueued_5 : decode cX6_isQueued 5 = .ok (.if_icmp .ne 23, 3) := by decide +kernel
theorem dX6_isQueued_8 : decode cX6_isQueued 8 = .ok (.aload_n 1, 1) := by decide +kernel
theorem dX6_isQueued_9 : decode cX6_isQueued 9 = .ok (.getfield 198, 3) := by decide +kernel
theorem dX6_isQueued_12 : decode cX6_isQueued 12 = .ok (.iload_n 3, 1) := by decide +kernel
theorem dX6_isQueued_13 : decode cX6_isQueued 13 = .ok (.if_icmp .gt 15, 3) := by decide +kernel
theorem dX6_isQueued_16 : decode cX6_isQueued 16 = .ok (.aload_n 0, 1) := by decide +kernel
theorem dX6_isQueued_17 : decode cX6_isQueued 17 = .ok (.aload_n 1, 1) := by decide +kernel
theorem dX6_isQueued_18 : decode cX6_isQueued 18 = .ok (.invokevirtual 232, 3) := by decide +kernel
theorem dX6_isQueued_21 : decode cX6_isQueued 21 = .ok (.ifCond .eq 7, 3) := by decide +kernel
theorem dX6_isQueued_24 : decode cX6_isQueued 24 = .ok (.iconst 1, 1) := by decide +kernel
theorem dX6_isQueued_25 : decode cX6_isQueued 25 = .ok (.goto 4, 3) := by decide +kernel
theorem dX6_isQueued_28 : decode cX6_isQueued 28 = .ok (.iconst 0, 1) := by decide +kernel
theorem dX6_isQueued_29 : decode cX6_isQueued 29 = .ok (.ireturn, 1) := by decide +kernel
set_option maxRecDepth 20000 in
theorem ggX6_turnOf_Jx4a65c_size_8abf5 : GoodIn wsX6_turnOf wsJx4a65c_size_8abf5 := goodIn_r _ [7, 8, 48, 49, 50] (by decide +kernel) (by decide +kernel)
set_option maxRecDepth 20000 in
theorem gX6_turnOf_Jx4a65c_size_8abf5_f116Jx4a65c : GoodIn wsX6_turnOf (va_wsF RX6 116 RJx4a65c ⟨"java/util/List", "size", "()I"⟩ yJx4a65c_size_8abf5 wsJx4a65c_size_8abf5) := goodIn_app (goodIn_of _ (by decide +kernel)) ggX6_turnOf_Jx4a65c_size_8abf5
set_option maxRecDepth 20000 in
theorem ggX6_turnOf_Jx4a65c_get_915e3 : GoodIn wsX6_turnOf wsJx4a65c_get_915e3 := goodIn_r _ [12, 8, 13, 14, 15, 16, 17, 18, 19, 20, 21, 22, 23, 6, 24, 25, 48, 49, 50] (by decide +kernel) (by decide +kernel)
set_option maxRecDepth 20000 in
theorem gX6_turnOf_Jx4a65c_get_915e3_f138Jx4a65c : GoodIn wsX6_turnOf (va_wsF RX6 138 RJx4a65c ⟨"java/util/List", "get", "(I)Ljava/lang/Object;"⟩ yJx4a65c_get_915e3 wsJx4a65c_get_915e3) := goodIn_app (goodIn_of _ (by decide +kernel)) ggX6_turnOf_Jx4a65c_get_915e3
set_option maxRecDepth 20000 in
theorem ggX6_turnOf_X0_goesAheadOf : GoodIn wsX6_turnOf wsX0_goesAheadOf := goodIn_r _ [30, 31, 32, 51, 52, 53, 54, 55, 56, 57, 58] (by decide +kernel) (by decide +kernel)
set_option maxRecDepth 20000 in
theorem gX6_turnOf_X0_goesAheadOf : GoodIn wsX6_turnOf (wsV RX6 235 RX0 yX0_goesAheadOf wsX0_goesAheadOf) := goodIn_app (goodIn_of _ (by decide +kernel)) ggX6_turnOf_X0_goesAheadOf
theorem dX6_turnOf_0 : decode cX6_turnOf 0 = .ok (.iconst 0, 1) := by decide +kernel
theorem dX6_turnOf_1 : decode cX6_turnOf 1 = .ok (.istore_n 2, 1) := by decide +kernel
theorem dX6_turnOf_2 : decode cX6_turnOf 2 = .ok (.iload_n 2, 1) := by decide +kernel
theorem dX6_turnOf_3 : decode cX6_turnOf 3 = .ok (.aload_n 0, 1) := by decide +kernel
theorem dX6_turnOf_4 : decode cX6_turnOf 4 = .ok (.getfield 60, 3) := by decide +kernel
theorem dX6_turnOf_7 : decode cX6_turnOf 7 = .ok (.invokeinterface 116 1, 5) := by decide +kernel
theorem dX6_turnOf_12 : decode cX6_turnOf 12 = .ok (.if_icmp .ge 29, 3) := by decide +kernel
theorem dX6_turnOf_15 : decode cX6_turnOf 15 = .ok (.aload_n 1, 1) := by decide +kernel
theorem dX6_turnOf_16 : decode cX6_turnOf 16 = .ok (.aload_n 0, 1) := by decide +kernel
theorem dX6_turnOf_17 : decode cX6_turnOf 17 = .ok (.getfield 60, 3) := by decide +kernel
theorem dX6_turnOf_20 : decode cX6_turnOf 20 = .ok (.iload_n 2, 1) := by decide +kernel
theorem dX6_turnOf_21 : decode cX6_turnOf 21 = .ok (.invokeinterface 138 2, 5) := by decide +kernel
theorem dX6_turnOf_26 : decode cX6_turnOf 26 = .ok (.checkcast 119, 3) := by decide +kernel
theorem dX6_turnOf_29 : decode cX6_turnOf 29 = .ok (.invokevirtual 235, 3) := by decide +kernel
theorem dX6_turnOf_32 : decode cX6_turnOf 32 = .ok (.ifCond .ne 9, 3) := by decide +kernel
theorem dX6_turnOf_35 : decode cX6_turnOf 35 = .ok (.iinc 2 1, 3) := by decide +kernel
theorem dX6_turnOf_38 : decode cX6_turnOf 38 = .ok (.goto (-36), 3) := by decide +kernel
theorem dX6_turnOf_41 : decode cX6_turnOf 41 = .ok (.iload_n 2, 1) := by decide +kernel
theorem dX6_turnOf_42 : decode cX6_turnOf 42 = .ok (.ireturn, 1) := by decide +kernel
set_option maxRecDepth 20000 in
theorem ggX6_fittingAt_Jx4a65c_size_8abf5 : GoodIn wsX6_fittingAt wsJx4a65c_size_8abf5 := goodIn_r _ [10, 11, 96, 97, 98] (by decide +kernel) (by decide +kernel)
set_option maxRecDepth 20000 in
theorem gX6_fittingAt_Jx4a65c_size_8abf5_f116Jx4a65c : GoodIn wsX6_fittingAt (va_wsF RX6 116 RJx4a65c ⟨"java/util/List", "size", "()I"⟩ yJx4a65c_size_8abf5 wsJx4a65c_size_8abf5) := goodIn_app (goodIn_of _ (by decide +kernel)) ggX6_fittingAt_Jx4a65c_size_8abf5
set_option maxRecDepth 20000 in
theorem ggX6_fittingAt_Jx4a65c_get_915e3 : GoodIn wsX6_fittingAt wsJx4a65c_get_915e3 := goodIn_r _ [15, 11, 16, 17, 18, 19, 20, 21, 22, 23, 24, 25, 26, 9, 27, 28, 96, 97, 98] (by decide +kernel) (by decide +kernel)
set_option maxRecDepth 20000 in
theorem gX6_fittingAt_Jx4a65c_get_915e3_f138Jx4a65c : GoodIn wsX6_fittingAt (va_wsF RX6 138 RJx4a65c ⟨"java/util/List", "get", "(I)Ljava/lang/Object;"⟩ yJx4a65c_get_915e3 wsJx4a65c_get_915e3) := goodIn_app (goodIn_of _ (by decide +kernel)) ggX6_fittingAt_Jx4a65c_get_915e3
set_option maxRecDepth 20000 in
theorem ggX6_fittingAt_X6_isQueued : GoodIn wsX6_fittingAt wsX6_isQueued := goodIn_r _ [33, 34, 35, 36, 37, 38, 32, 39, 40, 41, 42, 43, 44, 45, 46, 5, 1, 47, 48, 49, 50, 51, 52, 53, 54, 55, 56, 57, 58, 59, 60, 61, 62, 63, 64, 65, 66, 67, 68, 69, 70, 71, 72, 88, 89, 90, 91, 92, 93, 94, 95, 73, 74, 75, 76, 77, 78, 79, 80, 81, 82, 83, 84, 85, 86, 87, 99, 100, 101, 102, 103, 104, 105] (by decide +kernel) (by decide +kernel)
set_option maxRecDepth 20000 in
theorem gX6_fittingAt_X6_isQueued : GoodIn wsX6_fittingAt (wsV RX6 142 RX6 yX6_isQueued wsX6_isQueued) := goodIn_app (goodIn_of _ (by decide +kernel)) ggX6_fittingAt_X6_isQueued
theorem dX6_fittingAt_0 : decode cX6_fittingAt 0 = .ok (.aload_n 0, 1) := by decide +kernel
theorem dX6_fittingAt_1 : decode cX6_fittingAt 1 = .ok (.getfield 63, 3) := by decide +kernel
theorem dX6_fittingAt_4 : decode cX6_fittingAt 4 = .ok (.istore_n 2, 1) := by decide +kernel
theorem dX6_fittingAt_5 : decode cX6_fittingAt 5 = .ok (.iconst 0, 1) := by decide +kernel
theorem dX6_fittingAt_6 : decode cX6_fittingAt 6 = .ok (.istore_n 3, 1) := by decide +kernel
theorem dX6_fittingAt_7 : decode cX6_fittingAt 7 = .ok (.iconst 0, 1) := by decide +kernel
theorem dX6_fittingAt_8 : decode cX6_fittingAt 8 = .ok (.istore 4, 2) := by decide +kernel
theorem dX6_fittingAt_10 : decode cX6_fittingAt 10 = .ok (.iload 4, 2) := by decide +kernel
theorem dX6_fittingAt_12 : decode cX6_fittingAt 12 = .ok (.aload_n 0, 1) := by decide +kernel
theorem dX6_fittingAt_13 : decode cX6_fittingAt 13 = .ok (.getfield 60, 3) := by decide +kernel
theorem dX6_fittingAt_16 : decode cX6_fittingAt 16 = .ok (.invokeinterface 116 1, 5) := by decide +kernel
theorem dX6_fittingAt_21 : decode cX6_fittingAt 21 = .ok (.if_icmp .ge 56, 3) := by decide +kernel
theorem dX6_fittingAt_24 : decode cX6_fittingAt 24 = .ok (.aload_n 0, 1) := by decide +kernel
theorem dX6_fittingAt_25 : decode cX6_fittingAt 25 = .ok (.getfield 60, 3) := by decide +kernel
theorem dX6_fittingAt_28 : decode cX6_fittingAt 28 = .ok (.iload 4, 2) := by decide +kernel
theorem dX6_fittingAt_30 : decode cX6_fittingAt 30 = .ok (.invokeinterface 138 2, 5) := by decide +kernel
theorem dX6_fittingAt_35 : decode cX6_fittingAt 35 = .ok (.checkcast 119, 3) := by decide +kernel
theorem dX6_fittingAt_38 : decode cX6_fittingAt 38 = .ok (.astore 5, 2) := by decide +kernel
theorem dX6_fittingAt_40 : decode cX6_fittingAt 40 = .ok (.aload_n 0, 1) := by decide +kernel
theorem dX6_fittingAt_41 : decode cX6_fittingAt 41 = .ok (.aload 5, 2) := by decide +kernel
theorem dX6_fittingAt_43 : decode cX6_fittingAt 43 = .ok (.aload_n 0, 1) := by decide +kernel
theorem dX6_fittingAt_44 : decode cX6_fittingAt 44 = .ok (.getfield 67, 3) := by decide +kernel
theorem dX6_fittingAt_47 : decode cX6_fittingAt 47 = .ok (.iload_n 1, 1) := by decide +kernel
theorem dX6_fittingAt_48 : decode cX6_fittingAt 48 = .ok (.invokevirtual 142, 3) := by decide +kernel
theorem dX6_fittingAt_51 : decode cX6_fittingAt 51 = .ok (.ifCond .eq 20, 3) := by decide +kernel
theorem dX6_fittingAt_54 : decode cX6_fittingAt 54 = .ok (.iload_n 2, 1) := by decide +kernel
theorem dX6_fittingAt_55 : decode cX6_fittingAt 55 = .ok (.aload 5, 2) := by decide +kernel
theorem dX6_fittingAt_57 : decode cX6_fittingAt 57 = .ok (.getfield 201, 3) := by decide +kernel
theorem dX6_fittingAt_60 : decode cX6_fittingAt 60 = .ok (.isub, 1) := by decide +kernel
theorem dX6_fittingAt_61 : decode cX6_fittingAt 61 = .ok (.istore_n 2, 1) := by decide +kernel
theorem dX6_fittingAt_62 : decode cX6_fittingAt 62 = .ok (.iload_n 2, 1) := by decide +kernel
theorem dX6_fittingAt_63 : decode cX6_fittingAt 63 = .ok (.ifCond .ge 5, 3) := by decide +kernel
theorem dX6_fittingAt_66 : decode cX6_fittingAt 66 = .ok (.iload_n 3, 1) := by decide +kernel
theorem dX6_fittingAt_67 : decode cX6_fittingAt 67 = .ok (.ireturn, 1) := by decide +kernel
theorem dX6_fittingAt_68 : decode cX6_fittingAt 68 = .ok (.iinc 3 1, 3) := by decide +kernel
theorem dX6_fittingAt_71 : decode cX6_fittingAt 71 = .ok (.iinc 4 1, 3) := by decide +kernel
theorem dX6_fittingAt_74 : decode cX6_fittingAt 74 = .ok (.goto (-64), 3) := by decide +kernel
theorem dX6_fittingAt_77 : decode cX6_fittingAt 77 = .ok (.iload_n 3, 1) := by decide +kernel
theorem dX6_fittingAt_78 : decode cX6_fittingAt 78 = .ok (.ireturn, 1) := by decide +kernel
set_option maxRecDepth 20000 in
theorem ggX6_carryFirst_Jx4a65c_size_8abf5 : GoodIn wsX6_carryFirst wsJx4a65c_size_8abf5 := goodIn_r _ [12, 13, 106, 107, 108] (by decide +kernel) (by decide +kernel)
set_option maxRecDepth 20000 in
theorem gX6_carryFirst_Jx4a65c_size_8abf5_f116Jx4a65c : GoodIn wsX6_carryFirst (va_wsF RX6 116 RJx4a65c ⟨"java/util/List", "size", "()I"⟩ yJx4a65c_size_8abf5 wsJx4a65c_size_8abf5) := goodIn_app (goodIn_of _ (by decide +kernel)) ggX6_carryFirst_Jx4a65c_size_8abf5
set_option maxRecDepth 20000 in
theorem ggX6_carryFirst_Jx4a65c_get_915e3 : GoodIn wsX6_carryFirst wsJx4a65c_get_915e3 := goodIn_r _ [17, 13, 18, 19, 20, 21, 22, 23, 24, 25, 26, 27, 28, 11, 29, 30, 106, 107, 108] (by decide +kernel) (by decide +kernel)
set_option maxRecDepth 20000 in
theorem gX6_carryFirst_Jx4a65c_get_915e3_f138Jx4a65c : GoodIn wsX6_carryFirst (va_wsF RX6 138 RJx4a65c ⟨"java/util/List", "get", "(I)Ljava/lang/Object;"⟩ yJx4a65c_get_915e3 wsJx4a65c_get_915e3) := goodIn_app (goodIn_of _ (by decide +kernel)) ggX6_carryFirst_Jx4a65c_get_915e3
set_option maxRecDepth 20000 in
theorem ggX6_carryFirst_X6_isQueued : GoodIn wsX6_carryFirst wsX6_isQueued := goodIn_r _ [35, 36, 37, 38, 39, 40, 34, 41, 4, 42, 43, 44, 45, 46, 47, 48, 49, 50, 51, 52, 53, 54, 55, 56, 57, 58, 59, 60, 61, 62, 63, 64, 65, 66, 67, 68, 69, 70, 71, 72, 73, 74, 75, 98, 99, 100, 101, 102, 103, 104, 105, 83, 84, 85, 86, 87, 88, 89, 90, 91, 92, 93, 94, 95, 96, 97, 109, 110, 111, 112, 113, 114, 115] (by decide +kernel) (by decide +kernel)
set_option maxRecDepth 20000 in
theorem gX6_carryFirst_X6_isQueued : GoodIn wsX6_carryFirst (wsV RX6 142 RX6 yX6_isQueued wsX6_isQueued) := goodIn_app (goodIn_of _ (by decide +kernel)) ggX6_carryFirst_X6_isQueued
set_option maxRecDepth 20000 in
theorem ggX6_carryFirst_X0_waited : GoodIn wsX6_carryFirst wsX0_waited := goodIn_r _ [80, 81, 82, 98, 99, 100, 101, 102, 103, 104, 105] (by decide +kernel) (by decide +kernel)
set_option maxRecDepth 20000 in
theorem gX6_carryFirst_X0_waited : GoodIn wsX6_carryFirst (wsV RX6 220 RX0 yX0_waited wsX0_waited) := goodIn_app (goodIn_of _ (by decide +kernel)) ggX6_carryFirst_X0_waited
theorem dX6_carryFirst_0 : decode cX6_carryFirst 0 = .ok (.iconst 0, 1) := by decide +kernel
theorem dX6_carryFirst_1 : decode cX6_carryFirst 1 = .ok (.istore_n 3, 1) := by decide +kernel
theorem dX6_carryFirst_2 : decode cX6_carryFirst 2 = .ok (.iconst 0, 1) := by decide +kernel
theorem dX6_carryFirst_3 : decode cX6_carryFirst 3 = .ok (.istore 4, 2) := by decide +kernel
theorem dX6_carryFirst_5 : decode cX6_carryFirst 5 = .ok (.iconst 0, 1) := by decide +kernel
theorem dX6_carryFirst_6 : decode cX6_carryFirst 6 = .ok (.istore 5, 2) := by decide +kernel
theorem dX6_carryFirst_8 : decode cX6_carryFirst 8 = .ok (.iload 5, 2) := by decide +kernel
theorem dX6_carryFirst_10 : decode cX6_carryFirst 10 = .ok (.aload_n 0, 1) := by decide +kernel
theorem dX6_carryFirst_11 : decode cX6_carryFirst 11 = .ok (.getfield 60, 3) := by decide +kernel
theorem dX6_carryFirst_14 : decode cX6_carryFirst 14 = .ok (.invokeinterface 116 1, 5) := by decide +kernel
theorem dX6_carryFirst_19 : decode cX6_carryFirst 19 = .ok (.if_icmp .ge 76, 3) := by decide +kernel
theorem dX6_carryFirst_22 : decode cX6_carryFirst 22 = .ok (.iload 4, 2) := by decide +kernel
theorem dX6_carryFirst_24 : decode cX6_carryFirst 24 = .ok (.iload_n 1, 1) := by decide +kernel
theorem dX6_carryFirst_25 : decode cX6_carryFirst 25 = .ok (.if_icmp .ge 70, 3) := by decide +kernel
theorem dX6_carryFirst_28 : decode cX6_carryFirst 28 = .ok (.aload_n 0, 1) := by decide +kernel
theorem dX6_carryFirst_29 : decode cX6_carryFirst 29 = .ok (.getfield 60, 3) := by decide +kernel
theorem dX6_carryFirst_32 : decode cX6_carryFirst 32 = .ok (.iload 5, 2) := by decide +kernel
theorem dX6_carryFirst_34 : decode cX6_carryFirst 34 = .ok (.invokeinterface 138 2, 5) := by decide +kernel
theorem dX6_carryFirst_39 : decode cX6_carryFirst 39 = .ok (.checkcast 119, 3) := by decide +kernel
theorem dX6_carryFirst_42 : decode cX6_carryFirst 42 = .ok (.astore 6, 2) := by decide +kernel
theorem dX6_carryFirst_44 : decode cX6_carryFirst 44 = .ok (.aload_n 0, 1) := by decide +kernel
theorem dX6_carryFirst_45 : decode cX6_carryFirst 45 = .ok (.aload 6, 2) := by decide +kernel
theorem dX6_carryFirst_47 : decode cX6_carryFirst 47 = .ok (.aload_n 0, 1) := by decide +kernel
theorem dX6_carryFirst_48 : decode cX6_carryFirst 48 = .ok (.getfield 67, 3) := by decide +kernel
theorem dX6_carryFirst_51 : decode cX6_carryFirst 51 = .ok (.iload_n 2, 1) := by decide +kernel
theorem dX6_carryFirst_52 : decode cX6_carryFirst 52 = .ok (.invokevirtual 142, 3) := by decide +kernel
theorem dX6_carryFirst_55 : decode cX6_carryFirst 55 = .ok (.ifCond .eq 34, 3) := by decide +kernel
theorem dX6_carryFirst_58 : decode cX6_carryFirst 58 = .ok (.aload 6, 2) := by decide +kernel
theorem dX6_carryFirst_60 : decode cX6_carryFirst 60 = .ok (.iload_n 2, 1) := by decide +kernel
theorem dX6_carryFirst_61 : decode cX6_carryFirst 61 = .ok (.putfield 217, 3) := by decide +kernel
theorem dX6_carryFirst_64 : decode cX6_carryFirst 64 = .ok (.iload_n 3, 1) := by decide +kernel
theorem dX6_carryFirst_65 : decode cX6_carryFirst 65 = .ok (.aload 6, 2) := by decide +kernel
theorem dX6_carryFirst_67 : decode cX6_carryFirst 67 = .ok (.getfield 207, 3) := by decide +kernel
theorem dX6_carryFirst_70 : decode cX6_carryFirst 70 = .ok (.iadd, 1) := by decide +kernel
theorem dX6_carryFirst_71 : decode cX6_carryFirst 71 = .ok (.istore_n 3, 1) := by decide +kernel
theorem dX6_carryFirst_72 : decode cX6_carryFirst 72 = .ok (.aload_n 0, 1) := by decide +kernel
theorem dX6_carryFirst_73 : decode cX6_carryFirst 73 = .ok (.dup, 1) := by decide +kernel
theorem dX6_carryFirst_74 : decode cX6_carryFirst 74 = .ok (.getfield 226, 3) := by decide +kernel
theorem dX6_carryFirst_77 : decode cX6_carryFirst 77 = .ok (.aload 6, 2) := by decide +kernel
theorem dX6_carryFirst_79 : decode cX6_carryFirst 79 = .ok (.invokevirtual 220, 3) := by decide +kernel
theorem dX6_carryFirst_82 : decode cX6_carryFirst 82 = .ok (.iadd, 1) := by decide +kernel
theorem dX6_carryFirst_83 : decode cX6_carryFirst 83 = .ok (.putfield 226, 3) := by decide +kernel
theorem dX6_carryFirst_86 : decode cX6_carryFirst 86 = .ok (.iinc 4 1, 3) := by decide +kernel
theorem dX6_carryFirst_89 : decode cX6_carryFirst 89 = .ok (.iinc 5 1, 3) := by decide +kernel
theorem dX6_carryFirst_92 : decode cX6_carryFirst 92 = .ok (.goto (-84), 3) := by decide +kernel
theorem dX6_carryFirst_95 : decode cX6_carryFirst 95 = .ok (.aload_n 0, 1) := by decide +kernel
theorem dX6_carryFirst_96 : decode cX6_carryFirst 96 = .ok (.dup, 1) := by decide +kernel
theorem dX6_carryFirst_97 : decode cX6_carryFirst 97 = .ok (.getfield 223, 3) := by decide +kernel
theorem dX6_carryFirst_100 : decode cX6_carryFirst 100 = .ok (.iload 4, 2) := by decide +kernel
theorem dX6_carryFirst_102 : decode cX6_carryFirst 102 = .ok (.iadd, 1) := by decide +kernel
theorem dX6_carryFirst_103 : decode cX6_carryFirst 103 = .ok (.putfield 223, 3) := by decide +kernel
theorem dX6_carryFirst_106 : decode cX6_carryFirst 106 = .ok (.iload_n 3, 1) := by decide +kernel
theorem dX6_carryFirst_107 : decode cX6_carryFirst 107 = .ok (.ireturn, 1) := by decide +kernel
set_option maxRecDepth 20000 in
theorem ggX6_gatherLeft_X2_forgetBoats : GoodIn wsX6_gatherLeft wsX2_forgetBoats := goodIn_r _ [8, 9, 98, 99, 100, 101, 102, 103, 104, 105, 106] (by decide +kernel) (by decide +kernel)
set_option maxRecDepth 20000 in
theorem gX6_gatherLeft_X2_forgetBoats : GoodIn wsX6_gatherLeft (wsV RX6 238 RX2 yX2_forgetBoats wsX2_forgetBoats) := goodIn_app (goodIn_of _ (by decide +kernel)) ggX6_gatherLeft_X2_forgetBoats
set_option maxRecDepth 20000 in
theorem ggX6_gatherLeft_Jx4a65c_size_8abf5 : GoodIn wsX6_gatherLeft wsJx4a65c_size_8abf5 := goodIn_r _ [14, 15, 107, 108, 109] (by decide +kernel) (by decide +kernel)
set_option maxRecDepth 20000 in
theorem gX6_gatherLeft_Jx4a65c_size_8abf5_f116Jx4a65c : GoodIn wsX6_gatherLeft (va_wsF RX6 116 RJx4a65c ⟨"java/util/List", "size", "()I"⟩ yJx4a65c_size_8abf5 wsJx4a65c_size_8abf5) := goodIn_app (goodIn_of _ (by decide +kernel)) ggX6_gatherLeft_Jx4a65c_size_8abf5
set_option maxRecDepth 20000 in
theorem ggX6_gatherLeft_Jx4a65c_get_915e3 : GoodIn wsX6_gatherLeft wsJx4a65c_get_915e3 := goodIn_r _ [19, 15, 20, 21, 22, 23, 24, 25, 26, 27, 28, 29, 30, 13, 31, 32, 107, 108, 109] (by decide +kernel) (by decide +kernel)
set_option maxRecDepth 20000 in
theorem gX6_gatherLeft_Jx4a65c_get_915e3_f138Jx4a65c : GoodIn wsX6_gatherLeft (va_wsF RX6 138 RJx4a65c ⟨"java/util/List", "get", "(I)Ljava/lang/Object;"⟩ yJx4a65c_get_915e3 wsJx4a65c_get_915e3) := goodIn_app (goodIn_of _ (by decide +kernel)) ggX6_gatherLeft_Jx4a65c_get_915e3
set_option maxRecDepth 20000 in
theorem ggX6_gatherLeft_X6_isLeft : GoodIn wsX6_gatherLeft wsX6_isLeft := goodIn_r _ [37, 38, 39, 40, 41, 36, 42, 43, 44, 45, 46, 47, 48, 49, 50, 51, 52, 53, 54, 55, 56, 57, 58, 59, 60, 61, 62, 63, 64, 65, 66, 67, 68, 69, 70, 71, 72, 110, 111, 112, 113, 114, 115, 116, 117, 83, 84, 85, 86, 87, 88, 89, 90, 91, 92, 93, 94, 95, 96, 97, 118, 119, 120, 121, 122, 123, 124] (by decide +kernel) (by decide +kernel)
set_option maxRecDepth 20000 in
theorem gX6_gatherLeft_X6_isLeft : GoodIn wsX6_gatherLeft (wsV RX6 232 RX6 yX6_isLeft wsX6_isLeft) := goodIn_app (goodIn_of _ (by decide +kernel)) ggX6_gatherLeft_X6_isLeft
set_option maxRecDepth 20000 in
theorem ggX6_gatherLeft_X2_addBoat : GoodIn wsX6_gatherLeft wsX2_addBoat := goodIn_r _ [76, 9, 77, 78, 79, 80, 81, 82, 98, 99, 100, 101, 102, 103, 104, 105, 106, 110, 111, 112, 113, 114, 115, 116, 117] (by decide +kernel) (by decide +kernel)
set_option maxRecDepth 20000 in
theorem gX6_gatherLeft_X2_addBoat : GoodIn wsX6_gatherLeft (wsV RX6 241 RX2 yX2_addBoat wsX2_addBoat) := goodIn_app (goodIn_of _ (by decide +kernel)) ggX6_gatherLeft_X2_addBoat
theorem dX6_gatherLeft_0 : decode cX6_gatherLeft 0 = .ok (.aload_n 0, 1) := by decide +kernel
theorem dX6_gatherLeft_1 : decode cX6_gatherLeft 1 = .ok (.getfield 39, 3) := by decide +kernel
theorem dX6_gatherLeft_4 : decode cX6_gatherLeft 4 = .ok (.invokevirtual 238, 3) := by decide +kernel
theorem dX6_gatherLeft_7 : decode cX6_gatherLeft 7 = .ok (.iconst 0, 1) := by decide +kernel
theorem dX6_gatherLeft_8 : decode cX6_gatherLeft 8 = .ok (.istore_n 1, 1) := by decide +kernel
theorem dX6_gatherLeft_9 : decode cX6_gatherLeft 9 = .ok (.iconst 0, 1) := by decide +kernel
theorem dX6_gatherLeft_10 : decode cX6_gatherLeft 10 = .ok (.istore_n 2, 1) := by decide +kernel
theorem dX6_gatherLeft_11 : decode cX6_gatherLeft 11 = .ok (.iload_n 2, 1) := by decide +kernel
theorem dX6_gatherLeft_12 : decode cX6_gatherLeft 12 = .ok (.aload_n 0, 1) := by decide +kernel
theorem dX6_gatherLeft_13 : decode cX6_gatherLeft 13 = .ok (.getfield 60, 3) := by decide +kernel
theorem dX6_gatherLeft_16 : decode cX6_gatherLeft 16 = .ok (.invokeinterface 116 1, 5) := by decide +kernel
theorem dX6_gatherLeft_21 : decode cX6_gatherLeft 21 = .ok (.if_icmp .ge 42, 3) := by decide +kernel
theorem dX6_gatherLeft_24 : decode cX6_gatherLeft 24 = .ok (.aload_n 0, 1) := by decide +kernel
theorem dX6_gatherLeft_25 : decode cX6_gatherLeft 25 = .ok (.getfield 60, 3) := by decide +kernel
theorem dX6_gatherLeft_28 : decode cX6_gatherLeft 28 = .ok (.iload_n 2, 1) := by decide +kernel
theorem dX6_gatherLeft_29 : decode cX6_gatherLeft 29 = .ok (.invokeinterface 138 2, 5) := by decide +kernel
theorem dX6_gatherLeft_34 : decode cX6_gatherLeft 34 = .ok (.checkcast 119, 3) := by decide +kernel
theorem dX6_gatherLeft_37 : decode cX6_gatherLeft 37 = .ok (.astore_n 3, 1) := by decide +kernel
theorem dX6_gatherLeft_38 : decode cX6_gatherLeft 38 = .ok (.aload_n 0, 1) := by decide +kernel
theorem dX6_gatherLeft_39 : decode cX6_gatherLeft 39 = .ok (.aload_n 3, 1) := by decide +kernel
theorem dX6_gatherLeft_40 : decode cX6_gatherLeft 40 = .ok (.invokevirtual 232, 3) := by decide +kernel
theorem dX6_gatherLeft_43 : decode cX6_gatherLeft 43 = .ok (.ifCond .eq 14, 3) := by decide +kernel
theorem dX6_gatherLeft_46 : decode cX6_gatherLeft 46 = .ok (.aload_n 0, 1) := by decide +kernel
theorem dX6_gatherLeft_47 : decode cX6_gatherLeft 47 = .ok (.getfield 39, 3) := by decide +kernel
theorem dX6_gatherLeft_50 : decode cX6_gatherLeft 50 = .ok (.aload_n 3, 1) := by decide +kernel
theorem dX6_gatherLeft_51 : decode cX6_gatherLeft 51 = .ok (.invokevirtual 241, 3) := by decide +kernel
theorem dX6_gatherLeft_54 : decode cX6_gatherLeft 54 = .ok (.iinc 1 1, 3) := by decide +kernel
theorem dX6_gatherLeft_57 : decode cX6_gatherLeft 57 = .ok (.iinc 2 1, 3) := by decide +kernel
theorem dX6_gatherLeft_60 : decode cX6_gatherLeft 60 = .ok (.goto (-49), 3) := by decide +kernel
theorem dX6_gatherLeft_63 : decode cX6_gatherLeft 63 = .ok (.iload_n 1, 1) := by decide +kernel
theorem dX6_gatherLeft_64 : decode cX6_gatherLeft 64 = .ok (.ireturn, 1) := by decide +kernel
set_option maxRecDepth 20000 in
theorem ggX6_bestPlan_X2_best : GoodIn wsX6_bestPlan wsX2_best := goodIn_r _ [9, 10, 11, 12, 13, 14, 15, 16, 17, 18, 8, 19, 20, 21, 22, 23, 24, 25, 26, 27, 28, 29, 30, 31, 32, 33, 34, 35, 36, 37, 38, 39, 40, 41, 42, 43, 44, 45, 46, 47, 48, 49, 50, 51, 52, 53, 54, 55, 56, 57, 58, 59, 60, 61, 62, 63, 79, 80, 81, 82, 83, 84, 85, 86, 87, 88, 89, 90, 91, 92, 93, 94, 95, 96] (by decide +kernel) (by decide +kernel)
set_option maxRecDepth 20000 in
theorem gX6_bestPlan_X2_best : GoodIn wsX6_bestPlan (wsV RX6 245 RX2 yX2_best wsX2_best) := goodIn_app (goodIn_of _ (by decide +kernel)) ggX6_bestPlan_X2_best
theorem dX6_bestPlan_0 : decode cX6_bestPlan 0 = .ok (.aload_n 0, 1) := by decide +kernel
theorem dX6_bestPlan_1 : decode cX6_bestPlan 1 = .ok (.getfield 39, 3) := by decide +kernel
theorem dX6_bestPlan_4 : decode cX6_bestPlan 4 = .ok (.aload_n 0, 1) := by decide +kernel
theorem dX6_bestPlan_5 : decode cX6_bestPlan 5 = .ok (.getfield 67, 3) := by decide +kernel
theorem dX6_bestPlan_8 : decode cX6_bestPlan 8 = .ok (.aload_n 0, 1) := by decide +kernel
theorem dX6_bestPlan_9 : decode cX6_bestPlan 9 = .ok (.getfield 149, 3) := by decide +kernel
theorem dX6_bestPlan_12 : decode cX6_bestPlan 12 = .ok (.aload_n 0, 1) := by decide +kernel
theorem dX6_bestPlan_13 : decode cX6_bestPlan 13 = .ok (.getfield 63, 3) := by decide +kernel
theorem dX6_bestPlan_16 : decode cX6_bestPlan 16 = .ok (.invokevirtual 245, 3) := by decide +kernel
theorem dX6_bestPlan_19 : decode cX6_bestPlan 19 = .ok (.lreturn, 1) := by decide +kernel
set_option maxRecDepth 20000 in
theorem ggX7_init_X7_asAtFirst : GoodIn wsX7_init wsX7_asAtFirst := goodIn_r _ [35] (by decide +kernel) (by decide +kernel)
set_option maxRecDepth 20000 in
theorem gX7_init_X7_asAtFirst : GoodIn wsX7_init (va_wsS RX7 84 yX7_asAtFirst wsX7_asAtFirst) := goodIn_app (goodIn_of _ (by decide +kernel)) ggX7_init_X7_asAtFirst
theorem dX7_init_0 : decode cX7_init 0 = .ok (.aload_n 0, 1) := by decide +kernel
theorem dX7_init_1 : decode cX7_init 1 = .ok (.invokespecial 1, 3) := by decide +kernel
theorem dX7_init_4 : decode cX7_init 4 = .ok (.aload_n 0, 1) := by decide +kernel
theorem dX7_init_5 : decode cX7_init 5 = .ok (.bipush 60, 2) := by decide +kernel
theorem dX7_init_7 : decode cX7_init 7 = .ok (.newarray .byte, 2) := by decide +kernel
theorem dX7_init_9 : decode cX7_init 9 = .ok (.putfield 7, 3) := by decide +kernel
theorem dX7_init_12 : decode cX7_init 12 = .ok (.aload_n 0, 1) := by decide +kernel
theorem dX7_init_13 : decode cX7_init 13 = .ok (.bipush 100, 2) := by decide +kernel
theorem dX7_init_15 : decode cX7_init 15 = .ok (.putfield 13, 3) := by decide +kernel
theorem dX7_init_18 : decode cX7_init 18 = .ok (.aload_n 0, 1) := by decide +kernel
theorem dX7_init_19 : decode cX7_init 19 = .ok (.bipush 6, 2) := by decide +kernel
theorem dX7_init_21 : decode cX7_init 21 = .ok (.newarray .int, 2) := by decide +kernel
theorem dX7_init_23 : decode cX7_init 23 = .ok (.putfield 17, 3) := by decide +kernel
theorem dX7_init_26 : decode cX7_init 26 = .ok (.aload_n 0, 1) := by decide +kernel
theorem dX7_init_27 : decode cX7_init 27 = .ok (.bipush 6, 2) := by decide +kernel
theorem dX7_init_29 : decode cX7_init 29 = .ok (.newarray .int, 2) := by decide +kernel
theorem dX7_init_31 : decode cX7_init 31 = .ok (.putfield 21, 3) := by decide +kernel
theorem dX7_init_34 : decode cX7_init 34 = .ok (.aload_n 0, 1) := by decide +kernel
theorem dX7_init_35 : decode cX7_init 35 = .ok (.iconst 2, 1) := by decide +kernel
theorem dX7_init_36 : decode cX7_init 36 = .ok (.newarray .int, 2) := by decide +kernel
theorem dX7_init_38 : decode cX7_init 38 = .ok (.putfield 24, 3) := by decide +kernel
theorem dX7_init_41 : decode cX7_init 41 = .ok (.aload_n 0, 1) := by decide +kernel
theorem dX7_init_42 : decode cX7_init 42 = .ok (.iconst 2, 1) := by decide +kernel
theorem dX7_init_43 : decode cX7_init 43 = .ok (.newarray .long, 2) := by decide +kernel
theorem dX7_init_45 : decode cX7_init 45 = .ok (.putfield 27, 3) := by decide +kernel
theorem dX7_init_48 : decode cX7_init 48 = .ok (.aload_n 0, 1) := by decide +kernel
theorem dX7_init_49 : decode cX7_init 49 = .ok (.bipush 8, 2) := by decide +kernel
theorem dX7_init_51 : decode cX7_init 51 = .ok (.newarray .int, 2) := by decide +kernel
theorem dX7_init_53 : decode cX7_init 53 = .ok (.putfield 31, 3) := by decide +kernel
theorem dX7_init_56 : decode cX7_init 56 = .ok (.aload_n 0, 1) := by decide +kernel
theorem dX7_init_57 : decode cX7_init 57 = .ok (.bipush 8, 2) := by decide +kernel
theorem dX7_init_59 : decode cX7_init 59 = .ok (.newarray .int, 2) := by decide +kernel
theorem dX7_init_61 : decode cX7_init 61 = .ok (.putfield 34, 3) := by decide +kernel
theorem dX7_init_64 : decode cX7_init 64 = .ok (.aload_n 0, 1) := by decide +kernel
theorem dX7_init_65 : decode cX7_init 65 = .ok (.bipush 16, 2) := by decide +kernel
theorem dX7_init_67 : decode cX7_init 67 = .ok (.newarray .int, 2) := by decide +kernel
theorem dX7_init_69 : decode cX7_init 69 = .ok (.putfield 37, 3) := by decide +kernel
theorem dX7_init_72 : decode cX7_init 72 = .ok (.aload_n 0, 1) := by decide +kernel
theorem dX7_init_73 : decode cX7_init 73 = .ok (.bipush 16, 2) := by decide +kernel
theorem dX7_init_75 : decode cX7_init 75 = .ok (.newarray .int, 2) := by decide +kernel
theorem dX7_init_77 : decode cX7_init 77 = .ok (.putfield 40, 3) := by decide +kernel
theorem dX7_init_80 : decode cX7_init 80 = .ok (.aload_n 0, 1) := by decide +kernel
theorem dX7_init_81 : decode cX7_init 81 = .ok (.bipush 16, 2) := by decide +kernel
theorem dX7_init_83 : decode cX7_init 83 = .ok (.newarray .int, 2) := by decide +kernel
theorem dX7_init_85 : decode cX7_init 85 = .ok (.putfield 43, 3) := by decide +kernel
theorem dX7_init_88 : decode cX7_init 88 = .ok (.aload_n 0, 1) := by decide +kernel
theorem dX7_init_89 : decode cX7_init 89 = .ok (.bipush 16, 2) := by decide +kernel
theorem dX7_init_91 : decode cX7_init 91 = .ok (.newarray .int, 2) := by decide +kernel
theorem dX7_init_93 : decode cX7_init 93 = .ok (.putfield 46, 3) := by decide +kernel
theorem dX7_init_96 : decode cX7_init 96 = .ok (.aload_n 0, 1) := by decide +kernel
theorem dX7_init_97 : decode cX7_init 97 = .ok (.bipush 16, 2) := by decide +kernel
theorem dX7_init_99 : decode cX7_init 99 = .ok (.newarray .int, 2) := by decide +kernel
theorem dX7_init_101 : decode cX7_init 101 = .ok (.putfield 49, 3) := by decide +kernel
theorem dX7_init_104 : decode cX7_init 104 = .ok (.aload_n 0, 1) := by decide +kernel
theorem dX7_init_105 : decode cX7_init 105 = .ok (.bipush 16, 2) := by decide +kernel
theorem dX7_init_107 : decode cX7_init 107 = .ok (.newarray .int, 2) := by decide +kernel
theorem dX7_init_109 : decode cX7_init 109 = .ok (.putfield 52, 3) := by decide +kernel
theorem dX7_init_112 : decode cX7_init 112 = .ok (.aload_n 0, 1) := by decide +kernel
theorem dX7_init_113 : decode cX7_init 113 = .ok (.bipush 16, 2) := by decide +kernel
theorem dX7_init_115 : decode cX7_init 115 = .ok (.newarray .int, 2) := by decide +kernel
theorem dX7_init_117 : decode cX7_init 117 = .ok (.putfield 55, 3) := by decide +kernel
theorem dX7_init_120 : decode cX7_init 120 = .ok (.aload_n 0, 1) := by decide +kernel
theorem dX7_init_121 : decode cX7_init 121 = .ok (.bipush 16, 2) := by decide +kernel
theorem dX7_init_123 : decode cX7_init 123 = .ok (.newarray .int, 2) := by decide +kernel
theorem dX7_init_125 : decode cX7_init 125 = .ok (.putfield 58, 3) := by decide +kernel
theorem dX7_init_128 : decode cX7_init 128 = .ok (.aload_n 0, 1) := by decide +kernel
theorem dX7_init_129 : decode cX7_init 129 = .ok (.ldc 61, 2) := by decide +kernel
theorem dX7_init_131 : decode cX7_init 131 = .ok (.newarray .int, 2) := by decide +kernel
theorem dX7_init_133 : decode cX7_init 133 = .ok (.putfield 62, 3) := by decide +kernel
theorem dX7_init_136 : decode cX7_init 136 = .ok (.aload_n 0, 1) := by decide +kernel
theorem dX7_init_137 : decode cX7_init 137 = .ok (.ldc 61, 2) := by decide +kernel
theorem dX7_init_139 : decode cX7_init 139 = .ok (.newarray .int, 2) := by decide +kernel
theorem dX7_init_141 : decode cX7_init 141 = .ok (.putfield 65, 3) := by decide +kernel
theorem dX7_init_144 : decode cX7_init 144 = .ok (.aload_n 0, 1) := by decide +kernel
theorem dX7_init_145 : decode cX7_init 145 = .ok (.ldc 61, 2) := by decide +kernel
theorem dX7_init_147 : decode cX7_init 147 = .ok (.newarray .int, 2) := by decide +kernel
theorem dX7_init_149 : decode cX7_init 149 = .ok (.putfield 68, 3) := by decide +kernel
theorem dX7_init_152 : decode cX7_init 152 = .ok (.aload_n 0, 1) := by decide +kernel
theorem dX7_init_153 : decode cX7_init 153 = .ok (.ldc 61, 2) := by decide +kernel
theorem dX7_init_155 : decode cX7_init 155 = .ok (.newarray .int, 2) := by decide +kernel
theorem dX7_init_157 : decode cX7_init 157 = .ok (.putfield 71, 3) := by decide +kernel
theorem dX7_init_160 : decode cX7_init 160 = .ok (.aload_n 0, 1) := by decide +kernel
theorem dX7_init_161 : decode cX7_init 161 = .ok (.ldc 61, 2) := by decide +kernel
theorem dX7_init_163 : decode cX7_init 163 = .ok (.newarray .int, 2) := by decide +kernel
theorem dX7_init_165 : decode cX7_init 165 = .ok (.putfield 74, 3) := by decide +kernel
theorem dX7_init_168 : decode cX7_init 168 = .ok (.aload_n 0, 1) := by decide +kernel
theorem dX7_init_169 : decode cX7_init 169 = .ok (.ldc 77, 2) := by decide +kernel
theorem dX7_init_171 : decode cX7_init 171 = .ok (.newarray .int, 2) := by decide +kernel
theorem dX7_init_173 : decode cX7_init 173 = .ok (.putfield 78, 3) := by decide +kernel
theorem dX7_init_176 : decode cX7_init 176 = .ok (.aload_n 0, 1) := by decide +kernel
theorem dX7_init_177 : decode cX7_init 177 = .ok (.bipush 6, 2) := by decide +kernel
theorem dX7_init_179 : decode cX7_init 179 = .ok (.newarray .int, 2) := by decide +kernel
theorem dX7_init_181 : decode cX7_init 181 = .ok (.putfield 81, 3) := by decide +kernel
theorem dX7_init_184 : decode cX7_init 184 = .ok (.aload_n 0, 1) := by decide +kernel
theorem dX7_init_185 : decode cX7_init 185 = .ok (.getfield 17, 3) := by decide +kernel
theorem dX7_init_188 : decode cX7_init 188 = .ok (.invokestatic 84, 3) := by decide +kernel
theorem dX7_init_191 : decode cX7_init 191 = .ok (.aload_n 0, 1) := by decide +kernel
theorem dX7_init_192 : decode cX7_init 192 = .ok (.getfield 24, 3) := by decide +kernel
theorem dX7_init_195 : decode cX7_init 195 = .ok (.iconst 0, 1) := by decide +kernel
theorem dX7_init_196 : decode cX7_init 196 = .ok (.sipush 1000, 3) := by decide +kernel
theorem dX7_init_199 : decode cX7_init 199 = .ok (.iastore, 1) := by decide +kernel
theorem dX7_init_200 : decode cX7_init 200 = .ok (.aload_n 0, 1) := by decide +kernel
theorem dX7_init_201 : decode cX7_init 201 = .ok (.getfield 24, 3) := by decide +kernel
theorem dX7_init_204 : decode cX7_init 204 = .ok (.iconst 1, 1) := by decide +kernel
theorem dX7_init_205 : decode cX7_init 205 = .ok (.sipush 1000, 3) := by decide +kernel
theorem dX7_init_208 : decode cX7_init 208 = .ok (.iastore, 1) := by decide +kernel
theorem dX7_init_209 : decode cX7_init 209 = .ok (.return_, 1) := by decide +kernel
theorem dX7_lies_0 : decode cX7_lies 0 = .ok (.iload_n 0, 1) := by decide +kernel
theorem dX7_lies_1 : decode cX7_lies 1 = .ok (.iload_n 1, 1) := by decide +kernel
theorem dX7_lies_2 : decode cX7_lies 2 = .ok (.if_icmp .lt 12, 3) := by decide +kernel
theorem dX7_lies_5 : decode cX7_lies 5 = .ok (.iload_n 0, 1) := by decide +kernel
theorem dX7_lies_6 : decode cX7_lies 6 = .ok (.iload_n 2, 1) := by decide +kernel
theorem dX7_lies_7 : decode cX7_lies 7 = .ok (.if_icmp .gt 7, 3) := by decide +kernel
theorem dX7_lies_10 : decode cX7_lies 10 = .ok (.iconst 1, 1) := by decide +kernel
theorem dX7_lies_11 : decode cX7_lies 11 = .ok (.goto 4, 3) := by decide +kernel
theorem dX7_lies_14 : decode cX7_lies 14 = .ok (.iconst 0, 1) := by decide +kernel
theorem dX7_lies_15 : decode cX7_lies 15 = .ok (.ireturn, 1) := by decide +kernel
theorem dX7_push_0 : decode cX7_push 0 = .ok (.bipush 24, 2) := by decide +kernel
theorem dX7_push_2 : decode cX7_push 2 = .ok (.istore_n 2, 1) := by decide +kernel
theorem dX7_push_3 : decode cX7_push 3 = .ok (.iload_n 2, 1) := by decide +kernel
theorem dX7_push_4 : decode cX7_push 4 = .ok (.ifCond .lt 32, 3) := by decide +kernel
theorem dX7_push_7 : decode cX7_push 7 = .ok (.aload_n 0, 1) := by decide +kernel
theorem dX7_push_8 : decode cX7_push 8 = .ok (.getfield 7, 3) := by decide +kernel
theorem dX7_push_11 : decode cX7_push 11 = .ok (.aload_n 0, 1) := by decide +kernel
theorem dX7_push_12 : decode cX7_push 12 = .ok (.getfield 88, 3) := by decide +kernel
theorem dX7_push_15 : decode cX7_push 15 = .ok (.iload_n 1, 1) := by decide +kernel
theorem dX7_push_16 : decode cX7_push 16 = .ok (.iload_n 2, 1) := by decide +kernel
theorem dX7_push_17 : decode cX7_push 17 = .ok (.ishr, 1) := by decide +kernel
theorem dX7_push_18 : decode cX7_push 18 = .ok (.i2b, 1) := by decide +kernel
theorem dX7_push_19 : decode cX7_push 19 = .ok (.bastore, 1) := by decide +kernel
theorem dX7_push_20 : decode cX7_push 20 = .ok (.aload_n 0, 1) := by decide +kernel
theorem dX7_push_21 : decode cX7_push 21 = .ok (.dup, 1) := by decide +kernel
theorem dX7_push_22 : decode cX7_push 22 = .ok (.getfield 88, 3) := by decide +kernel
theorem dX7_push_25 : decode cX7_push 25 = .ok (.iconst 1, 1) := by decide +kernel
theorem dX7_push_26 : decode cX7_push 26 = .ok (.iadd, 1) := by decide +kernel
theorem dX7_push_27 : decode cX7_push 27 = .ok (.putfield 88, 3) := by decide +kernel
theorem dX7_push_30 : decode cX7_push 30 = .ok (.iinc 2 (-8), 3) := by decide +kernel
theorem dX7_push_33 : decode cX7_push 33 = .ok (.goto (-30), 3) := by decide +kernel
theorem dX7_push_36 : decode cX7_push 36 = .ok (.return_, 1) := by decide +kernel
set_option maxRecDepth 20000 in
theorem ggX7_feed_X7_push : GoodIn wsX7_feed wsX7_push := goodIn_r _ [6, 7, 1, 8, 9, 10, 11, 12, 13, 14, 15, 16, 17, 18, 19, 20, 21, 22, 23, 24, 25, 26, 27, 28, 29, 30, 31, 32, 33, 34, 35, 36, 37, 38, 39, 40, 41, 42, 43] (by decide +kernel) (by decide +kernel)
set_option maxRecDepth 20000 in
theorem gX7_feed_X7_push : GoodIn wsX7_feed (wsV RX7 91 RX7 yX7_push wsX7_push) := goodIn_app (goodIn_of _ (by decide +kernel)) ggX7_feed_X7_push
theorem dX7_feed_0 : decode cX7_feed 0 = .ok (.aload_n 0, 1) := by decide +kernel
theorem dX7_feed_1 : decode cX7_feed 1 = .ok (.getfield 88, 3) := by decide +kernel
theorem dX7_feed_4 : decode cX7_feed 4 = .ok (.bipush 20, 2) := by decide +kernel
theorem dX7_feed_6 : decode cX7_feed 6 = .ok (.iadd, 1) := by decide +kernel
theorem dX7_feed_7 : decode cX7_feed 7 = .ok (.bipush 60, 2) := by decide +kernel
theorem dX7_feed_9 : decode cX7_feed 9 = .ok (.if_icmp .le 5, 3) := by decide +kernel
theorem dX7_feed_12 : decode cX7_feed 12 = .ok (.iconst (-1), 1) := by decide +kernel
theorem dX7_feed_13 : decode cX7_feed 13 = .ok (.ireturn, 1) := by decide +kernel
theorem dX7_feed_14 : decode cX7_feed 14 = .ok (.aload_n 0, 1) := by decide +kernel
theorem dX7_feed_15 : decode cX7_feed 15 = .ok (.iload_n 1, 1) := by decide +kernel
theorem dX7_feed_16 : decode cX7_feed 16 = .ok (.invokevirtual 91, 3) := by decide +kernel
theorem dX7_feed_19 : decode cX7_feed 19 = .ok (.aload_n 0, 1) := by decide +kernel
theorem dX7_feed_20 : decode cX7_feed 20 = .ok (.iload_n 2, 1) := by decide +kernel
theorem dX7_feed_21 : decode cX7_feed 21 = .ok (.invokevirtual 91, 3) := by decide +kernel
theorem dX7_feed_24 : decode cX7_feed 24 = .ok (.aload_n 0, 1) := by decide +kernel
theorem dX7_feed_25 : decode cX7_feed 25 = .ok (.iload_n 3, 1) := by decide +kernel
theorem dX7_feed_26 : decode cX7_feed 26 = .ok (.invokevirtual 91, 3) := by decide +kernel
theorem dX7_feed_29 : decode cX7_feed 29 = .ok (.aload_n 0, 1) := by decide +kernel
theorem dX7_feed_30 : decode cX7_feed 30 = .ok (.iload 4, 2) := by decide +kernel
theorem dX7_feed_32 : decode cX7_feed 32 = .ok (.invokevirtual 91, 3) := by decide +kernel
theorem dX7_feed_35 : decode cX7_feed 35 = .ok (.aload_n 0, 1) := by decide +kernel
theorem dX7_feed_36 : decode cX7_feed 36 = .ok (.iload 5, 2) := by decide +kernel
theorem dX7_feed_38 : decode cX7_feed 38 = .ok (.invokevirtual 91, 3) := by decide +kernel
end
section
theorem dX7_feed_41 : decode cX7_feed 41 = .ok (.aload_n 0, 1) := by decide +kernel
theorem dX7_feed_42 : decode cX7_feed 42 = .ok (.getfield 88, 3) := by decide +kernel
theorem dX7_feed_45 : decode cX7_feed 45 = .ok (.ireturn, 1) := by decide +kernel
theorem dX7_asAtFirst_0 : decode cX7_asAtFirst 0 = .ok (.aload_n 0, 1) := by decide +kernel
theorem dX7_asAtFirst_1 : decode cX7_asAtFirst 1 = .ok (.iconst 0, 1) := by decide +kernel
theorem dX7_asAtFirst_2 : decode cX7_asAtFirst 2 = .ok (.bipush 10, 2) := by decide +kernel
theorem dX7_asAtFirst_4 : decode cX7_asAtFirst 4 = .ok (.iastore, 1) := by decide +kernel
theorem dX7_asAtFirst_5 : decode cX7_asAtFirst 5 = .ok (.aload_n 0, 1) := by decide +kernel
theorem dX7_asAtFirst_6 : decode cX7_asAtFirst 6 = .ok (.iconst 1, 1) := by decide +kernel
theorem dX7_asAtFirst_7 : decode cX7_asAtFirst 7 = .ok (.iconst 3, 1) := by decide +kernel
theorem dX7_asAtFirst_8 : decode cX7_asAtFirst 8 = .ok (.iastore, 1) := by decide +kernel
theorem dX7_asAtFirst_9 : decode cX7_asAtFirst 9 = .ok (.aload_n 0, 1) := by decide +kernel
theorem dX7_asAtFirst_10 : decode cX7_asAtFirst 10 = .ok (.iconst 2, 1) := by decide +kernel
theorem dX7_asAtFirst_11 : decode cX7_asAtFirst 11 = .ok (.iconst 5, 1) := by decide +kernel
theorem dX7_asAtFirst_12 : decode cX7_asAtFirst 12 = .ok (.iastore, 1) := by decide +kernel
theorem dX7_asAtFirst_13 : decode cX7_asAtFirst 13 = .ok (.aload_n 0, 1) := by decide +kernel
theorem dX7_asAtFirst_14 : decode cX7_asAtFirst 14 = .ok (.iconst 3, 1) := by decide +kernel
theorem dX7_asAtFirst_15 : decode cX7_asAtFirst 15 = .ok (.iconst 2, 1) := by decide +kernel
theorem dX7_asAtFirst_16 : decode cX7_asAtFirst 16 = .ok (.iastore, 1) := by decide +kernel
theorem dX7_asAtFirst_17 : decode cX7_asAtFirst 17 = .ok (.aload_n 0, 1) := by decide +kernel
theorem dX7_asAtFirst_18 : decode cX7_asAtFirst 18 = .ok (.iconst 4, 1) := by decide +kernel
theorem dX7_asAtFirst_19 : decode cX7_asAtFirst 19 = .ok (.bipush 50, 2) := by decide +kernel
theorem dX7_asAtFirst_21 : decode cX7_asAtFirst 21 = .ok (.iastore, 1) := by decide +kernel
theorem dX7_asAtFirst_22 : decode cX7_asAtFirst 22 = .ok (.aload_n 0, 1) := by decide +kernel
theorem dX7_asAtFirst_23 : decode cX7_asAtFirst 23 = .ok (.iconst 5, 1) := by decide +kernel
theorem dX7_asAtFirst_24 : decode cX7_asAtFirst 24 = .ok (.bipush 30, 2) := by decide +kernel
theorem dX7_asAtFirst_26 : decode cX7_asAtFirst 26 = .ok (.iastore, 1) := by decide +kernel
theorem dX7_asAtFirst_27 : decode cX7_asAtFirst 27 = .ok (.return_, 1) := by decide +kernel
theorem dX7_letter_0 : decode cX7_letter 0 = .ok (.iload_n 0, 1) := by decide +kernel
theorem dX7_letter_1 : decode cX7_letter 1 = .ok (.tableswitch 83 103 116 #[73, 83, 75, 83, 77, 83, 83, 83, 83, 83, 83, 81, 79, 71], 71) := by decide +kernel
theorem dX7_letter_72 : decode cX7_letter 72 = .ok (.iconst 0, 1) := by decide +kernel
theorem dX7_letter_73 : decode cX7_letter 73 = .ok (.ireturn, 1) := by decide +kernel
theorem dX7_letter_74 : decode cX7_letter 74 = .ok (.iconst 1, 1) := by decide +kernel
theorem dX7_letter_75 : decode cX7_letter 75 = .ok (.ireturn, 1) := by decide +kernel
theorem dX7_letter_76 : decode cX7_letter 76 = .ok (.iconst 2, 1) := by decide +kernel
theorem dX7_letter_77 : decode cX7_letter 77 = .ok (.ireturn, 1) := by decide +kernel
theorem dX7_letter_78 : decode cX7_letter 78 = .ok (.iconst 3, 1) := by decide +kernel
theorem dX7_letter_79 : decode cX7_letter 79 = .ok (.ireturn, 1) := by decide +kernel
theorem dX7_letter_80 : decode cX7_letter 80 = .ok (.iconst 4, 1) := by decide +kernel
theorem dX7_letter_81 : decode cX7_letter 81 = .ok (.ireturn, 1) := by decide +kernel
theorem dX7_letter_82 : decode cX7_letter 82 = .ok (.iconst 5, 1) := by decide +kernel
theorem dX7_letter_83 : decode cX7_letter 83 = .ok (.ireturn, 1) := by decide +kernel
theorem dX7_letter_84 : decode cX7_letter 84 = .ok (.iconst (-1), 1) := by decide +kernel
theorem dX7_letter_85 : decode cX7_letter 85 = .ok (.ireturn, 1) := by decide +kernel
set_option maxRecDepth 20000 in
theorem ggX7_canBe_X7_lies : GoodIn wsX7_canBe wsX7_lies := goodIn_r _ [4] (by decide +kernel) (by decide +kernel)
set_option maxRecDepth 20000 in
theorem gX7_canBe_X7_lies : GoodIn wsX7_canBe (va_wsS RX7 95 yX7_lies wsX7_lies) := goodIn_app (goodIn_of _ (by decide +kernel)) ggX7_canBe_X7_lies
theorem dX7_canBe_0 : decode cX7_canBe 0 = .ok (.iload_n 0, 1) := by decide +kernel
theorem dX7_canBe_1 : decode cX7_canBe 1 = .ok (.iconst 1, 1) := by decide +kernel
theorem dX7_canBe_2 : decode cX7_canBe 2 = .ok (.if_icmp .eq 8, 3) := by decide +kernel
theorem dX7_canBe_5 : decode cX7_canBe 5 = .ok (.iload_n 0, 1) := by decide +kernel
theorem dX7_canBe_6 : decode cX7_canBe 6 = .ok (.iconst 2, 1) := by decide +kernel
theorem dX7_canBe_7 : decode cX7_canBe 7 = .ok (.if_icmp .ne 15, 3) := by decide +kernel
theorem dX7_canBe_10 : decode cX7_canBe 10 = .ok (.iload_n 1, 1) := by decide +kernel
theorem dX7_canBe_11 : decode cX7_canBe 11 = .ok (.bipush 99, 2) := by decide +kernel
theorem dX7_canBe_13 : decode cX7_canBe 13 = .ok (.if_icmp .gt 7, 3) := by decide +kernel
theorem dX7_canBe_16 : decode cX7_canBe 16 = .ok (.iconst 1, 1) := by decide +kernel
theorem dX7_canBe_17 : decode cX7_canBe 17 = .ok (.goto 4, 3) := by decide +kernel
theorem dX7_canBe_20 : decode cX7_canBe 20 = .ok (.iconst 0, 1) := by decide +kernel
theorem dX7_canBe_21 : decode cX7_canBe 21 = .ok (.ireturn, 1) := by decide +kernel
theorem dX7_canBe_22 : decode cX7_canBe 22 = .ok (.iload_n 0, 1) := by decide +kernel
theorem dX7_canBe_23 : decode cX7_canBe 23 = .ok (.iconst 3, 1) := by decide +kernel
theorem dX7_canBe_24 : decode cX7_canBe 24 = .ok (.if_icmp .ne 17, 3) := by decide +kernel
theorem dX7_canBe_27 : decode cX7_canBe 27 = .ok (.iload_n 1, 1) := by decide +kernel
theorem dX7_canBe_28 : decode cX7_canBe 28 = .ok (.bipush 20, 2) := by decide +kernel
theorem dX7_canBe_30 : decode cX7_canBe 30 = .ok (.if_icmp .gt 7, 3) := by decide +kernel
theorem dX7_canBe_33 : decode cX7_canBe 33 = .ok (.iconst 1, 1) := by decide +kernel
theorem dX7_canBe_34 : decode cX7_canBe 34 = .ok (.goto 15, 3) := by decide +kernel
theorem dX7_canBe_37 : decode cX7_canBe 37 = .ok (.iconst 0, 1) := by decide +kernel
theorem dX7_canBe_38 : decode cX7_canBe 38 = .ok (.goto 11, 3) := by decide +kernel
theorem dX7_canBe_41 : decode cX7_canBe 41 = .ok (.iload_n 1, 1) := by decide +kernel
theorem dX7_canBe_42 : decode cX7_canBe 42 = .ok (.iconst 1, 1) := by decide +kernel
theorem dX7_canBe_43 : decode cX7_canBe 43 = .ok (.sipush 999, 3) := by decide +kernel
theorem dX7_canBe_46 : decode cX7_canBe 46 = .ok (.invokestatic 95, 3) := by decide +kernel
theorem dX7_canBe_49 : decode cX7_canBe 49 = .ok (.ireturn, 1) := by decide +kernel
theorem dX7_byteAt_0 : decode cX7_byteAt 0 = .ok (.iload_n 1, 1) := by decide +kernel
theorem dX7_byteAt_1 : decode cX7_byteAt 1 = .ok (.iload_n 2, 1) := by decide +kernel
theorem dX7_byteAt_2 : decode cX7_byteAt 2 = .ok (.if_icmp .ge 16, 3) := by decide +kernel
theorem dX7_byteAt_5 : decode cX7_byteAt 5 = .ok (.aload_n 0, 1) := by decide +kernel
theorem dX7_byteAt_6 : decode cX7_byteAt 6 = .ok (.getfield 7, 3) := by decide +kernel
theorem dX7_byteAt_9 : decode cX7_byteAt 9 = .ok (.iload_n 1, 1) := by decide +kernel
theorem dX7_byteAt_10 : decode cX7_byteAt 10 = .ok (.baload, 1) := by decide +kernel
theorem dX7_byteAt_11 : decode cX7_byteAt 11 = .ok (.sipush 255, 3) := by decide +kernel
theorem dX7_byteAt_14 : decode cX7_byteAt 14 = .ok (.iand, 1) := by decide +kernel
theorem dX7_byteAt_15 : decode cX7_byteAt 15 = .ok (.goto 4, 3) := by decide +kernel
theorem dX7_byteAt_18 : decode cX7_byteAt 18 = .ok (.iconst 0, 1) := by decide +kernel
theorem dX7_byteAt_19 : decode cX7_byteAt 19 = .ok (.ireturn, 1) := by decide +kernel
set_option maxRecDepth 20000 in
theorem ggX7_reads_X7_asAtFirst : GoodIn wsX7_reads wsX7_asAtFirst := goodIn_r _ [5] (by decide +kernel) (by decide +kernel)
set_option maxRecDepth 20000 in
theorem gX7_reads_X7_asAtFirst : GoodIn wsX7_reads (va_wsS RX7 84 yX7_asAtFirst wsX7_asAtFirst) := goodIn_app (goodIn_of _ (by decide +kernel)) ggX7_reads_X7_asAtFirst
set_option maxRecDepth 20000 in
theorem ggX7_reads_X7_byteAt : GoodIn wsX7_reads wsX7_byteAt := goodIn_r _ [9, 10, 20, 21, 22, 23, 24, 25, 26, 27, 28, 29, 30, 31, 32, 33, 34, 35, 36, 37, 38, 39, 40, 41, 42, 43, 44, 45, 46, 47, 48, 49, 50, 51, 52, 53, 54, 55] (by decide +kernel) (by decide +kernel)
set_option maxRecDepth 20000 in
theorem gX7_reads_X7_byteAt : GoodIn wsX7_reads (wsV RX7 99 RX7 yX7_byteAt wsX7_byteAt) := goodIn_app (goodIn_of _ (by decide +kernel)) ggX7_reads_X7_byteAt
set_option maxRecDepth 20000 in
theorem ggX7_reads_X7_letter : GoodIn wsX7_reads wsX7_letter := goodIn_r _ [13] (by decide +kernel) (by decide +kernel)
set_option maxRecDepth 20000 in
theorem gX7_reads_X7_letter : GoodIn wsX7_reads (va_wsS RX7 103 yX7_letter wsX7_letter) := goodIn_app (goodIn_of _ (by decide +kernel)) ggX7_reads_X7_letter
set_option maxRecDepth 20000 in
theorem ggX7_reads_X7_lies : GoodIn wsX7_reads wsX7_lies := goodIn_r _ [16] (by decide +kernel) (by decide +kernel)
set_option maxRecDepth 20000 in
theorem gX7_reads_X7_lies : GoodIn wsX7_reads (va_wsS RX7 95 yX7_lies wsX7_lies) := goodIn_app (goodIn_of _ (by decide +kernel)) ggX7_reads_X7_lies
set_option maxRecDepth 20000 in
theorem ggX7_reads_X7_canBe : GoodIn wsX7_reads wsX7_canBe := goodIn_r _ [19, 14, 15, 4, 16] (by decide +kernel) (by decide +kernel)
set_option maxRecDepth 20000 in
theorem gX7_reads_X7_canBe : GoodIn wsX7_reads (va_wsS RX7 107 yX7_canBe wsX7_canBe) := goodIn_app (goodIn_of _ (by decide +kernel)) ggX7_reads_X7_canBe
theorem dX7_reads_0 : decode cX7_reads 0 = .ok (.aload_n 0, 1) := by decide +kernel
theorem dX7_reads_1 : decode cX7_reads 1 = .ok (.getfield 21, 3) := by decide +kernel
theorem dX7_reads_4 : decode cX7_reads 4 = .ok (.invokestatic 84, 3) := by decide +kernel
theorem dX7_reads_7 : decode cX7_reads 7 = .ok (.iconst 0, 1) := by decide +kernel
theorem dX7_reads_8 : decode cX7_reads 8 = .ok (.istore_n 2, 1) := by decide +kernel
theorem dX7_reads_9 : decode cX7_reads 9 = .ok (.iconst 0, 1) := by decide +kernel
theorem dX7_reads_10 : decode cX7_reads 10 = .ok (.istore_n 3, 1) := by decide +kernel
theorem dX7_reads_11 : decode cX7_reads 11 = .ok (.iload_n 3, 1) := by decide +kernel
theorem dX7_reads_12 : decode cX7_reads 12 = .ok (.iload_n 1, 1) := by decide +kernel
theorem dX7_reads_13 : decode cX7_reads 13 = .ok (.if_icmp .gt 168, 3) := by decide +kernel
theorem dX7_reads_16 : decode cX7_reads 16 = .ok (.aload_n 0, 1) := by decide +kernel
theorem dX7_reads_17 : decode cX7_reads 17 = .ok (.iload_n 2, 1) := by decide +kernel
theorem dX7_reads_18 : decode cX7_reads 18 = .ok (.iload_n 1, 1) := by decide +kernel
theorem dX7_reads_19 : decode cX7_reads 19 = .ok (.invokevirtual 99, 3) := by decide +kernel
theorem dX7_reads_22 : decode cX7_reads 22 = .ok (.invokestatic 103, 3) := by decide +kernel
theorem dX7_reads_25 : decode cX7_reads 25 = .ok (.istore 4, 2) := by decide +kernel
theorem dX7_reads_27 : decode cX7_reads 27 = .ok (.iload 4, 2) := by decide +kernel
theorem dX7_reads_29 : decode cX7_reads 29 = .ok (.iconst (-1), 1) := by decide +kernel
theorem dX7_reads_30 : decode cX7_reads 30 = .ok (.if_icmp .ne 8, 3) := by decide +kernel
theorem dX7_reads_33 : decode cX7_reads 33 = .ok (.bipush 100, 2) := by decide +kernel
theorem dX7_reads_35 : decode cX7_reads 35 = .ok (.iload_n 2, 1) := by decide +kernel
theorem dX7_reads_36 : decode cX7_reads 36 = .ok (.iadd, 1) := by decide +kernel
theorem dX7_reads_37 : decode cX7_reads 37 = .ok (.ireturn, 1) := by decide +kernel
theorem dX7_reads_38 : decode cX7_reads 38 = .ok (.iinc 2 1, 3) := by decide +kernel
theorem dX7_reads_41 : decode cX7_reads 41 = .ok (.aload_n 0, 1) := by decide +kernel
theorem dX7_reads_42 : decode cX7_reads 42 = .ok (.iload_n 2, 1) := by decide +kernel
theorem dX7_reads_43 : decode cX7_reads 43 = .ok (.iload_n 1, 1) := by decide +kernel
theorem dX7_reads_44 : decode cX7_reads 44 = .ok (.invokevirtual 99, 3) := by decide +kernel
theorem dX7_reads_47 : decode cX7_reads 47 = .ok (.bipush 48, 2) := by decide +kernel
theorem dX7_reads_49 : decode cX7_reads 49 = .ok (.bipush 57, 2) := by decide +kernel
theorem dX7_reads_51 : decode cX7_reads 51 = .ok (.invokestatic 95, 3) := by decide +kernel
theorem dX7_reads_54 : decode cX7_reads 54 = .ok (.ifCond .ne 9, 3) := by decide +kernel
theorem dX7_reads_57 : decode cX7_reads 57 = .ok (.sipush 200, 3) := by decide +kernel
theorem dX7_reads_60 : decode cX7_reads 60 = .ok (.iload_n 2, 1) := by decide +kernel
theorem dX7_reads_61 : decode cX7_reads 61 = .ok (.iadd, 1) := by decide +kernel
theorem dX7_reads_62 : decode cX7_reads 62 = .ok (.ireturn, 1) := by decide +kernel
theorem dX7_reads_63 : decode cX7_reads 63 = .ok (.iload_n 2, 1) := by decide +kernel
theorem dX7_reads_64 : decode cX7_reads 64 = .ok (.istore 5, 2) := by decide +kernel
theorem dX7_reads_66 : decode cX7_reads 66 = .ok (.iconst 0, 1) := by decide +kernel
theorem dX7_reads_67 : decode cX7_reads 67 = .ok (.istore 6, 2) := by decide +kernel
theorem dX7_reads_69 : decode cX7_reads 69 = .ok (.aload_n 0, 1) := by decide +kernel
theorem dX7_reads_70 : decode cX7_reads 70 = .ok (.iload_n 2, 1) := by decide +kernel
theorem dX7_reads_71 : decode cX7_reads 71 = .ok (.iload_n 1, 1) := by decide +kernel
theorem dX7_reads_72 : decode cX7_reads 72 = .ok (.invokevirtual 99, 3) := by decide +kernel
theorem dX7_reads_75 : decode cX7_reads 75 = .ok (.bipush 48, 2) := by decide +kernel
theorem dX7_reads_77 : decode cX7_reads 77 = .ok (.bipush 57, 2) := by decide +kernel
theorem dX7_reads_79 : decode cX7_reads 79 = .ok (.invokestatic 95, 3) := by decide +kernel
theorem dX7_reads_82 : decode cX7_reads 82 = .ok (.ifCond .eq 40, 3) := by decide +kernel
theorem dX7_reads_85 : decode cX7_reads 85 = .ok (.iload_n 2, 1) := by decide +kernel
theorem dX7_reads_86 : decode cX7_reads 86 = .ok (.iload 5, 2) := by decide +kernel
theorem dX7_reads_88 : decode cX7_reads 88 = .ok (.iconst 4, 1) := by decide +kernel
theorem dX7_reads_89 : decode cX7_reads 89 = .ok (.iadd, 1) := by decide +kernel
theorem dX7_reads_90 : decode cX7_reads 90 = .ok (.if_icmp .ne 9, 3) := by decide +kernel
theorem dX7_reads_93 : decode cX7_reads 93 = .ok (.sipush 300, 3) := by decide +kernel
theorem dX7_reads_96 : decode cX7_reads 96 = .ok (.iload_n 2, 1) := by decide +kernel
theorem dX7_reads_97 : decode cX7_reads 97 = .ok (.iadd, 1) := by decide +kernel
theorem dX7_reads_98 : decode cX7_reads 98 = .ok (.ireturn, 1) := by decide +kernel
theorem dX7_reads_99 : decode cX7_reads 99 = .ok (.bipush 10, 2) := by decide +kernel
theorem dX7_reads_101 : decode cX7_reads 101 = .ok (.iload 6, 2) := by decide +kernel
theorem dX7_reads_103 : decode cX7_reads 103 = .ok (.imul, 1) := by decide +kernel
theorem dX7_reads_104 : decode cX7_reads 104 = .ok (.aload_n 0, 1) := by decide +kernel
theorem dX7_reads_105 : decode cX7_reads 105 = .ok (.iload_n 2, 1) := by decide +kernel
theorem dX7_reads_106 : decode cX7_reads 106 = .ok (.iload_n 1, 1) := by decide +kernel
theorem dX7_reads_107 : decode cX7_reads 107 = .ok (.invokevirtual 99, 3) := by decide +kernel
theorem dX7_reads_110 : decode cX7_reads 110 = .ok (.iadd, 1) := by decide +kernel
theorem dX7_reads_111 : decode cX7_reads 111 = .ok (.bipush 48, 2) := by decide +kernel
theorem dX7_reads_113 : decode cX7_reads 113 = .ok (.isub, 1) := by decide +kernel
theorem dX7_reads_114 : decode cX7_reads 114 = .ok (.istore 6, 2) := by decide +kernel
theorem dX7_reads_116 : decode cX7_reads 116 = .ok (.iinc 2 1, 3) := by decide +kernel
theorem dX7_reads_119 : decode cX7_reads 119 = .ok (.goto (-50), 3) := by decide +kernel
theorem dX7_reads_122 : decode cX7_reads 122 = .ok (.iload 4, 2) := by decide +kernel
theorem dX7_reads_124 : decode cX7_reads 124 = .ok (.iload 6, 2) := by decide +kernel
theorem dX7_reads_126 : decode cX7_reads 126 = .ok (.invokestatic 107, 3) := by decide +kernel
theorem dX7_reads_129 : decode cX7_reads 129 = .ok (.ifCond .ne 10, 3) := by decide +kernel
theorem dX7_reads_132 : decode cX7_reads 132 = .ok (.sipush 400, 3) := by decide +kernel
theorem dX7_reads_135 : decode cX7_reads 135 = .ok (.iload 5, 2) := by decide +kernel
theorem dX7_reads_137 : decode cX7_reads 137 = .ok (.iadd, 1) := by decide +kernel
theorem dX7_reads_138 : decode cX7_reads 138 = .ok (.ireturn, 1) := by decide +kernel
theorem dX7_reads_139 : decode cX7_reads 139 = .ok (.aload_n 0, 1) := by decide +kernel
theorem dX7_reads_140 : decode cX7_reads 140 = .ok (.getfield 21, 3) := by decide +kernel
theorem dX7_reads_143 : decode cX7_reads 143 = .ok (.iload 4, 2) := by decide +kernel
theorem dX7_reads_145 : decode cX7_reads 145 = .ok (.iload 6, 2) := by decide +kernel
theorem dX7_reads_147 : decode cX7_reads 147 = .ok (.iastore, 1) := by decide +kernel
theorem dX7_reads_148 : decode cX7_reads 148 = .ok (.iload_n 2, 1) := by decide +kernel
theorem dX7_reads_149 : decode cX7_reads 149 = .ok (.iload_n 1, 1) := by decide +kernel
theorem dX7_reads_150 : decode cX7_reads 150 = .ok (.if_icmp .ne 5, 3) := by decide +kernel
theorem dX7_reads_153 : decode cX7_reads 153 = .ok (.iconst 0, 1) := by decide +kernel
theorem dX7_reads_154 : decode cX7_reads 154 = .ok (.ireturn, 1) := by decide +kernel
theorem dX7_reads_155 : decode cX7_reads 155 = .ok (.aload_n 0, 1) := by decide +kernel
theorem dX7_reads_156 : decode cX7_reads 156 = .ok (.iload_n 2, 1) := by decide +kernel
theorem dX7_reads_157 : decode cX7_reads 157 = .ok (.iload_n 1, 1) := by decide +kernel
theorem dX7_reads_158 : decode cX7_reads 158 = .ok (.invokevirtual 99, 3) := by decide +kernel
theorem dX7_reads_161 : decode cX7_reads 161 = .ok (.bipush 59, 2) := by decide +kernel
theorem dX7_reads_163 : decode cX7_reads 163 = .ok (.if_icmp .eq 9, 3) := by decide +kernel
theorem dX7_reads_166 : decode cX7_reads 166 = .ok (.sipush 500, 3) := by decide +kernel
theorem dX7_reads_169 : decode cX7_reads 169 = .ok (.iload_n 2, 1) := by decide +kernel
theorem dX7_reads_170 : decode cX7_reads 170 = .ok (.iadd, 1) := by decide +kernel
theorem dX7_reads_171 : decode cX7_reads 171 = .ok (.ireturn, 1) := by decide +kernel
theorem dX7_reads_172 : decode cX7_reads 172 = .ok (.iinc 2 1, 3) := by decide +kernel
theorem dX7_reads_175 : decode cX7_reads 175 = .ok (.iinc 3 1, 3) := by decide +kernel
theorem dX7_reads_178 : decode cX7_reads 178 = .ok (.goto (-167), 3) := by decide +kernel
theorem dX7_reads_181 : decode cX7_reads 181 = .ok (.bipush 100, 2) := by decide +kernel
theorem dX7_reads_183 : decode cX7_reads 183 = .ok (.iload_n 2, 1) := by decide +kernel
theorem dX7_reads_184 : decode cX7_reads 184 = .ok (.iadd, 1) := by decide +kernel
theorem dX7_reads_185 : decode cX7_reads 185 = .ok (.ireturn, 1) := by decide +kernel
set_option maxRecDepth 20000 in
theorem ggX7_law_X7_reads : GoodIn wsX7_law wsX7_reads := goodIn_r _ [8, 3, 9, 10, 7, 11, 12, 13, 14, 15, 16, 17, 18, 19, 20, 21, 22, 23, 24, 25, 26, 27, 28, 29, 30, 31, 32, 33, 34, 35, 36, 37, 38, 39, 40, 41, 42, 43, 44, 45, 46, 47, 48, 49, 50, 51, 52, 53, 54, 55, 56, 57, 58, 59, 60, 61] (by decide +kernel) (by decide +kernel)
set_option maxRecDepth 20000 in
theorem gX7_law_X7_reads : GoodIn wsX7_law (wsV RX7 111 RX7 yX7_reads wsX7_reads) := goodIn_app (goodIn_of _ (by decide +kernel)) ggX7_law_X7_reads
theorem dX7_law_0 : decode cX7_law 0 = .ok (.iload_n 1, 1) := by decide +kernel
theorem dX7_law_1 : decode cX7_law 1 = .ok (.ifCond .lt 11, 3) := by decide +kernel
theorem dX7_law_4 : decode cX7_law 4 = .ok (.iload_n 1, 1) := by decide +kernel
theorem dX7_law_5 : decode cX7_law 5 = .ok (.aload_n 0, 1) := by decide +kernel
theorem dX7_law_6 : decode cX7_law 6 = .ok (.getfield 88, 3) := by decide +kernel
theorem dX7_law_9 : decode cX7_law 9 = .ok (.if_icmp .le 5, 3) := by decide +kernel
theorem dX7_law_12 : decode cX7_law 12 = .ok (.iconst (-1), 1) := by decide +kernel
theorem dX7_law_13 : decode cX7_law 13 = .ok (.ireturn, 1) := by decide +kernel
theorem dX7_law_14 : decode cX7_law 14 = .ok (.aload_n 0, 1) := by decide +kernel
theorem dX7_law_15 : decode cX7_law 15 = .ok (.iconst 0, 1) := by decide +kernel
theorem dX7_law_16 : decode cX7_law 16 = .ok (.putfield 88, 3) := by decide +kernel
theorem dX7_law_19 : decode cX7_law 19 = .ok (.aload_n 0, 1) := by decide +kernel
theorem dX7_law_20 : decode cX7_law 20 = .ok (.iload_n 1, 1) := by decide +kernel
theorem dX7_law_21 : decode cX7_law 21 = .ok (.invokevirtual 111, 3) := by decide +kernel
theorem dX7_law_24 : decode cX7_law 24 = .ok (.istore_n 2, 1) := by decide +kernel
theorem dX7_law_25 : decode cX7_law 25 = .ok (.iconst 0, 1) := by decide +kernel
theorem dX7_law_26 : decode cX7_law 26 = .ok (.istore_n 3, 1) := by decide +kernel
theorem dX7_law_27 : decode cX7_law 27 = .ok (.iload_n 3, 1) := by decide +kernel
theorem dX7_law_28 : decode cX7_law 28 = .ok (.bipush 6, 2) := by decide +kernel
theorem dX7_law_30 : decode cX7_law 30 = .ok (.if_icmp .ge 25, 3) := by decide +kernel
theorem dX7_law_33 : decode cX7_law 33 = .ok (.iload_n 2, 1) := by decide +kernel
theorem dX7_law_34 : decode cX7_law 34 = .ok (.ifCond .ne 21, 3) := by decide +kernel
theorem dX7_law_37 : decode cX7_law 37 = .ok (.aload_n 0, 1) := by decide +kernel
theorem dX7_law_38 : decode cX7_law 38 = .ok (.getfield 17, 3) := by decide +kernel
theorem dX7_law_41 : decode cX7_law 41 = .ok (.iload_n 3, 1) := by decide +kernel
theorem dX7_law_42 : decode cX7_law 42 = .ok (.aload_n 0, 1) := by decide +kernel
theorem dX7_law_43 : decode cX7_law 43 = .ok (.getfield 21, 3) := by decide +kernel
theorem dX7_law_46 : decode cX7_law 46 = .ok (.iload_n 3, 1) := by decide +kernel
theorem dX7_law_47 : decode cX7_law 47 = .ok (.iaload, 1) := by decide +kernel
theorem dX7_law_48 : decode cX7_law 48 = .ok (.iastore, 1) := by decide +kernel
theorem dX7_law_49 : decode cX7_law 49 = .ok (.iinc 3 1, 3) := by decide +kernel
theorem dX7_law_52 : decode cX7_law 52 = .ok (.goto (-25), 3) := by decide +kernel
theorem dX7_law_55 : decode cX7_law 55 = .ok (.iload_n 2, 1) := by decide +kernel
theorem dX7_law_56 : decode cX7_law 56 = .ok (.ireturn, 1) := by decide +kernel
set_option maxRecDepth 20000 in
theorem ggX7_trough_X7_lies : GoodIn wsX7_trough wsX7_lies := goodIn_r _ [5] (by decide +kernel) (by decide +kernel)
set_option maxRecDepth 20000 in
theorem gX7_trough_X7_lies : GoodIn wsX7_trough (va_wsS RX7 95 yX7_lies wsX7_lies) := goodIn_app (goodIn_of _ (by decide +kernel)) ggX7_trough_X7_lies
theorem dX7_trough_0 : decode cX7_trough 0 = .ok (.iload_n 1, 1) := by decide +kernel
theorem dX7_trough_1 : decode cX7_trough 1 = .ok (.bipush 10, 2) := by decide +kernel
theorem dX7_trough_3 : decode cX7_trough 3 = .ok (.sipush 200, 3) := by decide +kernel
theorem dX7_trough_6 : decode cX7_trough 6 = .ok (.invokestatic 95, 3) := by decide +kernel
theorem dX7_trough_9 : decode cX7_trough 9 = .ok (.ifCond .ne 5, 3) := by decide +kernel
theorem dX7_trough_12 : decode cX7_trough 12 = .ok (.iconst 0, 1) := by decide +kernel
theorem dX7_trough_13 : decode cX7_trough 13 = .ok (.ireturn, 1) := by decide +kernel
theorem dX7_trough_14 : decode cX7_trough 14 = .ok (.aload_n 0, 1) := by decide +kernel
theorem dX7_trough_15 : decode cX7_trough 15 = .ok (.iload_n 1, 1) := by decide +kernel
theorem dX7_trough_16 : decode cX7_trough 16 = .ok (.putfield 13, 3) := by decide +kernel
theorem dX7_trough_19 : decode cX7_trough 19 = .ok (.iconst 1, 1) := by decide +kernel
theorem dX7_trough_20 : decode cX7_trough 20 = .ok (.ireturn, 1) := by decide +kernel
set_option maxRecDepth 20000 in
theorem ggX7_isSide_X7_lies : GoodIn wsX7_isSide wsX7_lies := goodIn_r _ [4] (by decide +kernel) (by decide +kernel)
set_option maxRecDepth 20000 in
theorem gX7_isSide_X7_lies : GoodIn wsX7_isSide (va_wsS RX7 95 yX7_lies wsX7_lies) := goodIn_app (goodIn_of _ (by decide +kernel)) ggX7_isSide_X7_lies
theorem dX7_isSide_0 : decode cX7_isSide 0 = .ok (.iload_n 0, 1) := by decide +kernel
theorem dX7_isSide_1 : decode cX7_isSide 1 = .ok (.iconst 0, 1) := by decide +kernel
theorem dX7_isSide_2 : decode cX7_isSide 2 = .ok (.iconst 1, 1) := by decide +kernel
theorem dX7_isSide_3 : decode cX7_isSide 3 = .ok (.invokestatic 95, 3) := by decide +kernel
theorem dX7_isSide_6 : decode cX7_isSide 6 = .ok (.ireturn, 1) := by decide +kernel
set_option maxRecDepth 20000 in
theorem ggX7_area_X7_isSide : GoodIn wsX7_area wsX7_isSide := goodIn_r _ [5, 6, 7, 4, 8] (by decide +kernel) (by decide +kernel)
set_option maxRecDepth 20000 in
theorem gX7_area_X7_isSide : GoodIn wsX7_area (va_wsS RX7 114 yX7_isSide wsX7_isSide) := goodIn_app (goodIn_of _ (by decide +kernel)) ggX7_area_X7_isSide
set_option maxRecDepth 20000 in
theorem ggX7_area_X7_lies : GoodIn wsX7_area wsX7_lies := goodIn_r _ [8] (by decide +kernel) (by decide +kernel)
set_option maxRecDepth 20000 in
theorem gX7_area_X7_lies : GoodIn wsX7_area (va_wsS RX7 95 yX7_lies wsX7_lies) := goodIn_app (goodIn_of _ (by decide +kernel)) ggX7_area_X7_lies
theorem dX7_area_0 : decode cX7_area 0 = .ok (.iload_n 1, 1) := by decide +kernel
theorem dX7_area_1 : decode cX7_area 1 = .ok (.invokestatic 114, 3) := by decide +kernel
theorem dX7_area_4 : decode cX7_area 4 = .ok (.ifCond .eq 14, 3) := by decide +kernel
theorem dX7_area_7 : decode cX7_area 7 = .ok (.iload_n 2, 1) := by decide +kernel
theorem dX7_area_8 : decode cX7_area 8 = .ok (.iconst 1, 1) := by decide +kernel
theorem dX7_area_9 : decode cX7_area 9 = .ok (.sipush 10000, 3) := by decide +kernel
theorem dX7_area_12 : decode cX7_area 12 = .ok (.invokestatic 95, 3) := by decide +kernel
theorem dX7_area_15 : decode cX7_area 15 = .ok (.ifCond .ne 5, 3) := by decide +kernel
theorem dX7_area_18 : decode cX7_area 18 = .ok (.iconst 0, 1) := by decide +kernel
theorem dX7_area_19 : decode cX7_area 19 = .ok (.ireturn, 1) := by decide +kernel
theorem dX7_area_20 : decode cX7_area 20 = .ok (.aload_n 0, 1) := by decide +kernel
theorem dX7_area_21 : decode cX7_area 21 = .ok (.getfield 24, 3) := by decide +kernel
theorem dX7_area_24 : decode cX7_area 24 = .ok (.iload_n 1, 1) := by decide +kernel
theorem dX7_area_25 : decode cX7_area 25 = .ok (.iload_n 2, 1) := by decide +kernel
theorem dX7_area_26 : decode cX7_area 26 = .ok (.iastore, 1) := by decide +kernel
theorem dX7_area_27 : decode cX7_area 27 = .ok (.iconst 1, 1) := by decide +kernel
theorem dX7_area_28 : decode cX7_area 28 = .ok (.ireturn, 1) := by decide +kernel
set_option maxRecDepth 20000 in
theorem ggX7_flow_X7_isSide : GoodIn wsX7_flow wsX7_isSide := goodIn_r _ [7, 8, 9, 6, 10] (by decide +kernel) (by decide +kernel)
set_option maxRecDepth 20000 in
theorem gX7_flow_X7_isSide : GoodIn wsX7_flow (va_wsS RX7 114 yX7_isSide wsX7_isSide) := goodIn_app (goodIn_of _ (by decide +kernel)) ggX7_flow_X7_isSide
set_option maxRecDepth 20000 in
theorem ggX7_flow_X7_lies : GoodIn wsX7_flow wsX7_lies := goodIn_r _ [10] (by decide +kernel) (by decide +kernel)
set_option maxRecDepth 20000 in
theorem gX7_flow_X7_lies : GoodIn wsX7_flow (va_wsS RX7 95 yX7_lies wsX7_lies) := goodIn_app (goodIn_of _ (by decide +kernel)) ggX7_flow_X7_lies
theorem dX7_flow_0 : decode cX7_flow 0 = .ok (.iload_n 1, 1) := by decide +kernel
theorem dX7_flow_1 : decode cX7_flow 1 = .ok (.invokestatic 114, 3) := by decide +kernel
theorem dX7_flow_4 : decode cX7_flow 4 = .ok (.ifCond .eq 14, 3) := by decide +kernel
theorem dX7_flow_7 : decode cX7_flow 7 = .ok (.iload_n 2, 1) := by decide +kernel
theorem dX7_flow_8 : decode cX7_flow 8 = .ok (.ldc 118, 2) := by decide +kernel
theorem dX7_flow_10 : decode cX7_flow 10 = .ok (.ldc 119, 2) := by decide +kernel
theorem dX7_flow_12 : decode cX7_flow 12 = .ok (.invokestatic 95, 3) := by decide +kernel
theorem dX7_flow_15 : decode cX7_flow 15 = .ok (.ifCond .ne 5, 3) := by decide +kernel
theorem dX7_flow_18 : decode cX7_flow 18 = .ok (.iconst 0, 1) := by decide +kernel
theorem dX7_flow_19 : decode cX7_flow 19 = .ok (.ireturn, 1) := by decide +kernel
theorem dX7_flow_20 : decode cX7_flow 20 = .ok (.aload_n 0, 1) := by decide +kernel
theorem dX7_flow_21 : decode cX7_flow 21 = .ok (.getfield 27, 3) := by decide +kernel
theorem dX7_flow_24 : decode cX7_flow 24 = .ok (.iload_n 1, 1) := by decide +kernel
theorem dX7_flow_25 : decode cX7_flow 25 = .ok (.dup2, 1) := by decide +kernel
theorem dX7_flow_26 : decode cX7_flow 26 = .ok (.laload, 1) := by decide +kernel
theorem dX7_flow_27 : decode cX7_flow 27 = .ok (.iload_n 2, 1) := by decide +kernel
theorem dX7_flow_28 : decode cX7_flow 28 = .ok (.i2l, 1) := by decide +kernel
theorem dX7_flow_29 : decode cX7_flow 29 = .ok (.ladd, 1) := by decide +kernel
theorem dX7_flow_30 : decode cX7_flow 30 = .ok (.lastore, 1) := by decide +kernel
theorem dX7_flow_31 : decode cX7_flow 31 = .ok (.iconst 1, 1) := by decide +kernel
theorem dX7_flow_32 : decode cX7_flow 32 = .ok (.ireturn, 1) := by decide +kernel
set_option maxRecDepth 20000 in
theorem ggX7_ice_X7_lies : GoodIn wsX7_ice wsX7_lies := goodIn_r _ [7] (by decide +kernel) (by decide +kernel)
set_option maxRecDepth 20000 in
theorem gX7_ice_X7_lies : GoodIn wsX7_ice (va_wsS RX7 95 yX7_lies wsX7_lies) := goodIn_app (goodIn_of _ (by decide +kernel)) ggX7_ice_X7_lies
theorem dX7_ice_0 : decode cX7_ice 0 = .ok (.iload_n 1, 1) := by decide +kernel
theorem dX7_ice_1 : decode cX7_ice 1 = .ok (.iconst 0, 1) := by decide +kernel
theorem dX7_ice_2 : decode cX7_ice 2 = .ok (.sipush 20000, 3) := by decide +kernel
theorem dX7_ice_5 : decode cX7_ice 5 = .ok (.invokestatic 95, 3) := by decide +kernel
theorem dX7_ice_8 : decode cX7_ice 8 = .ok (.ifCond .eq 28, 3) := by decide +kernel
theorem dX7_ice_11 : decode cX7_ice 11 = .ok (.iload_n 2, 1) := by decide +kernel
theorem dX7_ice_12 : decode cX7_ice 12 = .ok (.iconst 0, 1) := by decide +kernel
theorem dX7_ice_13 : decode cX7_ice 13 = .ok (.sipush 20000, 3) := by decide +kernel
theorem dX7_ice_16 : decode cX7_ice 16 = .ok (.invokestatic 95, 3) := by decide +kernel
theorem dX7_ice_19 : decode cX7_ice 19 = .ok (.ifCond .eq 17, 3) := by decide +kernel
theorem dX7_ice_22 : decode cX7_ice 22 = .ok (.iload_n 1, 1) := by decide +kernel
theorem dX7_ice_23 : decode cX7_ice 23 = .ok (.iload_n 2, 1) := by decide +kernel
theorem dX7_ice_24 : decode cX7_ice 24 = .ok (.if_icmp .ge 12, 3) := by decide +kernel
theorem dX7_ice_27 : decode cX7_ice 27 = .ok (.aload_n 0, 1) := by decide +kernel
theorem dX7_ice_28 : decode cX7_ice 28 = .ok (.getfield 120, 3) := by decide +kernel
theorem dX7_ice_31 : decode cX7_ice 31 = .ok (.bipush 8, 2) := by decide +kernel
theorem dX7_ice_33 : decode cX7_ice 33 = .ok (.if_icmp .ne 5, 3) := by decide +kernel
theorem dX7_ice_36 : decode cX7_ice 36 = .ok (.iconst 0, 1) := by decide +kernel
theorem dX7_ice_37 : decode cX7_ice 37 = .ok (.ireturn, 1) := by decide +kernel
theorem dX7_ice_38 : decode cX7_ice 38 = .ok (.aload_n 0, 1) := by decide +kernel
theorem dX7_ice_39 : decode cX7_ice 39 = .ok (.getfield 31, 3) := by decide +kernel
theorem dX7_ice_42 : decode cX7_ice 42 = .ok (.aload_n 0, 1) := by decide +kernel
theorem dX7_ice_43 : decode cX7_ice 43 = .ok (.getfield 120, 3) := by decide +kernel
theorem dX7_ice_46 : decode cX7_ice 46 = .ok (.iload_n 1, 1) := by decide +kernel
theorem dX7_ice_47 : decode cX7_ice 47 = .ok (.iastore, 1) := by decide +kernel
theorem dX7_ice_48 : decode cX7_ice 48 = .ok (.aload_n 0, 1) := by decide +kernel
theorem dX7_ice_49 : decode cX7_ice 49 = .ok (.getfield 34, 3) := by decide +kernel
theorem dX7_ice_52 : decode cX7_ice 52 = .ok (.aload_n 0, 1) := by decide +kernel
theorem dX7_ice_53 : decode cX7_ice 53 = .ok (.getfield 120, 3) := by decide +kernel
theorem dX7_ice_56 : decode cX7_ice 56 = .ok (.iload_n 2, 1) := by decide +kernel
theorem dX7_ice_57 : decode cX7_ice 57 = .ok (.iastore, 1) := by decide +kernel
theorem dX7_ice_58 : decode cX7_ice 58 = .ok (.aload_n 0, 1) := by decide +kernel
theorem dX7_ice_59 : decode cX7_ice 59 = .ok (.dup, 1) := by decide +kernel
theorem dX7_ice_60 : decode cX7_ice 60 = .ok (.getfield 120, 3) := by decide +kernel
theorem dX7_ice_63 : decode cX7_ice 63 = .ok (.iconst 1, 1) := by decide +kernel
theorem dX7_ice_64 : decode cX7_ice 64 = .ok (.iadd, 1) := by decide +kernel
theorem dX7_ice_65 : decode cX7_ice 65 = .ok (.putfield 120, 3) := by decide +kernel
theorem dX7_ice_68 : decode cX7_ice 68 = .ok (.iconst 1, 1) := by decide +kernel
theorem dX7_ice_69 : decode cX7_ice 69 = .ok (.ireturn, 1) := by decide +kernel
theorem dX7_isIce_0 : decode cX7_isIce 0 = .ok (.iconst 0, 1) := by decide +kernel
theorem dX7_isIce_1 : decode cX7_isIce 1 = .ok (.istore_n 2, 1) := by decide +kernel
theorem dX7_isIce_2 : decode cX7_isIce 2 = .ok (.iload_n 2, 1) := by decide +kernel
theorem dX7_isIce_3 : decode cX7_isIce 3 = .ok (.aload_n 0, 1) := by decide +kernel
theorem dX7_isIce_4 : decode cX7_isIce 4 = .ok (.getfield 120, 3) := by decide +kernel
theorem dX7_isIce_7 : decode cX7_isIce 7 = .ok (.if_icmp .ge 31, 3) := by decide +kernel
theorem dX7_isIce_10 : decode cX7_isIce 10 = .ok (.iload_n 1, 1) := by decide +kernel
theorem dX7_isIce_11 : decode cX7_isIce 11 = .ok (.aload_n 0, 1) := by decide +kernel
theorem dX7_isIce_12 : decode cX7_isIce 12 = .ok (.getfield 31, 3) := by decide +kernel
theorem dX7_isIce_15 : decode cX7_isIce 15 = .ok (.iload_n 2, 1) := by decide +kernel
theorem dX7_isIce_16 : decode cX7_isIce 16 = .ok (.iaload, 1) := by decide +kernel
theorem dX7_isIce_17 : decode cX7_isIce 17 = .ok (.if_icmp .lt 15, 3) := by decide +kernel
theorem dX7_isIce_20 : decode cX7_isIce 20 = .ok (.iload_n 1, 1) := by decide +kernel
theorem dX7_isIce_21 : decode cX7_isIce 21 = .ok (.aload_n 0, 1) := by decide +kernel
theorem dX7_isIce_22 : decode cX7_isIce 22 = .ok (.getfield 34, 3) := by decide +kernel
theorem dX7_isIce_25 : decode cX7_isIce 25 = .ok (.iload_n 2, 1) := by decide +kernel
theorem dX7_isIce_26 : decode cX7_isIce 26 = .ok (.iaload, 1) := by decide +kernel
theorem dX7_isIce_27 : decode cX7_isIce 27 = .ok (.if_icmp .ge 5, 3) := by decide +kernel
theorem dX7_isIce_30 : decode cX7_isIce 30 = .ok (.iconst 1, 1) := by decide +kernel
theorem dX7_isIce_31 : decode cX7_isIce 31 = .ok (.ireturn, 1) := by decide +kernel
theorem dX7_isIce_32 : decode cX7_isIce 32 = .ok (.iinc 2 1, 3) := by decide +kernel
theorem dX7_isIce_35 : decode cX7_isIce 35 = .ok (.goto (-33), 3) := by decide +kernel
theorem dX7_isIce_38 : decode cX7_isIce 38 = .ok (.iconst 0, 1) := by decide +kernel
theorem dX7_isIce_39 : decode cX7_isIce 39 = .ok (.ireturn, 1) := by decide +kernel
set_option maxRecDepth 20000 in
theorem ggX7_lasts_X7_isIce : GoodIn wsX7_lasts wsX7_isIce := goodIn_r _ [6, 7, 8, 9, 10, 11, 12, 13, 14, 15, 16, 17, 18, 19, 20, 21, 22, 23, 24, 25, 26, 27, 28, 29, 30, 31, 32, 33, 34, 35, 36, 37, 38, 39, 40, 41, 42, 43, 44, 45] (by decide +kernel) (by decide +kernel)
set_option maxRecDepth 20000 in
theorem gX7_lasts_X7_isIce : GoodIn wsX7_lasts (wsV RX7 123 RX7 yX7_isIce wsX7_isIce) := goodIn_app (goodIn_of _ (by decide +kernel)) ggX7_lasts_X7_isIce
theorem dX7_lasts_0 : decode cX7_lasts 0 = .ok (.aload_n 0, 1) := by decide +kernel
theorem dX7_lasts_1 : decode cX7_lasts 1 = .ok (.getfield 17, 3) := by decide +kernel
theorem dX7_lasts_4 : decode cX7_lasts 4 = .ok (.iconst 0, 1) := by decide +kernel
theorem dX7_lasts_5 : decode cX7_lasts 5 = .ok (.iaload, 1) := by decide +kernel
theorem dX7_lasts_6 : decode cX7_lasts 6 = .ok (.iconst 2, 1) := by decide +kernel
theorem dX7_lasts_7 : decode cX7_lasts 7 = .ok (.aload_n 0, 1) := by decide +kernel
theorem dX7_lasts_8 : decode cX7_lasts 8 = .ok (.getfield 17, 3) := by decide +kernel
theorem dX7_lasts_11 : decode cX7_lasts 11 = .ok (.iconst 1, 1) := by decide +kernel
theorem dX7_lasts_12 : decode cX7_lasts 12 = .ok (.iaload, 1) := by decide +kernel
theorem dX7_lasts_13 : decode cX7_lasts 13 = .ok (.imul, 1) := by decide +kernel
theorem dX7_lasts_14 : decode cX7_lasts 14 = .ok (.iadd, 1) := by decide +kernel
theorem dX7_lasts_15 : decode cX7_lasts 15 = .ok (.aload_n 0, 1) := by decide +kernel
theorem dX7_lasts_16 : decode cX7_lasts 16 = .ok (.iload_n 1, 1) := by decide +kernel
theorem dX7_lasts_17 : decode cX7_lasts 17 = .ok (.invokevirtual 123, 3) := by decide +kernel
theorem dX7_lasts_20 : decode cX7_lasts 20 = .ok (.ifCond .eq 12, 3) := by decide +kernel
theorem dX7_lasts_23 : decode cX7_lasts 23 = .ok (.aload_n 0, 1) := by decide +kernel
theorem dX7_lasts_24 : decode cX7_lasts 24 = .ok (.getfield 17, 3) := by decide +kernel
theorem dX7_lasts_27 : decode cX7_lasts 27 = .ok (.iconst 2, 1) := by decide +kernel
theorem dX7_lasts_28 : decode cX7_lasts 28 = .ok (.iaload, 1) := by decide +kernel
theorem dX7_lasts_29 : decode cX7_lasts 29 = .ok (.goto 4, 3) := by decide +kernel
theorem dX7_lasts_32 : decode cX7_lasts 32 = .ok (.iconst 0, 1) := by decide +kernel
theorem dX7_lasts_33 : decode cX7_lasts 33 = .ok (.iadd, 1) := by decide +kernel
theorem dX7_lasts_34 : decode cX7_lasts 34 = .ok (.ireturn, 1) := by decide +kernel
set_option maxRecDepth 20000 in
theorem ggX7_boat_X7_isSide : GoodIn wsX7_boat wsX7_isSide := goodIn_r _ [12, 13, 14, 11, 15] (by decide +kernel) (by decide +kernel)
set_option maxRecDepth 20000 in
theorem gX7_boat_X7_isSide : GoodIn wsX7_boat (va_wsS RX7 114 yX7_isSide wsX7_isSide) := goodIn_app (goodIn_of _ (by decide +kernel)) ggX7_boat_X7_isSide
set_option maxRecDepth 20000 in
theorem ggX7_boat_X7_lies : GoodIn wsX7_boat wsX7_lies := goodIn_r _ [15] (by decide +kernel) (by decide +kernel)
set_option maxRecDepth 20000 in
theorem gX7_boat_X7_lies : GoodIn wsX7_boat (va_wsS RX7 95 yX7_lies wsX7_lies) := goodIn_app (goodIn_of _ (by decide +kernel)) ggX7_boat_X7_lies
theorem dX7_boat_0 : decode cX7_boat 0 = .ok (.iload_n 1, 1) := by decide +kernel
theorem dX7_boat_1 : decode cX7_boat 1 = .ok (.invokestatic 114, 3) := by decide +kernel
theorem dX7_boat_4 : decode cX7_boat 4 = .ok (.ifCond .eq 66, 3) := by decide +kernel
theorem dX7_boat_7 : decode cX7_boat 7 = .ok (.iload_n 2, 1) := by decide +kernel
theorem dX7_boat_8 : decode cX7_boat 8 = .ok (.iconst 0, 1) := by decide +kernel
theorem dX7_boat_9 : decode cX7_boat 9 = .ok (.sipush 20000, 3) := by decide +kernel
theorem dX7_boat_12 : decode cX7_boat 12 = .ok (.invokestatic 95, 3) := by decide +kernel
theorem dX7_boat_15 : decode cX7_boat 15 = .ok (.ifCond .eq 55, 3) := by decide +kernel
theorem dX7_boat_18 : decode cX7_boat 18 = .ok (.iload_n 3, 1) := by decide +kernel
theorem dX7_boat_19 : decode cX7_boat 19 = .ok (.iconst 1, 1) := by decide +kernel
theorem dX7_boat_20 : decode cX7_boat 20 = .ok (.bipush 100, 2) := by decide +kernel
theorem dX7_boat_22 : decode cX7_boat 22 = .ok (.invokestatic 95, 3) := by decide +kernel
theorem dX7_boat_25 : decode cX7_boat 25 = .ok (.ifCond .eq 45, 3) := by decide +kernel
theorem dX7_boat_28 : decode cX7_boat 28 = .ok (.iload 4, 2) := by decide +kernel
theorem dX7_boat_30 : decode cX7_boat 30 = .ok (.iconst 1, 1) := by decide +kernel
theorem dX7_boat_31 : decode cX7_boat 31 = .ok (.bipush 40, 2) := by decide +kernel
theorem dX7_boat_33 : decode cX7_boat 33 = .ok (.invokestatic 95, 3) := by decide +kernel
theorem dX7_boat_36 : decode cX7_boat 36 = .ok (.ifCond .eq 34, 3) := by decide +kernel
theorem dX7_boat_39 : decode cX7_boat 39 = .ok (.iload 5, 2) := by decide +kernel
theorem dX7_boat_41 : decode cX7_boat 41 = .ok (.iconst 1, 1) := by decide +kernel
theorem dX7_boat_42 : decode cX7_boat 42 = .ok (.sipush 2000, 3) := by decide +kernel
theorem dX7_boat_45 : decode cX7_boat 45 = .ok (.invokestatic 95, 3) := by decide +kernel
theorem dX7_boat_48 : decode cX7_boat 48 = .ok (.ifCond .eq 22, 3) := by decide +kernel
theorem dX7_boat_51 : decode cX7_boat 51 = .ok (.iload 6, 2) := by decide +kernel
theorem dX7_boat_53 : decode cX7_boat 53 = .ok (.iconst 0, 1) := by decide +kernel
theorem dX7_boat_54 : decode cX7_boat 54 = .ok (.iconst 3, 1) := by decide +kernel
theorem dX7_boat_55 : decode cX7_boat 55 = .ok (.invokestatic 95, 3) := by decide +kernel
theorem dX7_boat_58 : decode cX7_boat 58 = .ok (.ifCond .eq 12, 3) := by decide +kernel
theorem dX7_boat_61 : decode cX7_boat 61 = .ok (.aload_n 0, 1) := by decide +kernel
theorem dX7_boat_62 : decode cX7_boat 62 = .ok (.getfield 126, 3) := by decide +kernel
theorem dX7_boat_65 : decode cX7_boat 65 = .ok (.bipush 16, 2) := by decide +kernel
theorem dX7_boat_67 : decode cX7_boat 67 = .ok (.if_icmp .ne 5, 3) := by decide +kernel
theorem dX7_boat_70 : decode cX7_boat 70 = .ok (.iconst (-1), 1) := by decide +kernel
theorem dX7_boat_71 : decode cX7_boat 71 = .ok (.ireturn, 1) := by decide +kernel
theorem dX7_boat_72 : decode cX7_boat 72 = .ok (.aload_n 0, 1) := by decide +kernel
theorem dX7_boat_73 : decode cX7_boat 73 = .ok (.getfield 37, 3) := by decide +kernel
theorem dX7_boat_76 : decode cX7_boat 76 = .ok (.aload_n 0, 1) := by decide +kernel
theorem dX7_boat_77 : decode cX7_boat 77 = .ok (.getfield 126, 3) := by decide +kernel
theorem dX7_boat_80 : decode cX7_boat 80 = .ok (.iload_n 1, 1) := by decide +kernel
theorem dX7_boat_81 : decode cX7_boat 81 = .ok (.iastore, 1) := by decide +kernel
theorem dX7_boat_82 : decode cX7_boat 82 = .ok (.aload_n 0, 1) := by decide +kernel
theorem dX7_boat_83 : decode cX7_boat 83 = .ok (.getfield 40, 3) := by decide +kernel
theorem dX7_boat_86 : decode cX7_boat 86 = .ok (.aload_n 0, 1) := by decide +kernel
theorem dX7_boat_87 : decode cX7_boat 87 = .ok (.getfield 126, 3) := by decide +kernel
theorem dX7_boat_90 : decode cX7_boat 90 = .ok (.iload_n 2, 1) := by decide +kernel
theorem dX7_boat_91 : decode cX7_boat 91 = .ok (.iastore, 1) := by decide +kernel
theorem dX7_boat_92 : decode cX7_boat 92 = .ok (.aload_n 0, 1) := by decide +kernel
theorem dX7_boat_93 : decode cX7_boat 93 = .ok (.getfield 43, 3) := by decide +kernel
theorem dX7_boat_96 : decode cX7_boat 96 = .ok (.aload_n 0, 1) := by decide +kernel
theorem dX7_boat_97 : decode cX7_boat 97 = .ok (.getfield 126, 3) := by decide +kernel
theorem dX7_boat_100 : decode cX7_boat 100 = .ok (.iload_n 3, 1) := by decide +kernel
theorem dX7_boat_101 : decode cX7_boat 101 = .ok (.iastore, 1) := by decide +kernel
theorem dX7_boat_102 : decode cX7_boat 102 = .ok (.aload_n 0, 1) := by decide +kernel
theorem dX7_boat_103 : decode cX7_boat 103 = .ok (.getfield 46, 3) := by decide +kernel
theorem dX7_boat_106 : decode cX7_boat 106 = .ok (.aload_n 0, 1) := by decide +kernel
theorem dX7_boat_107 : decode cX7_boat 107 = .ok (.getfield 126, 3) := by decide +kernel
theorem dX7_boat_110 : decode cX7_boat 110 = .ok (.iload 4, 2) := by decide +kernel
theorem dX7_boat_112 : decode cX7_boat 112 = .ok (.iastore, 1) := by decide +kernel
theorem dX7_boat_113 : decode cX7_boat 113 = .ok (.aload_n 0, 1) := by decide +kernel
theorem dX7_boat_114 : decode cX7_boat 114 = .ok (.getfield 49, 3) := by decide +kernel
theorem dX7_boat_117 : decode cX7_boat 117 = .ok (.aload_n 0, 1) := by decide +kernel
theorem dX7_boat_118 : decode cX7_boat 118 = .ok (.getfield 126, 3) := by decide +kernel
theorem dX7_boat_121 : decode cX7_boat 121 = .ok (.iload 5, 2) := by decide +kernel
theorem dX7_boat_123 : decode cX7_boat 123 = .ok (.iastore, 1) := by decide +kernel
theorem dX7_boat_124 : decode cX7_boat 124 = .ok (.aload_n 0, 1) := by decide +kernel
theorem dX7_boat_125 : decode cX7_boat 125 = .ok (.getfield 52, 3) := by decide +kernel
theorem dX7_boat_128 : decode cX7_boat 128 = .ok (.aload_n 0, 1) := by decide +kernel
theorem dX7_boat_129 : decode cX7_boat 129 = .ok (.getfield 126, 3) := by decide +kernel
theorem dX7_boat_132 : decode cX7_boat 132 = .ok (.iload 6, 2) := by decide +kernel
theorem dX7_boat_134 : decode cX7_boat 134 = .ok (.iastore, 1) := by decide +kernel
theorem dX7_boat_135 : decode cX7_boat 135 = .ok (.aload_n 0, 1) := by decide +kernel
theorem dX7_boat_136 : decode cX7_boat 136 = .ok (.getfield 55, 3) := by decide +kernel
theorem dX7_boat_139 : decode cX7_boat 139 = .ok (.aload_n 0, 1) := by decide +kernel
theorem dX7_boat_140 : decode cX7_boat 140 = .ok (.getfield 126, 3) := by decide +kernel
theorem dX7_boat_143 : decode cX7_boat 143 = .ok (.iconst (-1), 1) := by decide +kernel
theorem dX7_boat_144 : decode cX7_boat 144 = .ok (.iastore, 1) := by decide +kernel
theorem dX7_boat_145 : decode cX7_boat 145 = .ok (.aload_n 0, 1) := by decide +kernel
theorem dX7_boat_146 : decode cX7_boat 146 = .ok (.dup, 1) := by decide +kernel
theorem dX7_boat_147 : decode cX7_boat 147 = .ok (.getfield 126, 3) := by decide +kernel
theorem dX7_boat_150 : decode cX7_boat 150 = .ok (.iconst 1, 1) := by decide +kernel
theorem dX7_boat_151 : decode cX7_boat 151 = .ok (.iadd, 1) := by decide +kernel
theorem dX7_boat_152 : decode cX7_boat 152 = .ok (.putfield 126, 3) := by decide +kernel
theorem dX7_boat_155 : decode cX7_boat 155 = .ok (.aload_n 0, 1) := by decide +kernel
theorem dX7_boat_156 : decode cX7_boat 156 = .ok (.getfield 126, 3) := by decide +kernel
theorem dX7_boat_159 : decode cX7_boat 159 = .ok (.iconst 1, 1) := by decide +kernel
theorem dX7_boat_160 : decode cX7_boat 160 = .ok (.isub, 1) := by decide +kernel
theorem dX7_boat_161 : decode cX7_boat 161 = .ok (.ireturn, 1) := by decide +kernel
theorem dX7_down_0 : decode cX7_down 0 = .ok (.lload_n 0, 1) := by decide +kernel
theorem dX7_down_1 : decode cX7_down 1 = .ok (.lconst 0, 1) := by decide +kernel
theorem dX7_down_2 : decode cX7_down 2 = .ok (.lcmp, 1) := by decide +kernel
theorem dX7_down_3 : decode cX7_down 3 = .ok (.ifCond .ge 15, 3) := by decide +kernel
theorem dX7_down_6 : decode cX7_down 6 = .ok (.lload_n 0, 1) := by decide +kernel
theorem dX7_down_7 : decode cX7_down 7 = .ok (.lneg, 1) := by decide +kernel
theorem dX7_down_8 : decode cX7_down 8 = .ok (.lload_n 2, 1) := by decide +kernel
theorem dX7_down_9 : decode cX7_down 9 = .ok (.ladd, 1) := by decide +kernel
theorem dX7_down_10 : decode cX7_down 10 = .ok (.lconst 1, 1) := by decide +kernel
theorem dX7_down_11 : decode cX7_down 11 = .ok (.lsub, 1) := by decide +kernel
theorem dX7_down_12 : decode cX7_down 12 = .ok (.lload_n 2, 1) := by decide +kernel
theorem dX7_down_13 : decode cX7_down 13 = .ok (.ldiv, 1) := by decide +kernel
theorem dX7_down_14 : decode cX7_down 14 = .ok (.lneg, 1) := by decide +kernel
theorem dX7_down_15 : decode cX7_down 15 = .ok (.goto 6, 3) := by decide +kernel
theorem dX7_down_18 : decode cX7_down 18 = .ok (.lload_n 0, 1) := by decide +kernel
theorem dX7_down_19 : decode cX7_down 19 = .ok (.lload_n 2, 1) := by decide +kernel
theorem dX7_down_20 : decode cX7_down 20 = .ok (.ldiv, 1) := by decide +kernel
theorem dX7_down_21 : decode cX7_down 21 = .ok (.lreturn, 1) := by decide +kernel
set_option maxRecDepth 20000 in
theorem ggX7_levelOf_X7_down : GoodIn wsX7_levelOf wsX7_down := goodIn_r _ [6] (by decide +kernel) (by decide +kernel)
set_option maxRecDepth 20000 in
theorem gX7_levelOf_X7_down : GoodIn wsX7_levelOf (va_wsS RX7 129 yX7_down wsX7_down) := goodIn_app (goodIn_of _ (by decide +kernel)) ggX7_levelOf_X7_down
theorem dX7_levelOf_0 : decode cX7_levelOf 0 = .ok (.aload_n 0, 1) := by decide +kernel
theorem dX7_levelOf_1 : decode cX7_levelOf 1 = .ok (.getfield 27, 3) := by decide +kernel
theorem dX7_levelOf_4 : decode cX7_levelOf 4 = .ok (.iload_n 1, 1) := by decide +kernel
theorem dX7_levelOf_5 : decode cX7_levelOf 5 = .ok (.laload, 1) := by decide +kernel
theorem dX7_levelOf_6 : decode cX7_levelOf 6 = .ok (.aload_n 0, 1) := by decide +kernel
theorem dX7_levelOf_7 : decode cX7_levelOf 7 = .ok (.getfield 24, 3) := by decide +kernel
theorem dX7_levelOf_10 : decode cX7_levelOf 10 = .ok (.iload_n 1, 1) := by decide +kernel
theorem dX7_levelOf_11 : decode cX7_levelOf 11 = .ok (.iaload, 1) := by decide +kernel
theorem dX7_levelOf_12 : decode cX7_levelOf 12 = .ok (.i2l, 1) := by decide +kernel
theorem dX7_levelOf_13 : decode cX7_levelOf 13 = .ok (.invokestatic 129, 3) := by decide +kernel
theorem dX7_levelOf_16 : decode cX7_levelOf 16 = .ok (.l2i, 1) := by decide +kernel
theorem dX7_levelOf_17 : decode cX7_levelOf 17 = .ok (.ireturn, 1) := by decide +kernel
set_option maxRecDepth 20000 in
theorem ggX7_depthOf_X7_levelOf : GoodIn wsX7_depthOf wsX7_levelOf := goodIn_r _ [6, 7, 8, 9, 10, 5, 11, 12, 13, 14, 15, 16, 17, 18, 19, 20, 21, 22, 23, 24, 25, 26, 27, 28, 29, 30, 31, 32, 33, 34, 35, 36, 37, 38, 39, 40, 41, 42, 43, 44, 45, 46, 47] (by decide +kernel) (by decide +kernel)
set_option maxRecDepth 20000 in
theorem gX7_depthOf_X7_levelOf : GoodIn wsX7_depthOf (wsV RX7 133 RX7 yX7_levelOf wsX7_levelOf) := goodIn_app (goodIn_of _ (by decide +kernel)) ggX7_depthOf_X7_levelOf
set_option maxRecDepth 20000 in
theorem ggX7_depthOf_X7_down : GoodIn wsX7_depthOf wsX7_down := goodIn_r _ [11] (by decide +kernel) (by decide +kernel)
set_option maxRecDepth 20000 in
theorem gX7_depthOf_X7_down : GoodIn wsX7_depthOf (va_wsS RX7 129 yX7_down wsX7_down) := goodIn_app (goodIn_of _ (by decide +kernel)) ggX7_depthOf_X7_down
theorem dX7_depthOf_0 : decode cX7_depthOf 0 = .ok (.bipush 30, 2) := by decide +kernel
theorem dX7_depthOf_2 : decode cX7_depthOf 2 = .ok (.aload_n 0, 1) := by decide +kernel
theorem dX7_depthOf_3 : decode cX7_depthOf 3 = .ok (.iload_n 1, 1) := by decide +kernel
theorem dX7_depthOf_4 : decode cX7_depthOf 4 = .ok (.invokevirtual 133, 3) := by decide +kernel
theorem dX7_depthOf_7 : decode cX7_depthOf 7 = .ok (.i2l, 1) := by decide +kernel
theorem dX7_depthOf_8 : decode cX7_depthOf 8 = .ok (.ldc2_w 136, 3) := by decide +kernel
theorem dX7_depthOf_11 : decode cX7_depthOf 11 = .ok (.invokestatic 129, 3) := by decide +kernel
theorem dX7_depthOf_14 : decode cX7_depthOf 14 = .ok (.l2i, 1) := by decide +kernel
theorem dX7_depthOf_15 : decode cX7_depthOf 15 = .ok (.iadd, 1) := by decide +kernel
theorem dX7_depthOf_16 : decode cX7_depthOf 16 = .ok (.ireturn, 1) := by decide +kernel
set_option maxRecDepth 20000 in
theorem ggX7_isFit_X7_depthOf : GoodIn wsX7_isFit wsX7_depthOf := goodIn_r _ [9, 10, 11, 12, 13, 8, 14, 15, 16, 17, 18, 19, 20, 21, 22, 23, 24, 25, 26, 27, 28, 29, 30, 31, 32, 33, 34, 35, 36, 37, 38, 39, 40, 41, 42, 43, 44, 45, 46, 47, 48, 49, 50, 51, 52, 53, 54, 55] (by decide +kernel) (by decide +kernel)
set_option maxRecDepth 20000 in
theorem gX7_isFit_X7_depthOf : GoodIn wsX7_isFit (wsV RX7 138 RX7 yX7_depthOf wsX7_depthOf) := goodIn_app (goodIn_of _ (by decide +kernel)) ggX7_isFit_X7_depthOf
theorem dX7_isFit_0 : decode cX7_isFit 0 = .ok (.aload_n 0, 1) := by decide +kernel
theorem dX7_isFit_1 : decode cX7_isFit 1 = .ok (.getfield 43, 3) := by decide +kernel
theorem dX7_isFit_4 : decode cX7_isFit 4 = .ok (.iload_n 1, 1) := by decide +kernel
theorem dX7_isFit_5 : decode cX7_isFit 5 = .ok (.iaload, 1) := by decide +kernel
theorem dX7_isFit_6 : decode cX7_isFit 6 = .ok (.aload_n 0, 1) := by decide +kernel
theorem dX7_isFit_7 : decode cX7_isFit 7 = .ok (.getfield 13, 3) := by decide +kernel
theorem dX7_isFit_10 : decode cX7_isFit 10 = .ok (.if_icmp .gt 49, 3) := by decide +kernel
theorem dX7_isFit_13 : decode cX7_isFit 13 = .ok (.aload_n 0, 1) := by decide +kernel
theorem dX7_isFit_14 : decode cX7_isFit 14 = .ok (.getfield 46, 3) := by decide +kernel
theorem dX7_isFit_17 : decode cX7_isFit 17 = .ok (.iload_n 1, 1) := by decide +kernel
theorem dX7_isFit_18 : decode cX7_isFit 18 = .ok (.iaload, 1) := by decide +kernel
theorem dX7_isFit_19 : decode cX7_isFit 19 = .ok (.aload_n 0, 1) := by decide +kernel
theorem dX7_isFit_20 : decode cX7_isFit 20 = .ok (.getfield 17, 3) := by decide +kernel
theorem dX7_isFit_23 : decode cX7_isFit 23 = .ok (.iconst 3, 1) := by decide +kernel
theorem dX7_isFit_24 : decode cX7_isFit 24 = .ok (.iaload, 1) := by decide +kernel
theorem dX7_isFit_25 : decode cX7_isFit 25 = .ok (.iadd, 1) := by decide +kernel
theorem dX7_isFit_26 : decode cX7_isFit 26 = .ok (.aload_n 0, 1) := by decide +kernel
theorem dX7_isFit_27 : decode cX7_isFit 27 = .ok (.iconst 0, 1) := by decide +kernel
theorem dX7_isFit_28 : decode cX7_isFit 28 = .ok (.invokevirtual 138, 3) := by decide +kernel
theorem dX7_isFit_31 : decode cX7_isFit 31 = .ok (.if_icmp .gt 28, 3) := by decide +kernel
theorem dX7_isFit_34 : decode cX7_isFit 34 = .ok (.aload_n 0, 1) := by decide +kernel
theorem dX7_isFit_35 : decode cX7_isFit 35 = .ok (.getfield 46, 3) := by decide +kernel
theorem dX7_isFit_38 : decode cX7_isFit 38 = .ok (.iload_n 1, 1) := by decide +kernel
theorem dX7_isFit_39 : decode cX7_isFit 39 = .ok (.iaload, 1) := by decide +kernel
theorem dX7_isFit_40 : decode cX7_isFit 40 = .ok (.aload_n 0, 1) := by decide +kernel
theorem dX7_isFit_41 : decode cX7_isFit 41 = .ok (.getfield 17, 3) := by decide +kernel
theorem dX7_isFit_44 : decode cX7_isFit 44 = .ok (.iconst 3, 1) := by decide +kernel
theorem dX7_isFit_45 : decode cX7_isFit 45 = .ok (.iaload, 1) := by decide +kernel
theorem dX7_isFit_46 : decode cX7_isFit 46 = .ok (.iadd, 1) := by decide +kernel
theorem dX7_isFit_47 : decode cX7_isFit 47 = .ok (.aload_n 0, 1) := by decide +kernel
theorem dX7_isFit_48 : decode cX7_isFit 48 = .ok (.iconst 1, 1) := by decide +kernel
theorem dX7_isFit_49 : decode cX7_isFit 49 = .ok (.invokevirtual 138, 3) := by decide +kernel
theorem dX7_isFit_52 : decode cX7_isFit 52 = .ok (.if_icmp .gt 7, 3) := by decide +kernel
theorem dX7_isFit_55 : decode cX7_isFit 55 = .ok (.iconst 1, 1) := by decide +kernel
theorem dX7_isFit_56 : decode cX7_isFit 56 = .ok (.goto 4, 3) := by decide +kernel
theorem dX7_isFit_59 : decode cX7_isFit 59 = .ok (.iconst 0, 1) := by decide +kernel
theorem dX7_isFit_60 : decode cX7_isFit 60 = .ok (.ireturn, 1) := by decide +kernel
set_option maxRecDepth 20000 in
theorem ggX7_isLeft_X7_isFit : GoodIn wsX7_isLeft wsX7_isFit := goodIn_r _ [6, 7, 8, 9, 10, 11, 12, 13, 5, 14, 15, 16, 17, 18, 19, 20, 21, 22, 23, 24, 25, 26, 27, 28, 29, 30, 31, 32, 33, 34, 35, 36, 37, 38, 39, 40, 41, 42, 43, 44, 45, 46, 47, 48, 49, 50, 51, 52, 53, 54, 55, 56, 57, 58, 59, 60] (by decide +kernel) (by decide +kernel)
set_option maxRecDepth 20000 in
theorem gX7_isLeft_X7_isFit : GoodIn wsX7_isLeft (wsV RX7 141 RX7 yX7_isFit wsX7_isFit) := goodIn_app (goodIn_of _ (by decide +kernel)) ggX7_isLeft_X7_isFit
theorem dX7_isLeft_0 : decode cX7_isLeft 0 = .ok (.aload_n 0, 1) := by decide +kernel
theorem dX7_isLeft_1 : decode cX7_isLeft 1 = .ok (.getfield 55, 3) := by decide +kernel
theorem dX7_isLeft_4 : decode cX7_isLeft 4 = .ok (.iload_n 1, 1) := by decide +kernel
theorem dX7_isLeft_5 : decode cX7_isLeft 5 = .ok (.iaload, 1) := by decide +kernel
theorem dX7_isLeft_6 : decode cX7_isLeft 6 = .ok (.iconst (-1), 1) := by decide +kernel
theorem dX7_isLeft_7 : decode cX7_isLeft 7 = .ok (.if_icmp .ne 15, 3) := by decide +kernel
theorem dX7_isLeft_10 : decode cX7_isLeft 10 = .ok (.aload_n 0, 1) := by decide +kernel
theorem dX7_isLeft_11 : decode cX7_isLeft 11 = .ok (.iload_n 1, 1) := by decide +kernel
theorem dX7_isLeft_12 : decode cX7_isLeft 12 = .ok (.invokevirtual 141, 3) := by decide +kernel
theorem dX7_isLeft_15 : decode cX7_isLeft 15 = .ok (.ifCond .eq 7, 3) := by decide +kernel
theorem dX7_isLeft_18 : decode cX7_isLeft 18 = .ok (.iconst 1, 1) := by decide +kernel
theorem dX7_isLeft_19 : decode cX7_isLeft 19 = .ok (.goto 4, 3) := by decide +kernel
theorem dX7_isLeft_22 : decode cX7_isLeft 22 = .ok (.iconst 0, 1) := by decide +kernel
theorem dX7_isLeft_23 : decode cX7_isLeft 23 = .ok (.ireturn, 1) := by decide +kernel
theorem dX7_isAhead_0 : decode cX7_isAhead 0 = .ok (.aload_n 0, 1) := by decide +kernel
theorem dX7_isAhead_1 : decode cX7_isAhead 1 = .ok (.getfield 52, 3) := by decide +kernel
theorem dX7_isAhead_4 : decode cX7_isAhead 4 = .ok (.iload_n 1, 1) := by decide +kernel
theorem dX7_isAhead_5 : decode cX7_isAhead 5 = .ok (.iaload, 1) := by decide +kernel
theorem dX7_isAhead_6 : decode cX7_isAhead 6 = .ok (.aload_n 0, 1) := by decide +kernel
theorem dX7_isAhead_7 : decode cX7_isAhead 7 = .ok (.getfield 52, 3) := by decide +kernel
theorem dX7_isAhead_10 : decode cX7_isAhead 10 = .ok (.iload_n 2, 1) := by decide +kernel
theorem dX7_isAhead_11 : decode cX7_isAhead 11 = .ok (.iaload, 1) := by decide +kernel
theorem dX7_isAhead_12 : decode cX7_isAhead 12 = .ok (.if_icmp .eq 24, 3) := by decide +kernel
theorem dX7_isAhead_15 : decode cX7_isAhead 15 = .ok (.aload_n 0, 1) := by decide +kernel
theorem dX7_isAhead_16 : decode cX7_isAhead 16 = .ok (.getfield 52, 3) := by decide +kernel
theorem dX7_isAhead_19 : decode cX7_isAhead 19 = .ok (.iload_n 1, 1) := by decide +kernel
theorem dX7_isAhead_20 : decode cX7_isAhead 20 = .ok (.iaload, 1) := by decide +kernel
theorem dX7_isAhead_21 : decode cX7_isAhead 21 = .ok (.aload_n 0, 1) := by decide +kernel
theorem dX7_isAhead_22 : decode cX7_isAhead 22 = .ok (.getfield 52, 3) := by decide +kernel
theorem dX7_isAhead_25 : decode cX7_isAhead 25 = .ok (.iload_n 2, 1) := by decide +kernel
theorem dX7_isAhead_26 : decode cX7_isAhead 26 = .ok (.iaload, 1) := by decide +kernel
theorem dX7_isAhead_27 : decode cX7_isAhead 27 = .ok (.if_icmp .ge 7, 3) := by decide +kernel
theorem dX7_isAhead_30 : decode cX7_isAhead 30 = .ok (.iconst 1, 1) := by decide +kernel
theorem dX7_isAhead_31 : decode cX7_isAhead 31 = .ok (.goto 4, 3) := by decide +kernel
theorem dX7_isAhead_34 : decode cX7_isAhead 34 = .ok (.iconst 0, 1) := by decide +kernel
theorem dX7_isAhead_35 : decode cX7_isAhead 35 = .ok (.ireturn, 1) := by decide +kernel
theorem dX7_isAhead_36 : decode cX7_isAhead 36 = .ok (.aload_n 0, 1) := by decide +kernel
theorem dX7_isAhead_37 : decode cX7_isAhead 37 = .ok (.getfield 40, 3) := by decide +kernel
theorem dX7_isAhead_40 : decode cX7_isAhead 40 = .ok (.iload_n 1, 1) := by decide +kernel
theorem dX7_isAhead_41 : decode cX7_isAhead 41 = .ok (.iaload, 1) := by decide +kernel
theorem dX7_isAhead_42 : decode cX7_isAhead 42 = .ok (.aload_n 0, 1) := by decide +kernel
theorem dX7_isAhead_43 : decode cX7_isAhead 43 = .ok (.getfield 40, 3) := by decide +kernel
theorem dX7_isAhead_46 : decode cX7_isAhead 46 = .ok (.iload_n 2, 1) := by decide +kernel
theorem dX7_isAhead_47 : decode cX7_isAhead 47 = .ok (.iaload, 1) := by decide +kernel
theorem dX7_isAhead_48 : decode cX7_isAhead 48 = .ok (.if_icmp .eq 26, 3) := by decide +kernel
theorem dX7_isAhead_51 : decode cX7_isAhead 51 = .ok (.aload_n 0, 1) := by decide +kernel
theorem dX7_isAhead_52 : decode cX7_isAhead 52 = .ok (.getfield 40, 3) := by decide +kernel
theorem dX7_isAhead_55 : decode cX7_isAhead 55 = .ok (.iload_n 1, 1) := by decide +kernel
theorem dX7_isAhead_56 : decode cX7_isAhead 56 = .ok (.iaload, 1) := by decide +kernel
theorem dX7_isAhead_57 : decode cX7_isAhead 57 = .ok (.aload_n 0, 1) := by decide +kernel
theorem dX7_isAhead_58 : decode cX7_isAhead 58 = .ok (.getfield 40, 3) := by decide +kernel
theorem dX7_isAhead_61 : decode cX7_isAhead 61 = .ok (.iload_n 2, 1) := by decide +kernel
theorem dX7_isAhead_62 : decode cX7_isAhead 62 = .ok (.iaload, 1) := by decide +kernel
theorem dX7_isAhead_63 : decode cX7_isAhead 63 = .ok (.if_icmp .ge 7, 3) := by decide +kernel
theorem dX7_isAhead_66 : decode cX7_isAhead 66 = .ok (.iconst 1, 1) := by decide +kernel
theorem dX7_isAhead_67 : decode cX7_isAhead 67 = .ok (.goto 17, 3) := by decide +kernel
theorem dX7_isAhead_70 : decode cX7_isAhead 70 = .ok (.iconst 0, 1) := by decide +kernel
theorem dX7_isAhead_71 : decode cX7_isAhead 71 = .ok (.goto 13, 3) := by decide +kernel
theorem dX7_isAhead_74 : decode cX7_isAhead 74 = .ok (.iload_n 1, 1) := by decide +kernel
theorem dX7_isAhead_75 : decode cX7_isAhead 75 = .ok (.iload_n 2, 1) := by decide +kernel
theorem dX7_isAhead_76 : decode cX7_isAhead 76 = .ok (.if_icmp .ge 7, 3) := by decide +kernel
theorem dX7_isAhead_79 : decode cX7_isAhead 79 = .ok (.iconst 1, 1) := by decide +kernel
theorem dX7_isAhead_80 : decode cX7_isAhead 80 = .ok (.goto 4, 3) := by decide +kernel
theorem dX7_isAhead_83 : decode cX7_isAhead 83 = .ok (.iconst 0, 1) := by decide +kernel
theorem dX7_isAhead_84 : decode cX7_isAhead 84 = .ok (.ireturn, 1) := by decide +kernel
set_option maxRecDepth 20000 in
theorem ggX7_queues_X7_isLeft : GoodIn wsX7_queues wsX7_isLeft := goodIn_r _ [10, 11, 12, 13, 14, 9, 15, 16, 17, 18, 19, 20, 21, 22, 23, 24, 25, 26, 27, 28, 29, 30, 31, 32, 33, 39, 40, 41, 42, 43, 44, 45, 46, 47, 48, 49, 50, 51, 52, 53, 54, 55, 56, 57, 58, 59, 60, 61, 62, 63, 64, 65, 66, 67, 68, 69, 70, 71, 72, 73, 74] (by decide +kernel) (by decide +kernel)
set_option maxRecDepth 20000 in
theorem gX7_queues_X7_isLeft : GoodIn wsX7_queues (wsV RX7 147 RX7 yX7_isLeft wsX7_isLeft) := goodIn_app (goodIn_of _ (by decide +kernel)) ggX7_queues_X7_isLeft
set_option maxRecDepth 20000 in
theorem ggX7_queues_X7_isAhead : GoodIn wsX7_queues wsX7_isAhead := goodIn_r _ [37, 38, 4, 39, 40, 41, 42, 43, 44, 45, 46, 47, 48, 49, 50, 51, 52, 53, 54, 55, 56, 57, 58, 59, 60, 61, 62, 63, 64, 65, 66, 67, 68, 69, 70, 71, 72, 73, 74] (by decide +kernel) (by decide +kernel)
set_option maxRecDepth 20000 in
theorem gX7_queues_X7_isAhead : GoodIn wsX7_queues (wsV RX7 150 RX7 yX7_isAhead wsX7_isAhead) := goodIn_app (goodIn_of _ (by decide +kernel)) ggX7_queues_X7_isAhead
theorem dX7_queues_0 : decode cX7_queues 0 = .ok (.aload_n 0, 1) := by decide +kernel
theorem dX7_queues_1 : decode cX7_queues 1 = .ok (.iconst 0, 1) := by decide +kernel
theorem dX7_queues_2 : decode cX7_queues 2 = .ok (.putfield 144, 3) := by decide +kernel
theorem dX7_queues_5 : decode cX7_queues 5 = .ok (.iconst 0, 1) := by decide +kernel
theorem dX7_queues_6 : decode cX7_queues 6 = .ok (.istore 4, 2) := by decide +kernel
theorem dX7_queues_8 : decode cX7_queues 8 = .ok (.iload 4, 2) := by decide +kernel
theorem dX7_queues_10 : decode cX7_queues 10 = .ok (.aload_n 0, 1) := by decide +kernel
theorem dX7_queues_11 : decode cX7_queues 11 = .ok (.getfield 126, 3) := by decide +kernel
theorem dX7_queues_14 : decode cX7_queues 14 = .ok (.if_icmp .ge 123, 3) := by decide +kernel
theorem dX7_queues_17 : decode cX7_queues 17 = .ok (.aload_n 0, 1) := by decide +kernel
theorem dX7_queues_18 : decode cX7_queues 18 = .ok (.getfield 37, 3) := by decide +kernel
theorem dX7_queues_21 : decode cX7_queues 21 = .ok (.iload 4, 2) := by decide +kernel
theorem dX7_queues_23 : decode cX7_queues 23 = .ok (.iaload, 1) := by decide +kernel
theorem dX7_queues_24 : decode cX7_queues 24 = .ok (.iload_n 1, 1) := by decide +kernel
theorem dX7_queues_25 : decode cX7_queues 25 = .ok (.if_icmp .ne 106, 3) := by decide +kernel
theorem dX7_queues_28 : decode cX7_queues 28 = .ok (.aload_n 0, 1) := by decide +kernel
theorem dX7_queues_29 : decode cX7_queues 29 = .ok (.getfield 40, 3) := by decide +kernel
theorem dX7_queues_32 : decode cX7_queues 32 = .ok (.iload 4, 2) := by decide +kernel
theorem dX7_queues_34 : decode cX7_queues 34 = .ok (.iaload, 1) := by decide +kernel
theorem dX7_queues_35 : decode cX7_queues 35 = .ok (.iload_n 2, 1) := by decide +kernel
theorem dX7_queues_36 : decode cX7_queues 36 = .ok (.if_icmp .gt 95, 3) := by decide +kernel
theorem dX7_queues_39 : decode cX7_queues 39 = .ok (.aload_n 0, 1) := by decide +kernel
theorem dX7_queues_40 : decode cX7_queues 40 = .ok (.iload 4, 2) := by decide +kernel
theorem dX7_queues_42 : decode cX7_queues 42 = .ok (.invokevirtual 147, 3) := by decide +kernel
theorem dX7_queues_45 : decode cX7_queues 45 = .ok (.ifCond .eq 86, 3) := by decide +kernel
theorem dX7_queues_48 : decode cX7_queues 48 = .ok (.iload_n 3, 1) := by decide +kernel
theorem dX7_queues_49 : decode cX7_queues 49 = .ok (.iload 4, 2) := by decide +kernel
theorem dX7_queues_51 : decode cX7_queues 51 = .ok (.ishr, 1) := by decide +kernel
theorem dX7_queues_52 : decode cX7_queues 52 = .ok (.iconst 1, 1) := by decide +kernel
theorem dX7_queues_53 : decode cX7_queues 53 = .ok (.iand, 1) := by decide +kernel
theorem dX7_queues_54 : decode cX7_queues 54 = .ok (.iconst 1, 1) := by decide +kernel
theorem dX7_queues_55 : decode cX7_queues 55 = .ok (.if_icmp .ne 6, 3) := by decide +kernel
theorem dX7_queues_58 : decode cX7_queues 58 = .ok (.goto 73, 3) := by decide +kernel
theorem dX7_queues_61 : decode cX7_queues 61 = .ok (.aload_n 0, 1) := by decide +kernel
theorem dX7_queues_62 : decode cX7_queues 62 = .ok (.getfield 144, 3) := by decide +kernel
theorem dX7_queues_65 : decode cX7_queues 65 = .ok (.istore 5, 2) := by decide +kernel
theorem dX7_queues_67 : decode cX7_queues 67 = .ok (.iload 5, 2) := by decide +kernel
theorem dX7_queues_69 : decode cX7_queues 69 = .ok (.ifCond .le 43, 3) := by decide +kernel
theorem dX7_queues_72 : decode cX7_queues 72 = .ok (.aload_n 0, 1) := by decide +kernel
theorem dX7_queues_73 : decode cX7_queues 73 = .ok (.iload 4, 2) := by decide +kernel
theorem dX7_queues_75 : decode cX7_queues 75 = .ok (.aload_n 0, 1) := by decide +kernel
theorem dX7_queues_76 : decode cX7_queues 76 = .ok (.getfield 58, 3) := by decide +kernel
theorem dX7_queues_79 : decode cX7_queues 79 = .ok (.iload 5, 2) := by decide +kernel
theorem dX7_queues_81 : decode cX7_queues 81 = .ok (.iconst 1, 1) := by decide +kernel
theorem dX7_queues_82 : decode cX7_queues 82 = .ok (.isub, 1) := by decide +kernel
theorem dX7_queues_83 : decode cX7_queues 83 = .ok (.iaload, 1) := by decide +kernel
theorem dX7_queues_84 : decode cX7_queues 84 = .ok (.invokevirtual 150, 3) := by decide +kernel
theorem dX7_queues_87 : decode cX7_queues 87 = .ok (.ifCond .eq 25, 3) := by decide +kernel
theorem dX7_queues_90 : decode cX7_queues 90 = .ok (.aload_n 0, 1) := by decide +kernel
theorem dX7_queues_91 : decode cX7_queues 91 = .ok (.getfield 58, 3) := by decide +kernel
theorem dX7_queues_94 : decode cX7_queues 94 = .ok (.iload 5, 2) := by decide +kernel
theorem dX7_queues_96 : decode cX7_queues 96 = .ok (.aload_n 0, 1) := by decide +kernel
theorem dX7_queues_97 : decode cX7_queues 97 = .ok (.getfield 58, 3) := by decide +kernel
theorem dX7_queues_100 : decode cX7_queues 100 = .ok (.iload 5, 2) := by decide +kernel
theorem dX7_queues_102 : decode cX7_queues 102 = .ok (.iconst 1, 1) := by decide +kernel
theorem dX7_queues_103 : decode cX7_queues 103 = .ok (.isub, 1) := by decide +kernel
theorem dX7_queues_104 : decode cX7_queues 104 = .ok (.iaload, 1) := by decide +kernel
theorem dX7_queues_105 : decode cX7_queues 105 = .ok (.iastore, 1) := by decide +kernel
theorem dX7_queues_106 : decode cX7_queues 106 = .ok (.iinc 5 (-1), 3) := by decide +kernel
end
section
theorem dX7_queues_109 : decode cX7_queues 109 = .ok (.goto (-42), 3) := by decide +kernel
theorem dX7_queues_112 : decode cX7_queues 112 = .ok (.aload_n 0, 1) := by decide +kernel
theorem dX7_queues_113 : decode cX7_queues 113 = .ok (.getfield 58, 3) := by decide +kernel
theorem dX7_queues_116 : decode cX7_queues 116 = .ok (.iload 5, 2) := by decide +kernel
theorem dX7_queues_118 : decode cX7_queues 118 = .ok (.iload 4, 2) := by decide +kernel
theorem dX7_queues_120 : decode cX7_queues 120 = .ok (.iastore, 1) := by decide +kernel
theorem dX7_queues_121 : decode cX7_queues 121 = .ok (.aload_n 0, 1) := by decide +kernel
theorem dX7_queues_122 : decode cX7_queues 122 = .ok (.dup, 1) := by decide +kernel
theorem dX7_queues_123 : decode cX7_queues 123 = .ok (.getfield 144, 3) := by decide +kernel
theorem dX7_queues_126 : decode cX7_queues 126 = .ok (.iconst 1, 1) := by decide +kernel
theorem dX7_queues_127 : decode cX7_queues 127 = .ok (.iadd, 1) := by decide +kernel
theorem dX7_queues_128 : decode cX7_queues 128 = .ok (.putfield 144, 3) := by decide +kernel
theorem dX7_queues_131 : decode cX7_queues 131 = .ok (.iinc 4 1, 3) := by decide +kernel
theorem dX7_queues_134 : decode cX7_queues 134 = .ok (.goto (-126), 3) := by decide +kernel
theorem dX7_queues_137 : decode cX7_queues 137 = .ok (.return_, 1) := by decide +kernel
theorem dX7_fits_0 : decode cX7_fits 0 = .ok (.iconst 0, 1) := by decide +kernel
theorem dX7_fits_1 : decode cX7_fits 1 = .ok (.istore_n 1, 1) := by decide +kernel
theorem dX7_fits_2 : decode cX7_fits 2 = .ok (.iconst 0, 1) := by decide +kernel
theorem dX7_fits_3 : decode cX7_fits 3 = .ok (.istore_n 2, 1) := by decide +kernel
theorem dX7_fits_4 : decode cX7_fits 4 = .ok (.iload_n 1, 1) := by decide +kernel
theorem dX7_fits_5 : decode cX7_fits 5 = .ok (.aload_n 0, 1) := by decide +kernel
theorem dX7_fits_6 : decode cX7_fits 6 = .ok (.getfield 144, 3) := by decide +kernel
theorem dX7_fits_9 : decode cX7_fits 9 = .ok (.if_icmp .ge 43, 3) := by decide +kernel
theorem dX7_fits_12 : decode cX7_fits 12 = .ok (.iload_n 2, 1) := by decide +kernel
theorem dX7_fits_13 : decode cX7_fits 13 = .ok (.aload_n 0, 1) := by decide +kernel
theorem dX7_fits_14 : decode cX7_fits 14 = .ok (.getfield 43, 3) := by decide +kernel
theorem dX7_fits_17 : decode cX7_fits 17 = .ok (.aload_n 0, 1) := by decide +kernel
theorem dX7_fits_18 : decode cX7_fits 18 = .ok (.getfield 58, 3) := by decide +kernel
theorem dX7_fits_21 : decode cX7_fits 21 = .ok (.iload_n 1, 1) := by decide +kernel
theorem dX7_fits_22 : decode cX7_fits 22 = .ok (.iaload, 1) := by decide +kernel
theorem dX7_fits_23 : decode cX7_fits 23 = .ok (.iaload, 1) := by decide +kernel
theorem dX7_fits_24 : decode cX7_fits 24 = .ok (.iadd, 1) := by decide +kernel
theorem dX7_fits_25 : decode cX7_fits 25 = .ok (.aload_n 0, 1) := by decide +kernel
theorem dX7_fits_26 : decode cX7_fits 26 = .ok (.getfield 13, 3) := by decide +kernel
theorem dX7_fits_29 : decode cX7_fits 29 = .ok (.if_icmp .gt 23, 3) := by decide +kernel
theorem dX7_fits_32 : decode cX7_fits 32 = .ok (.iload_n 2, 1) := by decide +kernel
theorem dX7_fits_33 : decode cX7_fits 33 = .ok (.aload_n 0, 1) := by decide +kernel
theorem dX7_fits_34 : decode cX7_fits 34 = .ok (.getfield 43, 3) := by decide +kernel
theorem dX7_fits_37 : decode cX7_fits 37 = .ok (.aload_n 0, 1) := by decide +kernel
theorem dX7_fits_38 : decode cX7_fits 38 = .ok (.getfield 58, 3) := by decide +kernel
theorem dX7_fits_41 : decode cX7_fits 41 = .ok (.iload_n 1, 1) := by decide +kernel
theorem dX7_fits_42 : decode cX7_fits 42 = .ok (.iaload, 1) := by decide +kernel
theorem dX7_fits_43 : decode cX7_fits 43 = .ok (.iaload, 1) := by decide +kernel
theorem dX7_fits_44 : decode cX7_fits 44 = .ok (.iadd, 1) := by decide +kernel
theorem dX7_fits_45 : decode cX7_fits 45 = .ok (.istore_n 2, 1) := by decide +kernel
theorem dX7_fits_46 : decode cX7_fits 46 = .ok (.iinc 1 1, 3) := by decide +kernel
theorem dX7_fits_49 : decode cX7_fits 49 = .ok (.goto (-45), 3) := by decide +kernel
theorem dX7_fits_52 : decode cX7_fits 52 = .ok (.iload_n 1, 1) := by decide +kernel
theorem dX7_fits_53 : decode cX7_fits 53 = .ok (.ireturn, 1) := by decide +kernel
set_option maxRecDepth 20000 in
theorem ggX7_queue_X7_isSide : GoodIn wsX7_queue wsX7_isSide := goodIn_r _ [6, 7, 8, 5, 9] (by decide +kernel) (by decide +kernel)
set_option maxRecDepth 20000 in
theorem gX7_queue_X7_isSide : GoodIn wsX7_queue (va_wsS RX7 114 yX7_isSide wsX7_isSide) := goodIn_app (goodIn_of _ (by decide +kernel)) ggX7_queue_X7_isSide
set_option maxRecDepth 20000 in
theorem ggX7_queue_X7_lies : GoodIn wsX7_queue wsX7_lies := goodIn_r _ [9] (by decide +kernel) (by decide +kernel)
set_option maxRecDepth 20000 in
theorem gX7_queue_X7_lies : GoodIn wsX7_queue (va_wsS RX7 95 yX7_lies wsX7_lies) := goodIn_app (goodIn_of _ (by decide +kernel)) ggX7_queue_X7_lies
set_option maxRecDepth 20000 in
theorem ggX7_queue_X7_queues : GoodIn wsX7_queue wsX7_queues := goodIn_r _ [13, 1, 14, 15, 16, 2, 17, 18, 19, 5, 20, 21, 22, 23, 24, 25, 26, 27, 28, 29, 30, 31, 32, 33, 34, 35, 36, 37, 38, 39, 40, 41, 42, 43, 44, 45, 46, 47, 48, 49, 50, 51, 52, 53, 54, 55, 56, 57, 58, 59, 60, 61, 62, 63, 64, 65, 66, 67, 68, 69, 70, 71, 72, 73, 74, 75, 76, 77, 78, 79, 80, 81, 82, 83, 84] (by decide +kernel) (by decide +kernel)
set_option maxRecDepth 20000 in
theorem gX7_queue_X7_queues : GoodIn wsX7_queue (wsV RX7 153 RX7 yX7_queues wsX7_queues) := goodIn_app (goodIn_of _ (by decide +kernel)) ggX7_queue_X7_queues
theorem dX7_queue_0 : decode cX7_queue 0 = .ok (.iload_n 1, 1) := by decide +kernel
theorem dX7_queue_1 : decode cX7_queue 1 = .ok (.invokestatic 114, 3) := by decide +kernel
theorem dX7_queue_4 : decode cX7_queue 4 = .ok (.ifCond .eq 14, 3) := by decide +kernel
theorem dX7_queue_7 : decode cX7_queue 7 = .ok (.iload_n 2, 1) := by decide +kernel
theorem dX7_queue_8 : decode cX7_queue 8 = .ok (.iconst 0, 1) := by decide +kernel
theorem dX7_queue_9 : decode cX7_queue 9 = .ok (.sipush 20000, 3) := by decide +kernel
theorem dX7_queue_12 : decode cX7_queue 12 = .ok (.invokestatic 95, 3) := by decide +kernel
theorem dX7_queue_15 : decode cX7_queue 15 = .ok (.ifCond .ne 5, 3) := by decide +kernel
theorem dX7_queue_18 : decode cX7_queue 18 = .ok (.iconst (-1), 1) := by decide +kernel
theorem dX7_queue_19 : decode cX7_queue 19 = .ok (.ireturn, 1) := by decide +kernel
theorem dX7_queue_20 : decode cX7_queue 20 = .ok (.aload_n 0, 1) := by decide +kernel
theorem dX7_queue_21 : decode cX7_queue 21 = .ok (.iload_n 1, 1) := by decide +kernel
theorem dX7_queue_22 : decode cX7_queue 22 = .ok (.iload_n 2, 1) := by decide +kernel
theorem dX7_queue_23 : decode cX7_queue 23 = .ok (.iconst 0, 1) := by decide +kernel
theorem dX7_queue_24 : decode cX7_queue 24 = .ok (.invokevirtual 153, 3) := by decide +kernel
theorem dX7_queue_27 : decode cX7_queue 27 = .ok (.iload_n 3, 1) := by decide +kernel
theorem dX7_queue_28 : decode cX7_queue 28 = .ok (.iconst 0, 1) := by decide +kernel
theorem dX7_queue_29 : decode cX7_queue 29 = .ok (.aload_n 0, 1) := by decide +kernel
theorem dX7_queue_30 : decode cX7_queue 30 = .ok (.getfield 144, 3) := by decide +kernel
theorem dX7_queue_33 : decode cX7_queue 33 = .ok (.iconst 1, 1) := by decide +kernel
theorem dX7_queue_34 : decode cX7_queue 34 = .ok (.isub, 1) := by decide +kernel
theorem dX7_queue_35 : decode cX7_queue 35 = .ok (.invokestatic 95, 3) := by decide +kernel
theorem dX7_queue_38 : decode cX7_queue 38 = .ok (.ifCond .eq 12, 3) := by decide +kernel
theorem dX7_queue_41 : decode cX7_queue 41 = .ok (.aload_n 0, 1) := by decide +kernel
theorem dX7_queue_42 : decode cX7_queue 42 = .ok (.getfield 58, 3) := by decide +kernel
theorem dX7_queue_45 : decode cX7_queue 45 = .ok (.iload_n 3, 1) := by decide +kernel
theorem dX7_queue_46 : decode cX7_queue 46 = .ok (.iaload, 1) := by decide +kernel
theorem dX7_queue_47 : decode cX7_queue 47 = .ok (.goto 4, 3) := by decide +kernel
theorem dX7_queue_50 : decode cX7_queue 50 = .ok (.iconst (-1), 1) := by decide +kernel
theorem dX7_queue_51 : decode cX7_queue 51 = .ok (.ireturn, 1) := by decide +kernel
set_option maxRecDepth 20000 in
theorem ggX7_fitting_X7_lies : GoodIn wsX7_fitting wsX7_lies := goodIn_r _ [5] (by decide +kernel) (by decide +kernel)
set_option maxRecDepth 20000 in
theorem gX7_fitting_X7_lies : GoodIn wsX7_fitting (va_wsS RX7 95 yX7_lies wsX7_lies) := goodIn_app (goodIn_of _ (by decide +kernel)) ggX7_fitting_X7_lies
set_option maxRecDepth 20000 in
theorem ggX7_fitting_X7_queues : GoodIn wsX7_fitting wsX7_queues := goodIn_r _ [9, 10, 11, 12, 13, 14, 15, 16, 17, 4, 18, 19, 20, 21, 22, 23, 24, 25, 26, 27, 28, 29, 30, 31, 32, 33, 34, 35, 36, 37, 38, 39, 40, 41, 42, 43, 44, 45, 46, 51, 52, 53, 54, 55, 56, 57, 58, 59, 60, 61, 62, 63, 64, 65, 66, 67, 68, 69, 70, 71, 72, 73, 74, 75, 76, 77, 78, 79, 80, 81, 82, 83, 84, 85, 86] (by decide +kernel) (by decide +kernel)
set_option maxRecDepth 20000 in
theorem gX7_fitting_X7_queues : GoodIn wsX7_fitting (wsV RX7 153 RX7 yX7_queues wsX7_queues) := goodIn_app (goodIn_of _ (by decide +kernel)) ggX7_fitting_X7_queues
set_option maxRecDepth 20000 in
theorem ggX7_fitting_X7_fits : GoodIn wsX7_fitting wsX7_fits := goodIn_r _ [50, 10, 24, 14, 25, 51, 52, 53, 54, 55, 56, 57, 58, 59, 60, 61, 62, 63, 64, 65, 66, 67, 68, 69, 70, 71, 72, 73, 74, 75, 76, 77, 78, 79, 80, 81, 82, 83, 84, 85, 86] (by decide +kernel) (by decide +kernel)
set_option maxRecDepth 20000 in
theorem gX7_fitting_X7_fits : GoodIn wsX7_fitting (wsV RX7 160 RX7 yX7_fits wsX7_fits) := goodIn_app (goodIn_of _ (by decide +kernel)) ggX7_fitting_X7_fits
theorem dX7_fitting_0 : decode cX7_fitting 0 = .ok (.iload_n 1, 1) := by decide +kernel
theorem dX7_fitting_1 : decode cX7_fitting 1 = .ok (.iconst 0, 1) := by decide +kernel
theorem dX7_fitting_2 : decode cX7_fitting 2 = .ok (.sipush 20000, 3) := by decide +kernel
theorem dX7_fitting_5 : decode cX7_fitting 5 = .ok (.invokestatic 95, 3) := by decide +kernel
theorem dX7_fitting_8 : decode cX7_fitting 8 = .ok (.ifCond .ne 5, 3) := by decide +kernel
theorem dX7_fitting_11 : decode cX7_fitting 11 = .ok (.iconst (-1), 1) := by decide +kernel
theorem dX7_fitting_12 : decode cX7_fitting 12 = .ok (.ireturn, 1) := by decide +kernel
theorem dX7_fitting_13 : decode cX7_fitting 13 = .ok (.aload_n 0, 1) := by decide +kernel
theorem dX7_fitting_14 : decode cX7_fitting 14 = .ok (.aload_n 0, 1) := by decide +kernel
theorem dX7_fitting_15 : decode cX7_fitting 15 = .ok (.getfield 157, 3) := by decide +kernel
theorem dX7_fitting_18 : decode cX7_fitting 18 = .ok (.iload_n 1, 1) := by decide +kernel
theorem dX7_fitting_19 : decode cX7_fitting 19 = .ok (.iconst 0, 1) := by decide +kernel
theorem dX7_fitting_20 : decode cX7_fitting 20 = .ok (.invokevirtual 153, 3) := by decide +kernel
theorem dX7_fitting_23 : decode cX7_fitting 23 = .ok (.aload_n 0, 1) := by decide +kernel
theorem dX7_fitting_24 : decode cX7_fitting 24 = .ok (.invokevirtual 160, 3) := by decide +kernel
theorem dX7_fitting_27 : decode cX7_fitting 27 = .ok (.ireturn, 1) := by decide +kernel
set_option maxRecDepth 20000 in
theorem ggX7_ride_X7_lies : GoodIn wsX7_ride wsX7_lies := goodIn_r _ [13] (by decide +kernel) (by decide +kernel)
set_option maxRecDepth 20000 in
theorem gX7_ride_X7_lies : GoodIn wsX7_ride (va_wsS RX7 95 yX7_lies wsX7_lies) := goodIn_app (goodIn_of _ (by decide +kernel)) ggX7_ride_X7_lies
set_option maxRecDepth 20000 in
theorem ggX7_ride_X7_lasts : GoodIn wsX7_ride wsX7_lasts := goodIn_r _ [17, 3, 18, 19, 20, 12, 21, 22, 23, 24, 66, 67, 68, 69, 70, 71, 72, 73, 74, 75, 76, 77, 78, 79, 80, 81, 82, 83, 84, 85, 86, 87, 88, 89, 90, 91, 92, 93, 94, 95, 96, 97, 98, 99, 100, 101] (by decide +kernel) (by decide +kernel)
set_option maxRecDepth 20000 in
theorem gX7_ride_X7_lasts : GoodIn wsX7_ride (wsV RX7 170 RX7 yX7_lasts wsX7_lasts) := goodIn_app (goodIn_of _ (by decide +kernel)) ggX7_ride_X7_lasts
set_option maxRecDepth 20000 in
theorem ggX7_ride_X7_queues : GoodIn wsX7_ride wsX7_queues := goodIn_r _ [28, 29, 30, 31, 32, 6, 33, 34, 35, 12, 36, 7, 37, 38, 39, 40, 41, 42, 43, 3, 44, 45, 46, 47, 48, 49, 50, 51, 52, 8, 53, 54, 55, 56, 57, 58, 59, 60, 61, 66, 67, 68, 69, 70, 71, 72, 73, 74, 75, 76, 77, 78, 79, 80, 81, 82, 83, 84, 85, 86, 87, 88, 89, 90, 91, 92, 93, 94, 95, 96, 97, 98, 99, 100, 101] (by decide +kernel) (by decide +kernel)
set_option maxRecDepth 20000 in
theorem gX7_ride_X7_queues : GoodIn wsX7_ride (wsV RX7 153 RX7 yX7_queues wsX7_queues) := goodIn_app (goodIn_of _ (by decide +kernel)) ggX7_ride_X7_queues
set_option maxRecDepth 20000 in
theorem ggX7_ride_X7_fits : GoodIn wsX7_ride wsX7_fits := goodIn_r _ [65, 29, 41, 6, 42, 66, 67, 68, 69, 70, 71, 72, 73, 74, 75, 76, 77, 78, 79, 80, 81, 82, 83, 84, 85, 86, 87, 88, 89, 90, 91, 92, 93, 94, 95, 96, 97, 98, 99, 100, 101] (by decide +kernel) (by decide +kernel)
set_option maxRecDepth 20000 in
theorem gX7_ride_X7_fits : GoodIn wsX7_ride (wsV RX7 160 RX7 yX7_fits wsX7_fits) := goodIn_app (goodIn_of _ (by decide +kernel)) ggX7_ride_X7_fits
theorem dX7_ride_0 : decode cX7_ride 0 = .ok (.iload_n 1, 1) := by decide +kernel
theorem dX7_ride_1 : decode cX7_ride 1 = .ok (.aload_n 0, 1) := by decide +kernel
theorem dX7_ride_2 : decode cX7_ride 2 = .ok (.getfield 164, 3) := by decide +kernel
theorem dX7_ride_5 : decode cX7_ride 5 = .ok (.sipush 20000, 3) := by decide +kernel
theorem dX7_ride_8 : decode cX7_ride 8 = .ok (.invokestatic 95, 3) := by decide +kernel
theorem dX7_ride_11 : decode cX7_ride 11 = .ok (.ifCond .eq 33, 3) := by decide +kernel
theorem dX7_ride_14 : decode cX7_ride 14 = .ok (.iload_n 2, 1) := by decide +kernel
theorem dX7_ride_15 : decode cX7_ride 15 = .ok (.ifCond .lt 29, 3) := by decide +kernel
theorem dX7_ride_18 : decode cX7_ride 18 = .ok (.aload_n 0, 1) := by decide +kernel
theorem dX7_ride_19 : decode cX7_ride 19 = .ok (.getfield 167, 3) := by decide +kernel
theorem dX7_ride_22 : decode cX7_ride 22 = .ok (.aload_n 0, 1) := by decide +kernel
theorem dX7_ride_23 : decode cX7_ride 23 = .ok (.getfield 17, 3) := by decide +kernel
theorem dX7_ride_26 : decode cX7_ride 26 = .ok (.iconst 4, 1) := by decide +kernel
theorem dX7_ride_27 : decode cX7_ride 27 = .ok (.iaload, 1) := by decide +kernel
theorem dX7_ride_28 : decode cX7_ride 28 = .ok (.if_icmp .ge 16, 3) := by decide +kernel
theorem dX7_ride_31 : decode cX7_ride 31 = .ok (.iload_n 1, 1) := by decide +kernel
theorem dX7_ride_32 : decode cX7_ride 32 = .ok (.aload_n 0, 1) := by decide +kernel
theorem dX7_ride_33 : decode cX7_ride 33 = .ok (.iload_n 1, 1) := by decide +kernel
theorem dX7_ride_34 : decode cX7_ride 34 = .ok (.invokevirtual 170, 3) := by decide +kernel
theorem dX7_ride_37 : decode cX7_ride 37 = .ok (.iadd, 1) := by decide +kernel
theorem dX7_ride_38 : decode cX7_ride 38 = .ok (.sipush 20000, 3) := by decide +kernel
theorem dX7_ride_41 : decode cX7_ride 41 = .ok (.if_icmp .le 5, 3) := by decide +kernel
theorem dX7_ride_44 : decode cX7_ride 44 = .ok (.iconst (-1), 1) := by decide +kernel
theorem dX7_ride_45 : decode cX7_ride 45 = .ok (.ireturn, 1) := by decide +kernel
theorem dX7_ride_46 : decode cX7_ride 46 = .ok (.aload_n 0, 1) := by decide +kernel
theorem dX7_ride_47 : decode cX7_ride 47 = .ok (.aload_n 0, 1) := by decide +kernel
theorem dX7_ride_48 : decode cX7_ride 48 = .ok (.getfield 157, 3) := by decide +kernel
theorem dX7_ride_51 : decode cX7_ride 51 = .ok (.iload_n 1, 1) := by decide +kernel
theorem dX7_ride_52 : decode cX7_ride 52 = .ok (.iconst 0, 1) := by decide +kernel
theorem dX7_ride_53 : decode cX7_ride 53 = .ok (.invokevirtual 153, 3) := by decide +kernel
theorem dX7_ride_56 : decode cX7_ride 56 = .ok (.iload_n 2, 1) := by decide +kernel
theorem dX7_ride_57 : decode cX7_ride 57 = .ok (.aload_n 0, 1) := by decide +kernel
theorem dX7_ride_58 : decode cX7_ride 58 = .ok (.invokevirtual 160, 3) := by decide +kernel
theorem dX7_ride_61 : decode cX7_ride 61 = .ok (.if_icmp .le 5, 3) := by decide +kernel
theorem dX7_ride_64 : decode cX7_ride 64 = .ok (.iconst (-1), 1) := by decide +kernel
theorem dX7_ride_65 : decode cX7_ride 65 = .ok (.ireturn, 1) := by decide +kernel
theorem dX7_ride_66 : decode cX7_ride 66 = .ok (.aload_n 0, 1) := by decide +kernel
theorem dX7_ride_67 : decode cX7_ride 67 = .ok (.getfield 167, 3) := by decide +kernel
theorem dX7_ride_70 : decode cX7_ride 70 = .ok (.i2l, 1) := by decide +kernel
theorem dX7_ride_71 : decode cX7_ride 71 = .ok (.lstore_n 3, 1) := by decide +kernel
theorem dX7_ride_72 : decode cX7_ride 72 = .ok (.iconst 0, 1) := by decide +kernel
theorem dX7_ride_73 : decode cX7_ride 73 = .ok (.istore 5, 2) := by decide +kernel
theorem dX7_ride_75 : decode cX7_ride 75 = .ok (.iload 5, 2) := by decide +kernel
theorem dX7_ride_77 : decode cX7_ride 77 = .ok (.iload_n 2, 1) := by decide +kernel
theorem dX7_ride_78 : decode cX7_ride 78 = .ok (.if_icmp .ge 62, 3) := by decide +kernel
theorem dX7_ride_81 : decode cX7_ride 81 = .ok (.lload_n 3, 1) := by decide +kernel
theorem dX7_ride_82 : decode cX7_ride 82 = .ok (.aload_n 0, 1) := by decide +kernel
theorem dX7_ride_83 : decode cX7_ride 83 = .ok (.getfield 157, 3) := by decide +kernel
theorem dX7_ride_86 : decode cX7_ride 86 = .ok (.ifCond .ne 19, 3) := by decide +kernel
theorem dX7_ride_89 : decode cX7_ride 89 = .ok (.aload_n 0, 1) := by decide +kernel
theorem dX7_ride_90 : decode cX7_ride 90 = .ok (.getfield 49, 3) := by decide +kernel
theorem dX7_ride_93 : decode cX7_ride 93 = .ok (.aload_n 0, 1) := by decide +kernel
theorem dX7_ride_94 : decode cX7_ride 94 = .ok (.getfield 58, 3) := by decide +kernel
theorem dX7_ride_97 : decode cX7_ride 97 = .ok (.iload 5, 2) := by decide +kernel
theorem dX7_ride_99 : decode cX7_ride 99 = .ok (.iaload, 1) := by decide +kernel
theorem dX7_ride_100 : decode cX7_ride 100 = .ok (.iaload, 1) := by decide +kernel
theorem dX7_ride_101 : decode cX7_ride 101 = .ok (.i2l, 1) := by decide +kernel
theorem dX7_ride_102 : decode cX7_ride 102 = .ok (.goto 17, 3) := by decide +kernel
theorem dX7_ride_105 : decode cX7_ride 105 = .ok (.aload_n 0, 1) := by decide +kernel
theorem dX7_ride_106 : decode cX7_ride 106 = .ok (.getfield 49, 3) := by decide +kernel
theorem dX7_ride_109 : decode cX7_ride 109 = .ok (.aload_n 0, 1) := by decide +kernel
theorem dX7_ride_110 : decode cX7_ride 110 = .ok (.getfield 58, 3) := by decide +kernel
theorem dX7_ride_113 : decode cX7_ride 113 = .ok (.iload 5, 2) := by decide +kernel
theorem dX7_ride_115 : decode cX7_ride 115 = .ok (.iaload, 1) := by decide +kernel
theorem dX7_ride_116 : decode cX7_ride 116 = .ok (.iaload, 1) := by decide +kernel
theorem dX7_ride_117 : decode cX7_ride 117 = .ok (.ineg, 1) := by decide +kernel
theorem dX7_ride_118 : decode cX7_ride 118 = .ok (.i2l, 1) := by decide +kernel
theorem dX7_ride_119 : decode cX7_ride 119 = .ok (.ladd, 1) := by decide +kernel
theorem dX7_ride_120 : decode cX7_ride 120 = .ok (.lstore_n 3, 1) := by decide +kernel
theorem dX7_ride_121 : decode cX7_ride 121 = .ok (.aload_n 0, 1) := by decide +kernel
theorem dX7_ride_122 : decode cX7_ride 122 = .ok (.getfield 55, 3) := by decide +kernel
theorem dX7_ride_125 : decode cX7_ride 125 = .ok (.aload_n 0, 1) := by decide +kernel
theorem dX7_ride_126 : decode cX7_ride 126 = .ok (.getfield 58, 3) := by decide +kernel
theorem dX7_ride_129 : decode cX7_ride 129 = .ok (.iload 5, 2) := by decide +kernel
theorem dX7_ride_131 : decode cX7_ride 131 = .ok (.iaload, 1) := by decide +kernel
theorem dX7_ride_132 : decode cX7_ride 132 = .ok (.iload_n 1, 1) := by decide +kernel
theorem dX7_ride_133 : decode cX7_ride 133 = .ok (.iastore, 1) := by decide +kernel
theorem dX7_ride_134 : decode cX7_ride 134 = .ok (.iinc 5 1, 3) := by decide +kernel
theorem dX7_ride_137 : decode cX7_ride 137 = .ok (.goto (-62), 3) := by decide +kernel
theorem dX7_ride_140 : decode cX7_ride 140 = .ok (.aload_n 0, 1) := by decide +kernel
theorem dX7_ride_141 : decode cX7_ride 141 = .ok (.getfield 27, 3) := by decide +kernel
theorem dX7_ride_144 : decode cX7_ride 144 = .ok (.iconst 1, 1) := by decide +kernel
theorem dX7_ride_145 : decode cX7_ride 145 = .ok (.dup2, 1) := by decide +kernel
theorem dX7_ride_146 : decode cX7_ride 146 = .ok (.laload, 1) := by decide +kernel
theorem dX7_ride_147 : decode cX7_ride 147 = .ok (.lload_n 3, 1) := by decide +kernel
theorem dX7_ride_148 : decode cX7_ride 148 = .ok (.lsub, 1) := by decide +kernel
theorem dX7_ride_149 : decode cX7_ride 149 = .ok (.lastore, 1) := by decide +kernel
theorem dX7_ride_150 : decode cX7_ride 150 = .ok (.aload_n 0, 1) := by decide +kernel
theorem dX7_ride_151 : decode cX7_ride 151 = .ok (.getfield 27, 3) := by decide +kernel
theorem dX7_ride_154 : decode cX7_ride 154 = .ok (.iconst 0, 1) := by decide +kernel
theorem dX7_ride_155 : decode cX7_ride 155 = .ok (.dup2, 1) := by decide +kernel
theorem dX7_ride_156 : decode cX7_ride 156 = .ok (.laload, 1) := by decide +kernel
theorem dX7_ride_157 : decode cX7_ride 157 = .ok (.lload_n 3, 1) := by decide +kernel
theorem dX7_ride_158 : decode cX7_ride 158 = .ok (.ladd, 1) := by decide +kernel
theorem dX7_ride_159 : decode cX7_ride 159 = .ok (.lastore, 1) := by decide +kernel
theorem dX7_ride_160 : decode cX7_ride 160 = .ok (.aload_n 0, 1) := by decide +kernel
theorem dX7_ride_161 : decode cX7_ride 161 = .ok (.dup, 1) := by decide +kernel
theorem dX7_ride_162 : decode cX7_ride 162 = .ok (.getfield 167, 3) := by decide +kernel
theorem dX7_ride_165 : decode cX7_ride 165 = .ok (.iconst 1, 1) := by decide +kernel
theorem dX7_ride_166 : decode cX7_ride 166 = .ok (.iadd, 1) := by decide +kernel
theorem dX7_ride_167 : decode cX7_ride 167 = .ok (.putfield 167, 3) := by decide +kernel
theorem dX7_ride_170 : decode cX7_ride 170 = .ok (.aload_n 0, 1) := by decide +kernel
theorem dX7_ride_171 : decode cX7_ride 171 = .ok (.dup, 1) := by decide +kernel
theorem dX7_ride_172 : decode cX7_ride 172 = .ok (.getfield 173, 3) := by decide +kernel
theorem dX7_ride_175 : decode cX7_ride 175 = .ok (.iconst 1, 1) := by decide +kernel
theorem dX7_ride_176 : decode cX7_ride 176 = .ok (.iadd, 1) := by decide +kernel
theorem dX7_ride_177 : decode cX7_ride 177 = .ok (.putfield 173, 3) := by decide +kernel
theorem dX7_ride_180 : decode cX7_ride 180 = .ok (.aload_n 0, 1) := by decide +kernel
theorem dX7_ride_181 : decode cX7_ride 181 = .ok (.iconst 1, 1) := by decide +kernel
theorem dX7_ride_182 : decode cX7_ride 182 = .ok (.aload_n 0, 1) := by decide +kernel
theorem dX7_ride_183 : decode cX7_ride 183 = .ok (.getfield 157, 3) := by decide +kernel
theorem dX7_ride_186 : decode cX7_ride 186 = .ok (.isub, 1) := by decide +kernel
theorem dX7_ride_187 : decode cX7_ride 187 = .ok (.putfield 157, 3) := by decide +kernel
theorem dX7_ride_190 : decode cX7_ride 190 = .ok (.aload_n 0, 1) := by decide +kernel
theorem dX7_ride_191 : decode cX7_ride 191 = .ok (.iload_n 1, 1) := by decide +kernel
theorem dX7_ride_192 : decode cX7_ride 192 = .ok (.aload_n 0, 1) := by decide +kernel
theorem dX7_ride_193 : decode cX7_ride 193 = .ok (.iload_n 1, 1) := by decide +kernel
theorem dX7_ride_194 : decode cX7_ride 194 = .ok (.invokevirtual 170, 3) := by decide +kernel
theorem dX7_ride_197 : decode cX7_ride 197 = .ok (.iadd, 1) := by decide +kernel
theorem dX7_ride_198 : decode cX7_ride 198 = .ok (.putfield 164, 3) := by decide +kernel
theorem dX7_ride_201 : decode cX7_ride 201 = .ok (.aload_n 0, 1) := by decide +kernel
theorem dX7_ride_202 : decode cX7_ride 202 = .ok (.getfield 164, 3) := by decide +kernel
theorem dX7_ride_205 : decode cX7_ride 205 = .ok (.ireturn, 1) := by decide +kernel
set_option maxRecDepth 20000 in
theorem ggX7_renew_X7_lies : GoodIn wsX7_renew wsX7_lies := goodIn_r _ [7] (by decide +kernel) (by decide +kernel)
set_option maxRecDepth 20000 in
theorem gX7_renew_X7_lies : GoodIn wsX7_renew (va_wsS RX7 95 yX7_lies wsX7_lies) := goodIn_app (goodIn_of _ (by decide +kernel)) ggX7_renew_X7_lies
theorem dX7_renew_0 : decode cX7_renew 0 = .ok (.iload_n 1, 1) := by decide +kernel
theorem dX7_renew_1 : decode cX7_renew 1 = .ok (.aload_n 0, 1) := by decide +kernel
theorem dX7_renew_2 : decode cX7_renew 2 = .ok (.getfield 164, 3) := by decide +kernel
theorem dX7_renew_5 : decode cX7_renew 5 = .ok (.sipush 20000, 3) := by decide +kernel
theorem dX7_renew_8 : decode cX7_renew 8 = .ok (.invokestatic 95, 3) := by decide +kernel
theorem dX7_renew_11 : decode cX7_renew 11 = .ok (.ifCond .eq 17, 3) := by decide +kernel
theorem dX7_renew_14 : decode cX7_renew 14 = .ok (.iload_n 1, 1) := by decide +kernel
theorem dX7_renew_15 : decode cX7_renew 15 = .ok (.aload_n 0, 1) := by decide +kernel
theorem dX7_renew_16 : decode cX7_renew 16 = .ok (.getfield 17, 3) := by decide +kernel
theorem dX7_renew_19 : decode cX7_renew 19 = .ok (.iconst 5, 1) := by decide +kernel
theorem dX7_renew_20 : decode cX7_renew 20 = .ok (.iaload, 1) := by decide +kernel
theorem dX7_renew_21 : decode cX7_renew 21 = .ok (.iadd, 1) := by decide +kernel
theorem dX7_renew_22 : decode cX7_renew 22 = .ok (.sipush 20000, 3) := by decide +kernel
theorem dX7_renew_25 : decode cX7_renew 25 = .ok (.if_icmp .le 5, 3) := by decide +kernel
theorem dX7_renew_28 : decode cX7_renew 28 = .ok (.iconst (-1), 1) := by decide +kernel
theorem dX7_renew_29 : decode cX7_renew 29 = .ok (.ireturn, 1) := by decide +kernel
theorem dX7_renew_30 : decode cX7_renew 30 = .ok (.aload_n 0, 1) := by decide +kernel
theorem dX7_renew_31 : decode cX7_renew 31 = .ok (.iload_n 1, 1) := by decide +kernel
theorem dX7_renew_32 : decode cX7_renew 32 = .ok (.aload_n 0, 1) := by decide +kernel
theorem dX7_renew_33 : decode cX7_renew 33 = .ok (.getfield 17, 3) := by decide +kernel
theorem dX7_renew_36 : decode cX7_renew 36 = .ok (.iconst 5, 1) := by decide +kernel
theorem dX7_renew_37 : decode cX7_renew 37 = .ok (.iaload, 1) := by decide +kernel
theorem dX7_renew_38 : decode cX7_renew 38 = .ok (.iadd, 1) := by decide +kernel
theorem dX7_renew_39 : decode cX7_renew 39 = .ok (.putfield 164, 3) := by decide +kernel
theorem dX7_renew_42 : decode cX7_renew 42 = .ok (.aload_n 0, 1) := by decide +kernel
theorem dX7_renew_43 : decode cX7_renew 43 = .ok (.iconst 0, 1) := by decide +kernel
theorem dX7_renew_44 : decode cX7_renew 44 = .ok (.putfield 167, 3) := by decide +kernel
theorem dX7_renew_47 : decode cX7_renew 47 = .ok (.aload_n 0, 1) := by decide +kernel
theorem dX7_renew_48 : decode cX7_renew 48 = .ok (.getfield 164, 3) := by decide +kernel
theorem dX7_renew_51 : decode cX7_renew 51 = .ok (.ireturn, 1) := by decide +kernel
theorem dX7_boatsOf_0 : decode cX7_boatsOf 0 = .ok (.iconst 0, 1) := by decide +kernel
theorem dX7_boatsOf_1 : decode cX7_boatsOf 1 = .ok (.istore_n 2, 1) := by decide +kernel
theorem dX7_boatsOf_2 : decode cX7_boatsOf 2 = .ok (.iconst 0, 1) := by decide +kernel
theorem dX7_boatsOf_3 : decode cX7_boatsOf 3 = .ok (.istore_n 3, 1) := by decide +kernel
theorem dX7_boatsOf_4 : decode cX7_boatsOf 4 = .ok (.iload_n 3, 1) := by decide +kernel
theorem dX7_boatsOf_5 : decode cX7_boatsOf 5 = .ok (.aload_n 0, 1) := by decide +kernel
theorem dX7_boatsOf_6 : decode cX7_boatsOf 6 = .ok (.getfield 176, 3) := by decide +kernel
theorem dX7_boatsOf_9 : decode cX7_boatsOf 9 = .ok (.if_icmp .ge 24, 3) := by decide +kernel
theorem dX7_boatsOf_12 : decode cX7_boatsOf 12 = .ok (.iload_n 2, 1) := by decide +kernel
theorem dX7_boatsOf_13 : decode cX7_boatsOf 13 = .ok (.iload_n 1, 1) := by decide +kernel
theorem dX7_boatsOf_14 : decode cX7_boatsOf 14 = .ok (.iload_n 3, 1) := by decide +kernel
theorem dX7_boatsOf_15 : decode cX7_boatsOf 15 = .ok (.ishr, 1) := by decide +kernel
theorem dX7_boatsOf_16 : decode cX7_boatsOf 16 = .ok (.iconst 1, 1) := by decide +kernel
theorem dX7_boatsOf_17 : decode cX7_boatsOf 17 = .ok (.iand, 1) := by decide +kernel
theorem dX7_boatsOf_18 : decode cX7_boatsOf 18 = .ok (.aload_n 0, 1) := by decide +kernel
theorem dX7_boatsOf_19 : decode cX7_boatsOf 19 = .ok (.getfield 81, 3) := by decide +kernel
theorem dX7_boatsOf_22 : decode cX7_boatsOf 22 = .ok (.iload_n 3, 1) := by decide +kernel
theorem dX7_boatsOf_23 : decode cX7_boatsOf 23 = .ok (.iaload, 1) := by decide +kernel
theorem dX7_boatsOf_24 : decode cX7_boatsOf 24 = .ok (.ishl, 1) := by decide +kernel
theorem dX7_boatsOf_25 : decode cX7_boatsOf 25 = .ok (.ior, 1) := by decide +kernel
theorem dX7_boatsOf_26 : decode cX7_boatsOf 26 = .ok (.istore_n 2, 1) := by decide +kernel
theorem dX7_boatsOf_27 : decode cX7_boatsOf 27 = .ok (.iinc 3 1, 3) := by decide +kernel
theorem dX7_boatsOf_30 : decode cX7_boatsOf 30 = .ok (.goto (-26), 3) := by decide +kernel
theorem dX7_boatsOf_33 : decode cX7_boatsOf 33 = .ok (.iload_n 2, 1) := by decide +kernel
theorem dX7_boatsOf_34 : decode cX7_boatsOf 34 = .ok (.ireturn, 1) := by decide +kernel
theorem dX7_keeps_0 : decode cX7_keeps 0 = .ok (.sipush 256, 3) := by decide +kernel
theorem dX7_keeps_3 : decode cX7_keeps 3 = .ok (.iload_n 1, 1) := by decide +kernel
theorem dX7_keeps_4 : decode cX7_keeps 4 = .ok (.imul, 1) := by decide +kernel
theorem dX7_keeps_5 : decode cX7_keeps 5 = .ok (.iconst 4, 1) := by decide +kernel
theorem dX7_keeps_6 : decode cX7_keeps 6 = .ok (.iload_n 2, 1) := by decide +kernel
theorem dX7_keeps_7 : decode cX7_keeps 7 = .ok (.imul, 1) := by decide +kernel
theorem dX7_keeps_8 : decode cX7_keeps 8 = .ok (.iadd, 1) := by decide +kernel
theorem dX7_keeps_9 : decode cX7_keeps 9 = .ok (.iconst 2, 1) := by decide +kernel
theorem dX7_keeps_10 : decode cX7_keeps 10 = .ok (.iload_n 3, 1) := by decide +kernel
theorem dX7_keeps_11 : decode cX7_keeps 11 = .ok (.imul, 1) := by decide +kernel
theorem dX7_keeps_12 : decode cX7_keeps 12 = .ok (.iadd, 1) := by decide +kernel
theorem dX7_keeps_13 : decode cX7_keeps 13 = .ok (.iload 4, 2) := by decide +kernel
theorem dX7_keeps_15 : decode cX7_keeps 15 = .ok (.iadd, 1) := by decide +kernel
theorem dX7_keeps_16 : decode cX7_keeps 16 = .ok (.istore 6, 2) := by decide +kernel
theorem dX7_keeps_18 : decode cX7_keeps 18 = .ok (.iload 6, 2) := by decide +kernel
theorem dX7_keeps_20 : decode cX7_keeps 20 = .ok (.iload 6, 2) := by decide +kernel
theorem dX7_keeps_22 : decode cX7_keeps 22 = .ok (.bipush 9, 2) := by decide +kernel
theorem dX7_keeps_24 : decode cX7_keeps 24 = .ok (.iushr, 1) := by decide +kernel
theorem dX7_keeps_25 : decode cX7_keeps 25 = .ok (.ixor, 1) := by decide +kernel
theorem dX7_keeps_26 : decode cX7_keeps 26 = .ok (.ldc 179, 2) := by decide +kernel
theorem dX7_keeps_28 : decode cX7_keeps 28 = .ok (.iand, 1) := by decide +kernel
theorem dX7_keeps_29 : decode cX7_keeps 29 = .ok (.istore 7, 2) := by decide +kernel
theorem dX7_keeps_31 : decode cX7_keeps 31 = .ok (.aload_n 0, 1) := by decide +kernel
theorem dX7_keeps_32 : decode cX7_keeps 32 = .ok (.getfield 65, 3) := by decide +kernel
theorem dX7_keeps_35 : decode cX7_keeps 35 = .ok (.iload 7, 2) := by decide +kernel
theorem dX7_keeps_37 : decode cX7_keeps 37 = .ok (.iaload, 1) := by decide +kernel
theorem dX7_keeps_38 : decode cX7_keeps 38 = .ok (.aload_n 0, 1) := by decide +kernel
theorem dX7_keeps_39 : decode cX7_keeps 39 = .ok (.getfield 180, 3) := by decide +kernel
theorem dX7_keeps_42 : decode cX7_keeps 42 = .ok (.if_icmp .ne 32, 3) := by decide +kernel
theorem dX7_keeps_45 : decode cX7_keeps 45 = .ok (.aload_n 0, 1) := by decide +kernel
theorem dX7_keeps_46 : decode cX7_keeps 46 = .ok (.getfield 68, 3) := by decide +kernel
theorem dX7_keeps_49 : decode cX7_keeps 49 = .ok (.aload_n 0, 1) := by decide +kernel
theorem dX7_keeps_50 : decode cX7_keeps 50 = .ok (.getfield 62, 3) := by decide +kernel
theorem dX7_keeps_53 : decode cX7_keeps 53 = .ok (.iload 7, 2) := by decide +kernel
theorem dX7_keeps_55 : decode cX7_keeps 55 = .ok (.iaload, 1) := by decide +kernel
theorem dX7_keeps_56 : decode cX7_keeps 56 = .ok (.iaload, 1) := by decide +kernel
theorem dX7_keeps_57 : decode cX7_keeps 57 = .ok (.iload 6, 2) := by decide +kernel
theorem dX7_keeps_59 : decode cX7_keeps 59 = .ok (.if_icmp .eq 15, 3) := by decide +kernel
theorem dX7_keeps_62 : decode cX7_keeps 62 = .ok (.iload 7, 2) := by decide +kernel
theorem dX7_keeps_64 : decode cX7_keeps 64 = .ok (.iconst 1, 1) := by decide +kernel
theorem dX7_keeps_65 : decode cX7_keeps 65 = .ok (.iadd, 1) := by decide +kernel
theorem dX7_keeps_66 : decode cX7_keeps 66 = .ok (.ldc 179, 2) := by decide +kernel
theorem dX7_keeps_68 : decode cX7_keeps 68 = .ok (.iand, 1) := by decide +kernel
theorem dX7_keeps_69 : decode cX7_keeps 69 = .ok (.istore 7, 2) := by decide +kernel
theorem dX7_keeps_71 : decode cX7_keeps 71 = .ok (.goto (-40), 3) := by decide +kernel
theorem dX7_keeps_74 : decode cX7_keeps 74 = .ok (.aload_n 0, 1) := by decide +kernel
theorem dX7_keeps_75 : decode cX7_keeps 75 = .ok (.getfield 65, 3) := by decide +kernel
theorem dX7_keeps_78 : decode cX7_keeps 78 = .ok (.iload 7, 2) := by decide +kernel
theorem dX7_keeps_80 : decode cX7_keeps 80 = .ok (.iaload, 1) := by decide +kernel
theorem dX7_keeps_81 : decode cX7_keeps 81 = .ok (.aload_n 0, 1) := by decide +kernel
theorem dX7_keeps_82 : decode cX7_keeps 82 = .ok (.getfield 180, 3) := by decide +kernel
theorem dX7_keeps_85 : decode cX7_keeps 85 = .ok (.if_icmp .ne 44, 3) := by decide +kernel
theorem dX7_keeps_88 : decode cX7_keeps 88 = .ok (.aload_n 0, 1) := by decide +kernel
theorem dX7_keeps_89 : decode cX7_keeps 89 = .ok (.getfield 62, 3) := by decide +kernel
theorem dX7_keeps_92 : decode cX7_keeps 92 = .ok (.iload 7, 2) := by decide +kernel
theorem dX7_keeps_94 : decode cX7_keeps 94 = .ok (.iaload, 1) := by decide +kernel
theorem dX7_keeps_95 : decode cX7_keeps 95 = .ok (.istore 8, 2) := by decide +kernel
theorem dX7_keeps_97 : decode cX7_keeps 97 = .ok (.aload_n 0, 1) := by decide +kernel
theorem dX7_keeps_98 : decode cX7_keeps 98 = .ok (.getfield 71, 3) := by decide +kernel
theorem dX7_keeps_101 : decode cX7_keeps 101 = .ok (.iload 8, 2) := by decide +kernel
theorem dX7_keeps_103 : decode cX7_keeps 103 = .ok (.iload 5, 2) := by decide +kernel
theorem dX7_keeps_105 : decode cX7_keeps 105 = .ok (.aload_n 0, 1) := by decide +kernel
theorem dX7_keeps_106 : decode cX7_keeps 106 = .ok (.getfield 71, 3) := by decide +kernel
theorem dX7_keeps_109 : decode cX7_keeps 109 = .ok (.iload 8, 2) := by decide +kernel
theorem dX7_keeps_111 : decode cX7_keeps 111 = .ok (.iaload, 1) := by decide +kernel
theorem dX7_keeps_112 : decode cX7_keeps 112 = .ok (.if_icmp .ge 8, 3) := by decide +kernel
theorem dX7_keeps_115 : decode cX7_keeps 115 = .ok (.iload 5, 2) := by decide +kernel
theorem dX7_keeps_117 : decode cX7_keeps 117 = .ok (.goto 10, 3) := by decide +kernel
theorem dX7_keeps_120 : decode cX7_keeps 120 = .ok (.aload_n 0, 1) := by decide +kernel
theorem dX7_keeps_121 : decode cX7_keeps 121 = .ok (.getfield 71, 3) := by decide +kernel
theorem dX7_keeps_124 : decode cX7_keeps 124 = .ok (.iload 8, 2) := by decide +kernel
theorem dX7_keeps_126 : decode cX7_keeps 126 = .ok (.iaload, 1) := by decide +kernel
theorem dX7_keeps_127 : decode cX7_keeps 127 = .ok (.iastore, 1) := by decide +kernel
theorem dX7_keeps_128 : decode cX7_keeps 128 = .ok (.return_, 1) := by decide +kernel
theorem dX7_keeps_129 : decode cX7_keeps 129 = .ok (.aload_n 0, 1) := by decide +kernel
theorem dX7_keeps_130 : decode cX7_keeps 130 = .ok (.getfield 65, 3) := by decide +kernel
theorem dX7_keeps_133 : decode cX7_keeps 133 = .ok (.iload 7, 2) := by decide +kernel
theorem dX7_keeps_135 : decode cX7_keeps 135 = .ok (.aload_n 0, 1) := by decide +kernel
theorem dX7_keeps_136 : decode cX7_keeps 136 = .ok (.getfield 180, 3) := by decide +kernel
theorem dX7_keeps_139 : decode cX7_keeps 139 = .ok (.iastore, 1) := by decide +kernel
theorem dX7_keeps_140 : decode cX7_keeps 140 = .ok (.aload_n 0, 1) := by decide +kernel
theorem dX7_keeps_141 : decode cX7_keeps 141 = .ok (.getfield 62, 3) := by decide +kernel
theorem dX7_keeps_144 : decode cX7_keeps 144 = .ok (.iload 7, 2) := by decide +kernel
theorem dX7_keeps_146 : decode cX7_keeps 146 = .ok (.aload_n 0, 1) := by decide +kernel
theorem dX7_keeps_147 : decode cX7_keeps 147 = .ok (.getfield 183, 3) := by decide +kernel
theorem dX7_keeps_150 : decode cX7_keeps 150 = .ok (.iastore, 1) := by decide +kernel
theorem dX7_keeps_151 : decode cX7_keeps 151 = .ok (.aload_n 0, 1) := by decide +kernel
theorem dX7_keeps_152 : decode cX7_keeps 152 = .ok (.getfield 68, 3) := by decide +kernel
theorem dX7_keeps_155 : decode cX7_keeps 155 = .ok (.aload_n 0, 1) := by decide +kernel
theorem dX7_keeps_156 : decode cX7_keeps 156 = .ok (.getfield 183, 3) := by decide +kernel
theorem dX7_keeps_159 : decode cX7_keeps 159 = .ok (.iload 6, 2) := by decide +kernel
theorem dX7_keeps_161 : decode cX7_keeps 161 = .ok (.iastore, 1) := by decide +kernel
theorem dX7_keeps_162 : decode cX7_keeps 162 = .ok (.aload_n 0, 1) := by decide +kernel
theorem dX7_keeps_163 : decode cX7_keeps 163 = .ok (.getfield 71, 3) := by decide +kernel
theorem dX7_keeps_166 : decode cX7_keeps 166 = .ok (.aload_n 0, 1) := by decide +kernel
theorem dX7_keeps_167 : decode cX7_keeps 167 = .ok (.getfield 183, 3) := by decide +kernel
theorem dX7_keeps_170 : decode cX7_keeps 170 = .ok (.iload 5, 2) := by decide +kernel
theorem dX7_keeps_172 : decode cX7_keeps 172 = .ok (.iastore, 1) := by decide +kernel
theorem dX7_keeps_173 : decode cX7_keeps 173 = .ok (.aload_n 0, 1) := by decide +kernel
theorem dX7_keeps_174 : decode cX7_keeps 174 = .ok (.getfield 74, 3) := by decide +kernel
theorem dX7_keeps_177 : decode cX7_keeps 177 = .ok (.aload_n 0, 1) := by decide +kernel
theorem dX7_keeps_178 : decode cX7_keeps 178 = .ok (.getfield 183, 3) := by decide +kernel
theorem dX7_keeps_181 : decode cX7_keeps 181 = .ok (.aload_n 0, 1) := by decide +kernel
theorem dX7_keeps_182 : decode cX7_keeps 182 = .ok (.getfield 78, 3) := by decide +kernel
theorem dX7_keeps_185 : decode cX7_keeps 185 = .ok (.iload_n 1, 1) := by decide +kernel
theorem dX7_keeps_186 : decode cX7_keeps 186 = .ok (.iaload, 1) := by decide +kernel
theorem dX7_keeps_187 : decode cX7_keeps 187 = .ok (.iastore, 1) := by decide +kernel
theorem dX7_keeps_188 : decode cX7_keeps 188 = .ok (.aload_n 0, 1) := by decide +kernel
theorem dX7_keeps_189 : decode cX7_keeps 189 = .ok (.getfield 78, 3) := by decide +kernel
theorem dX7_keeps_192 : decode cX7_keeps 192 = .ok (.iload_n 1, 1) := by decide +kernel
theorem dX7_keeps_193 : decode cX7_keeps 193 = .ok (.aload_n 0, 1) := by decide +kernel
theorem dX7_keeps_194 : decode cX7_keeps 194 = .ok (.getfield 183, 3) := by decide +kernel
theorem dX7_keeps_197 : decode cX7_keeps 197 = .ok (.iastore, 1) := by decide +kernel
theorem dX7_keeps_198 : decode cX7_keeps 198 = .ok (.aload_n 0, 1) := by decide +kernel
theorem dX7_keeps_199 : decode cX7_keeps 199 = .ok (.dup, 1) := by decide +kernel
theorem dX7_keeps_200 : decode cX7_keeps 200 = .ok (.getfield 183, 3) := by decide +kernel
theorem dX7_keeps_203 : decode cX7_keeps 203 = .ok (.iconst 1, 1) := by decide +kernel
theorem dX7_keeps_204 : decode cX7_keeps 204 = .ok (.iadd, 1) := by decide +kernel
theorem dX7_keeps_205 : decode cX7_keeps 205 = .ok (.putfield 183, 3) := by decide +kernel
theorem dX7_keeps_208 : decode cX7_keeps 208 = .ok (.return_, 1) := by decide +kernel
theorem dX7_numberOf_0 : decode cX7_numberOf 0 = .ok (.iconst 0, 1) := by decide +kernel
theorem dX7_numberOf_1 : decode cX7_numberOf 1 = .ok (.istore_n 2, 1) := by decide +kernel
theorem dX7_numberOf_2 : decode cX7_numberOf 2 = .ok (.aload_n 0, 1) := by decide +kernel
theorem dX7_numberOf_3 : decode cX7_numberOf 3 = .ok (.getfield 81, 3) := by decide +kernel
theorem dX7_numberOf_6 : decode cX7_numberOf 6 = .ok (.iload_n 2, 1) := by decide +kernel
theorem dX7_numberOf_7 : decode cX7_numberOf 7 = .ok (.iaload, 1) := by decide +kernel
theorem dX7_numberOf_8 : decode cX7_numberOf 8 = .ok (.iload_n 1, 1) := by decide +kernel
theorem dX7_numberOf_9 : decode cX7_numberOf 9 = .ok (.if_icmp .eq 9, 3) := by decide +kernel
theorem dX7_numberOf_12 : decode cX7_numberOf 12 = .ok (.iinc 2 1, 3) := by decide +kernel
theorem dX7_numberOf_15 : decode cX7_numberOf 15 = .ok (.goto (-13), 3) := by decide +kernel
theorem dX7_numberOf_18 : decode cX7_numberOf 18 = .ok (.iload_n 2, 1) := by decide +kernel
theorem dX7_numberOf_19 : decode cX7_numberOf 19 = .ok (.ireturn, 1) := by decide +kernel
set_option maxRecDepth 20000 in
theorem ggX7_begins_X7_boatsOf : GoodIn wsX7_begins wsX7_boatsOf := goodIn_r _ [7, 8, 9, 81, 82, 83, 84, 85, 86, 87, 88, 89, 90, 91, 92, 93, 94, 95, 96, 97, 98, 99, 100, 101, 102, 103, 104, 105, 106, 107, 108, 109, 110, 111, 112, 113, 114, 115, 116] (by decide +kernel) (by decide +kernel)
set_option maxRecDepth 20000 in
theorem gX7_begins_X7_boatsOf : GoodIn wsX7_begins (wsV RX7 186 RX7 yX7_boatsOf wsX7_boatsOf) := goodIn_app (goodIn_of _ (by decide +kernel)) ggX7_begins_X7_boatsOf
set_option maxRecDepth 20000 in
theorem ggX7_begins_X7_queues : GoodIn wsX7_begins wsX7_queues := goodIn_r _ [13, 14, 15, 16, 2, 1, 17, 18, 19, 6, 20, 21, 22, 23, 24, 25, 26, 27, 28, 29, 30, 31, 32, 33, 34, 35, 36, 37, 38, 39, 40, 41, 42, 43, 44, 45, 46, 47, 48, 81, 82, 83, 84, 85, 86, 87, 88, 89, 90, 91, 92, 93, 94, 95, 96, 97, 98, 99, 100, 101, 102, 103, 104, 105, 106, 107, 108, 109, 110, 111, 112, 113, 114, 115, 116] (by decide +kernel) (by decide +kernel)
set_option maxRecDepth 20000 in
theorem gX7_begins_X7_queues : GoodIn wsX7_begins (wsV RX7 153 RX7 yX7_queues wsX7_queues) := goodIn_app (goodIn_of _ (by decide +kernel)) ggX7_begins_X7_queues
set_option maxRecDepth 20000 in
theorem ggX7_begins_X7_fits : GoodIn wsX7_begins wsX7_fits := goodIn_r _ [52, 14, 26, 1, 27, 81, 82, 83, 84, 85, 86, 87, 88, 89, 90, 91, 92, 93, 94, 95, 96, 97, 98, 99, 100, 101, 102, 103, 104, 105, 106, 107, 108, 109, 110, 111, 112, 113, 114, 115, 116] (by decide +kernel) (by decide +kernel)
set_option maxRecDepth 20000 in
theorem gX7_begins_X7_fits : GoodIn wsX7_begins (wsV RX7 160 RX7 yX7_fits wsX7_fits) := goodIn_app (goodIn_of _ (by decide +kernel)) ggX7_begins_X7_fits
set_option maxRecDepth 20000 in
theorem ggX7_begins_X7_numberOf : GoodIn wsX7_begins wsX7_numberOf := goodIn_r _ [56, 9, 81, 82, 83, 84, 85, 86, 87, 88, 89, 90, 91, 92, 93, 94, 95, 96, 97, 98, 99, 100, 101, 102, 103, 104, 105, 106, 107, 108, 109, 110, 111, 112, 113, 114, 115, 116] (by decide +kernel) (by decide +kernel)
set_option maxRecDepth 20000 in
theorem gX7_begins_X7_numberOf : GoodIn wsX7_begins (wsV RX7 189 RX7 yX7_numberOf wsX7_numberOf) := goodIn_app (goodIn_of _ (by decide +kernel)) ggX7_begins_X7_numberOf
set_option maxRecDepth 20000 in
theorem ggX7_begins_X7_lasts : GoodIn wsX7_begins wsX7_lasts := goodIn_r _ [60, 29, 61, 62, 63, 6, 64, 65, 66, 67, 81, 82, 83, 84, 85, 86, 87, 88, 89, 90, 91, 92, 93, 94, 95, 96, 97, 98, 99, 100, 101, 102, 103, 104, 105, 106, 107, 108, 109, 110, 111, 112, 113, 114, 115, 116] (by decide +kernel) (by decide +kernel)
set_option maxRecDepth 20000 in
theorem gX7_begins_X7_lasts : GoodIn wsX7_begins (wsV RX7 170 RX7 yX7_lasts wsX7_lasts) := goodIn_app (goodIn_of _ (by decide +kernel)) ggX7_begins_X7_lasts
set_option maxRecDepth 20000 in
theorem ggX7_begins_X7_keeps : GoodIn wsX7_begins wsX7_keeps := goodIn_r _ [71, 72, 73, 74, 75, 76, 77, 78, 79, 80, 81, 82, 83, 84, 85, 86, 87, 88, 89, 90, 91, 92, 93, 94, 95, 96, 97, 98, 99, 100, 101, 102, 103, 104, 105, 106, 107, 108, 109, 110, 111, 112, 113, 114, 115, 116] (by decide +kernel) (by decide +kernel)
set_option maxRecDepth 20000 in
theorem gX7_begins_X7_keeps : GoodIn wsX7_begins (wsV RX7 192 RX7 yX7_keeps wsX7_keeps) := goodIn_app (goodIn_of _ (by decide +kernel)) ggX7_begins_X7_keeps
theorem dX7_begins_0 : decode cX7_begins 0 = .ok (.aload_n 0, 1) := by decide +kernel
theorem dX7_begins_1 : decode cX7_begins 1 = .ok (.iload_n 3, 1) := by decide +kernel
theorem dX7_begins_2 : decode cX7_begins 2 = .ok (.iload_n 1, 1) := by decide +kernel
theorem dX7_begins_3 : decode cX7_begins 3 = .ok (.aload_n 0, 1) := by decide +kernel
theorem dX7_begins_4 : decode cX7_begins 4 = .ok (.iload_n 2, 1) := by decide +kernel
theorem dX7_begins_5 : decode cX7_begins 5 = .ok (.invokevirtual 186, 3) := by decide +kernel
theorem dX7_begins_8 : decode cX7_begins 8 = .ok (.invokevirtual 153, 3) := by decide +kernel
theorem dX7_begins_11 : decode cX7_begins 11 = .ok (.aload_n 0, 1) := by decide +kernel
theorem dX7_begins_12 : decode cX7_begins 12 = .ok (.invokevirtual 160, 3) := by decide +kernel
theorem dX7_begins_15 : decode cX7_begins 15 = .ok (.istore 6, 2) := by decide +kernel
theorem dX7_begins_17 : decode cX7_begins 17 = .ok (.iload_n 2, 1) := by decide +kernel
theorem dX7_begins_18 : decode cX7_begins 18 = .ok (.istore 7, 2) := by decide +kernel
theorem dX7_begins_20 : decode cX7_begins 20 = .ok (.iload 5, 2) := by decide +kernel
theorem dX7_begins_22 : decode cX7_begins 22 = .ok (.istore 8, 2) := by decide +kernel
theorem dX7_begins_24 : decode cX7_begins 24 = .ok (.iconst 0, 1) := by decide +kernel
theorem dX7_begins_25 : decode cX7_begins 25 = .ok (.istore 9, 2) := by decide +kernel
theorem dX7_begins_27 : decode cX7_begins 27 = .ok (.iload 9, 2) := by decide +kernel
theorem dX7_begins_29 : decode cX7_begins 29 = .ok (.iload 6, 2) := by decide +kernel
theorem dX7_begins_31 : decode cX7_begins 31 = .ok (.if_icmp .gt 93, 3) := by decide +kernel
theorem dX7_begins_34 : decode cX7_begins 34 = .ok (.iload 9, 2) := by decide +kernel
theorem dX7_begins_36 : decode cX7_begins 36 = .ok (.ifCond .le 44, 3) := by decide +kernel
theorem dX7_begins_39 : decode cX7_begins 39 = .ok (.iload 7, 2) := by decide +kernel
theorem dX7_begins_41 : decode cX7_begins 41 = .ok (.iconst 1, 1) := by decide +kernel
theorem dX7_begins_42 : decode cX7_begins 42 = .ok (.aload_n 0, 1) := by decide +kernel
theorem dX7_begins_43 : decode cX7_begins 43 = .ok (.aload_n 0, 1) := by decide +kernel
theorem dX7_begins_44 : decode cX7_begins 44 = .ok (.getfield 58, 3) := by decide +kernel
theorem dX7_begins_47 : decode cX7_begins 47 = .ok (.iload 9, 2) := by decide +kernel
theorem dX7_begins_49 : decode cX7_begins 49 = .ok (.iconst 1, 1) := by decide +kernel
theorem dX7_begins_50 : decode cX7_begins 50 = .ok (.isub, 1) := by decide +kernel
theorem dX7_begins_51 : decode cX7_begins 51 = .ok (.iaload, 1) := by decide +kernel
theorem dX7_begins_52 : decode cX7_begins 52 = .ok (.invokevirtual 189, 3) := by decide +kernel
theorem dX7_begins_55 : decode cX7_begins 55 = .ok (.ishl, 1) := by decide +kernel
theorem dX7_begins_56 : decode cX7_begins 56 = .ok (.ior, 1) := by decide +kernel
theorem dX7_begins_57 : decode cX7_begins 57 = .ok (.istore 7, 2) := by decide +kernel
theorem dX7_begins_59 : decode cX7_begins 59 = .ok (.iload 8, 2) := by decide +kernel
theorem dX7_begins_61 : decode cX7_begins 61 = .ok (.iload_n 1, 1) := by decide +kernel
theorem dX7_begins_62 : decode cX7_begins 62 = .ok (.aload_n 0, 1) := by decide +kernel
theorem dX7_begins_63 : decode cX7_begins 63 = .ok (.getfield 40, 3) := by decide +kernel
theorem dX7_begins_66 : decode cX7_begins 66 = .ok (.aload_n 0, 1) := by decide +kernel
theorem dX7_begins_67 : decode cX7_begins 67 = .ok (.getfield 58, 3) := by decide +kernel
theorem dX7_begins_70 : decode cX7_begins 70 = .ok (.iload 9, 2) := by decide +kernel
theorem dX7_begins_72 : decode cX7_begins 72 = .ok (.iconst 1, 1) := by decide +kernel
theorem dX7_begins_73 : decode cX7_begins 73 = .ok (.isub, 1) := by decide +kernel
theorem dX7_begins_74 : decode cX7_begins 74 = .ok (.iaload, 1) := by decide +kernel
theorem dX7_begins_75 : decode cX7_begins 75 = .ok (.iaload, 1) := by decide +kernel
theorem dX7_begins_76 : decode cX7_begins 76 = .ok (.isub, 1) := by decide +kernel
theorem dX7_begins_77 : decode cX7_begins 77 = .ok (.iadd, 1) := by decide +kernel
theorem dX7_begins_78 : decode cX7_begins 78 = .ok (.istore 8, 2) := by decide +kernel
theorem dX7_begins_80 : decode cX7_begins 80 = .ok (.iload 9, 2) := by decide +kernel
theorem dX7_begins_82 : decode cX7_begins 82 = .ok (.ifCond .gt 8, 3) := by decide +kernel
theorem dX7_begins_85 : decode cX7_begins 85 = .ok (.iload 4, 2) := by decide +kernel
theorem dX7_begins_87 : decode cX7_begins 87 = .ok (.ifCond .ne 31, 3) := by decide +kernel
theorem dX7_begins_90 : decode cX7_begins 90 = .ok (.aload_n 0, 1) := by decide +kernel
theorem dX7_begins_91 : decode cX7_begins 91 = .ok (.iload_n 1, 1) := by decide +kernel
theorem dX7_begins_92 : decode cX7_begins 92 = .ok (.aload_n 0, 1) := by decide +kernel
theorem dX7_begins_93 : decode cX7_begins 93 = .ok (.iload_n 1, 1) := by decide +kernel
theorem dX7_begins_94 : decode cX7_begins 94 = .ok (.invokevirtual 170, 3) := by decide +kernel
theorem dX7_begins_97 : decode cX7_begins 97 = .ok (.iadd, 1) := by decide +kernel
theorem dX7_begins_98 : decode cX7_begins 98 = .ok (.iload 7, 2) := by decide +kernel
theorem dX7_begins_100 : decode cX7_begins 100 = .ok (.iconst 1, 1) := by decide +kernel
theorem dX7_begins_101 : decode cX7_begins 101 = .ok (.iload_n 3, 1) := by decide +kernel
theorem dX7_begins_102 : decode cX7_begins 102 = .ok (.isub, 1) := by decide +kernel
theorem dX7_begins_103 : decode cX7_begins 103 = .ok (.iload 9, 2) := by decide +kernel
theorem dX7_begins_105 : decode cX7_begins 105 = .ok (.ifCond .le 7, 3) := by decide +kernel
theorem dX7_begins_108 : decode cX7_begins 108 = .ok (.iconst 0, 1) := by decide +kernel
theorem dX7_begins_109 : decode cX7_begins 109 = .ok (.goto 4, 3) := by decide +kernel
theorem dX7_begins_112 : decode cX7_begins 112 = .ok (.iconst 1, 1) := by decide +kernel
theorem dX7_begins_113 : decode cX7_begins 113 = .ok (.iload 8, 2) := by decide +kernel
theorem dX7_begins_115 : decode cX7_begins 115 = .ok (.invokevirtual 192, 3) := by decide +kernel
theorem dX7_begins_118 : decode cX7_begins 118 = .ok (.iinc 9 1, 3) := by decide +kernel
theorem dX7_begins_121 : decode cX7_begins 121 = .ok (.goto (-94), 3) := by decide +kernel
theorem dX7_begins_124 : decode cX7_begins 124 = .ok (.return_, 1) := by decide +kernel
set_option maxRecDepth 20000 in
theorem ggX7_isTooMany_X7_isLeft : GoodIn wsX7_isTooMany wsX7_isLeft := goodIn_r _ [8, 9, 10, 11, 12, 7, 13, 14, 15, 16, 17, 18, 19, 20, 21, 22, 23, 24, 25, 26, 27, 28, 29, 30, 31, 32, 33, 34, 35, 36, 37, 38, 39, 40, 41, 42, 43, 44, 45, 46, 47, 48, 49, 50, 51, 52, 53, 54, 55, 56, 57, 58, 59, 60, 61, 62, 63, 64, 65, 66, 67] (by decide +kernel) (by decide +kernel)
set_option maxRecDepth 20000 in
theorem gX7_isTooMany_X7_isLeft : GoodIn wsX7_isTooMany (wsV RX7 147 RX7 yX7_isLeft wsX7_isLeft) := goodIn_app (goodIn_of _ (by decide +kernel)) ggX7_isTooMany_X7_isLeft
theorem dX7_isTooMany_0 : decode cX7_isTooMany 0 = .ok (.aload_n 0, 1) := by decide +kernel
theorem dX7_isTooMany_1 : decode cX7_isTooMany 1 = .ok (.iconst 0, 1) := by decide +kernel
theorem dX7_isTooMany_2 : decode cX7_isTooMany 2 = .ok (.putfield 176, 3) := by decide +kernel
theorem dX7_isTooMany_5 : decode cX7_isTooMany 5 = .ok (.iconst 0, 1) := by decide +kernel
theorem dX7_isTooMany_6 : decode cX7_isTooMany 6 = .ok (.istore_n 1, 1) := by decide +kernel
theorem dX7_isTooMany_7 : decode cX7_isTooMany 7 = .ok (.iload_n 1, 1) := by decide +kernel
theorem dX7_isTooMany_8 : decode cX7_isTooMany 8 = .ok (.aload_n 0, 1) := by decide +kernel
theorem dX7_isTooMany_9 : decode cX7_isTooMany 9 = .ok (.getfield 126, 3) := by decide +kernel
theorem dX7_isTooMany_12 : decode cX7_isTooMany 12 = .ok (.if_icmp .ge 51, 3) := by decide +kernel
theorem dX7_isTooMany_15 : decode cX7_isTooMany 15 = .ok (.aload_n 0, 1) := by decide +kernel
theorem dX7_isTooMany_16 : decode cX7_isTooMany 16 = .ok (.iload_n 1, 1) := by decide +kernel
theorem dX7_isTooMany_17 : decode cX7_isTooMany 17 = .ok (.invokevirtual 147, 3) := by decide +kernel
theorem dX7_isTooMany_20 : decode cX7_isTooMany 20 = .ok (.ifCond .ne 6, 3) := by decide +kernel
theorem dX7_isTooMany_23 : decode cX7_isTooMany 23 = .ok (.goto 34, 3) := by decide +kernel
theorem dX7_isTooMany_26 : decode cX7_isTooMany 26 = .ok (.aload_n 0, 1) := by decide +kernel
theorem dX7_isTooMany_27 : decode cX7_isTooMany 27 = .ok (.getfield 176, 3) := by decide +kernel
theorem dX7_isTooMany_30 : decode cX7_isTooMany 30 = .ok (.bipush 6, 2) := by decide +kernel
theorem dX7_isTooMany_32 : decode cX7_isTooMany 32 = .ok (.if_icmp .ne 5, 3) := by decide +kernel
theorem dX7_isTooMany_35 : decode cX7_isTooMany 35 = .ok (.iconst 1, 1) := by decide +kernel
theorem dX7_isTooMany_36 : decode cX7_isTooMany 36 = .ok (.ireturn, 1) := by decide +kernel
theorem dX7_isTooMany_37 : decode cX7_isTooMany 37 = .ok (.aload_n 0, 1) := by decide +kernel
theorem dX7_isTooMany_38 : decode cX7_isTooMany 38 = .ok (.getfield 81, 3) := by decide +kernel
theorem dX7_isTooMany_41 : decode cX7_isTooMany 41 = .ok (.aload_n 0, 1) := by decide +kernel
theorem dX7_isTooMany_42 : decode cX7_isTooMany 42 = .ok (.getfield 176, 3) := by decide +kernel
theorem dX7_isTooMany_45 : decode cX7_isTooMany 45 = .ok (.iload_n 1, 1) := by decide +kernel
theorem dX7_isTooMany_46 : decode cX7_isTooMany 46 = .ok (.iastore, 1) := by decide +kernel
theorem dX7_isTooMany_47 : decode cX7_isTooMany 47 = .ok (.aload_n 0, 1) := by decide +kernel
theorem dX7_isTooMany_48 : decode cX7_isTooMany 48 = .ok (.dup, 1) := by decide +kernel
theorem dX7_isTooMany_49 : decode cX7_isTooMany 49 = .ok (.getfield 176, 3) := by decide +kernel
theorem dX7_isTooMany_52 : decode cX7_isTooMany 52 = .ok (.iconst 1, 1) := by decide +kernel
theorem dX7_isTooMany_53 : decode cX7_isTooMany 53 = .ok (.iadd, 1) := by decide +kernel
theorem dX7_isTooMany_54 : decode cX7_isTooMany 54 = .ok (.putfield 176, 3) := by decide +kernel
theorem dX7_isTooMany_57 : decode cX7_isTooMany 57 = .ok (.iinc 1 1, 3) := by decide +kernel
theorem dX7_isTooMany_60 : decode cX7_isTooMany 60 = .ok (.goto (-53), 3) := by decide +kernel
theorem dX7_isTooMany_63 : decode cX7_isTooMany 63 = .ok (.iconst 0, 1) := by decide +kernel
theorem dX7_isTooMany_64 : decode cX7_isTooMany 64 = .ok (.ireturn, 1) := by decide +kernel
set_option maxRecDepth 20000 in
theorem ggX7_goesOn_X7_begins : GoodIn wsX7_goesOn wsX7_begins := goodIn_r _ [12, 13, 6, 14, 15, 16, 11, 17, 2, 7, 18, 19, 20, 21, 22, 23, 24, 25, 26, 27, 28, 29, 30, 31, 32, 33, 34, 35, 36, 37, 38, 39, 40, 41, 42, 43, 44, 45, 46, 47, 48, 49, 50, 51, 52, 53, 54, 55, 56, 57, 58, 59, 60, 61, 62, 63, 64, 65, 66, 67, 68, 69, 70, 71, 72, 73, 74, 75, 76, 77, 78, 79, 80, 81, 82, 1, 83, 4, 84, 85, 86, 87, 88, 89, 90, 91, 92, 93, 94, 95, 96, 97, 98, 99, 100, 101, 102, 103, 104, 105, 106, 107, 108, 109, 110, 111, 112, 113, 114, 115, 116, 117, 118, 119, 120, 121, 122] (by decide +kernel) (by decide +kernel)
set_option maxRecDepth 20000 in
theorem gX7_goesOn_X7_begins : GoodIn wsX7_goesOn (wsV RX7 202 RX7 yX7_begins wsX7_begins) := goodIn_app (goodIn_of _ (by decide +kernel)) ggX7_goesOn_X7_begins
theorem dX7_goesOn_0 : decode cX7_goesOn 0 = .ok (.aload_n 0, 1) := by decide +kernel
theorem dX7_goesOn_1 : decode cX7_goesOn 1 = .ok (.getfield 68, 3) := by decide +kernel
theorem dX7_goesOn_4 : decode cX7_goesOn 4 = .ok (.iload_n 2, 1) := by decide +kernel
theorem dX7_goesOn_5 : decode cX7_goesOn 5 = .ok (.iaload, 1) := by decide +kernel
theorem dX7_goesOn_6 : decode cX7_goesOn 6 = .ok (.iconst 4, 1) := by decide +kernel
theorem dX7_goesOn_7 : decode cX7_goesOn 7 = .ok (.idiv, 1) := by decide +kernel
theorem dX7_goesOn_8 : decode cX7_goesOn 8 = .ok (.bipush 64, 2) := by decide +kernel
theorem dX7_goesOn_10 : decode cX7_goesOn 10 = .ok (.irem, 1) := by decide +kernel
theorem dX7_goesOn_11 : decode cX7_goesOn 11 = .ok (.istore_n 3, 1) := by decide +kernel
theorem dX7_goesOn_12 : decode cX7_goesOn 12 = .ok (.aload_n 0, 1) := by decide +kernel
theorem dX7_goesOn_13 : decode cX7_goesOn 13 = .ok (.getfield 68, 3) := by decide +kernel
theorem dX7_goesOn_16 : decode cX7_goesOn 16 = .ok (.iload_n 2, 1) := by decide +kernel
theorem dX7_goesOn_17 : decode cX7_goesOn 17 = .ok (.iaload, 1) := by decide +kernel
theorem dX7_goesOn_18 : decode cX7_goesOn 18 = .ok (.iconst 2, 1) := by decide +kernel
theorem dX7_goesOn_19 : decode cX7_goesOn 19 = .ok (.idiv, 1) := by decide +kernel
theorem dX7_goesOn_20 : decode cX7_goesOn 20 = .ok (.iconst 2, 1) := by decide +kernel
theorem dX7_goesOn_21 : decode cX7_goesOn 21 = .ok (.irem, 1) := by decide +kernel
theorem dX7_goesOn_22 : decode cX7_goesOn 22 = .ok (.istore 4, 2) := by decide +kernel
theorem dX7_goesOn_24 : decode cX7_goesOn 24 = .ok (.aload_n 0, 1) := by decide +kernel
theorem dX7_goesOn_25 : decode cX7_goesOn 25 = .ok (.getfield 68, 3) := by decide +kernel
theorem dX7_goesOn_28 : decode cX7_goesOn 28 = .ok (.iload_n 2, 1) := by decide +kernel
theorem dX7_goesOn_29 : decode cX7_goesOn 29 = .ok (.iaload, 1) := by decide +kernel
theorem dX7_goesOn_30 : decode cX7_goesOn 30 = .ok (.iconst 2, 1) := by decide +kernel
theorem dX7_goesOn_31 : decode cX7_goesOn 31 = .ok (.irem, 1) := by decide +kernel
theorem dX7_goesOn_32 : decode cX7_goesOn 32 = .ok (.istore 5, 2) := by decide +kernel
theorem dX7_goesOn_34 : decode cX7_goesOn 34 = .ok (.iload_n 3, 1) := by decide +kernel
theorem dX7_goesOn_35 : decode cX7_goesOn 35 = .ok (.iconst 1, 1) := by decide +kernel
theorem dX7_goesOn_36 : decode cX7_goesOn 36 = .ok (.aload_n 0, 1) := by decide +kernel
theorem dX7_goesOn_37 : decode cX7_goesOn 37 = .ok (.getfield 176, 3) := by decide +kernel
theorem dX7_goesOn_40 : decode cX7_goesOn 40 = .ok (.ishl, 1) := by decide +kernel
theorem dX7_goesOn_41 : decode cX7_goesOn 41 = .ok (.iconst 1, 1) := by decide +kernel
theorem dX7_goesOn_42 : decode cX7_goesOn 42 = .ok (.isub, 1) := by decide +kernel
theorem dX7_goesOn_43 : decode cX7_goesOn 43 = .ok (.if_icmp .ne 40, 3) := by decide +kernel
theorem dX7_goesOn_46 : decode cX7_goesOn 46 = .ok (.aload_n 0, 1) := by decide +kernel
theorem dX7_goesOn_47 : decode cX7_goesOn 47 = .ok (.getfield 196, 3) := by decide +kernel
theorem dX7_goesOn_50 : decode cX7_goesOn 50 = .ok (.iconst (-1), 1) := by decide +kernel
theorem dX7_goesOn_51 : decode cX7_goesOn 51 = .ok (.if_icmp .eq 16, 3) := by decide +kernel
theorem dX7_goesOn_54 : decode cX7_goesOn 54 = .ok (.aload_n 0, 1) := by decide +kernel
theorem dX7_goesOn_55 : decode cX7_goesOn 55 = .ok (.getfield 71, 3) := by decide +kernel
theorem dX7_goesOn_58 : decode cX7_goesOn 58 = .ok (.iload_n 2, 1) := by decide +kernel
theorem dX7_goesOn_59 : decode cX7_goesOn 59 = .ok (.iaload, 1) := by decide +kernel
theorem dX7_goesOn_60 : decode cX7_goesOn 60 = .ok (.aload_n 0, 1) := by decide +kernel
theorem dX7_goesOn_61 : decode cX7_goesOn 61 = .ok (.getfield 196, 3) := by decide +kernel
theorem dX7_goesOn_64 : decode cX7_goesOn 64 = .ok (.if_icmp .ge 18, 3) := by decide +kernel
theorem dX7_goesOn_67 : decode cX7_goesOn 67 = .ok (.aload_n 0, 1) := by decide +kernel
theorem dX7_goesOn_68 : decode cX7_goesOn 68 = .ok (.aload_n 0, 1) := by decide +kernel
theorem dX7_goesOn_69 : decode cX7_goesOn 69 = .ok (.getfield 71, 3) := by decide +kernel
theorem dX7_goesOn_72 : decode cX7_goesOn 72 = .ok (.iload_n 2, 1) := by decide +kernel
theorem dX7_goesOn_73 : decode cX7_goesOn 73 = .ok (.iaload, 1) := by decide +kernel
theorem dX7_goesOn_74 : decode cX7_goesOn 74 = .ok (.putfield 196, 3) := by decide +kernel
theorem dX7_goesOn_77 : decode cX7_goesOn 77 = .ok (.aload_n 0, 1) := by decide +kernel
theorem dX7_goesOn_78 : decode cX7_goesOn 78 = .ok (.iload_n 1, 1) := by decide +kernel
theorem dX7_goesOn_79 : decode cX7_goesOn 79 = .ok (.putfield 199, 3) := by decide +kernel
theorem dX7_goesOn_82 : decode cX7_goesOn 82 = .ok (.return_, 1) := by decide +kernel
theorem dX7_goesOn_83 : decode cX7_goesOn 83 = .ok (.aload_n 0, 1) := by decide +kernel
theorem dX7_goesOn_84 : decode cX7_goesOn 84 = .ok (.iload_n 1, 1) := by decide +kernel
theorem dX7_goesOn_85 : decode cX7_goesOn 85 = .ok (.iload_n 3, 1) := by decide +kernel
theorem dX7_goesOn_86 : decode cX7_goesOn 86 = .ok (.iload 4, 2) := by decide +kernel
theorem dX7_goesOn_88 : decode cX7_goesOn 88 = .ok (.iload 5, 2) := by decide +kernel
theorem dX7_goesOn_90 : decode cX7_goesOn 90 = .ok (.aload_n 0, 1) := by decide +kernel
theorem dX7_goesOn_91 : decode cX7_goesOn 91 = .ok (.getfield 71, 3) := by decide +kernel
theorem dX7_goesOn_94 : decode cX7_goesOn 94 = .ok (.iload_n 2, 1) := by decide +kernel
theorem dX7_goesOn_95 : decode cX7_goesOn 95 = .ok (.iaload, 1) := by decide +kernel
theorem dX7_goesOn_96 : decode cX7_goesOn 96 = .ok (.invokevirtual 202, 3) := by decide +kernel
theorem dX7_goesOn_99 : decode cX7_goesOn 99 = .ok (.iconst 0, 1) := by decide +kernel
theorem dX7_goesOn_100 : decode cX7_goesOn 100 = .ok (.istore 6, 2) := by decide +kernel
theorem dX7_goesOn_102 : decode cX7_goesOn 102 = .ok (.iload 6, 2) := by decide +kernel
theorem dX7_goesOn_104 : decode cX7_goesOn 104 = .ok (.aload_n 0, 1) := by decide +kernel
theorem dX7_goesOn_105 : decode cX7_goesOn 105 = .ok (.getfield 176, 3) := by decide +kernel
theorem dX7_goesOn_108 : decode cX7_goesOn 108 = .ok (.if_icmp .ge 138, 3) := by decide +kernel
theorem dX7_goesOn_111 : decode cX7_goesOn 111 = .ok (.iload_n 3, 1) := by decide +kernel
theorem dX7_goesOn_112 : decode cX7_goesOn 112 = .ok (.iload 6, 2) := by decide +kernel
theorem dX7_goesOn_114 : decode cX7_goesOn 114 = .ok (.ishr, 1) := by decide +kernel
theorem dX7_goesOn_115 : decode cX7_goesOn 115 = .ok (.iconst 1, 1) := by decide +kernel
theorem dX7_goesOn_116 : decode cX7_goesOn 116 = .ok (.iand, 1) := by decide +kernel
theorem dX7_goesOn_117 : decode cX7_goesOn 117 = .ok (.ifCond .ne 23, 3) := by decide +kernel
theorem dX7_goesOn_120 : decode cX7_goesOn 120 = .ok (.aload_n 0, 1) := by decide +kernel
theorem dX7_goesOn_121 : decode cX7_goesOn 121 = .ok (.getfield 40, 3) := by decide +kernel
theorem dX7_goesOn_124 : decode cX7_goesOn 124 = .ok (.aload_n 0, 1) := by decide +kernel
theorem dX7_goesOn_125 : decode cX7_goesOn 125 = .ok (.getfield 81, 3) := by decide +kernel
theorem dX7_goesOn_128 : decode cX7_goesOn 128 = .ok (.iload 6, 2) := by decide +kernel
theorem dX7_goesOn_130 : decode cX7_goesOn 130 = .ok (.iaload, 1) := by decide +kernel
theorem dX7_goesOn_131 : decode cX7_goesOn 131 = .ok (.iaload, 1) := by decide +kernel
theorem dX7_goesOn_132 : decode cX7_goesOn 132 = .ok (.iload_n 1, 1) := by decide +kernel
theorem dX7_goesOn_133 : decode cX7_goesOn 133 = .ok (.if_icmp .le 7, 3) := by decide +kernel
theorem dX7_goesOn_136 : decode cX7_goesOn 136 = .ok (.iconst 1, 1) := by decide +kernel
theorem dX7_goesOn_137 : decode cX7_goesOn 137 = .ok (.goto 4, 3) := by decide +kernel
theorem dX7_goesOn_140 : decode cX7_goesOn 140 = .ok (.iconst 0, 1) := by decide +kernel
theorem dX7_goesOn_141 : decode cX7_goesOn 141 = .ok (.istore 7, 2) := by decide +kernel
theorem dX7_goesOn_143 : decode cX7_goesOn 143 = .ok (.iconst 0, 1) := by decide +kernel
theorem dX7_goesOn_144 : decode cX7_goesOn 144 = .ok (.istore 8, 2) := by decide +kernel
theorem dX7_goesOn_146 : decode cX7_goesOn 146 = .ok (.iload 8, 2) := by decide +kernel
theorem dX7_goesOn_148 : decode cX7_goesOn 148 = .ok (.iload 6, 2) := by decide +kernel
theorem dX7_goesOn_150 : decode cX7_goesOn 150 = .ok (.if_icmp .ge 58, 3) := by decide +kernel
theorem dX7_goesOn_153 : decode cX7_goesOn 153 = .ok (.iload 7, 2) := by decide +kernel
theorem dX7_goesOn_155 : decode cX7_goesOn 155 = .ok (.ifCond .eq 44, 3) := by decide +kernel
theorem dX7_goesOn_158 : decode cX7_goesOn 158 = .ok (.iload_n 3, 1) := by decide +kernel
theorem dX7_goesOn_159 : decode cX7_goesOn 159 = .ok (.iload 8, 2) := by decide +kernel
theorem dX7_goesOn_161 : decode cX7_goesOn 161 = .ok (.ishr, 1) := by decide +kernel
theorem dX7_goesOn_162 : decode cX7_goesOn 162 = .ok (.iconst 1, 1) := by decide +kernel
theorem dX7_goesOn_163 : decode cX7_goesOn 163 = .ok (.iand, 1) := by decide +kernel
theorem dX7_goesOn_164 : decode cX7_goesOn 164 = .ok (.iconst 1, 1) := by decide +kernel
theorem dX7_goesOn_165 : decode cX7_goesOn 165 = .ok (.if_icmp .eq 30, 3) := by decide +kernel
theorem dX7_goesOn_168 : decode cX7_goesOn 168 = .ok (.aload_n 0, 1) := by decide +kernel
theorem dX7_goesOn_169 : decode cX7_goesOn 169 = .ok (.getfield 40, 3) := by decide +kernel
theorem dX7_goesOn_172 : decode cX7_goesOn 172 = .ok (.aload_n 0, 1) := by decide +kernel
theorem dX7_goesOn_173 : decode cX7_goesOn 173 = .ok (.getfield 81, 3) := by decide +kernel
theorem dX7_goesOn_176 : decode cX7_goesOn 176 = .ok (.iload 8, 2) := by decide +kernel
theorem dX7_goesOn_178 : decode cX7_goesOn 178 = .ok (.iaload, 1) := by decide +kernel
theorem dX7_goesOn_179 : decode cX7_goesOn 179 = .ok (.iaload, 1) := by decide +kernel
theorem dX7_goesOn_180 : decode cX7_goesOn 180 = .ok (.aload_n 0, 1) := by decide +kernel
theorem dX7_goesOn_181 : decode cX7_goesOn 181 = .ok (.getfield 40, 3) := by decide +kernel
theorem dX7_goesOn_184 : decode cX7_goesOn 184 = .ok (.aload_n 0, 1) := by decide +kernel
theorem dX7_goesOn_185 : decode cX7_goesOn 185 = .ok (.getfield 81, 3) := by decide +kernel
theorem dX7_goesOn_188 : decode cX7_goesOn 188 = .ok (.iload 6, 2) := by decide +kernel
theorem dX7_goesOn_190 : decode cX7_goesOn 190 = .ok (.iaload, 1) := by decide +kernel
theorem dX7_goesOn_191 : decode cX7_goesOn 191 = .ok (.iaload, 1) := by decide +kernel
theorem dX7_goesOn_192 : decode cX7_goesOn 192 = .ok (.if_icmp .eq 7, 3) := by decide +kernel
theorem dX7_goesOn_195 : decode cX7_goesOn 195 = .ok (.iconst 1, 1) := by decide +kernel
theorem dX7_goesOn_196 : decode cX7_goesOn 196 = .ok (.goto 4, 3) := by decide +kernel
theorem dX7_goesOn_199 : decode cX7_goesOn 199 = .ok (.iconst 0, 1) := by decide +kernel
theorem dX7_goesOn_200 : decode cX7_goesOn 200 = .ok (.istore 7, 2) := by decide +kernel
theorem dX7_goesOn_202 : decode cX7_goesOn 202 = .ok (.iinc 8 1, 3) := by decide +kernel
theorem dX7_goesOn_205 : decode cX7_goesOn 205 = .ok (.goto (-59), 3) := by decide +kernel
theorem dX7_goesOn_208 : decode cX7_goesOn 208 = .ok (.iload 7, 2) := by decide +kernel
theorem dX7_goesOn_210 : decode cX7_goesOn 210 = .ok (.ifCond .eq 30, 3) := by decide +kernel
theorem dX7_goesOn_213 : decode cX7_goesOn 213 = .ok (.aload_n 0, 1) := by decide +kernel
theorem dX7_goesOn_214 : decode cX7_goesOn 214 = .ok (.aload_n 0, 1) := by decide +kernel
theorem dX7_goesOn_215 : decode cX7_goesOn 215 = .ok (.getfield 40, 3) := by decide +kernel
theorem dX7_goesOn_218 : decode cX7_goesOn 218 = .ok (.aload_n 0, 1) := by decide +kernel
theorem dX7_goesOn_219 : decode cX7_goesOn 219 = .ok (.getfield 81, 3) := by decide +kernel
theorem dX7_goesOn_222 : decode cX7_goesOn 222 = .ok (.iload 6, 2) := by decide +kernel
theorem dX7_goesOn_224 : decode cX7_goesOn 224 = .ok (.iaload, 1) := by decide +kernel
theorem dX7_goesOn_225 : decode cX7_goesOn 225 = .ok (.iaload, 1) := by decide +kernel
theorem dX7_goesOn_226 : decode cX7_goesOn 226 = .ok (.iload_n 3, 1) := by decide +kernel
theorem dX7_goesOn_227 : decode cX7_goesOn 227 = .ok (.iload 4, 2) := by decide +kernel
theorem dX7_goesOn_229 : decode cX7_goesOn 229 = .ok (.iload 5, 2) := by decide +kernel
theorem dX7_goesOn_231 : decode cX7_goesOn 231 = .ok (.aload_n 0, 1) := by decide +kernel
theorem dX7_goesOn_232 : decode cX7_goesOn 232 = .ok (.getfield 71, 3) := by decide +kernel
theorem dX7_goesOn_235 : decode cX7_goesOn 235 = .ok (.iload_n 2, 1) := by decide +kernel
theorem dX7_goesOn_236 : decode cX7_goesOn 236 = .ok (.iaload, 1) := by decide +kernel
theorem dX7_goesOn_237 : decode cX7_goesOn 237 = .ok (.invokevirtual 202, 3) := by decide +kernel
theorem dX7_goesOn_240 : decode cX7_goesOn 240 = .ok (.iinc 6 1, 3) := by decide +kernel
theorem dX7_goesOn_243 : decode cX7_goesOn 243 = .ok (.goto (-141), 3) := by decide +kernel
theorem dX7_goesOn_246 : decode cX7_goesOn 246 = .ok (.return_, 1) := by decide +kernel
set_option maxRecDepth 20000 in
theorem ggX7_works_X7_keeps : GoodIn wsX7_works wsX7_keeps := goodIn_r _ [14, 15, 16, 1, 17, 18, 19, 2, 9, 6, 94, 95, 96, 97, 98, 99, 100, 101, 102, 103, 104, 105, 106, 107, 108, 109, 110, 111, 112, 113, 114, 115, 116, 117, 118, 119, 120, 121, 122, 123, 124, 125, 126, 127, 128, 129] (by decide +kernel) (by decide +kernel)
set_option maxRecDepth 20000 in
theorem gX7_works_X7_keeps : GoodIn wsX7_works (wsV RX7 192 RX7 yX7_keeps wsX7_keeps) := goodIn_app (goodIn_of _ (by decide +kernel)) ggX7_works_X7_keeps
set_option maxRecDepth 20000 in
theorem ggX7_works_X7_goesOn : GoodIn wsX7_works wsX7_goesOn := goodIn_r _ [23, 17, 24, 3, 19, 4, 25, 26, 27, 28, 29, 13, 30, 31, 32, 33, 34, 35, 36, 37, 38, 39, 40, 41, 42, 43, 44, 45, 46, 47, 48, 49, 50, 51, 52, 53, 54, 55, 56, 57, 58, 59, 60, 61, 62, 63, 64, 65, 66, 67, 68, 69, 70, 71, 72, 73, 74, 75, 76, 77, 78, 79, 80, 81, 82, 83, 84, 85, 86, 87, 88, 89, 90, 91, 92, 93, 10, 11, 12, 14, 15, 16, 1, 18, 2, 9, 6, 94, 95, 96, 97, 98, 99, 100, 101, 102, 103, 104, 105, 106, 107, 108, 109, 110, 111, 112, 113, 114, 115, 116, 117, 118, 119, 120, 121, 122, 123, 124, 125, 126, 127, 128, 129] (by decide +kernel) (by decide +kernel)
set_option maxRecDepth 20000 in
theorem gX7_works_X7_goesOn : GoodIn wsX7_works (wsV RX7 205 RX7 yX7_goesOn wsX7_goesOn) := goodIn_app (goodIn_of _ (by decide +kernel)) ggX7_works_X7_goesOn
end
section
theorem dX7_works_0 : decode cX7_works 0 = .ok (.aload_n 0, 1) := by decide +kernel
theorem dX7_works_1 : decode cX7_works 1 = .ok (.dup, 1) := by decide +kernel
theorem dX7_works_2 : decode cX7_works 2 = .ok (.getfield 180, 3) := by decide +kernel
theorem dX7_works_5 : decode cX7_works 5 = .ok (.iconst 1, 1) := by decide +kernel
theorem dX7_works_6 : decode cX7_works 6 = .ok (.iadd, 1) := by decide +kernel
theorem dX7_works_7 : decode cX7_works 7 = .ok (.putfield 180, 3) := by decide +kernel
theorem dX7_works_10 : decode cX7_works 10 = .ok (.aload_n 0, 1) := by decide +kernel
theorem dX7_works_11 : decode cX7_works 11 = .ok (.iconst 0, 1) := by decide +kernel
theorem dX7_works_12 : decode cX7_works 12 = .ok (.putfield 183, 3) := by decide +kernel
theorem dX7_works_15 : decode cX7_works 15 = .ok (.aload_n 0, 1) := by decide +kernel
theorem dX7_works_16 : decode cX7_works 16 = .ok (.iconst (-1), 1) := by decide +kernel
theorem dX7_works_17 : decode cX7_works 17 = .ok (.putfield 196, 3) := by decide +kernel
theorem dX7_works_20 : decode cX7_works 20 = .ok (.aload_n 0, 1) := by decide +kernel
theorem dX7_works_21 : decode cX7_works 21 = .ok (.iconst (-1), 1) := by decide +kernel
theorem dX7_works_22 : decode cX7_works 22 = .ok (.putfield 199, 3) := by decide +kernel
theorem dX7_works_25 : decode cX7_works 25 = .ok (.iconst 0, 1) := by decide +kernel
theorem dX7_works_26 : decode cX7_works 26 = .ok (.istore_n 1, 1) := by decide +kernel
theorem dX7_works_27 : decode cX7_works 27 = .ok (.iload_n 1, 1) := by decide +kernel
theorem dX7_works_28 : decode cX7_works 28 = .ok (.ldc 77, 2) := by decide +kernel
theorem dX7_works_30 : decode cX7_works 30 = .ok (.if_icmp .ge 16, 3) := by decide +kernel
theorem dX7_works_33 : decode cX7_works 33 = .ok (.aload_n 0, 1) := by decide +kernel
theorem dX7_works_34 : decode cX7_works 34 = .ok (.getfield 78, 3) := by decide +kernel
theorem dX7_works_37 : decode cX7_works 37 = .ok (.iload_n 1, 1) := by decide +kernel
theorem dX7_works_38 : decode cX7_works 38 = .ok (.iconst (-1), 1) := by decide +kernel
theorem dX7_works_39 : decode cX7_works 39 = .ok (.iastore, 1) := by decide +kernel
theorem dX7_works_40 : decode cX7_works 40 = .ok (.iinc 1 1, 3) := by decide +kernel
theorem dX7_works_43 : decode cX7_works 43 = .ok (.goto (-16), 3) := by decide +kernel
theorem dX7_works_46 : decode cX7_works 46 = .ok (.aload_n 0, 1) := by decide +kernel
theorem dX7_works_47 : decode cX7_works 47 = .ok (.aload_n 0, 1) := by decide +kernel
theorem dX7_works_48 : decode cX7_works 48 = .ok (.getfield 164, 3) := by decide +kernel
theorem dX7_works_51 : decode cX7_works 51 = .ok (.iconst 0, 1) := by decide +kernel
theorem dX7_works_52 : decode cX7_works 52 = .ok (.aload_n 0, 1) := by decide +kernel
theorem dX7_works_53 : decode cX7_works 53 = .ok (.getfield 157, 3) := by decide +kernel
theorem dX7_works_56 : decode cX7_works 56 = .ok (.iconst 0, 1) := by decide +kernel
theorem dX7_works_57 : decode cX7_works 57 = .ok (.iconst 0, 1) := by decide +kernel
theorem dX7_works_58 : decode cX7_works 58 = .ok (.invokevirtual 192, 3) := by decide +kernel
theorem dX7_works_61 : decode cX7_works 61 = .ok (.iconst 0, 1) := by decide +kernel
theorem dX7_works_62 : decode cX7_works 62 = .ok (.istore_n 1, 1) := by decide +kernel
theorem dX7_works_63 : decode cX7_works 63 = .ok (.iload_n 1, 1) := by decide +kernel
theorem dX7_works_64 : decode cX7_works 64 = .ok (.ldc 77, 2) := by decide +kernel
theorem dX7_works_66 : decode cX7_works 66 = .ok (.if_icmp .ge 37, 3) := by decide +kernel
theorem dX7_works_69 : decode cX7_works 69 = .ok (.aload_n 0, 1) := by decide +kernel
theorem dX7_works_70 : decode cX7_works 70 = .ok (.getfield 78, 3) := by decide +kernel
theorem dX7_works_73 : decode cX7_works 73 = .ok (.iload_n 1, 1) := by decide +kernel
theorem dX7_works_74 : decode cX7_works 74 = .ok (.iaload, 1) := by decide +kernel
theorem dX7_works_75 : decode cX7_works 75 = .ok (.istore_n 2, 1) := by decide +kernel
theorem dX7_works_76 : decode cX7_works 76 = .ok (.iload_n 2, 1) := by decide +kernel
theorem dX7_works_77 : decode cX7_works 77 = .ok (.iconst (-1), 1) := by decide +kernel
theorem dX7_works_78 : decode cX7_works 78 = .ok (.if_icmp .eq 19, 3) := by decide +kernel
theorem dX7_works_81 : decode cX7_works 81 = .ok (.aload_n 0, 1) := by decide +kernel
theorem dX7_works_82 : decode cX7_works 82 = .ok (.iload_n 1, 1) := by decide +kernel
theorem dX7_works_83 : decode cX7_works 83 = .ok (.iload_n 2, 1) := by decide +kernel
theorem dX7_works_84 : decode cX7_works 84 = .ok (.invokevirtual 205, 3) := by decide +kernel
theorem dX7_works_87 : decode cX7_works 87 = .ok (.aload_n 0, 1) := by decide +kernel
theorem dX7_works_88 : decode cX7_works 88 = .ok (.getfield 74, 3) := by decide +kernel
theorem dX7_works_91 : decode cX7_works 91 = .ok (.iload_n 2, 1) := by decide +kernel
theorem dX7_works_92 : decode cX7_works 92 = .ok (.iaload, 1) := by decide +kernel
theorem dX7_works_93 : decode cX7_works 93 = .ok (.istore_n 2, 1) := by decide +kernel
theorem dX7_works_94 : decode cX7_works 94 = .ok (.goto (-18), 3) := by decide +kernel
theorem dX7_works_97 : decode cX7_works 97 = .ok (.iinc 1 1, 3) := by decide +kernel
theorem dX7_works_100 : decode cX7_works 100 = .ok (.goto (-37), 3) := by decide +kernel
theorem dX7_works_103 : decode cX7_works 103 = .ok (.return_, 1) := by decide +kernel
set_option maxRecDepth 20000 in
theorem ggX7_plan_X7_isTooMany : GoodIn wsX7_plan wsX7_isTooMany := goodIn_r _ [6, 7, 8, 9, 10, 11, 12, 5, 13, 14, 15, 16, 17, 18, 19, 20, 21, 22, 23, 24, 25, 26, 27, 28, 29, 30, 31, 32, 33, 34, 35, 36, 102, 103, 104, 105, 106, 107, 108, 109, 110, 111, 112, 113, 114, 115, 116, 117, 118, 119, 120, 121, 122, 123, 124, 125, 126, 127, 128, 129, 130, 131, 132, 133, 134, 135, 136, 137] (by decide +kernel) (by decide +kernel)
set_option maxRecDepth 20000 in
theorem gX7_plan_X7_isTooMany : GoodIn wsX7_plan (wsV RX7 209 RX7 yX7_isTooMany wsX7_isTooMany) := goodIn_app (goodIn_of _ (by decide +kernel)) ggX7_plan_X7_isTooMany
set_option maxRecDepth 20000 in
theorem ggX7_plan_X7_works : GoodIn wsX7_plan wsX7_works := goodIn_r _ [40, 41, 42, 1, 43, 44, 45, 46, 47, 48, 49, 50, 51, 5, 52, 53, 54, 55, 56, 57, 58, 59, 60, 61, 7, 62, 9, 63, 64, 65, 66, 67, 68, 69, 70, 71, 72, 73, 74, 75, 76, 8, 77, 10, 11, 12, 13, 14, 15, 16, 17, 18, 19, 20, 21, 22, 23, 24, 25, 26, 27, 28, 29, 30, 31, 32, 33, 34, 35, 36, 78, 79, 80, 81, 82, 83, 84, 85, 86, 87, 88, 89, 90, 91, 92, 93, 94, 95, 96, 97, 98, 99, 100, 101, 102, 103, 104, 105, 106, 107, 108, 109, 110, 111, 112, 113, 114, 115, 116, 117, 118, 119, 120, 121, 122, 123, 124, 125, 126, 127, 128, 129, 130, 131, 132, 133, 134, 135, 136, 137] (by decide +kernel) (by decide +kernel)
set_option maxRecDepth 20000 in
theorem gX7_plan_X7_works : GoodIn wsX7_plan (wsV RX7 213 RX7 yX7_works wsX7_works) := goodIn_app (goodIn_of _ (by decide +kernel)) ggX7_plan_X7_works
theorem dX7_plan_0 : decode cX7_plan 0 = .ok (.aload_n 0, 1) := by decide +kernel
theorem dX7_plan_1 : decode cX7_plan 1 = .ok (.invokevirtual 209, 3) := by decide +kernel
theorem dX7_plan_4 : decode cX7_plan 4 = .ok (.ifCond .eq 6, 3) := by decide +kernel
theorem dX7_plan_7 : decode cX7_plan 7 = .ok (.bipush (-2), 2) := by decide +kernel
theorem dX7_plan_9 : decode cX7_plan 9 = .ok (.ireturn, 1) := by decide +kernel
theorem dX7_plan_10 : decode cX7_plan 10 = .ok (.aload_n 0, 1) := by decide +kernel
theorem dX7_plan_11 : decode cX7_plan 11 = .ok (.invokevirtual 213, 3) := by decide +kernel
theorem dX7_plan_14 : decode cX7_plan 14 = .ok (.aload_n 0, 1) := by decide +kernel
theorem dX7_plan_15 : decode cX7_plan 15 = .ok (.getfield 196, 3) := by decide +kernel
theorem dX7_plan_18 : decode cX7_plan 18 = .ok (.ireturn, 1) := by decide +kernel
set_option maxRecDepth 20000 in
theorem ggX7_ends_X7_isTooMany : GoodIn wsX7_ends wsX7_isTooMany := goodIn_r _ [7, 1, 8, 9, 10, 11, 12, 6, 13, 14, 15, 16, 17, 18, 19, 20, 21, 22, 23, 24, 25, 26, 27, 28, 29, 30, 31, 32, 33, 34, 35, 36, 102, 103, 104, 105, 106, 107, 108, 109, 110, 111, 112, 113, 114, 115, 116, 117, 118, 119, 120, 121, 122, 123, 124, 125, 126, 127, 128, 129, 130, 131, 132, 133, 134, 135, 136, 137] (by decide +kernel) (by decide +kernel)
set_option maxRecDepth 20000 in
theorem gX7_ends_X7_isTooMany : GoodIn wsX7_ends (wsV RX7 209 RX7 yX7_isTooMany wsX7_isTooMany) := goodIn_app (goodIn_of _ (by decide +kernel)) ggX7_ends_X7_isTooMany
set_option maxRecDepth 20000 in
theorem ggX7_ends_X7_works : GoodIn wsX7_ends wsX7_works := goodIn_r _ [40, 41, 42, 43, 2, 44, 45, 46, 47, 48, 49, 50, 51, 6, 52, 53, 54, 55, 56, 57, 58, 59, 60, 61, 1, 62, 9, 63, 64, 65, 66, 67, 68, 69, 70, 71, 72, 73, 74, 75, 76, 8, 77, 10, 11, 12, 13, 14, 15, 16, 17, 18, 19, 20, 21, 22, 23, 24, 25, 26, 27, 28, 29, 30, 31, 32, 33, 34, 35, 36, 78, 79, 80, 81, 82, 83, 84, 85, 86, 87, 88, 89, 90, 91, 92, 93, 94, 95, 96, 97, 98, 99, 100, 101, 102, 103, 104, 105, 106, 107, 108, 109, 110, 111, 112, 113, 114, 115, 116, 117, 118, 119, 120, 121, 122, 123, 124, 125, 126, 127, 128, 129, 130, 131, 132, 133, 134, 135, 136, 137] (by decide +kernel) (by decide +kernel)
set_option maxRecDepth 20000 in
theorem gX7_ends_X7_works : GoodIn wsX7_ends (wsV RX7 213 RX7 yX7_works wsX7_works) := goodIn_app (goodIn_of _ (by decide +kernel)) ggX7_ends_X7_works
theorem dX7_ends_0 : decode cX7_ends 0 = .ok (.aload_n 0, 1) := by decide +kernel
theorem dX7_ends_1 : decode cX7_ends 1 = .ok (.invokevirtual 209, 3) := by decide +kernel
theorem dX7_ends_4 : decode cX7_ends 4 = .ok (.ifCond .eq 6, 3) := by decide +kernel
theorem dX7_ends_7 : decode cX7_ends 7 = .ok (.bipush (-2), 2) := by decide +kernel
theorem dX7_ends_9 : decode cX7_ends 9 = .ok (.ireturn, 1) := by decide +kernel
theorem dX7_ends_10 : decode cX7_ends 10 = .ok (.aload_n 0, 1) := by decide +kernel
theorem dX7_ends_11 : decode cX7_ends 11 = .ok (.getfield 176, 3) := by decide +kernel
theorem dX7_ends_14 : decode cX7_ends 14 = .ok (.ifCond .ne 5, 3) := by decide +kernel
theorem dX7_ends_17 : decode cX7_ends 17 = .ok (.iconst (-1), 1) := by decide +kernel
theorem dX7_ends_18 : decode cX7_ends 18 = .ok (.ireturn, 1) := by decide +kernel
theorem dX7_ends_19 : decode cX7_ends 19 = .ok (.aload_n 0, 1) := by decide +kernel
theorem dX7_ends_20 : decode cX7_ends 20 = .ok (.invokevirtual 213, 3) := by decide +kernel
theorem dX7_ends_23 : decode cX7_ends 23 = .ok (.aload_n 0, 1) := by decide +kernel
theorem dX7_ends_24 : decode cX7_ends 24 = .ok (.getfield 199, 3) := by decide +kernel
theorem dX7_ends_27 : decode cX7_ends 27 = .ok (.ireturn, 1) := by decide +kernel
set_option maxRecDepth 20000 in
theorem ggX7_stock_X7_isSide : GoodIn wsX7_stock wsX7_isSide := goodIn_r _ [5, 6, 7, 4, 8] (by decide +kernel) (by decide +kernel)
set_option maxRecDepth 20000 in
theorem gX7_stock_X7_isSide : GoodIn wsX7_stock (va_wsS RX7 114 yX7_isSide wsX7_isSide) := goodIn_app (goodIn_of _ (by decide +kernel)) ggX7_stock_X7_isSide
theorem dX7_stock_0 : decode cX7_stock 0 = .ok (.iload_n 1, 1) := by decide +kernel
theorem dX7_stock_1 : decode cX7_stock 1 = .ok (.invokestatic 114, 3) := by decide +kernel
theorem dX7_stock_4 : decode cX7_stock 4 = .ok (.ifCond .eq 12, 3) := by decide +kernel
theorem dX7_stock_7 : decode cX7_stock 7 = .ok (.aload_n 0, 1) := by decide +kernel
theorem dX7_stock_8 : decode cX7_stock 8 = .ok (.getfield 27, 3) := by decide +kernel
theorem dX7_stock_11 : decode cX7_stock 11 = .ok (.iload_n 1, 1) := by decide +kernel
theorem dX7_stock_12 : decode cX7_stock 12 = .ok (.laload, 1) := by decide +kernel
theorem dX7_stock_13 : decode cX7_stock 13 = .ok (.goto 4, 3) := by decide +kernel
theorem dX7_stock_16 : decode cX7_stock 16 = .ok (.lconst 0, 1) := by decide +kernel
theorem dX7_stock_17 : decode cX7_stock 17 = .ok (.lreturn, 1) := by decide +kernel
set_option maxRecDepth 20000 in
theorem ggX7_level_X7_isSide : GoodIn wsX7_level wsX7_isSide := goodIn_r _ [4, 5, 6, 3, 7] (by decide +kernel) (by decide +kernel)
set_option maxRecDepth 20000 in
theorem gX7_level_X7_isSide : GoodIn wsX7_level (va_wsS RX7 114 yX7_isSide wsX7_isSide) := goodIn_app (goodIn_of _ (by decide +kernel)) ggX7_level_X7_isSide
set_option maxRecDepth 20000 in
theorem ggX7_level_X7_levelOf : GoodIn wsX7_level wsX7_levelOf := goodIn_r _ [11, 12, 13, 14, 15, 3, 16, 17, 18, 19, 20, 21, 22, 23, 24, 25, 26, 27, 28, 29, 30, 31, 32, 33, 34, 35, 36, 37, 38, 39, 40, 41, 42, 43, 44, 45, 46, 47, 48, 49, 50, 51, 52] (by decide +kernel) (by decide +kernel)
set_option maxRecDepth 20000 in
theorem gX7_level_X7_levelOf : GoodIn wsX7_level (wsV RX7 133 RX7 yX7_levelOf wsX7_levelOf) := goodIn_app (goodIn_of _ (by decide +kernel)) ggX7_level_X7_levelOf
theorem dX7_level_0 : decode cX7_level 0 = .ok (.iload_n 1, 1) := by decide +kernel
theorem dX7_level_1 : decode cX7_level 1 = .ok (.invokestatic 114, 3) := by decide +kernel
theorem dX7_level_4 : decode cX7_level 4 = .ok (.ifCond .eq 11, 3) := by decide +kernel
theorem dX7_level_7 : decode cX7_level 7 = .ok (.aload_n 0, 1) := by decide +kernel
theorem dX7_level_8 : decode cX7_level 8 = .ok (.iload_n 1, 1) := by decide +kernel
theorem dX7_level_9 : decode cX7_level 9 = .ok (.invokevirtual 133, 3) := by decide +kernel
theorem dX7_level_12 : decode cX7_level 12 = .ok (.goto 4, 3) := by decide +kernel
theorem dX7_level_15 : decode cX7_level 15 = .ok (.iconst 0, 1) := by decide +kernel
theorem dX7_level_16 : decode cX7_level 16 = .ok (.ireturn, 1) := by decide +kernel
set_option maxRecDepth 20000 in
theorem ggX7_depth_X7_isSide : GoodIn wsX7_depth wsX7_isSide := goodIn_r _ [4, 5, 6, 3, 7] (by decide +kernel) (by decide +kernel)
set_option maxRecDepth 20000 in
theorem gX7_depth_X7_isSide : GoodIn wsX7_depth (va_wsS RX7 114 yX7_isSide wsX7_isSide) := goodIn_app (goodIn_of _ (by decide +kernel)) ggX7_depth_X7_isSide
set_option maxRecDepth 20000 in
theorem ggX7_depth_X7_depthOf : GoodIn wsX7_depth wsX7_depthOf := goodIn_r _ [11, 12, 13, 14, 15, 3, 16, 17, 18, 19, 20, 21, 22, 23, 24, 25, 26, 27, 28, 29, 30, 31, 32, 33, 34, 35, 36, 37, 38, 39, 40, 41, 42, 43, 44, 45, 46, 47, 48, 49, 50, 51, 52, 53, 54, 55, 56, 57] (by decide +kernel) (by decide +kernel)
set_option maxRecDepth 20000 in
theorem gX7_depth_X7_depthOf : GoodIn wsX7_depth (wsV RX7 138 RX7 yX7_depthOf wsX7_depthOf) := goodIn_app (goodIn_of _ (by decide +kernel)) ggX7_depth_X7_depthOf
theorem dX7_depth_0 : decode cX7_depth 0 = .ok (.iload_n 1, 1) := by decide +kernel
theorem dX7_depth_1 : decode cX7_depth 1 = .ok (.invokestatic 114, 3) := by decide +kernel
theorem dX7_depth_4 : decode cX7_depth 4 = .ok (.ifCond .eq 11, 3) := by decide +kernel
theorem dX7_depth_7 : decode cX7_depth 7 = .ok (.aload_n 0, 1) := by decide +kernel
theorem dX7_depth_8 : decode cX7_depth 8 = .ok (.iload_n 1, 1) := by decide +kernel
theorem dX7_depth_9 : decode cX7_depth 9 = .ok (.invokevirtual 138, 3) := by decide +kernel
theorem dX7_depth_12 : decode cX7_depth 12 = .ok (.goto 4, 3) := by decide +kernel
theorem dX7_depth_15 : decode cX7_depth 15 = .ok (.iconst 0, 1) := by decide +kernel
theorem dX7_depth_16 : decode cX7_depth 16 = .ok (.ireturn, 1) := by decide +kernel
set_option maxRecDepth 20000 in
theorem ggX7_look_X7_lies : GoodIn wsX7_look wsX7_lies := goodIn_r _ [12] (by decide +kernel) (by decide +kernel)
set_option maxRecDepth 20000 in
theorem gX7_look_X7_lies : GoodIn wsX7_look (va_wsS RX7 95 yX7_lies wsX7_lies) := goodIn_app (goodIn_of _ (by decide +kernel)) ggX7_look_X7_lies
set_option maxRecDepth 20000 in
theorem ggX7_look_X7_isFit : GoodIn wsX7_look wsX7_isFit := goodIn_r _ [16, 4, 17, 5, 18, 19, 20, 21, 11, 22, 23, 24, 25, 26, 27, 28, 29, 30, 31, 32, 33, 34, 35, 36, 37, 38, 39, 40, 41, 42, 43, 44, 45, 46, 47, 48, 49, 50, 51, 52, 53, 54, 55, 56, 57, 58, 59, 60, 61, 62, 63, 64, 65, 66, 67, 68] (by decide +kernel) (by decide +kernel)
set_option maxRecDepth 20000 in
theorem gX7_look_X7_isFit : GoodIn wsX7_look (wsV RX7 141 RX7 yX7_isFit wsX7_isFit) := goodIn_app (goodIn_of _ (by decide +kernel)) ggX7_look_X7_isFit
theorem dX7_look_0 : decode cX7_look 0 = .ok (.iload_n 1, 1) := by decide +kernel
theorem dX7_look_1 : decode cX7_look 1 = .ok (.iconst 0, 1) := by decide +kernel
theorem dX7_look_2 : decode cX7_look 2 = .ok (.aload_n 0, 1) := by decide +kernel
theorem dX7_look_3 : decode cX7_look 3 = .ok (.getfield 126, 3) := by decide +kernel
theorem dX7_look_6 : decode cX7_look 6 = .ok (.iconst 1, 1) := by decide +kernel
theorem dX7_look_7 : decode cX7_look 7 = .ok (.isub, 1) := by decide +kernel
theorem dX7_look_8 : decode cX7_look 8 = .ok (.invokestatic 95, 3) := by decide +kernel
theorem dX7_look_11 : decode cX7_look 11 = .ok (.ifCond .ne 5, 3) := by decide +kernel
theorem dX7_look_14 : decode cX7_look 14 = .ok (.iconst (-1), 1) := by decide +kernel
theorem dX7_look_15 : decode cX7_look 15 = .ok (.ireturn, 1) := by decide +kernel
theorem dX7_look_16 : decode cX7_look 16 = .ok (.iload_n 2, 1) := by decide +kernel
theorem dX7_look_17 : decode cX7_look 17 = .ok (.tableswitch 142 0 8 #[51, 58, 65, 72, 79, 86, 93, 107, 114], 51) := by decide +kernel
theorem dX7_look_68 : decode cX7_look 68 = .ok (.aload_n 0, 1) := by decide +kernel
theorem dX7_look_69 : decode cX7_look 69 = .ok (.getfield 37, 3) := by decide +kernel
theorem dX7_look_72 : decode cX7_look 72 = .ok (.iload_n 1, 1) := by decide +kernel
theorem dX7_look_73 : decode cX7_look 73 = .ok (.iaload, 1) := by decide +kernel
theorem dX7_look_74 : decode cX7_look 74 = .ok (.ireturn, 1) := by decide +kernel
theorem dX7_look_75 : decode cX7_look 75 = .ok (.aload_n 0, 1) := by decide +kernel
theorem dX7_look_76 : decode cX7_look 76 = .ok (.getfield 40, 3) := by decide +kernel
theorem dX7_look_79 : decode cX7_look 79 = .ok (.iload_n 1, 1) := by decide +kernel
theorem dX7_look_80 : decode cX7_look 80 = .ok (.iaload, 1) := by decide +kernel
theorem dX7_look_81 : decode cX7_look 81 = .ok (.ireturn, 1) := by decide +kernel
theorem dX7_look_82 : decode cX7_look 82 = .ok (.aload_n 0, 1) := by decide +kernel
theorem dX7_look_83 : decode cX7_look 83 = .ok (.getfield 43, 3) := by decide +kernel
theorem dX7_look_86 : decode cX7_look 86 = .ok (.iload_n 1, 1) := by decide +kernel
theorem dX7_look_87 : decode cX7_look 87 = .ok (.iaload, 1) := by decide +kernel
theorem dX7_look_88 : decode cX7_look 88 = .ok (.ireturn, 1) := by decide +kernel
theorem dX7_look_89 : decode cX7_look 89 = .ok (.aload_n 0, 1) := by decide +kernel
theorem dX7_look_90 : decode cX7_look 90 = .ok (.getfield 46, 3) := by decide +kernel
theorem dX7_look_93 : decode cX7_look 93 = .ok (.iload_n 1, 1) := by decide +kernel
theorem dX7_look_94 : decode cX7_look 94 = .ok (.iaload, 1) := by decide +kernel
theorem dX7_look_95 : decode cX7_look 95 = .ok (.ireturn, 1) := by decide +kernel
theorem dX7_look_96 : decode cX7_look 96 = .ok (.aload_n 0, 1) := by decide +kernel
theorem dX7_look_97 : decode cX7_look 97 = .ok (.getfield 49, 3) := by decide +kernel
theorem dX7_look_100 : decode cX7_look 100 = .ok (.iload_n 1, 1) := by decide +kernel
theorem dX7_look_101 : decode cX7_look 101 = .ok (.iaload, 1) := by decide +kernel
theorem dX7_look_102 : decode cX7_look 102 = .ok (.ireturn, 1) := by decide +kernel
theorem dX7_look_103 : decode cX7_look 103 = .ok (.aload_n 0, 1) := by decide +kernel
theorem dX7_look_104 : decode cX7_look 104 = .ok (.getfield 52, 3) := by decide +kernel
theorem dX7_look_107 : decode cX7_look 107 = .ok (.iload_n 1, 1) := by decide +kernel
theorem dX7_look_108 : decode cX7_look 108 = .ok (.iaload, 1) := by decide +kernel
theorem dX7_look_109 : decode cX7_look 109 = .ok (.ireturn, 1) := by decide +kernel
theorem dX7_look_110 : decode cX7_look 110 = .ok (.aload_n 0, 1) := by decide +kernel
theorem dX7_look_111 : decode cX7_look 111 = .ok (.iload_n 1, 1) := by decide +kernel
theorem dX7_look_112 : decode cX7_look 112 = .ok (.invokevirtual 141, 3) := by decide +kernel
theorem dX7_look_115 : decode cX7_look 115 = .ok (.ifCond .eq 7, 3) := by decide +kernel
theorem dX7_look_118 : decode cX7_look 118 = .ok (.iconst 1, 1) := by decide +kernel
theorem dX7_look_119 : decode cX7_look 119 = .ok (.goto 4, 3) := by decide +kernel
theorem dX7_look_122 : decode cX7_look 122 = .ok (.iconst 0, 1) := by decide +kernel
theorem dX7_look_123 : decode cX7_look 123 = .ok (.ireturn, 1) := by decide +kernel
theorem dX7_look_124 : decode cX7_look 124 = .ok (.aload_n 0, 1) := by decide +kernel
theorem dX7_look_125 : decode cX7_look 125 = .ok (.getfield 55, 3) := by decide +kernel
theorem dX7_look_128 : decode cX7_look 128 = .ok (.iload_n 1, 1) := by decide +kernel
theorem dX7_look_129 : decode cX7_look 129 = .ok (.iaload, 1) := by decide +kernel
theorem dX7_look_130 : decode cX7_look 130 = .ok (.ireturn, 1) := by decide +kernel
theorem dX7_look_131 : decode cX7_look 131 = .ok (.aload_n 0, 1) := by decide +kernel
theorem dX7_look_132 : decode cX7_look 132 = .ok (.getfield 55, 3) := by decide +kernel
theorem dX7_look_135 : decode cX7_look 135 = .ok (.iload_n 1, 1) := by decide +kernel
theorem dX7_look_136 : decode cX7_look 136 = .ok (.iaload, 1) := by decide +kernel
theorem dX7_look_137 : decode cX7_look 137 = .ok (.iconst (-1), 1) := by decide +kernel
theorem dX7_look_138 : decode cX7_look 138 = .ok (.if_icmp .ne 7, 3) := by decide +kernel
theorem dX7_look_141 : decode cX7_look 141 = .ok (.iconst (-1), 1) := by decide +kernel
theorem dX7_look_142 : decode cX7_look 142 = .ok (.goto 16, 3) := by decide +kernel
theorem dX7_look_145 : decode cX7_look 145 = .ok (.aload_n 0, 1) := by decide +kernel
theorem dX7_look_146 : decode cX7_look 146 = .ok (.getfield 55, 3) := by decide +kernel
theorem dX7_look_149 : decode cX7_look 149 = .ok (.iload_n 1, 1) := by decide +kernel
theorem dX7_look_150 : decode cX7_look 150 = .ok (.iaload, 1) := by decide +kernel
theorem dX7_look_151 : decode cX7_look 151 = .ok (.aload_n 0, 1) := by decide +kernel
theorem dX7_look_152 : decode cX7_look 152 = .ok (.getfield 40, 3) := by decide +kernel
theorem dX7_look_155 : decode cX7_look 155 = .ok (.iload_n 1, 1) := by decide +kernel
theorem dX7_look_156 : decode cX7_look 156 = .ok (.iaload, 1) := by decide +kernel
theorem dX7_look_157 : decode cX7_look 157 = .ok (.isub, 1) := by decide +kernel
theorem dX7_look_158 : decode cX7_look 158 = .ok (.ireturn, 1) := by decide +kernel
theorem dX7_look_159 : decode cX7_look 159 = .ok (.iconst (-1), 1) := by decide +kernel
theorem dX7_look_160 : decode cX7_look 160 = .ok (.ireturn, 1) := by decide +kernel
set_option maxRecDepth 20000 in
theorem ggX7_count_X7_lies : GoodIn wsX7_count wsX7_lies := goodIn_r _ [15] (by decide +kernel) (by decide +kernel)
set_option maxRecDepth 20000 in
theorem gX7_count_X7_lies : GoodIn wsX7_count (va_wsS RX7 95 yX7_lies wsX7_lies) := goodIn_app (goodIn_of _ (by decide +kernel)) ggX7_count_X7_lies
theorem dX7_count_0 : decode cX7_count 0 = .ok (.iload_n 1, 1) := by decide +kernel
theorem dX7_count_1 : decode cX7_count 1 = .ok (.bipush 10, 2) := by decide +kernel
theorem dX7_count_3 : decode cX7_count 3 = .ok (.bipush 15, 2) := by decide +kernel
theorem dX7_count_5 : decode cX7_count 5 = .ok (.invokestatic 95, 3) := by decide +kernel
theorem dX7_count_8 : decode cX7_count 8 = .ok (.ifCond .eq 13, 3) := by decide +kernel
theorem dX7_count_11 : decode cX7_count 11 = .ok (.aload_n 0, 1) := by decide +kernel
theorem dX7_count_12 : decode cX7_count 12 = .ok (.getfield 17, 3) := by decide +kernel
theorem dX7_count_15 : decode cX7_count 15 = .ok (.iload_n 1, 1) := by decide +kernel
theorem dX7_count_16 : decode cX7_count 16 = .ok (.bipush 10, 2) := by decide +kernel
theorem dX7_count_18 : decode cX7_count 18 = .ok (.isub, 1) := by decide +kernel
theorem dX7_count_19 : decode cX7_count 19 = .ok (.iaload, 1) := by decide +kernel
theorem dX7_count_20 : decode cX7_count 20 = .ok (.ireturn, 1) := by decide +kernel
theorem dX7_count_21 : decode cX7_count 21 = .ok (.iload_n 1, 1) := by decide +kernel
theorem dX7_count_22 : decode cX7_count 22 = .ok (.bipush 20, 2) := by decide +kernel
theorem dX7_count_24 : decode cX7_count 24 = .ok (.bipush 21, 2) := by decide +kernel
theorem dX7_count_26 : decode cX7_count 26 = .ok (.invokestatic 95, 3) := by decide +kernel
theorem dX7_count_29 : decode cX7_count 29 = .ok (.ifCond .eq 13, 3) := by decide +kernel
theorem dX7_count_32 : decode cX7_count 32 = .ok (.aload_n 0, 1) := by decide +kernel
theorem dX7_count_33 : decode cX7_count 33 = .ok (.getfield 24, 3) := by decide +kernel
theorem dX7_count_36 : decode cX7_count 36 = .ok (.iload_n 1, 1) := by decide +kernel
theorem dX7_count_37 : decode cX7_count 37 = .ok (.bipush 20, 2) := by decide +kernel
theorem dX7_count_39 : decode cX7_count 39 = .ok (.isub, 1) := by decide +kernel
theorem dX7_count_40 : decode cX7_count 40 = .ok (.iaload, 1) := by decide +kernel
theorem dX7_count_41 : decode cX7_count 41 = .ok (.ireturn, 1) := by decide +kernel
theorem dX7_count_42 : decode cX7_count 42 = .ok (.iconst 0, 1) := by decide +kernel
theorem dX7_count_43 : decode cX7_count 43 = .ok (.istore_n 2, 1) := by decide +kernel
theorem dX7_count_44 : decode cX7_count 44 = .ok (.iload_n 1, 1) := by decide +kernel
theorem dX7_count_45 : decode cX7_count 45 = .ok (.tableswitch 170 0 8 #[51, 56, 61, 66, 71, 76, 81, 117, 122], 51) := by decide +kernel
theorem dX7_count_96 : decode cX7_count 96 = .ok (.aload_n 0, 1) := by decide +kernel
theorem dX7_count_97 : decode cX7_count 97 = .ok (.getfield 13, 3) := by decide +kernel
theorem dX7_count_100 : decode cX7_count 100 = .ok (.ireturn, 1) := by decide +kernel
theorem dX7_count_101 : decode cX7_count 101 = .ok (.aload_n 0, 1) := by decide +kernel
theorem dX7_count_102 : decode cX7_count 102 = .ok (.getfield 157, 3) := by decide +kernel
theorem dX7_count_105 : decode cX7_count 105 = .ok (.ireturn, 1) := by decide +kernel
theorem dX7_count_106 : decode cX7_count 106 = .ok (.aload_n 0, 1) := by decide +kernel
theorem dX7_count_107 : decode cX7_count 107 = .ok (.getfield 164, 3) := by decide +kernel
theorem dX7_count_110 : decode cX7_count 110 = .ok (.ireturn, 1) := by decide +kernel
theorem dX7_count_111 : decode cX7_count 111 = .ok (.aload_n 0, 1) := by decide +kernel
theorem dX7_count_112 : decode cX7_count 112 = .ok (.getfield 167, 3) := by decide +kernel
theorem dX7_count_115 : decode cX7_count 115 = .ok (.ireturn, 1) := by decide +kernel
theorem dX7_count_116 : decode cX7_count 116 = .ok (.aload_n 0, 1) := by decide +kernel
theorem dX7_count_117 : decode cX7_count 117 = .ok (.getfield 173, 3) := by decide +kernel
theorem dX7_count_120 : decode cX7_count 120 = .ok (.ireturn, 1) := by decide +kernel
theorem dX7_count_121 : decode cX7_count 121 = .ok (.aload_n 0, 1) := by decide +kernel
theorem dX7_count_122 : decode cX7_count 122 = .ok (.getfield 126, 3) := by decide +kernel
theorem dX7_count_125 : decode cX7_count 125 = .ok (.ireturn, 1) := by decide +kernel
theorem dX7_count_126 : decode cX7_count 126 = .ok (.iconst 0, 1) := by decide +kernel
theorem dX7_count_127 : decode cX7_count 127 = .ok (.istore_n 3, 1) := by decide +kernel
theorem dX7_count_128 : decode cX7_count 128 = .ok (.iload_n 3, 1) := by decide +kernel
theorem dX7_count_129 : decode cX7_count 129 = .ok (.aload_n 0, 1) := by decide +kernel
theorem dX7_count_130 : decode cX7_count 130 = .ok (.getfield 126, 3) := by decide +kernel
theorem dX7_count_133 : decode cX7_count 133 = .ok (.if_icmp .ge 27, 3) := by decide +kernel
theorem dX7_count_136 : decode cX7_count 136 = .ok (.iload_n 2, 1) := by decide +kernel
theorem dX7_count_137 : decode cX7_count 137 = .ok (.aload_n 0, 1) := by decide +kernel
theorem dX7_count_138 : decode cX7_count 138 = .ok (.getfield 55, 3) := by decide +kernel
theorem dX7_count_141 : decode cX7_count 141 = .ok (.iload_n 3, 1) := by decide +kernel
theorem dX7_count_142 : decode cX7_count 142 = .ok (.iaload, 1) := by decide +kernel
theorem dX7_count_143 : decode cX7_count 143 = .ok (.iconst (-1), 1) := by decide +kernel
theorem dX7_count_144 : decode cX7_count 144 = .ok (.if_icmp .eq 7, 3) := by decide +kernel
theorem dX7_count_147 : decode cX7_count 147 = .ok (.iconst 1, 1) := by decide +kernel
theorem dX7_count_148 : decode cX7_count 148 = .ok (.goto 4, 3) := by decide +kernel
theorem dX7_count_151 : decode cX7_count 151 = .ok (.iconst 0, 1) := by decide +kernel
theorem dX7_count_152 : decode cX7_count 152 = .ok (.iadd, 1) := by decide +kernel
theorem dX7_count_153 : decode cX7_count 153 = .ok (.istore_n 2, 1) := by decide +kernel
theorem dX7_count_154 : decode cX7_count 154 = .ok (.iinc 3 1, 3) := by decide +kernel
theorem dX7_count_157 : decode cX7_count 157 = .ok (.goto (-29), 3) := by decide +kernel
theorem dX7_count_160 : decode cX7_count 160 = .ok (.iload_n 2, 1) := by decide +kernel
theorem dX7_count_161 : decode cX7_count 161 = .ok (.ireturn, 1) := by decide +kernel
theorem dX7_count_162 : decode cX7_count 162 = .ok (.aload_n 0, 1) := by decide +kernel
theorem dX7_count_163 : decode cX7_count 163 = .ok (.getfield 88, 3) := by decide +kernel
theorem dX7_count_166 : decode cX7_count 166 = .ok (.ireturn, 1) := by decide +kernel
theorem dX7_count_167 : decode cX7_count 167 = .ok (.iconst 0, 1) := by decide +kernel
theorem dX7_count_168 : decode cX7_count 168 = .ok (.istore_n 3, 1) := by decide +kernel
theorem dX7_count_169 : decode cX7_count 169 = .ok (.iload_n 3, 1) := by decide +kernel
theorem dX7_count_170 : decode cX7_count 170 = .ok (.aload_n 0, 1) := by decide +kernel
theorem dX7_count_171 : decode cX7_count 171 = .ok (.getfield 126, 3) := by decide +kernel
theorem dX7_count_174 : decode cX7_count 174 = .ok (.if_icmp .ge 39, 3) := by decide +kernel
theorem dX7_count_177 : decode cX7_count 177 = .ok (.iload_n 2, 1) := by decide +kernel
theorem dX7_count_178 : decode cX7_count 178 = .ok (.aload_n 0, 1) := by decide +kernel
theorem dX7_count_179 : decode cX7_count 179 = .ok (.getfield 55, 3) := by decide +kernel
theorem dX7_count_182 : decode cX7_count 182 = .ok (.iload_n 3, 1) := by decide +kernel
theorem dX7_count_183 : decode cX7_count 183 = .ok (.iaload, 1) := by decide +kernel
theorem dX7_count_184 : decode cX7_count 184 = .ok (.iconst (-1), 1) := by decide +kernel
theorem dX7_count_185 : decode cX7_count 185 = .ok (.if_icmp .eq 19, 3) := by decide +kernel
theorem dX7_count_188 : decode cX7_count 188 = .ok (.aload_n 0, 1) := by decide +kernel
theorem dX7_count_189 : decode cX7_count 189 = .ok (.getfield 55, 3) := by decide +kernel
theorem dX7_count_192 : decode cX7_count 192 = .ok (.iload_n 3, 1) := by decide +kernel
theorem dX7_count_193 : decode cX7_count 193 = .ok (.iaload, 1) := by decide +kernel
theorem dX7_count_194 : decode cX7_count 194 = .ok (.aload_n 0, 1) := by decide +kernel
theorem dX7_count_195 : decode cX7_count 195 = .ok (.getfield 40, 3) := by decide +kernel
theorem dX7_count_198 : decode cX7_count 198 = .ok (.iload_n 3, 1) := by decide +kernel
theorem dX7_count_199 : decode cX7_count 199 = .ok (.iaload, 1) := by decide +kernel
theorem dX7_count_200 : decode cX7_count 200 = .ok (.isub, 1) := by decide +kernel
theorem dX7_count_201 : decode cX7_count 201 = .ok (.goto 4, 3) := by decide +kernel
theorem dX7_count_204 : decode cX7_count 204 = .ok (.iconst 0, 1) := by decide +kernel
theorem dX7_count_205 : decode cX7_count 205 = .ok (.iadd, 1) := by decide +kernel
theorem dX7_count_206 : decode cX7_count 206 = .ok (.istore_n 2, 1) := by decide +kernel
theorem dX7_count_207 : decode cX7_count 207 = .ok (.iinc 3 1, 3) := by decide +kernel
theorem dX7_count_210 : decode cX7_count 210 = .ok (.goto (-41), 3) := by decide +kernel
theorem dX7_count_213 : decode cX7_count 213 = .ok (.iload_n 2, 1) := by decide +kernel
theorem dX7_count_214 : decode cX7_count 214 = .ok (.ireturn, 1) := by decide +kernel
theorem dX7_count_215 : decode cX7_count 215 = .ok (.iconst (-1), 1) := by decide +kernel
theorem dX7_count_216 : decode cX7_count 216 = .ok (.ireturn, 1) := by decide +kernel
theorem dJ9_floorDiv_7cf53_0 : decode cJ9_floorDiv_7cf53 0 = .ok (.iload_n 0, 1) := by decide +kernel
theorem dJ9_floorDiv_7cf53_1 : decode cJ9_floorDiv_7cf53 1 = .ok (.iload_n 1, 1) := by decide +kernel
theorem dJ9_floorDiv_7cf53_2 : decode cJ9_floorDiv_7cf53 2 = .ok (.idiv, 1) := by decide +kernel
theorem dJ9_floorDiv_7cf53_3 : decode cJ9_floorDiv_7cf53 3 = .ok (.istore_n 2, 1) := by decide +kernel
theorem dJ9_floorDiv_7cf53_4 : decode cJ9_floorDiv_7cf53 4 = .ok (.iload_n 0, 1) := by decide +kernel
theorem dJ9_floorDiv_7cf53_5 : decode cJ9_floorDiv_7cf53 5 = .ok (.iload_n 1, 1) := by decide +kernel
theorem dJ9_floorDiv_7cf53_6 : decode cJ9_floorDiv_7cf53 6 = .ok (.ixor, 1) := by decide +kernel
theorem dJ9_floorDiv_7cf53_7 : decode cJ9_floorDiv_7cf53 7 = .ok (.ifCond .ge 14, 3) := by decide +kernel
theorem dJ9_floorDiv_7cf53_10 : decode cJ9_floorDiv_7cf53 10 = .ok (.iload_n 2, 1) := by decide +kernel
theorem dJ9_floorDiv_7cf53_11 : decode cJ9_floorDiv_7cf53 11 = .ok (.iload_n 1, 1) := by decide +kernel
theorem dJ9_floorDiv_7cf53_12 : decode cJ9_floorDiv_7cf53 12 = .ok (.imul, 1) := by decide +kernel
theorem dJ9_floorDiv_7cf53_13 : decode cJ9_floorDiv_7cf53 13 = .ok (.iload_n 0, 1) := by decide +kernel
theorem dJ9_floorDiv_7cf53_14 : decode cJ9_floorDiv_7cf53 14 = .ok (.if_icmp .eq 7, 3) := by decide +kernel
theorem dJ9_floorDiv_7cf53_17 : decode cJ9_floorDiv_7cf53 17 = .ok (.iload_n 2, 1) := by decide +kernel
theorem dJ9_floorDiv_7cf53_18 : decode cJ9_floorDiv_7cf53 18 = .ok (.iconst 1, 1) := by decide +kernel
theorem dJ9_floorDiv_7cf53_19 : decode cJ9_floorDiv_7cf53 19 = .ok (.isub, 1) := by decide +kernel
theorem dJ9_floorDiv_7cf53_20 : decode cJ9_floorDiv_7cf53 20 = .ok (.ireturn, 1) := by decide +kernel
theorem dJ9_floorDiv_7cf53_21 : decode cJ9_floorDiv_7cf53 21 = .ok (.iload_n 2, 1) := by decide +kernel
theorem dJ9_floorDiv_7cf53_22 : decode cJ9_floorDiv_7cf53 22 = .ok (.ireturn, 1) := by decide +kernel
theorem dJ9_floorDiv_f86c9_0 : decode cJ9_floorDiv_f86c9 0 = .ok (.lload_n 0, 1) := by decide +kernel
theorem dJ9_floorDiv_f86c9_1 : decode cJ9_floorDiv_f86c9 1 = .ok (.lload_n 2, 1) := by decide +kernel
theorem dJ9_floorDiv_f86c9_2 : decode cJ9_floorDiv_f86c9 2 = .ok (.ldiv, 1) := by decide +kernel
theorem dJ9_floorDiv_f86c9_3 : decode cJ9_floorDiv_f86c9 3 = .ok (.lstore 4, 2) := by decide +kernel
theorem dJ9_floorDiv_f86c9_5 : decode cJ9_floorDiv_f86c9 5 = .ok (.lload_n 0, 1) := by decide +kernel
theorem dJ9_floorDiv_f86c9_6 : decode cJ9_floorDiv_f86c9 6 = .ok (.lload_n 2, 1) := by decide +kernel
theorem dJ9_floorDiv_f86c9_7 : decode cJ9_floorDiv_f86c9 7 = .ok (.lxor, 1) := by decide +kernel
theorem dJ9_floorDiv_f86c9_8 : decode cJ9_floorDiv_f86c9 8 = .ok (.lconst 0, 1) := by decide +kernel
theorem dJ9_floorDiv_f86c9_9 : decode cJ9_floorDiv_f86c9 9 = .ok (.lcmp, 1) := by decide +kernel
theorem dJ9_floorDiv_f86c9_10 : decode cJ9_floorDiv_f86c9 10 = .ok (.ifCond .ge 17, 3) := by decide +kernel
theorem dJ9_floorDiv_f86c9_13 : decode cJ9_floorDiv_f86c9 13 = .ok (.lload 4, 2) := by decide +kernel
theorem dJ9_floorDiv_f86c9_15 : decode cJ9_floorDiv_f86c9 15 = .ok (.lload_n 2, 1) := by decide +kernel
theorem dJ9_floorDiv_f86c9_16 : decode cJ9_floorDiv_f86c9 16 = .ok (.lmul, 1) := by decide +kernel
theorem dJ9_floorDiv_f86c9_17 : decode cJ9_floorDiv_f86c9 17 = .ok (.lload_n 0, 1) := by decide +kernel
theorem dJ9_floorDiv_f86c9_18 : decode cJ9_floorDiv_f86c9 18 = .ok (.lcmp, 1) := by decide +kernel
theorem dJ9_floorDiv_f86c9_19 : decode cJ9_floorDiv_f86c9 19 = .ok (.ifCond .eq 8, 3) := by decide +kernel
theorem dJ9_floorDiv_f86c9_22 : decode cJ9_floorDiv_f86c9 22 = .ok (.lload 4, 2) := by decide +kernel
theorem dJ9_floorDiv_f86c9_24 : decode cJ9_floorDiv_f86c9 24 = .ok (.lconst 1, 1) := by decide +kernel
theorem dJ9_floorDiv_f86c9_25 : decode cJ9_floorDiv_f86c9 25 = .ok (.lsub, 1) := by decide +kernel
theorem dJ9_floorDiv_f86c9_26 : decode cJ9_floorDiv_f86c9 26 = .ok (.lreturn, 1) := by decide +kernel
theorem dJ9_floorDiv_f86c9_27 : decode cJ9_floorDiv_f86c9 27 = .ok (.lload 4, 2) := by decide +kernel
theorem dJ9_floorDiv_f86c9_29 : decode cJ9_floorDiv_f86c9 29 = .ok (.lreturn, 1) := by decide +kernel
theorem dJ9_max_7cf53_0 : decode cJ9_max_7cf53 0 = .ok (.iload_n 0, 1) := by decide +kernel
theorem dJ9_max_7cf53_1 : decode cJ9_max_7cf53 1 = .ok (.iload_n 1, 1) := by decide +kernel
theorem dJ9_max_7cf53_2 : decode cJ9_max_7cf53 2 = .ok (.if_icmp .lt 7, 3) := by decide +kernel
theorem dJ9_max_7cf53_5 : decode cJ9_max_7cf53 5 = .ok (.iload_n 0, 1) := by decide +kernel
theorem dJ9_max_7cf53_6 : decode cJ9_max_7cf53 6 = .ok (.goto 4, 3) := by decide +kernel
theorem dJ9_max_7cf53_9 : decode cJ9_max_7cf53 9 = .ok (.iload_n 1, 1) := by decide +kernel
theorem dJ9_max_7cf53_10 : decode cJ9_max_7cf53 10 = .ok (.ireturn, 1) := by decide +kernel
theorem dJ9_min_7cf53_0 : decode cJ9_min_7cf53 0 = .ok (.iload_n 0, 1) := by decide +kernel
theorem dJ9_min_7cf53_1 : decode cJ9_min_7cf53 1 = .ok (.iload_n 1, 1) := by decide +kernel
theorem dJ9_min_7cf53_2 : decode cJ9_min_7cf53 2 = .ok (.if_icmp .gt 7, 3) := by decide +kernel
theorem dJ9_min_7cf53_5 : decode cJ9_min_7cf53 5 = .ok (.iload_n 0, 1) := by decide +kernel
theorem dJ9_min_7cf53_6 : decode cJ9_min_7cf53 6 = .ok (.goto 4, 3) := by decide +kernel
theorem dJ9_min_7cf53_9 : decode cJ9_min_7cf53 9 = .ok (.iload_n 1, 1) := by decide +kernel
theorem dJ9_min_7cf53_10 : decode cJ9_min_7cf53 10 = .ok (.ireturn, 1) := by decide +kernel
theorem dJ9_min_f86c9_0 : decode cJ9_min_f86c9 0 = .ok (.lload_n 0, 1) := by decide +kernel
theorem dJ9_min_f86c9_1 : decode cJ9_min_f86c9 1 = .ok (.lload_n 2, 1) := by decide +kernel
theorem dJ9_min_f86c9_2 : decode cJ9_min_f86c9 2 = .ok (.lcmp, 1) := by decide +kernel
theorem dJ9_min_f86c9_3 : decode cJ9_min_f86c9 3 = .ok (.ifCond .gt 7, 3) := by decide +kernel
theorem dJ9_min_f86c9_6 : decode cJ9_min_f86c9 6 = .ok (.lload_n 0, 1) := by decide +kernel
theorem dJ9_min_f86c9_7 : decode cJ9_min_f86c9 7 = .ok (.goto 4, 3) := by decide +kernel
theorem dJ9_min_f86c9_10 : decode cJ9_min_f86c9 10 = .ok (.lload_n 2, 1) := by decide +kernel
theorem dJ9_min_f86c9_11 : decode cJ9_min_f86c9 11 = .ok (.lreturn, 1) := by decide +kernel
theorem dJxa1e45_init_da8c8_0 : decode cJxa1e45_init_da8c8 0 = .ok (.aload_n 0, 1) := by decide +kernel
theorem dJxa1e45_init_da8c8_1 : decode cJxa1e45_init_da8c8 1 = .ok (.invokespecial 1, 3) := by decide +kernel
theorem dJxa1e45_init_da8c8_4 : decode cJxa1e45_init_da8c8 4 = .ok (.return_, 1) := by decide +kernel
set_option maxRecDepth 20000 in
theorem ggJxc12de_init_da8c8_Jxa1e45_init_da8c8 : GoodIn wsJxc12de_init_da8c8 wsJxa1e45_init_da8c8 := goodIn_r _ [5, 6, 7, 8] (by decide +kernel) (by decide +kernel)
set_option maxRecDepth 20000 in
theorem gJxc12de_init_da8c8_Jxa1e45_init_da8c8 : GoodIn wsJxc12de_init_da8c8 (wsJxa1e45_init_da8c8) := ggJxc12de_init_da8c8_Jxa1e45_init_da8c8
theorem dJxc12de_init_da8c8_0 : decode cJxc12de_init_da8c8 0 = .ok (.aload_n 0, 1) := by decide +kernel
theorem dJxc12de_init_da8c8_1 : decode cJxc12de_init_da8c8 1 = .ok (.invokespecial 1, 3) := by decide +kernel
theorem dJxc12de_init_da8c8_4 : decode cJxc12de_init_da8c8 4 = .ok (.aload_n 0, 1) := by decide +kernel
theorem dJxc12de_init_da8c8_5 : decode cJxc12de_init_da8c8 5 = .ok (.iconst 0, 1) := by decide +kernel
theorem dJxc12de_init_da8c8_6 : decode cJxc12de_init_da8c8 6 = .ok (.putfield 7, 3) := by decide +kernel
theorem dJxc12de_init_da8c8_9 : decode cJxc12de_init_da8c8 9 = .ok (.return_, 1) := by decide +kernel
set_option maxRecDepth 20000 in
theorem ggJx4a65c_init_da8c8_Jxc12de_init_da8c8 : GoodIn wsJx4a65c_init_da8c8 wsJxc12de_init_da8c8 := goodIn_r _ [6, 7, 8, 9, 10, 11, 12, 13, 14, 15, 16, 17] (by decide +kernel) (by decide +kernel)
set_option maxRecDepth 20000 in
theorem gJx4a65c_init_da8c8_Jxc12de_init_da8c8 : GoodIn wsJx4a65c_init_da8c8 (wsJxc12de_init_da8c8) := ggJx4a65c_init_da8c8_Jxc12de_init_da8c8
theorem dJx4a65c_init_da8c8_0 : decode cJx4a65c_init_da8c8 0 = .ok (.aload_n 0, 1) := by decide +kernel
theorem dJx4a65c_init_da8c8_1 : decode cJx4a65c_init_da8c8 1 = .ok (.invokespecial 1, 3) := by decide +kernel
theorem dJx4a65c_init_da8c8_4 : decode cJx4a65c_init_da8c8 4 = .ok (.aload_n 0, 1) := by decide +kernel
theorem dJx4a65c_init_da8c8_5 : decode cJx4a65c_init_da8c8 5 = .ok (.getstatic 39, 3) := by decide +kernel
theorem dJx4a65c_init_da8c8_8 : decode cJx4a65c_init_da8c8 8 = .ok (.putfield 9, 3) := by decide +kernel
theorem dJx4a65c_init_da8c8_11 : decode cJx4a65c_init_da8c8 11 = .ok (.return_, 1) := by decide +kernel
set_option maxRecDepth 20000 in
theorem ggJx4a65c_grow_92f84_J8_newLength_cabcc : GoodIn wsJx4a65c_grow_92f84 wsJ8_newLength_cabcc := goodIn_r _ [11, 12, 4, 5, 6, 13, 14, 15, 10, 16] (by decide +kernel) (by decide +kernel)
set_option maxRecDepth 20000 in
theorem gJx4a65c_grow_92f84_J8_newLength_cabcc : GoodIn wsJx4a65c_grow_92f84 (va_wsS RJx4a65c 73 yJ8_newLength_cabcc wsJ8_newLength_cabcc) := goodIn_app (goodIn_of _ (by decide +kernel)) ggJx4a65c_grow_92f84_J8_newLength_cabcc
set_option maxRecDepth 20000 in
theorem ggJx4a65c_grow_92f84_J7_copyOf_1904c : GoodIn wsJx4a65c_grow_92f84 wsJ7_copyOf_1904c := goodIn_r _ [20, 21, 22, 23, 24, 25, 26, 19, 27, 28, 29, 30, 31, 5, 32, 33, 34, 35, 36] (by decide +kernel) (by decide +kernel)
set_option maxRecDepth 20000 in
theorem gJx4a65c_grow_92f84_J7_copyOf_1904c : GoodIn wsJx4a65c_grow_92f84 (va_wsS RJx4a65c 66 yJ7_copyOf_1904c wsJ7_copyOf_1904c) := goodIn_app (goodIn_of _ (by decide +kernel)) ggJx4a65c_grow_92f84_J7_copyOf_1904c
theorem dJx4a65c_grow_92f84_0 : decode cJx4a65c_grow_92f84 0 = .ok (.aload_n 0, 1) := by decide +kernel
theorem dJx4a65c_grow_92f84_1 : decode cJx4a65c_grow_92f84 1 = .ok (.getfield 9, 3) := by decide +kernel
theorem dJx4a65c_grow_92f84_4 : decode cJx4a65c_grow_92f84 4 = .ok (.arraylength, 1) := by decide +kernel
theorem dJx4a65c_grow_92f84_5 : decode cJx4a65c_grow_92f84 5 = .ok (.istore_n 2, 1) := by decide +kernel
theorem dJx4a65c_grow_92f84_6 : decode cJx4a65c_grow_92f84 6 = .ok (.iload_n 2, 1) := by decide +kernel
theorem dJx4a65c_grow_92f84_7 : decode cJx4a65c_grow_92f84 7 = .ok (.ifCond .gt 13, 3) := by decide +kernel
theorem dJx4a65c_grow_92f84_10 : decode cJx4a65c_grow_92f84 10 = .ok (.aload_n 0, 1) := by decide +kernel
theorem dJx4a65c_grow_92f84_11 : decode cJx4a65c_grow_92f84 11 = .ok (.getfield 9, 3) := by decide +kernel
theorem dJx4a65c_grow_92f84_14 : decode cJx4a65c_grow_92f84 14 = .ok (.getstatic 39, 3) := by decide +kernel
theorem dJx4a65c_grow_92f84_17 : decode cJx4a65c_grow_92f84 17 = .ok (.if_acmp .eq 28, 3) := by decide +kernel
theorem dJx4a65c_grow_92f84_20 : decode cJx4a65c_grow_92f84 20 = .ok (.iload_n 2, 1) := by decide +kernel
theorem dJx4a65c_grow_92f84_21 : decode cJx4a65c_grow_92f84 21 = .ok (.iload_n 1, 1) := by decide +kernel
theorem dJx4a65c_grow_92f84_22 : decode cJx4a65c_grow_92f84 22 = .ok (.iload_n 2, 1) := by decide +kernel
theorem dJx4a65c_grow_92f84_23 : decode cJx4a65c_grow_92f84 23 = .ok (.isub, 1) := by decide +kernel
theorem dJx4a65c_grow_92f84_24 : decode cJx4a65c_grow_92f84 24 = .ok (.iload_n 2, 1) := by decide +kernel
theorem dJx4a65c_grow_92f84_25 : decode cJx4a65c_grow_92f84 25 = .ok (.iconst 1, 1) := by decide +kernel
theorem dJx4a65c_grow_92f84_26 : decode cJx4a65c_grow_92f84 26 = .ok (.ishr, 1) := by decide +kernel
theorem dJx4a65c_grow_92f84_27 : decode cJx4a65c_grow_92f84 27 = .ok (.invokestatic 73, 3) := by decide +kernel
theorem dJx4a65c_grow_92f84_30 : decode cJx4a65c_grow_92f84 30 = .ok (.istore_n 3, 1) := by decide +kernel
theorem dJx4a65c_grow_92f84_31 : decode cJx4a65c_grow_92f84 31 = .ok (.aload_n 0, 1) := by decide +kernel
theorem dJx4a65c_grow_92f84_32 : decode cJx4a65c_grow_92f84 32 = .ok (.aload_n 0, 1) := by decide +kernel
theorem dJx4a65c_grow_92f84_33 : decode cJx4a65c_grow_92f84 33 = .ok (.getfield 9, 3) := by decide +kernel
theorem dJx4a65c_grow_92f84_36 : decode cJx4a65c_grow_92f84 36 = .ok (.iload_n 3, 1) := by decide +kernel
theorem dJx4a65c_grow_92f84_37 : decode cJx4a65c_grow_92f84 37 = .ok (.invokestatic 66, 3) := by decide +kernel
theorem dJx4a65c_grow_92f84_40 : decode cJx4a65c_grow_92f84 40 = .ok (.dup_x1, 1) := by decide +kernel
theorem dJx4a65c_grow_92f84_41 : decode cJx4a65c_grow_92f84 41 = .ok (.putfield 9, 3) := by decide +kernel
theorem dJx4a65c_grow_92f84_44 : decode cJx4a65c_grow_92f84 44 = .ok (.areturn, 1) := by decide +kernel
theorem dJx4a65c_grow_92f84_45 : decode cJx4a65c_grow_92f84 45 = .ok (.aload_n 0, 1) := by decide +kernel
theorem dJx4a65c_grow_92f84_46 : decode cJx4a65c_grow_92f84 46 = .ok (.bipush 10, 2) := by decide +kernel
theorem dJx4a65c_grow_92f84_48 : decode cJx4a65c_grow_92f84 48 = .ok (.iload_n 1, 1) := by decide +kernel
theorem dJx4a65c_grow_92f84_49 : decode cJx4a65c_grow_92f84 49 = .ok (.invokestatic 79, 3) := by decide +kernel
theorem dJx4a65c_grow_92f84_52 : decode cJx4a65c_grow_92f84 52 = .ok (.anewarray 7, 3) := by decide +kernel
theorem dJx4a65c_grow_92f84_55 : decode cJx4a65c_grow_92f84 55 = .ok (.dup_x1, 1) := by decide +kernel
theorem dJx4a65c_grow_92f84_56 : decode cJx4a65c_grow_92f84 56 = .ok (.putfield 9, 3) := by decide +kernel
theorem dJx4a65c_grow_92f84_59 : decode cJx4a65c_grow_92f84 59 = .ok (.areturn, 1) := by decide +kernel
set_option maxRecDepth 20000 in
theorem ggJx4a65c_grow_d5877_Jx4a65c_grow_92f84 : GoodIn wsJx4a65c_grow_d5877 wsJx4a65c_grow_92f84 := goodIn_r _ [6, 7, 8, 9, 10, 11, 12, 13, 14, 15, 16, 17, 18, 19, 20, 21, 22, 23, 24, 25, 26, 27, 28, 29, 30, 31, 32, 33, 34, 35, 36, 37, 38, 39, 40, 41, 42, 43, 44, 45] (by decide +kernel) (by decide +kernel)
set_option maxRecDepth 20000 in
theorem gJx4a65c_grow_d5877_Jx4a65c_grow_92f84 : GoodIn wsJx4a65c_grow_d5877 (wsV RJx4a65c 69 RJx4a65c yJx4a65c_grow_92f84 wsJx4a65c_grow_92f84) := goodIn_app (goodIn_of _ (by decide +kernel)) ggJx4a65c_grow_d5877_Jx4a65c_grow_92f84
theorem dJx4a65c_grow_d5877_0 : decode cJx4a65c_grow_d5877 0 = .ok (.aload_n 0, 1) := by decide +kernel
theorem dJx4a65c_grow_d5877_1 : decode cJx4a65c_grow_d5877 1 = .ok (.aload_n 0, 1) := by decide +kernel
theorem dJx4a65c_grow_d5877_2 : decode cJx4a65c_grow_d5877 2 = .ok (.getfield 48, 3) := by decide +kernel
theorem dJx4a65c_grow_d5877_5 : decode cJx4a65c_grow_d5877 5 = .ok (.iconst 1, 1) := by decide +kernel
theorem dJx4a65c_grow_d5877_6 : decode cJx4a65c_grow_d5877 6 = .ok (.iadd, 1) := by decide +kernel
theorem dJx4a65c_grow_d5877_7 : decode cJx4a65c_grow_d5877 7 = .ok (.invokevirtual 69, 3) := by decide +kernel
theorem dJx4a65c_grow_d5877_10 : decode cJx4a65c_grow_d5877 10 = .ok (.areturn, 1) := by decide +kernel
theorem dJx4a65c_size_8abf5_0 : decode cJx4a65c_size_8abf5 0 = .ok (.aload_n 0, 1) := by decide +kernel
theorem dJx4a65c_size_8abf5_1 : decode cJx4a65c_size_8abf5 1 = .ok (.getfield 48, 3) := by decide +kernel
theorem dJx4a65c_size_8abf5_4 : decode cJx4a65c_size_8abf5 4 = .ok (.ireturn, 1) := by decide +kernel
theorem dJx4a65c_elementData_915e3_0 : decode cJx4a65c_elementData_915e3 0 = .ok (.aload_n 0, 1) := by decide +kernel
theorem dJx4a65c_elementData_915e3_1 : decode cJx4a65c_elementData_915e3 1 = .ok (.getfield 9, 3) := by decide +kernel
theorem dJx4a65c_elementData_915e3_4 : decode cJx4a65c_elementData_915e3 4 = .ok (.iload_n 1, 1) := by decide +kernel
theorem dJx4a65c_elementData_915e3_5 : decode cJx4a65c_elementData_915e3 5 = .ok (.aaload, 1) := by decide +kernel
theorem dJx4a65c_elementData_915e3_6 : decode cJx4a65c_elementData_915e3 6 = .ok (.areturn, 1) := by decide +kernel
set_option maxRecDepth 20000 in
theorem ggJx4a65c_get_915e3_J15_checkIndex_7cf53 : GoodIn wsJx4a65c_get_915e3 wsJ15_checkIndex_7cf53 := goodIn_r _ [5, 6, 7, 8, 9] (by decide +kernel) (by decide +kernel)
set_option maxRecDepth 20000 in
theorem gJx4a65c_get_915e3_J15_checkIndex_7cf53 : GoodIn wsJx4a65c_get_915e3 (va_wsS RJx4a65c 118 yJ15_checkIndex_7cf53 wsJ15_checkIndex_7cf53) := goodIn_app (goodIn_of _ (by decide +kernel)) ggJx4a65c_get_915e3_J15_checkIndex_7cf53
set_option maxRecDepth 20000 in
theorem ggJx4a65c_get_915e3_Jx4a65c_elementData_915e3 : GoodIn wsJx4a65c_get_915e3 wsJx4a65c_elementData_915e3 := goodIn_r _ [14, 15, 16, 17, 18] (by decide +kernel) (by decide +kernel)
set_option maxRecDepth 20000 in
theorem gJx4a65c_get_915e3_Jx4a65c_elementData_915e3 : GoodIn wsJx4a65c_get_915e3 (wsV RJx4a65c 123 RJx4a65c yJx4a65c_elementData_915e3 wsJx4a65c_elementData_915e3) := goodIn_app (goodIn_of _ (by decide +kernel)) ggJx4a65c_get_915e3_Jx4a65c_elementData_915e3
theorem dJx4a65c_get_915e3_0 : decode cJx4a65c_get_915e3 0 = .ok (.iload_n 1, 1) := by decide +kernel
theorem dJx4a65c_get_915e3_1 : decode cJx4a65c_get_915e3 1 = .ok (.aload_n 0, 1) := by decide +kernel
theorem dJx4a65c_get_915e3_2 : decode cJx4a65c_get_915e3 2 = .ok (.getfield 48, 3) := by decide +kernel
theorem dJx4a65c_get_915e3_5 : decode cJx4a65c_get_915e3 5 = .ok (.invokestatic 118, 3) := by decide +kernel
theorem dJx4a65c_get_915e3_8 : decode cJx4a65c_get_915e3 8 = .ok (.pop, 1) := by decide +kernel
theorem dJx4a65c_get_915e3_9 : decode cJx4a65c_get_915e3 9 = .ok (.aload_n 0, 1) := by decide +kernel
theorem dJx4a65c_get_915e3_10 : decode cJx4a65c_get_915e3 10 = .ok (.iload_n 1, 1) := by decide +kernel
theorem dJx4a65c_get_915e3_11 : decode cJx4a65c_get_915e3 11 = .ok (.invokevirtual 123, 3) := by decide +kernel
theorem dJx4a65c_get_915e3_14 : decode cJx4a65c_get_915e3 14 = .ok (.areturn, 1) := by decide +kernel
set_option maxRecDepth 20000 in
theorem ggJx4a65c_add_72be8_Jx4a65c_grow_d5877 : GoodIn wsJx4a65c_add_72be8 wsJx4a65c_grow_d5877 := goodIn_r _ [6, 1, 7, 8, 9, 5, 10, 11, 12, 13, 14, 15, 16, 17, 18, 19, 20, 21, 22, 23, 24, 25, 26, 27, 28, 29, 30, 31, 32, 33, 34, 35, 36, 37, 38, 39, 40, 41, 42, 43, 44, 45, 46, 47, 48, 49] (by decide +kernel) (by decide +kernel)
set_option maxRecDepth 20000 in
theorem gJx4a65c_add_72be8_Jx4a65c_grow_d5877 : GoodIn wsJx4a65c_add_72be8 (wsV RJx4a65c 129 RJx4a65c yJx4a65c_grow_d5877 wsJx4a65c_grow_d5877) := goodIn_app (goodIn_of _ (by decide +kernel)) ggJx4a65c_add_72be8_Jx4a65c_grow_d5877
theorem dJx4a65c_add_72be8_0 : decode cJx4a65c_add_72be8 0 = .ok (.iload_n 3, 1) := by decide +kernel
theorem dJx4a65c_add_72be8_1 : decode cJx4a65c_add_72be8 1 = .ok (.aload_n 2, 1) := by decide +kernel
theorem dJx4a65c_add_72be8_2 : decode cJx4a65c_add_72be8 2 = .ok (.arraylength, 1) := by decide +kernel
theorem dJx4a65c_add_72be8_3 : decode cJx4a65c_add_72be8 3 = .ok (.if_icmp .ne 8, 3) := by decide +kernel
theorem dJx4a65c_add_72be8_6 : decode cJx4a65c_add_72be8 6 = .ok (.aload_n 0, 1) := by decide +kernel
theorem dJx4a65c_add_72be8_7 : decode cJx4a65c_add_72be8 7 = .ok (.invokevirtual 129, 3) := by decide +kernel
theorem dJx4a65c_add_72be8_10 : decode cJx4a65c_add_72be8 10 = .ok (.astore_n 2, 1) := by decide +kernel
theorem dJx4a65c_add_72be8_11 : decode cJx4a65c_add_72be8 11 = .ok (.aload_n 2, 1) := by decide +kernel
theorem dJx4a65c_add_72be8_12 : decode cJx4a65c_add_72be8 12 = .ok (.iload_n 3, 1) := by decide +kernel
theorem dJx4a65c_add_72be8_13 : decode cJx4a65c_add_72be8 13 = .ok (.aload_n 1, 1) := by decide +kernel
theorem dJx4a65c_add_72be8_14 : decode cJx4a65c_add_72be8 14 = .ok (.aastore, 1) := by decide +kernel
theorem dJx4a65c_add_72be8_15 : decode cJx4a65c_add_72be8 15 = .ok (.aload_n 0, 1) := by decide +kernel
theorem dJx4a65c_add_72be8_16 : decode cJx4a65c_add_72be8 16 = .ok (.iload_n 3, 1) := by decide +kernel
theorem dJx4a65c_add_72be8_17 : decode cJx4a65c_add_72be8 17 = .ok (.iconst 1, 1) := by decide +kernel
theorem dJx4a65c_add_72be8_18 : decode cJx4a65c_add_72be8 18 = .ok (.iadd, 1) := by decide +kernel
theorem dJx4a65c_add_72be8_19 : decode cJx4a65c_add_72be8 19 = .ok (.putfield 48, 3) := by decide +kernel
theorem dJx4a65c_add_72be8_22 : decode cJx4a65c_add_72be8 22 = .ok (.return_, 1) := by decide +kernel
set_option maxRecDepth 20000 in
theorem ggJx4a65c_add_9ea2d_Jx4a65c_add_72be8 : GoodIn wsJx4a65c_add_9ea2d wsJx4a65c_add_72be8 := goodIn_r _ [9, 4, 10, 11, 12, 8, 13, 14, 15, 16, 17, 3, 18, 19, 20, 21, 22, 23, 24, 25, 26, 27, 28, 29, 30, 31, 32, 33, 34, 35, 36, 37, 38, 39, 40, 41, 42, 43, 44, 45, 46, 47, 48, 49, 50, 51, 52, 53, 54, 55] (by decide +kernel) (by decide +kernel)
set_option maxRecDepth 20000 in
theorem gJx4a65c_add_9ea2d_Jx4a65c_add_72be8 : GoodIn wsJx4a65c_add_9ea2d (wsV RJx4a65c 131 RJx4a65c yJx4a65c_add_72be8 wsJx4a65c_add_72be8) := goodIn_app (goodIn_of _ (by decide +kernel)) ggJx4a65c_add_9ea2d_Jx4a65c_add_72be8
theorem dJx4a65c_add_9ea2d_0 : decode cJx4a65c_add_9ea2d 0 = .ok (.aload_n 0, 1) := by decide +kernel
theorem dJx4a65c_add_9ea2d_1 : decode cJx4a65c_add_9ea2d 1 = .ok (.dup, 1) := by decide +kernel
theorem dJx4a65c_add_9ea2d_2 : decode cJx4a65c_add_9ea2d 2 = .ok (.getfield 63, 3) := by decide +kernel
theorem dJx4a65c_add_9ea2d_5 : decode cJx4a65c_add_9ea2d 5 = .ok (.iconst 1, 1) := by decide +kernel
theorem dJx4a65c_add_9ea2d_6 : decode cJx4a65c_add_9ea2d 6 = .ok (.iadd, 1) := by decide +kernel
theorem dJx4a65c_add_9ea2d_7 : decode cJx4a65c_add_9ea2d 7 = .ok (.putfield 63, 3) := by decide +kernel
theorem dJx4a65c_add_9ea2d_10 : decode cJx4a65c_add_9ea2d 10 = .ok (.aload_n 0, 1) := by decide +kernel
theorem dJx4a65c_add_9ea2d_11 : decode cJx4a65c_add_9ea2d 11 = .ok (.aload_n 1, 1) := by decide +kernel
theorem dJx4a65c_add_9ea2d_12 : decode cJx4a65c_add_9ea2d 12 = .ok (.aload_n 0, 1) := by decide +kernel
theorem dJx4a65c_add_9ea2d_13 : decode cJx4a65c_add_9ea2d 13 = .ok (.getfield 9, 3) := by decide +kernel
theorem dJx4a65c_add_9ea2d_16 : decode cJx4a65c_add_9ea2d 16 = .ok (.aload_n 0, 1) := by decide +kernel
theorem dJx4a65c_add_9ea2d_17 : decode cJx4a65c_add_9ea2d 17 = .ok (.getfield 48, 3) := by decide +kernel
theorem dJx4a65c_add_9ea2d_20 : decode cJx4a65c_add_9ea2d 20 = .ok (.invokevirtual 131, 3) := by decide +kernel
theorem dJx4a65c_add_9ea2d_23 : decode cJx4a65c_add_9ea2d 23 = .ok (.iconst 1, 1) := by decide +kernel
theorem dJx4a65c_add_9ea2d_24 : decode cJx4a65c_add_9ea2d 24 = .ok (.ireturn, 1) := by decide +kernel
set_option maxRecDepth 20000 in
theorem ggJx4a65c_add_7a177_Jx4a65c_rangeCheckForAdd_d00df : GoodIn wsJx4a65c_add_7a177 wsJx4a65c_rangeCheckForAdd_d00df := goodIn_r _ [13, 3, 54, 55, 56] (by decide +kernel) (by decide +kernel)
set_option maxRecDepth 20000 in
theorem gJx4a65c_add_7a177_Jx4a65c_rangeCheckForAdd_d00df : GoodIn wsJx4a65c_add_7a177 (wsV RJx4a65c 135 RJx4a65c yJx4a65c_rangeCheckForAdd_d00df wsJx4a65c_rangeCheckForAdd_d00df) := goodIn_app (goodIn_of _ (by decide +kernel)) ggJx4a65c_add_7a177_Jx4a65c_rangeCheckForAdd_d00df
set_option maxRecDepth 20000 in
theorem ggJx4a65c_add_7a177_Jx4a65c_grow_d5877 : GoodIn wsJx4a65c_add_7a177 wsJx4a65c_grow_d5877 := goodIn_r _ [17, 3, 18, 19, 20, 12, 21, 4, 22, 23, 24, 25, 26, 27, 28, 29, 30, 31, 32, 33, 34, 35, 36, 37, 38, 39, 40, 41, 42, 43, 44, 45, 46, 47, 48, 49, 50, 51, 52, 53, 6, 7, 8, 54, 55, 56] (by decide +kernel) (by decide +kernel)
set_option maxRecDepth 20000 in
theorem gJx4a65c_add_7a177_Jx4a65c_grow_d5877 : GoodIn wsJx4a65c_add_7a177 (wsV RJx4a65c 129 RJx4a65c yJx4a65c_grow_d5877 wsJx4a65c_grow_d5877) := goodIn_app (goodIn_of _ (by decide +kernel)) ggJx4a65c_add_7a177_Jx4a65c_grow_d5877
theorem dJx4a65c_add_7a177_0 : decode cJx4a65c_add_7a177 0 = .ok (.aload_n 0, 1) := by decide +kernel
theorem dJx4a65c_add_7a177_1 : decode cJx4a65c_add_7a177 1 = .ok (.iload_n 1, 1) := by decide +kernel
theorem dJx4a65c_add_7a177_2 : decode cJx4a65c_add_7a177 2 = .ok (.invokevirtual 135, 3) := by decide +kernel
theorem dJx4a65c_add_7a177_5 : decode cJx4a65c_add_7a177 5 = .ok (.aload_n 0, 1) := by decide +kernel
theorem dJx4a65c_add_7a177_6 : decode cJx4a65c_add_7a177 6 = .ok (.dup, 1) := by decide +kernel
theorem dJx4a65c_add_7a177_7 : decode cJx4a65c_add_7a177 7 = .ok (.getfield 63, 3) := by decide +kernel
theorem dJx4a65c_add_7a177_10 : decode cJx4a65c_add_7a177 10 = .ok (.iconst 1, 1) := by decide +kernel
theorem dJx4a65c_add_7a177_11 : decode cJx4a65c_add_7a177 11 = .ok (.iadd, 1) := by decide +kernel
theorem dJx4a65c_add_7a177_12 : decode cJx4a65c_add_7a177 12 = .ok (.putfield 63, 3) := by decide +kernel
theorem dJx4a65c_add_7a177_15 : decode cJx4a65c_add_7a177 15 = .ok (.aload_n 0, 1) := by decide +kernel
theorem dJx4a65c_add_7a177_16 : decode cJx4a65c_add_7a177 16 = .ok (.getfield 48, 3) := by decide +kernel
theorem dJx4a65c_add_7a177_19 : decode cJx4a65c_add_7a177 19 = .ok (.dup, 1) := by decide +kernel
theorem dJx4a65c_add_7a177_20 : decode cJx4a65c_add_7a177 20 = .ok (.istore_n 3, 1) := by decide +kernel
theorem dJx4a65c_add_7a177_21 : decode cJx4a65c_add_7a177 21 = .ok (.aload_n 0, 1) := by decide +kernel
theorem dJx4a65c_add_7a177_22 : decode cJx4a65c_add_7a177 22 = .ok (.getfield 9, 3) := by decide +kernel
theorem dJx4a65c_add_7a177_25 : decode cJx4a65c_add_7a177 25 = .ok (.dup, 1) := by decide +kernel
theorem dJx4a65c_add_7a177_26 : decode cJx4a65c_add_7a177 26 = .ok (.astore 4, 2) := by decide +kernel
theorem dJx4a65c_add_7a177_28 : decode cJx4a65c_add_7a177 28 = .ok (.arraylength, 1) := by decide +kernel
theorem dJx4a65c_add_7a177_29 : decode cJx4a65c_add_7a177 29 = .ok (.if_icmp .ne 9, 3) := by decide +kernel
theorem dJx4a65c_add_7a177_32 : decode cJx4a65c_add_7a177 32 = .ok (.aload_n 0, 1) := by decide +kernel
theorem dJx4a65c_add_7a177_33 : decode cJx4a65c_add_7a177 33 = .ok (.invokevirtual 129, 3) := by decide +kernel
theorem dJx4a65c_add_7a177_36 : decode cJx4a65c_add_7a177 36 = .ok (.astore 4, 2) := by decide +kernel
theorem dJx4a65c_add_7a177_38 : decode cJx4a65c_add_7a177 38 = .ok (.aload 4, 2) := by decide +kernel
theorem dJx4a65c_add_7a177_40 : decode cJx4a65c_add_7a177 40 = .ok (.iload_n 1, 1) := by decide +kernel
theorem dJx4a65c_add_7a177_41 : decode cJx4a65c_add_7a177 41 = .ok (.aload 4, 2) := by decide +kernel
theorem dJx4a65c_add_7a177_43 : decode cJx4a65c_add_7a177 43 = .ok (.iload_n 1, 1) := by decide +kernel
theorem dJx4a65c_add_7a177_44 : decode cJx4a65c_add_7a177 44 = .ok (.iconst 1, 1) := by decide +kernel
theorem dJx4a65c_add_7a177_45 : decode cJx4a65c_add_7a177 45 = .ok (.iadd, 1) := by decide +kernel
theorem dJx4a65c_add_7a177_46 : decode cJx4a65c_add_7a177 46 = .ok (.iload_n 3, 1) := by decide +kernel
theorem dJx4a65c_add_7a177_47 : decode cJx4a65c_add_7a177 47 = .ok (.iload_n 1, 1) := by decide +kernel
theorem dJx4a65c_add_7a177_48 : decode cJx4a65c_add_7a177 48 = .ok (.isub, 1) := by decide +kernel
theorem dJx4a65c_add_7a177_49 : decode cJx4a65c_add_7a177 49 = .ok (.invokestatic 112, 3) := by decide +kernel
theorem dJx4a65c_add_7a177_52 : decode cJx4a65c_add_7a177 52 = .ok (.aload 4, 2) := by decide +kernel
theorem dJx4a65c_add_7a177_54 : decode cJx4a65c_add_7a177 54 = .ok (.iload_n 1, 1) := by decide +kernel
theorem dJx4a65c_add_7a177_55 : decode cJx4a65c_add_7a177 55 = .ok (.aload_n 2, 1) := by decide +kernel
theorem dJx4a65c_add_7a177_56 : decode cJx4a65c_add_7a177 56 = .ok (.aastore, 1) := by decide +kernel
theorem dJx4a65c_add_7a177_57 : decode cJx4a65c_add_7a177 57 = .ok (.aload_n 0, 1) := by decide +kernel
theorem dJx4a65c_add_7a177_58 : decode cJx4a65c_add_7a177 58 = .ok (.iload_n 3, 1) := by decide +kernel
theorem dJx4a65c_add_7a177_59 : decode cJx4a65c_add_7a177 59 = .ok (.iconst 1, 1) := by decide +kernel
theorem dJx4a65c_add_7a177_60 : decode cJx4a65c_add_7a177 60 = .ok (.iadd, 1) := by decide +kernel
theorem dJx4a65c_add_7a177_61 : decode cJx4a65c_add_7a177 61 = .ok (.putfield 48, 3) := by decide +kernel
theorem dJx4a65c_add_7a177_64 : decode cJx4a65c_add_7a177 64 = .ok (.return_, 1) := by decide +kernel
theorem dJx4a65c_rangeCheckForAdd_d00df_0 : decode cJx4a65c_rangeCheckForAdd_d00df 0 = .ok (.iload_n 1, 1) := by decide +kernel
theorem dJx4a65c_rangeCheckForAdd_d00df_1 : decode cJx4a65c_rangeCheckForAdd_d00df 1 = .ok (.aload_n 0, 1) := by decide +kernel
theorem dJx4a65c_rangeCheckForAdd_d00df_2 : decode cJx4a65c_rangeCheckForAdd_d00df 2 = .ok (.getfield 48, 3) := by decide +kernel
theorem dJx4a65c_rangeCheckForAdd_d00df_5 : decode cJx4a65c_rangeCheckForAdd_d00df 5 = .ok (.if_icmp .gt 7, 3) := by decide +kernel
theorem dJx4a65c_rangeCheckForAdd_d00df_8 : decode cJx4a65c_rangeCheckForAdd_d00df 8 = .ok (.iload_n 1, 1) := by decide +kernel
theorem dJx4a65c_rangeCheckForAdd_d00df_9 : decode cJx4a65c_rangeCheckForAdd_d00df 9 = .ok (.ifCond .ge 16, 3) := by decide +kernel
theorem dJx4a65c_rangeCheckForAdd_d00df_12 : decode cJx4a65c_rangeCheckForAdd_d00df 12 = .ok (.new 187, 3) := by decide +kernel
theorem dJx4a65c_rangeCheckForAdd_d00df_15 : decode cJx4a65c_rangeCheckForAdd_d00df 15 = .ok (.dup, 1) := by decide +kernel
theorem dJx4a65c_rangeCheckForAdd_d00df_16 : decode cJx4a65c_rangeCheckForAdd_d00df 16 = .ok (.aload_n 0, 1) := by decide +kernel
theorem dJx4a65c_rangeCheckForAdd_d00df_17 : decode cJx4a65c_rangeCheckForAdd_d00df 17 = .ok (.iload_n 1, 1) := by decide +kernel
theorem dJx4a65c_rangeCheckForAdd_d00df_18 : decode cJx4a65c_rangeCheckForAdd_d00df 18 = .ok (.invokevirtual 198, 3) := by decide +kernel
theorem dJx4a65c_rangeCheckForAdd_d00df_21 : decode cJx4a65c_rangeCheckForAdd_d00df 21 = .ok (.invokespecial 193, 3) := by decide +kernel
theorem dJx4a65c_rangeCheckForAdd_d00df_24 : decode cJx4a65c_rangeCheckForAdd_d00df 24 = .ok (.athrow, 1) := by decide +kernel
theorem dJx4a65c_rangeCheckForAdd_d00df_25 : decode cJx4a65c_rangeCheckForAdd_d00df 25 = .ok (.return_, 1) := by decide +kernel
set_option maxRecDepth 20000 in
theorem ggJ7_copyOf_1904c_J7_copyOf_6403c : GoodIn wsJ7_copyOf_1904c wsJ7_copyOf_6403c := goodIn_r _ [8, 9, 10, 11, 12, 13, 14, 15, 16, 17, 18] (by decide +kernel) (by decide +kernel)
set_option maxRecDepth 20000 in
theorem gJ7_copyOf_1904c_J7_copyOf_6403c : GoodIn wsJ7_copyOf_1904c (va_wsS RJ7 300 yJ7_copyOf_6403c wsJ7_copyOf_6403c) := goodIn_app (goodIn_of _ (by decide +kernel)) ggJ7_copyOf_1904c_J7_copyOf_6403c
theorem dJ7_copyOf_1904c_0 : decode cJ7_copyOf_1904c 0 = .ok (.aload_n 0, 1) := by decide +kernel
theorem dJ7_copyOf_1904c_1 : decode cJ7_copyOf_1904c 1 = .ok (.iload_n 1, 1) := by decide +kernel
theorem dJ7_copyOf_1904c_2 : decode cJ7_copyOf_1904c 2 = .ok (.aload_n 0, 1) := by decide +kernel
theorem dJ7_copyOf_1904c_3 : decode cJ7_copyOf_1904c 3 = .ok (.invokevirtual 86, 3) := by decide +kernel
theorem dJ7_copyOf_1904c_6 : decode cJ7_copyOf_1904c 6 = .ok (.invokestatic 300, 3) := by decide +kernel
theorem dJ7_copyOf_1904c_9 : decode cJ7_copyOf_1904c 9 = .ok (.areturn, 1) := by decide +kernel
theorem dJ7_copyOf_6403c_0 : decode cJ7_copyOf_6403c 0 = .ok (.aload_n 2, 1) := by decide +kernel
theorem dJ7_copyOf_6403c_1 : decode cJ7_copyOf_6403c 1 = .ok (.ldc 110, 2) := by decide +kernel
theorem dJ7_copyOf_6403c_3 : decode cJ7_copyOf_6403c 3 = .ok (.if_acmp .ne 10, 3) := by decide +kernel
theorem dJ7_copyOf_6403c_6 : decode cJ7_copyOf_6403c 6 = .ok (.iload_n 1, 1) := by decide +kernel
theorem dJ7_copyOf_6403c_7 : decode cJ7_copyOf_6403c 7 = .ok (.anewarray 2, 3) := by decide +kernel
theorem dJ7_copyOf_6403c_10 : decode cJ7_copyOf_6403c 10 = .ok (.goto 14, 3) := by decide +kernel
theorem dJ7_copyOf_6403c_13 : decode cJ7_copyOf_6403c 13 = .ok (.aload_n 2, 1) := by decide +kernel
theorem dJ7_copyOf_6403c_14 : decode cJ7_copyOf_6403c 14 = .ok (.invokevirtual 90, 3) := by decide +kernel
theorem dJ7_copyOf_6403c_17 : decode cJ7_copyOf_6403c 17 = .ok (.iload_n 1, 1) := by decide +kernel
theorem dJ7_copyOf_6403c_18 : decode cJ7_copyOf_6403c 18 = .ok (.invokestatic 95, 3) := by decide +kernel
theorem dJ7_copyOf_6403c_21 : decode cJ7_copyOf_6403c 21 = .ok (.checkcast 110, 3) := by decide +kernel
theorem dJ7_copyOf_6403c_24 : decode cJ7_copyOf_6403c 24 = .ok (.astore_n 3, 1) := by decide +kernel
theorem dJ7_copyOf_6403c_25 : decode cJ7_copyOf_6403c 25 = .ok (.aload_n 0, 1) := by decide +kernel
theorem dJ7_copyOf_6403c_26 : decode cJ7_copyOf_6403c 26 = .ok (.iconst 0, 1) := by decide +kernel
theorem dJ7_copyOf_6403c_27 : decode cJ7_copyOf_6403c 27 = .ok (.aload_n 3, 1) := by decide +kernel
theorem dJ7_copyOf_6403c_28 : decode cJ7_copyOf_6403c 28 = .ok (.iconst 0, 1) := by decide +kernel
theorem dJ7_copyOf_6403c_29 : decode cJ7_copyOf_6403c 29 = .ok (.aload_n 0, 1) := by decide +kernel
theorem dJ7_copyOf_6403c_30 : decode cJ7_copyOf_6403c 30 = .ok (.arraylength, 1) := by decide +kernel
theorem dJ7_copyOf_6403c_31 : decode cJ7_copyOf_6403c 31 = .ok (.iload_n 1, 1) := by decide +kernel
theorem dJ7_copyOf_6403c_32 : decode cJ7_copyOf_6403c 32 = .ok (.invokestatic 304, 3) := by decide +kernel
theorem dJ7_copyOf_6403c_35 : decode cJ7_copyOf_6403c 35 = .ok (.invokestatic 150, 3) := by decide +kernel
theorem dJ7_copyOf_6403c_38 : decode cJ7_copyOf_6403c 38 = .ok (.aload_n 3, 1) := by decide +kernel
theorem dJ7_copyOf_6403c_39 : decode cJ7_copyOf_6403c 39 = .ok (.areturn, 1) := by decide +kernel
set_option maxRecDepth 20000 in
theorem ggJ15_checkIndex_7cf53_J3_checkIndex_8e157 : GoodIn wsJ15_checkIndex_7cf53 wsJ3_checkIndex_8e157 := goodIn_r _ [4] (by decide +kernel) (by decide +kernel)
set_option maxRecDepth 20000 in
theorem gJ15_checkIndex_7cf53_J3_checkIndex_8e157 : GoodIn wsJ15_checkIndex_7cf53 (va_wsS RJ15 105 yJ3_checkIndex_8e157 wsJ3_checkIndex_8e157) := goodIn_app (goodIn_of _ (by decide +kernel)) ggJ15_checkIndex_7cf53_J3_checkIndex_8e157
theorem dJ15_checkIndex_7cf53_0 : decode cJ15_checkIndex_7cf53 0 = .ok (.iload_n 0, 1) := by decide +kernel
theorem dJ15_checkIndex_7cf53_1 : decode cJ15_checkIndex_7cf53 1 = .ok (.iload_n 1, 1) := by decide +kernel
theorem dJ15_checkIndex_7cf53_2 : decode cJ15_checkIndex_7cf53 2 = .ok (.aconst_null, 1) := by decide +kernel
theorem dJ15_checkIndex_7cf53_3 : decode cJ15_checkIndex_7cf53 3 = .ok (.invokestatic 105, 3) := by decide +kernel
theorem dJ15_checkIndex_7cf53_6 : decode cJ15_checkIndex_7cf53 6 = .ok (.ireturn, 1) := by decide +kernel
set_option maxRecDepth 20000 in
theorem ggJ8_newLength_cabcc_J8_hugeLength_7cf53 : GoodIn wsJ8_newLength_cabcc wsJ8_hugeLength_7cf53 := goodIn_r _ [9, 5] (by decide +kernel) (by decide +kernel)
set_option maxRecDepth 20000 in
theorem gJ8_newLength_cabcc_J8_hugeLength_7cf53 : GoodIn wsJ8_newLength_cabcc (va_wsS RJ8 201 yJ8_hugeLength_7cf53 wsJ8_hugeLength_7cf53) := goodIn_app (goodIn_of _ (by decide +kernel)) ggJ8_newLength_cabcc_J8_hugeLength_7cf53
theorem dJ8_newLength_cabcc_0 : decode cJ8_newLength_cabcc 0 = .ok (.iload_n 0, 1) := by decide +kernel
theorem dJ8_newLength_cabcc_1 : decode cJ8_newLength_cabcc 1 = .ok (.iload_n 1, 1) := by decide +kernel
theorem dJ8_newLength_cabcc_2 : decode cJ8_newLength_cabcc 2 = .ok (.iload_n 2, 1) := by decide +kernel
theorem dJ8_newLength_cabcc_3 : decode cJ8_newLength_cabcc 3 = .ok (.invokestatic 194, 3) := by decide +kernel
theorem dJ8_newLength_cabcc_6 : decode cJ8_newLength_cabcc 6 = .ok (.iadd, 1) := by decide +kernel
theorem dJ8_newLength_cabcc_7 : decode cJ8_newLength_cabcc 7 = .ok (.istore_n 3, 1) := by decide +kernel
theorem dJ8_newLength_cabcc_8 : decode cJ8_newLength_cabcc 8 = .ok (.iconst 0, 1) := by decide +kernel
theorem dJ8_newLength_cabcc_9 : decode cJ8_newLength_cabcc 9 = .ok (.iload_n 3, 1) := by decide +kernel
theorem dJ8_newLength_cabcc_10 : decode cJ8_newLength_cabcc 10 = .ok (.if_icmp .ge 11, 3) := by decide +kernel
theorem dJ8_newLength_cabcc_13 : decode cJ8_newLength_cabcc 13 = .ok (.iload_n 3, 1) := by decide +kernel
theorem dJ8_newLength_cabcc_14 : decode cJ8_newLength_cabcc 14 = .ok (.ldc 200, 2) := by decide +kernel
theorem dJ8_newLength_cabcc_16 : decode cJ8_newLength_cabcc 16 = .ok (.if_icmp .gt 5, 3) := by decide +kernel
theorem dJ8_newLength_cabcc_19 : decode cJ8_newLength_cabcc 19 = .ok (.iload_n 3, 1) := by decide +kernel
theorem dJ8_newLength_cabcc_20 : decode cJ8_newLength_cabcc 20 = .ok (.ireturn, 1) := by decide +kernel
theorem dJ8_newLength_cabcc_21 : decode cJ8_newLength_cabcc 21 = .ok (.iload_n 0, 1) := by decide +kernel
theorem dJ8_newLength_cabcc_22 : decode cJ8_newLength_cabcc 22 = .ok (.iload_n 1, 1) := by decide +kernel
theorem dJ8_newLength_cabcc_23 : decode cJ8_newLength_cabcc 23 = .ok (.invokestatic 201, 3) := by decide +kernel
theorem dJ8_newLength_cabcc_26 : decode cJ8_newLength_cabcc 26 = .ok (.ireturn, 1) := by decide +kernel
theorem dJ8_hugeLength_7cf53_0 : decode cJ8_hugeLength_7cf53 0 = .ok (.iload_n 0, 1) := by decide +kernel
theorem dJ8_hugeLength_7cf53_1 : decode cJ8_hugeLength_7cf53 1 = .ok (.iload_n 1, 1) := by decide +kernel
theorem dJ8_hugeLength_7cf53_2 : decode cJ8_hugeLength_7cf53 2 = .ok (.iadd, 1) := by decide +kernel
theorem dJ8_hugeLength_7cf53_3 : decode cJ8_hugeLength_7cf53 3 = .ok (.istore_n 2, 1) := by decide +kernel
theorem dJ8_hugeLength_7cf53_4 : decode cJ8_hugeLength_7cf53 4 = .ok (.iload_n 2, 1) := by decide +kernel
theorem dJ8_hugeLength_7cf53_5 : decode cJ8_hugeLength_7cf53 5 = .ok (.ifCond .ge 44, 3) := by decide +kernel
theorem dJ8_hugeLength_7cf53_8 : decode cJ8_hugeLength_7cf53 8 = .ok (.new 204, 3) := by decide +kernel
theorem dJ8_hugeLength_7cf53_11 : decode cJ8_hugeLength_7cf53 11 = .ok (.dup, 1) := by decide +kernel
theorem dJ8_hugeLength_7cf53_12 : decode cJ8_hugeLength_7cf53 12 = .ok (.new 89, 3) := by decide +kernel
theorem dJ8_hugeLength_7cf53_15 : decode cJ8_hugeLength_7cf53 15 = .ok (.dup, 1) := by decide +kernel
theorem dJ8_hugeLength_7cf53_16 : decode cJ8_hugeLength_7cf53 16 = .ok (.invokespecial 91, 3) := by decide +kernel
theorem dJ8_hugeLength_7cf53_19 : decode cJ8_hugeLength_7cf53 19 = .ok (.ldc 206, 2) := by decide +kernel
theorem dJ8_hugeLength_7cf53_21 : decode cJ8_hugeLength_7cf53 21 = .ok (.invokevirtual 94, 3) := by decide +kernel
theorem dJ8_hugeLength_7cf53_24 : decode cJ8_hugeLength_7cf53 24 = .ok (.iload_n 0, 1) := by decide +kernel
theorem dJ8_hugeLength_7cf53_25 : decode cJ8_hugeLength_7cf53 25 = .ok (.invokevirtual 98, 3) := by decide +kernel
theorem dJ8_hugeLength_7cf53_28 : decode cJ8_hugeLength_7cf53 28 = .ok (.ldc 208, 2) := by decide +kernel
theorem dJ8_hugeLength_7cf53_30 : decode cJ8_hugeLength_7cf53 30 = .ok (.invokevirtual 94, 3) := by decide +kernel
theorem dJ8_hugeLength_7cf53_33 : decode cJ8_hugeLength_7cf53 33 = .ok (.iload_n 1, 1) := by decide +kernel
theorem dJ8_hugeLength_7cf53_34 : decode cJ8_hugeLength_7cf53 34 = .ok (.invokevirtual 98, 3) := by decide +kernel
theorem dJ8_hugeLength_7cf53_37 : decode cJ8_hugeLength_7cf53 37 = .ok (.ldc 210, 2) := by decide +kernel
theorem dJ8_hugeLength_7cf53_39 : decode cJ8_hugeLength_7cf53 39 = .ok (.invokevirtual 94, 3) := by decide +kernel
theorem dJ8_hugeLength_7cf53_42 : decode cJ8_hugeLength_7cf53 42 = .ok (.invokevirtual 101, 3) := by decide +kernel
theorem dJ8_hugeLength_7cf53_45 : decode cJ8_hugeLength_7cf53 45 = .ok (.invokespecial 212, 3) := by decide +kernel
theorem dJ8_hugeLength_7cf53_48 : decode cJ8_hugeLength_7cf53 48 = .ok (.athrow, 1) := by decide +kernel
theorem dJ8_hugeLength_7cf53_49 : decode cJ8_hugeLength_7cf53 49 = .ok (.iload_n 2, 1) := by decide +kernel
theorem dJ8_hugeLength_7cf53_50 : decode cJ8_hugeLength_7cf53 50 = .ok (.ldc 200, 2) := by decide +kernel
theorem dJ8_hugeLength_7cf53_52 : decode cJ8_hugeLength_7cf53 52 = .ok (.if_icmp .gt 6, 3) := by decide +kernel
theorem dJ8_hugeLength_7cf53_55 : decode cJ8_hugeLength_7cf53 55 = .ok (.ldc 200, 2) := by decide +kernel
theorem dJ8_hugeLength_7cf53_57 : decode cJ8_hugeLength_7cf53 57 = .ok (.ireturn, 1) := by decide +kernel
theorem dJ8_hugeLength_7cf53_58 : decode cJ8_hugeLength_7cf53 58 = .ok (.iload_n 2, 1) := by decide +kernel
theorem dJ8_hugeLength_7cf53_59 : decode cJ8_hugeLength_7cf53 59 = .ok (.ireturn, 1) := by decide +kernel
theorem dJ3_checkIndex_8e157_0 : decode cJ3_checkIndex_8e157 0 = .ok (.iload_n 0, 1) := by decide +kernel
theorem dJ3_checkIndex_8e157_1 : decode cJ3_checkIndex_8e157 1 = .ok (.ifCond .lt 8, 3) := by decide +kernel
theorem dJ3_checkIndex_8e157_4 : decode cJ3_checkIndex_8e157 4 = .ok (.iload_n 0, 1) := by decide +kernel
theorem dJ3_checkIndex_8e157_5 : decode cJ3_checkIndex_8e157 5 = .ok (.iload_n 1, 1) := by decide +kernel
theorem dJ3_checkIndex_8e157_6 : decode cJ3_checkIndex_8e157 6 = .ok (.if_icmp .lt 10, 3) := by decide +kernel
theorem dJ3_checkIndex_8e157_9 : decode cJ3_checkIndex_8e157 9 = .ok (.aload_n 2, 1) := by decide +kernel
theorem dJ3_checkIndex_8e157_10 : decode cJ3_checkIndex_8e157 10 = .ok (.iload_n 0, 1) := by decide +kernel
theorem dJ3_checkIndex_8e157_11 : decode cJ3_checkIndex_8e157 11 = .ok (.iload_n 1, 1) := by decide +kernel
theorem dJ3_checkIndex_8e157_12 : decode cJ3_checkIndex_8e157 12 = .ok (.invokestatic 95, 3) := by decide +kernel
theorem dJ3_checkIndex_8e157_15 : decode cJ3_checkIndex_8e157 15 = .ok (.athrow, 1) := by decide +kernel
theorem dJ3_checkIndex_8e157_16 : decode cJ3_checkIndex_8e157 16 = .ok (.iload_n 0, 1) := by decide +kernel
theorem dJ3_checkIndex_8e157_17 : decode cJ3_checkIndex_8e157 17 = .ok (.ireturn, 1) := by decide +kernel
set_option maxRecDepth 20000 in
theorem ggL_law_X6_init : GoodIn wsL_law wsX6_init := goodIn_r _ [8, 9, 10, 11, 12, 13, 14, 15, 16, 17, 18, 19, 20, 21, 22, 23, 24, 25, 26, 27, 28, 29, 30, 31, 32, 33, 34, 35, 36, 37, 38, 39, 40, 41, 42, 43, 44, 45, 46, 47, 48, 49, 50, 51, 52, 53, 54, 55, 56, 57, 58, 59, 60, 61, 62, 63, 64, 65, 66, 67, 68, 69, 70, 71, 72, 73, 74, 75, 76, 77, 78, 79, 80, 81, 82, 83, 84, 85, 86, 87, 88, 89, 90, 91, 92, 93, 755, 756, 704, 705, 706, 707, 708, 709, 710, 711, 712, 713, 714, 715, 716, 717, 718, 757, 758, 759, 760, 761, 762, 763, 764, 765, 766, 767, 768, 769, 770, 771, 772, 773, 774, 775, 776, 777, 778, 779] (by decide +kernel) (by decide +kernel)
set_option maxRecDepth 20000 in
theorem gL_law_X6_init : GoodIn wsL_law (wsX6_init) := ggL_law_X6_init
set_option maxRecDepth 20000 in
theorem ggL_law_X7_init : GoodIn wsL_law wsX7_init := goodIn_r _ [96, 97, 10, 11, 98, 99, 100, 43, 101, 102, 103, 104, 105, 106, 107, 108, 109, 110, 111, 112, 113, 114, 115, 116, 117, 118, 119, 120, 121, 122, 123, 124, 125, 126, 5, 127, 719, 720, 721, 722, 723, 724, 725, 726, 727, 728, 729, 730, 731, 732, 733, 734, 735, 736, 737, 738, 739, 740, 741, 742, 743, 744, 745, 746, 747, 748, 749, 750, 751, 752, 753, 754] (by decide +kernel) (by decide +kernel)
set_option maxRecDepth 20000 in
theorem gL_law_X7_init : GoodIn wsL_law (wsX7_init) := ggL_law_X7_init
set_option maxRecDepth 20000 in
theorem ggL_law_X6_feed : GoodIn wsL_law wsX6_feed := goodIn_r _ [131, 15, 132, 133, 134, 14, 135, 136, 137, 138, 139, 140, 44, 141, 142, 143, 144, 704, 705, 706, 707, 708, 709, 710, 711, 712, 713, 714, 715, 716, 717, 718, 755, 756] (by decide +kernel) (by decide +kernel)
set_option maxRecDepth 20000 in
theorem gL_law_X6_feed : GoodIn wsL_law (wsV RL 13 RX6 yX6_feed wsX6_feed) := goodIn_app (goodIn_of _ (by decide +kernel)) ggL_law_X6_feed
set_option maxRecDepth 20000 in
theorem ggL_law_X7_feed : GoodIn wsL_law wsX7_feed := goodIn_r _ [148, 149, 150, 151, 152, 5, 153, 99, 719, 720, 721, 722, 723, 724, 725, 726, 727, 728, 729, 730, 731, 732, 733, 734, 735, 736, 737, 738, 739, 740, 741, 742, 743, 744, 745, 746, 747, 748, 749, 750, 751, 752, 753, 754] (by decide +kernel) (by decide +kernel)
set_option maxRecDepth 20000 in
theorem gL_law_X7_feed : GoodIn wsL_law (wsV RL 17 RX7 yX7_feed wsX7_feed) := goodIn_app (goodIn_of _ (by decide +kernel)) ggL_law_X7_feed
set_option maxRecDepth 20000 in
theorem ggL_law_X6_law : GoodIn wsL_law wsX6_law := goodIn_r _ [157, 15, 19, 141, 142, 143, 14, 144, 136, 158, 159, 2, 160, 161, 162, 163, 18, 164, 165, 166, 49, 57, 167, 168, 169, 170, 56, 171, 172, 173, 174, 175, 176, 177, 178, 179, 180, 181, 182, 183, 184, 58, 185, 186, 187, 188, 44, 189, 190, 191, 192, 193, 194, 195, 196, 197, 198, 199, 200, 201, 202, 704, 705, 706, 707, 708, 709, 710, 711, 712, 713, 714, 715, 716, 717, 718, 755, 756, 757, 758, 759, 760, 761] (by decide +kernel) (by decide +kernel)
set_option maxRecDepth 20000 in
theorem gL_law_X6_law : GoodIn wsL_law (wsV RL 18 RX6 yX6_law wsX6_law) := goodIn_app (goodIn_of _ (by decide +kernel)) ggL_law_X6_law
set_option maxRecDepth 20000 in
theorem ggL_law_X7_law : GoodIn wsL_law wsX7_law := goodIn_r _ [206, 149, 101, 102, 207, 208, 209, 5, 210, 125, 126, 127, 211, 212, 213, 214, 99, 215, 216, 217, 218, 219, 220, 221, 222, 223, 719, 720, 721, 722, 723, 724, 725, 726, 727, 728, 729, 730, 731, 732, 733, 734, 735, 736, 737, 738, 739, 740, 741, 742, 743, 744, 745, 746, 747, 748, 749, 750, 751, 752, 753, 754] (by decide +kernel) (by decide +kernel)
set_option maxRecDepth 20000 in
theorem gL_law_X7_law : GoodIn wsL_law (wsV RL 22 RX7 yX7_law wsX7_law) := goodIn_app (goodIn_of _ (by decide +kernel)) ggL_law_X7_law
set_option maxRecDepth 20000 in
theorem ggL_law_X6_trough : GoodIn wsL_law wsX6_trough := goodIn_r _ [227, 38, 158, 159, 2, 160, 704, 705, 706, 707, 708, 709, 710, 711, 712, 713, 714, 715, 716, 717, 718] (by decide +kernel) (by decide +kernel)
set_option maxRecDepth 20000 in
theorem gL_law_X6_trough : GoodIn wsL_law (wsV RL 23 RX6 yX6_trough wsX6_trough) := goodIn_app (goodIn_of _ (by decide +kernel)) ggL_law_X6_trough
set_option maxRecDepth 20000 in
theorem ggL_law_X7_trough : GoodIn wsL_law wsX7_trough := goodIn_r _ [231, 100, 218, 219, 5, 220, 719, 720, 721, 722, 723, 724, 725, 726, 727, 728, 729, 730, 731, 732, 733, 734, 735, 736, 737, 738, 739, 740, 741, 742, 743, 744, 745, 746, 747, 748, 749, 750, 751, 752, 753, 754] (by decide +kernel) (by decide +kernel)
set_option maxRecDepth 20000 in
theorem gL_law_X7_trough : GoodIn wsL_law (wsV RL 27 RX7 yX7_trough wsX7_trough) := goodIn_app (goodIn_of _ (by decide +kernel)) ggL_law_X7_trough
set_option maxRecDepth 20000 in
theorem ggL_law_X6_area : GoodIn wsL_law wsX6_area := goodIn_r _ [235, 236, 237, 2, 238, 158, 159, 160, 239, 240, 241, 242, 31, 32, 243, 244, 245, 30, 246, 78, 704, 705, 706, 707, 708, 709, 710, 711, 712, 713, 714, 715, 716, 717, 718, 775, 776] (by decide +kernel) (by decide +kernel)
set_option maxRecDepth 20000 in
theorem gL_law_X6_area : GoodIn wsL_law (wsV RL 28 RX6 yX6_area wsX6_area) := goodIn_app (goodIn_of _ (by decide +kernel)) ggL_law_X6_area
set_option maxRecDepth 20000 in
theorem ggL_law_X7_area : GoodIn wsL_law wsX7_area := goodIn_r _ [250, 103, 251, 252, 5, 253, 218, 219, 220, 719, 720, 721, 722, 723, 724, 725, 726, 727, 728, 729, 730, 731, 732, 733, 734, 735, 736, 737, 738, 739, 740, 741, 742, 743, 744, 745, 746, 747, 748, 749, 750, 751, 752, 753, 754] (by decide +kernel) (by decide +kernel)
set_option maxRecDepth 20000 in
theorem gL_law_X7_area : GoodIn wsL_law (wsV RL 32 RX7 yX7_area wsX7_area) := goodIn_app (goodIn_of _ (by decide +kernel)) ggL_law_X7_area
set_option maxRecDepth 20000 in
theorem ggL_law_X6_flow : GoodIn wsL_law wsX6_flow := goodIn_r _ [257, 258, 259, 236, 237, 2, 238, 158, 159, 160, 239, 240, 241, 242, 31, 32, 260, 261, 262, 30, 263, 264, 704, 705, 706, 707, 708, 709, 710, 711, 712, 713, 714, 715, 716, 717, 718, 775, 776] (by decide +kernel) (by decide +kernel)
set_option maxRecDepth 20000 in
theorem gL_law_X6_flow : GoodIn wsL_law (wsV RL 33 RX6 yX6_flow wsX6_flow) := goodIn_app (goodIn_of _ (by decide +kernel)) ggL_law_X6_flow
set_option maxRecDepth 20000 in
theorem ggL_law_X7_flow : GoodIn wsL_law wsX7_flow := goodIn_r _ [268, 269, 270, 105, 251, 252, 5, 253, 218, 219, 220, 719, 720, 721, 722, 723, 724, 725, 726, 727, 728, 729, 730, 731, 732, 733, 734, 735, 736, 737, 738, 739, 740, 741, 742, 743, 744, 745, 746, 747, 748, 749, 750, 751, 752, 753, 754] (by decide +kernel) (by decide +kernel)
set_option maxRecDepth 20000 in
theorem gL_law_X7_flow : GoodIn wsL_law (wsV RL 36 RX7 yX7_flow wsX7_flow) := goodIn_app (goodIn_of _ (by decide +kernel)) ggL_law_X7_flow
set_option maxRecDepth 20000 in
theorem ggL_law_X6_ice : GoodIn wsL_law wsX6_ice := goodIn_r _ [274, 23, 275, 276, 2, 277, 158, 159, 160, 278, 279, 280, 22, 281, 282, 63, 64, 704, 705, 706, 707, 708, 709, 710, 711, 712, 713, 714, 715, 716, 717, 718, 762, 763, 764, 765] (by decide +kernel) (by decide +kernel)
set_option maxRecDepth 20000 in
theorem gL_law_X6_ice : GoodIn wsL_law (wsV RL 37 RX6 yX6_ice wsX6_ice) := goodIn_app (goodIn_of _ (by decide +kernel)) ggL_law_X6_ice
set_option maxRecDepth 20000 in
theorem ggL_law_X7_ice : GoodIn wsL_law wsX7_ice := goodIn_r _ [286, 287, 106, 107, 218, 219, 5, 220, 719, 720, 721, 722, 723, 724, 725, 726, 727, 728, 729, 730, 731, 732, 733, 734, 735, 736, 737, 738, 739, 740, 741, 742, 743, 744, 745, 746, 747, 748, 749, 750, 751, 752, 753, 754] (by decide +kernel) (by decide +kernel)
set_option maxRecDepth 20000 in
theorem gL_law_X7_ice : GoodIn wsL_law (wsV RL 40 RX7 yX7_ice wsX7_ice) := goodIn_app (goodIn_of _ (by decide +kernel)) ggL_law_X7_ice
set_option maxRecDepth 20000 in
theorem ggL_law_X6_boat : GoodIn wsL_law wsX6_boat := goodIn_r _ [291, 36, 292, 293, 294, 37, 295, 236, 237, 2, 238, 275, 276, 277, 158, 159, 160, 296, 297, 298, 35, 299, 300, 301, 302, 303, 304, 10, 11, 305, 306, 307, 308, 309, 310, 311, 312, 313, 314, 315, 316, 317, 318, 83, 319, 320, 321, 322, 323, 324, 325, 326, 327, 328, 329, 330, 82, 331, 332, 333, 334, 335, 336, 337, 338, 339, 340, 341, 342, 343, 344, 345, 346, 347, 348, 349, 350, 351, 352, 353, 354, 355, 356, 357, 358, 359, 360, 361, 168, 169, 170, 362, 363, 364, 365, 366, 367, 368, 369, 370, 371, 372, 373, 374, 375, 376, 377, 378, 379, 380, 381, 382, 383, 384, 385, 386, 387, 388, 389, 390, 391, 392, 393, 394, 395, 704, 705, 706, 707, 708, 709, 710, 711, 712, 713, 714, 715, 716, 717, 718, 780, 781, 782, 783, 784, 785, 786, 787, 777, 778, 779] (by decide +kernel) (by decide +kernel)
set_option maxRecDepth 20000 in
theorem gL_law_X6_boat : GoodIn wsL_law (wsV RL 41 RX6 yX6_boat wsX6_boat) := goodIn_app (goodIn_of _ (by decide +kernel)) ggL_law_X6_boat
set_option maxRecDepth 20000 in
theorem ggL_law_X7_boat : GoodIn wsL_law wsX7_boat := goodIn_r _ [399, 400, 108, 109, 110, 111, 112, 113, 114, 251, 252, 5, 253, 218, 219, 220, 719, 720, 721, 722, 723, 724, 725, 726, 727, 728, 729, 730, 731, 732, 733, 734, 735, 736, 737, 738, 739, 740, 741, 742, 743, 744, 745, 746, 747, 748, 749, 750, 751, 752, 753, 754] (by decide +kernel) (by decide +kernel)
set_option maxRecDepth 20000 in
theorem gL_law_X7_boat : GoodIn wsL_law (wsV RL 45 RX7 yX7_boat wsX7_boat) := goodIn_app (goodIn_of _ (by decide +kernel)) ggL_law_X7_boat
set_option maxRecDepth 20000 in
theorem ggL_law_X6_queue : GoodIn wsL_law wsX6_queue := goodIn_r _ [404, 37, 366, 295, 236, 237, 2, 238, 275, 276, 277, 158, 159, 160, 296, 297, 298, 35, 299, 300, 367, 368, 369, 370, 371, 372, 373, 374, 375, 376, 377, 378, 379, 380, 381, 382, 83, 405, 406, 407, 408, 409, 410, 411, 412, 413, 414, 415, 416, 417, 418, 419, 420, 19, 421, 38, 31, 32, 422, 423, 424, 18, 425, 56, 426, 427, 428, 30, 429, 430, 431, 432, 433, 78, 264, 434, 435, 436, 437, 438, 439, 440, 704, 705, 706, 707, 708, 709, 710, 711, 712, 713, 714, 715, 716, 717, 718, 780, 781, 782, 783, 784, 785, 786, 787, 777, 778, 779, 757, 758, 759, 760, 761, 775, 776] (by decide +kernel) (by decide +kernel)
set_option maxRecDepth 20000 in
theorem gL_law_X6_queue : GoodIn wsL_law (wsV RL 46 RX6 yX6_queue wsX6_queue) := goodIn_app (goodIn_of _ (by decide +kernel)) ggL_law_X6_queue
set_option maxRecDepth 20000 in
theorem ggL_law_X7_queue : GoodIn wsL_law wsX7_queue := goodIn_r _ [444, 445, 115, 251, 252, 5, 253, 218, 219, 220, 446, 447, 448, 449, 400, 108, 109, 450, 451, 452, 453, 114, 454, 455, 456, 457, 110, 100, 111, 101, 458, 459, 460, 461, 462, 463, 464, 465, 466, 105, 103, 467, 468, 469, 470, 471, 472, 473, 113, 719, 720, 721, 722, 723, 724, 725, 726, 727, 728, 729, 730, 731, 732, 733, 734, 735, 736, 737, 738, 739, 740, 741, 742, 743, 744, 745, 746, 747, 748, 749, 750, 751, 752, 753, 754] (by decide +kernel) (by decide +kernel)
end
section
set_option maxRecDepth 20000 in
theorem gL_law_X7_queue : GoodIn wsL_law (wsV RL 50 RX7 yX7_queue wsX7_queue) := goodIn_app (goodIn_of _ (by decide +kernel)) ggL_law_X7_queue
set_option maxRecDepth 20000 in
theorem ggL_law_X6_fitting : GoodIn wsL_law wsX6_fitting := goodIn_r _ [477, 275, 276, 2, 277, 158, 159, 160, 478, 479, 480, 481, 38, 37, 366, 39, 421, 296, 297, 298, 35, 299, 300, 367, 368, 369, 370, 371, 372, 373, 374, 375, 376, 377, 378, 379, 380, 381, 382, 83, 405, 406, 407, 408, 409, 410, 411, 412, 413, 414, 415, 416, 417, 418, 419, 420, 19, 31, 32, 422, 423, 424, 18, 425, 56, 426, 427, 428, 30, 429, 430, 431, 432, 433, 78, 264, 434, 435, 436, 437, 438, 439, 440, 704, 705, 706, 707, 708, 709, 710, 711, 712, 713, 714, 715, 716, 717, 718, 780, 781, 782, 783, 784, 785, 786, 787, 777, 778, 779, 757, 758, 759, 760, 761, 775, 776] (by decide +kernel) (by decide +kernel)
set_option maxRecDepth 20000 in
theorem gL_law_X6_fitting : GoodIn wsL_law (wsV RL 51 RX6 yX6_fitting wsX6_fitting) := goodIn_app (goodIn_of _ (by decide +kernel)) ggL_law_X6_fitting
set_option maxRecDepth 20000 in
theorem ggL_law_X7_fitting : GoodIn wsL_law wsX7_fitting := goodIn_r _ [485, 486, 218, 219, 5, 220, 446, 447, 448, 449, 445, 400, 108, 109, 115, 450, 451, 452, 453, 114, 454, 455, 456, 457, 110, 100, 111, 101, 458, 459, 460, 461, 462, 463, 464, 465, 466, 105, 103, 467, 468, 469, 470, 471, 472, 473, 113, 487, 488, 489, 490, 719, 720, 721, 722, 723, 724, 725, 726, 727, 728, 729, 730, 731, 732, 733, 734, 735, 736, 737, 738, 739, 740, 741, 742, 743, 744, 745, 746, 747, 748, 749, 750, 751, 752, 753, 754] (by decide +kernel) (by decide +kernel)
set_option maxRecDepth 20000 in
theorem gL_law_X7_fitting : GoodIn wsL_law (wsV RL 54 RX7 yX7_fitting wsX7_fitting) := goodIn_app (goodIn_of _ (by decide +kernel)) ggL_law_X7_fitting
set_option maxRecDepth 20000 in
theorem ggL_law_X6_ride : GoodIn wsL_law wsX6_ride := goodIn_r _ [494, 495, 23, 496, 19, 39, 497, 275, 276, 2, 277, 158, 159, 160, 478, 479, 480, 481, 38, 37, 366, 421, 296, 297, 298, 35, 299, 300, 367, 368, 369, 370, 371, 372, 373, 374, 375, 376, 377, 378, 379, 380, 381, 382, 83, 405, 406, 407, 408, 409, 410, 411, 412, 413, 414, 415, 416, 417, 418, 419, 420, 31, 32, 422, 423, 424, 18, 425, 56, 426, 427, 428, 30, 429, 430, 431, 432, 433, 78, 264, 434, 435, 436, 437, 438, 439, 440, 498, 499, 500, 22, 501, 65, 502, 503, 504, 505, 506, 282, 63, 64, 507, 508, 509, 510, 511, 512, 513, 514, 515, 516, 294, 517, 305, 308, 518, 519, 520, 521, 260, 261, 262, 263, 522, 523, 524, 704, 705, 706, 707, 708, 709, 710, 711, 712, 713, 714, 715, 716, 717, 718, 780, 781, 782, 783, 784, 785, 786, 787, 777, 778, 779, 757, 758, 759, 760, 761, 775, 776, 762, 763, 764, 765] (by decide +kernel) (by decide +kernel)
set_option maxRecDepth 20000 in
theorem gL_law_X6_ride : GoodIn wsL_law (wsV RL 55 RX6 yX6_ride wsX6_ride) := goodIn_app (goodIn_of _ (by decide +kernel)) ggL_law_X6_ride
set_option maxRecDepth 20000 in
theorem ggL_law_X7_ride : GoodIn wsL_law wsX7_ride := goodIn_r _ [528, 529, 530, 101, 486, 112, 115, 114, 105, 531, 218, 219, 5, 220, 532, 533, 534, 535, 536, 537, 538, 539, 287, 106, 107, 446, 447, 448, 449, 445, 400, 108, 109, 450, 451, 452, 453, 454, 455, 456, 457, 110, 100, 111, 458, 459, 460, 461, 462, 463, 464, 465, 466, 103, 467, 468, 469, 470, 471, 472, 473, 113, 487, 488, 489, 490, 719, 720, 721, 722, 723, 724, 725, 726, 727, 728, 729, 730, 731, 732, 733, 734, 735, 736, 737, 738, 739, 740, 741, 742, 743, 744, 745, 746, 747, 748, 749, 750, 751, 752, 753, 754] (by decide +kernel) (by decide +kernel)
set_option maxRecDepth 20000 in
theorem gL_law_X7_ride : GoodIn wsL_law (wsV RL 59 RX7 yX7_ride wsX7_ride) := goodIn_app (goodIn_of _ (by decide +kernel)) ggL_law_X7_ride
set_option maxRecDepth 20000 in
theorem ggL_law_X6_renew : GoodIn wsL_law wsX6_renew := goodIn_r _ [543, 495, 19, 496, 275, 276, 2, 277, 158, 159, 160, 422, 423, 424, 18, 425, 56, 704, 705, 706, 707, 708, 709, 710, 711, 712, 713, 714, 715, 716, 717, 718, 757, 758, 759, 760, 761] (by decide +kernel) (by decide +kernel)
set_option maxRecDepth 20000 in
theorem gL_law_X6_renew : GoodIn wsL_law (wsV RL 60 RX6 yX6_renew wsX6_renew) := goodIn_app (goodIn_of _ (by decide +kernel)) ggL_law_X6_renew
set_option maxRecDepth 20000 in
theorem ggL_law_X7_renew : GoodIn wsL_law wsX7_renew := goodIn_r _ [547, 529, 101, 530, 218, 219, 5, 220, 719, 720, 721, 722, 723, 724, 725, 726, 727, 728, 729, 730, 731, 732, 733, 734, 735, 736, 737, 738, 739, 740, 741, 742, 743, 744, 745, 746, 747, 748, 749, 750, 751, 752, 753, 754] (by decide +kernel) (by decide +kernel)
set_option maxRecDepth 20000 in
theorem gL_law_X7_renew : GoodIn wsL_law (wsV RL 63 RX7 yX7_renew wsX7_renew) := goodIn_app (goodIn_of _ (by decide +kernel)) ggL_law_X7_renew
set_option maxRecDepth 20000 in
theorem ggL_law_X6_plan : GoodIn wsL_law wsX6_plan := goodIn_r _ [551, 552, 553, 554, 2, 555, 27, 37, 366, 556, 557, 558, 26, 559, 560, 296, 297, 298, 35, 299, 300, 367, 368, 369, 370, 371, 372, 373, 374, 375, 376, 377, 378, 379, 380, 381, 382, 83, 411, 412, 413, 414, 415, 416, 417, 418, 419, 420, 19, 421, 38, 31, 32, 422, 423, 424, 18, 425, 56, 426, 427, 428, 30, 429, 430, 431, 432, 433, 78, 264, 434, 435, 436, 437, 438, 439, 440, 561, 562, 563, 564, 70, 565, 71, 566, 72, 567, 568, 569, 570, 571, 39, 495, 572, 573, 574, 575, 576, 104, 577, 578, 579, 580, 581, 582, 73, 74, 583, 499, 500, 22, 501, 65, 502, 503, 504, 505, 506, 282, 63, 64, 584, 585, 586, 587, 588, 589, 590, 591, 333, 592, 593, 594, 595, 596, 597, 598, 599, 600, 523, 524, 601, 602, 603, 704, 705, 706, 707, 708, 709, 710, 711, 712, 713, 714, 715, 716, 717, 718, 766, 767, 768, 769, 770, 771, 772, 773, 774, 777, 778, 779, 780, 781, 782, 783, 784, 785, 786, 787, 757, 758, 759, 760, 761, 775, 776, 762, 763, 764, 765] (by decide +kernel) (by decide +kernel)
set_option maxRecDepth 20000 in
theorem gL_law_X6_plan : GoodIn wsL_law (wsV RL 64 RX6 yX6_plan wsX6_plan) := goodIn_app (goodIn_of _ (by decide +kernel)) ggL_law_X6_plan
set_option maxRecDepth 20000 in
theorem ggL_law_X7_plan : GoodIn wsL_law wsX7_plan := goodIn_r _ [607, 608, 609, 610, 611, 5, 612, 613, 400, 124, 450, 451, 452, 453, 114, 454, 455, 456, 457, 110, 100, 111, 101, 458, 459, 460, 461, 462, 463, 464, 465, 466, 105, 103, 467, 468, 469, 614, 615, 616, 617, 618, 619, 620, 122, 123, 529, 486, 121, 621, 622, 623, 624, 625, 118, 119, 117, 120, 626, 627, 628, 629, 109, 630, 631, 632, 633, 115, 634, 635, 636, 637, 446, 447, 448, 449, 445, 108, 470, 471, 472, 473, 113, 487, 488, 489, 490, 638, 639, 640, 641, 532, 533, 534, 535, 536, 537, 538, 539, 287, 106, 107, 719, 720, 721, 722, 723, 724, 725, 726, 727, 728, 729, 730, 731, 732, 733, 734, 735, 736, 737, 738, 739, 740, 741, 742, 743, 744, 745, 746, 747, 748, 749, 750, 751, 752, 753, 754] (by decide +kernel) (by decide +kernel)
set_option maxRecDepth 20000 in
theorem gL_law_X7_plan : GoodIn wsL_law (wsV RL 68 RX7 yX7_plan wsX7_plan) := goodIn_app (goodIn_of _ (by decide +kernel)) ggL_law_X7_plan
set_option maxRecDepth 20000 in
theorem ggL_law_X6_ends : GoodIn wsL_law wsX6_ends := goodIn_r _ [645, 552, 553, 554, 2, 555, 27, 37, 366, 556, 557, 558, 26, 559, 560, 296, 297, 298, 35, 299, 300, 367, 368, 369, 370, 371, 372, 373, 374, 375, 376, 377, 378, 379, 380, 381, 382, 83, 411, 412, 413, 414, 415, 416, 417, 418, 419, 420, 19, 421, 38, 31, 32, 422, 423, 424, 18, 425, 56, 426, 427, 428, 30, 429, 430, 431, 432, 433, 78, 264, 434, 435, 436, 437, 438, 439, 440, 561, 562, 563, 564, 70, 565, 71, 566, 72, 567, 568, 569, 570, 571, 39, 495, 572, 573, 574, 575, 576, 104, 577, 578, 579, 580, 581, 582, 73, 74, 583, 499, 500, 22, 501, 65, 502, 503, 504, 505, 506, 282, 63, 64, 584, 585, 586, 587, 588, 589, 590, 591, 333, 592, 593, 594, 595, 596, 597, 598, 599, 600, 523, 524, 646, 647, 648, 649, 704, 705, 706, 707, 708, 709, 710, 711, 712, 713, 714, 715, 716, 717, 718, 766, 767, 768, 769, 770, 771, 772, 773, 774, 777, 778, 779, 780, 781, 782, 783, 784, 785, 786, 787, 757, 758, 759, 760, 761, 775, 776, 762, 763, 764, 765] (by decide +kernel) (by decide +kernel)
set_option maxRecDepth 20000 in
theorem gL_law_X6_ends : GoodIn wsL_law (wsV RL 69 RX6 yX6_ends wsX6_ends) := goodIn_app (goodIn_of _ (by decide +kernel)) ggL_law_X6_ends
set_option maxRecDepth 20000 in
theorem ggL_law_X7_ends : GoodIn wsL_law wsX7_ends := goodIn_r _ [653, 613, 620, 609, 610, 611, 5, 612, 400, 124, 450, 451, 452, 453, 114, 454, 455, 456, 457, 110, 100, 111, 101, 458, 459, 460, 461, 462, 463, 464, 465, 466, 105, 103, 467, 468, 469, 614, 615, 616, 617, 618, 619, 608, 122, 123, 529, 486, 121, 621, 622, 623, 624, 625, 118, 119, 117, 120, 626, 627, 628, 629, 109, 630, 631, 632, 633, 115, 634, 635, 636, 637, 446, 447, 448, 449, 445, 108, 470, 471, 472, 473, 113, 487, 488, 489, 490, 638, 639, 640, 641, 532, 533, 534, 535, 536, 537, 538, 539, 287, 106, 107, 719, 720, 721, 722, 723, 724, 725, 726, 727, 728, 729, 730, 731, 732, 733, 734, 735, 736, 737, 738, 739, 740, 741, 742, 743, 744, 745, 746, 747, 748, 749, 750, 751, 752, 753, 754] (by decide +kernel) (by decide +kernel)
set_option maxRecDepth 20000 in
theorem gL_law_X7_ends : GoodIn wsL_law (wsV RL 72 RX7 yX7_ends wsX7_ends) := goodIn_app (goodIn_of _ (by decide +kernel)) ggL_law_X7_ends
set_option maxRecDepth 20000 in
theorem ggL_law_X6_stock : GoodIn wsL_law wsX6_stock := goodIn_r _ [657, 236, 237, 2, 238, 239, 240, 241, 242, 31, 32, 658, 659, 660, 30, 661, 264, 704, 705, 706, 707, 708, 709, 710, 711, 712, 713, 714, 715, 716, 717, 718, 775, 776] (by decide +kernel) (by decide +kernel)
set_option maxRecDepth 20000 in
theorem gL_law_X6_stock : GoodIn wsL_law (wsV RL 73 RX6 yX6_stock wsX6_stock) := goodIn_app (goodIn_of _ (by decide +kernel)) ggL_law_X6_stock
set_option maxRecDepth 20000 in
theorem ggL_law_X7_stock : GoodIn wsL_law wsX7_stock := goodIn_r _ [665, 105, 251, 252, 5, 253, 218, 219, 220, 719, 720, 721, 722, 723, 724, 725, 726, 727, 728, 729, 730, 731, 732, 733, 734, 735, 736, 737, 738, 739, 740, 741, 742, 743, 744, 745, 746, 747, 748, 749, 750, 751, 752, 753, 754] (by decide +kernel) (by decide +kernel)
set_option maxRecDepth 20000 in
theorem gL_law_X7_stock : GoodIn wsL_law (wsV RL 77 RX7 yX7_stock wsX7_stock) := goodIn_app (goodIn_of _ (by decide +kernel)) ggL_law_X7_stock
set_option maxRecDepth 20000 in
theorem ggL_law_X6_level : GoodIn wsL_law wsX6_level := goodIn_r _ [669, 236, 237, 2, 238, 239, 240, 241, 242, 31, 32, 670, 431, 432, 30, 433, 78, 264, 434, 435, 436, 437, 704, 705, 706, 707, 708, 709, 710, 711, 712, 713, 714, 715, 716, 717, 718, 775, 776] (by decide +kernel) (by decide +kernel)
set_option maxRecDepth 20000 in
theorem gL_law_X6_level : GoodIn wsL_law (wsV RL 78 RX6 yX6_level wsX6_level) := goodIn_app (goodIn_of _ (by decide +kernel)) ggL_law_X6_level
set_option maxRecDepth 20000 in
theorem ggL_law_X7_level : GoodIn wsL_law wsX7_level := goodIn_r _ [674, 251, 252, 5, 253, 218, 219, 220, 463, 464, 465, 466, 105, 103, 467, 468, 469, 719, 720, 721, 722, 723, 724, 725, 726, 727, 728, 729, 730, 731, 732, 733, 734, 735, 736, 737, 738, 739, 740, 741, 742, 743, 744, 745, 746, 747, 748, 749, 750, 751, 752, 753, 754] (by decide +kernel) (by decide +kernel)
set_option maxRecDepth 20000 in
theorem gL_law_X7_level : GoodIn wsL_law (wsV RL 81 RX7 yX7_level wsX7_level) := goodIn_app (goodIn_of _ (by decide +kernel)) ggL_law_X7_level
set_option maxRecDepth 20000 in
theorem ggL_law_X6_depth : GoodIn wsL_law wsX6_depth := goodIn_r _ [678, 236, 237, 2, 238, 239, 240, 241, 242, 31, 32, 426, 427, 428, 30, 429, 430, 431, 432, 433, 78, 264, 434, 435, 436, 437, 438, 439, 440, 704, 705, 706, 707, 708, 709, 710, 711, 712, 713, 714, 715, 716, 717, 718, 775, 776] (by decide +kernel) (by decide +kernel)
set_option maxRecDepth 20000 in
theorem gL_law_X6_depth : GoodIn wsL_law (wsV RL 82 RX6 yX6_depth wsX6_depth) := goodIn_app (goodIn_of _ (by decide +kernel)) ggL_law_X6_depth
set_option maxRecDepth 20000 in
theorem ggL_law_X7_depth : GoodIn wsL_law wsX7_depth := goodIn_r _ [682, 251, 252, 5, 253, 218, 219, 220, 458, 459, 460, 461, 462, 463, 464, 465, 466, 105, 103, 467, 468, 469, 719, 720, 721, 722, 723, 724, 725, 726, 727, 728, 729, 730, 731, 732, 733, 734, 735, 736, 737, 738, 739, 740, 741, 742, 743, 744, 745, 746, 747, 748, 749, 750, 751, 752, 753, 754] (by decide +kernel) (by decide +kernel)
set_option maxRecDepth 20000 in
theorem gL_law_X7_depth : GoodIn wsL_law (wsV RL 85 RX7 yX7_depth wsX7_depth) := goodIn_app (goodIn_of _ (by decide +kernel)) ggL_law_X7_depth
set_option maxRecDepth 20000 in
theorem ggL_law_X6_look : GoodIn wsL_law wsX6_look := goodIn_r _ [686, 36, 366, 409, 410, 421, 420, 511, 687, 415, 296, 297, 298, 35, 299, 300, 158, 159, 2, 160, 367, 368, 369, 370, 371, 372, 373, 374, 375, 376, 377, 378, 379, 380, 381, 382, 83, 416, 417, 418, 419, 19, 38, 31, 32, 422, 423, 424, 18, 425, 56, 426, 427, 428, 30, 429, 430, 431, 432, 433, 78, 264, 434, 435, 436, 437, 438, 439, 440, 514, 515, 516, 294, 517, 305, 308, 704, 705, 706, 707, 708, 709, 710, 711, 712, 713, 714, 715, 716, 717, 718, 780, 781, 782, 783, 784, 785, 786, 787, 777, 778, 779, 757, 758, 759, 760, 761, 775, 776] (by decide +kernel) (by decide +kernel)
set_option maxRecDepth 20000 in
theorem gL_law_X6_look : GoodIn wsL_law (wsV RL 86 RX6 yX6_look wsX6_look) := goodIn_app (goodIn_of _ (by decide +kernel)) ggL_law_X6_look
set_option maxRecDepth 20000 in
theorem ggL_law_X7_look : GoodIn wsL_law wsX7_look := goodIn_r _ [691, 400, 108, 109, 110, 111, 112, 113, 114, 218, 219, 5, 220, 454, 455, 456, 457, 100, 101, 458, 459, 460, 461, 462, 463, 464, 465, 466, 105, 103, 467, 468, 469, 719, 720, 721, 722, 723, 724, 725, 726, 727, 728, 729, 730, 731, 732, 733, 734, 735, 736, 737, 738, 739, 740, 741, 742, 743, 744, 745, 746, 747, 748, 749, 750, 751, 752, 753, 754] (by decide +kernel) (by decide +kernel)
set_option maxRecDepth 20000 in
theorem gL_law_X7_look : GoodIn wsL_law (wsV RL 89 RX7 yX7_look wsX7_look) := goodIn_app (goodIn_of _ (by decide +kernel)) ggL_law_X7_look
set_option maxRecDepth 20000 in
theorem ggL_law_X6_count : GoodIn wsL_law wsX6_count := goodIn_r _ [695, 19, 38, 39, 495, 496, 497, 36, 513, 15, 512, 31, 32, 158, 159, 2, 160, 422, 423, 424, 18, 425, 56, 296, 297, 298, 35, 299, 300, 141, 142, 143, 14, 144, 136, 696, 697, 698, 30, 699, 78, 704, 705, 706, 707, 708, 709, 710, 711, 712, 713, 714, 715, 716, 717, 718, 757, 758, 759, 760, 761, 777, 778, 779, 755, 756, 775, 776] (by decide +kernel) (by decide +kernel)
set_option maxRecDepth 20000 in
theorem gL_law_X6_count : GoodIn wsL_law (wsV RL 90 RX6 yX6_count wsX6_count) := goodIn_app (goodIn_of _ (by decide +kernel)) ggL_law_X6_count
set_option maxRecDepth 20000 in
theorem ggL_law_X7_count : GoodIn wsL_law wsX7_count := goodIn_r _ [703, 101, 103, 100, 486, 529, 530, 531, 400, 114, 149, 109, 218, 219, 5, 220, 719, 720, 721, 722, 723, 724, 725, 726, 727, 728, 729, 730, 731, 732, 733, 734, 735, 736, 737, 738, 739, 740, 741, 742, 743, 744, 745, 746, 747, 748, 749, 750, 751, 752, 753, 754] (by decide +kernel) (by decide +kernel)
set_option maxRecDepth 20000 in
theorem gL_law_X7_count : GoodIn wsL_law (wsV RL 93 RX7 yX7_count wsX7_count) := goodIn_app (goodIn_of _ (by decide +kernel)) ggL_law_X7_count
theorem dL_law_0 : decode cL_law 0 = .ok (.new 7, 3) := by decide +kernel
theorem dL_law_3 : decode cL_law 3 = .ok (.dup, 1) := by decide +kernel
theorem dL_law_4 : decode cL_law 4 = .ok (.invokespecial 9, 3) := by decide +kernel
theorem dL_law_7 : decode cL_law 7 = .ok (.astore_n 1, 1) := by decide +kernel
theorem dL_law_8 : decode cL_law 8 = .ok (.new 10, 3) := by decide +kernel
theorem dL_law_11 : decode cL_law 11 = .ok (.dup, 1) := by decide +kernel
theorem dL_law_12 : decode cL_law 12 = .ok (.invokespecial 12, 3) := by decide +kernel
theorem dL_law_15 : decode cL_law 15 = .ok (.astore_n 2, 1) := by decide +kernel
theorem dL_law_16 : decode cL_law 16 = .ok (.iconst 0, 1) := by decide +kernel
theorem dL_law_17 : decode cL_law 17 = .ok (.istore_n 3, 1) := by decide +kernel
theorem dL_law_18 : decode cL_law 18 = .ok (.iload_n 3, 1) := by decide +kernel
theorem dL_law_19 : decode cL_law 19 = .ok (.aload_n 0, 1) := by decide +kernel
theorem dL_law_20 : decode cL_law 20 = .ok (.arraylength, 1) := by decide +kernel
theorem dL_law_21 : decode cL_law 21 = .ok (.bipush 7, 2) := by decide +kernel
theorem dL_law_23 : decode cL_law 23 = .ok (.isub, 1) := by decide +kernel
theorem dL_law_24 : decode cL_law 24 = .ok (.if_icmp .gt 659, 3) := by decide +kernel
theorem dL_law_27 : decode cL_law 27 = .ok (.aload_n 0, 1) := by decide +kernel
theorem dL_law_28 : decode cL_law 28 = .ok (.iload_n 3, 1) := by decide +kernel
theorem dL_law_29 : decode cL_law 29 = .ok (.iaload, 1) := by decide +kernel
theorem dL_law_30 : decode cL_law 30 = .ok (.bipush 31, 2) := by decide +kernel
theorem dL_law_32 : decode cL_law 32 = .ok (.iand, 1) := by decide +kernel
theorem dL_law_33 : decode cL_law 33 = .ok (.tableswitch 644 0 17 #[87, 150, 173, 196, 229, 262, 295, 370, 413, 436, 469, 492, 505, 518, 542, 565, 588, 621], 87) := by decide +kernel
theorem dL_law_120 : decode cL_law 120 = .ok (.aload_n 1, 1) := by decide +kernel
theorem dL_law_121 : decode cL_law 121 = .ok (.aload_n 0, 1) := by decide +kernel
theorem dL_law_122 : decode cL_law 122 = .ok (.iload_n 3, 1) := by decide +kernel
theorem dL_law_123 : decode cL_law 123 = .ok (.iconst 1, 1) := by decide +kernel
theorem dL_law_124 : decode cL_law 124 = .ok (.iadd, 1) := by decide +kernel
theorem dL_law_125 : decode cL_law 125 = .ok (.iaload, 1) := by decide +kernel
theorem dL_law_126 : decode cL_law 126 = .ok (.aload_n 0, 1) := by decide +kernel
theorem dL_law_127 : decode cL_law 127 = .ok (.iload_n 3, 1) := by decide +kernel
theorem dL_law_128 : decode cL_law 128 = .ok (.iconst 2, 1) := by decide +kernel
theorem dL_law_129 : decode cL_law 129 = .ok (.iadd, 1) := by decide +kernel
theorem dL_law_130 : decode cL_law 130 = .ok (.iaload, 1) := by decide +kernel
theorem dL_law_131 : decode cL_law 131 = .ok (.aload_n 0, 1) := by decide +kernel
theorem dL_law_132 : decode cL_law 132 = .ok (.iload_n 3, 1) := by decide +kernel
theorem dL_law_133 : decode cL_law 133 = .ok (.iconst 3, 1) := by decide +kernel
theorem dL_law_134 : decode cL_law 134 = .ok (.iadd, 1) := by decide +kernel
theorem dL_law_135 : decode cL_law 135 = .ok (.iaload, 1) := by decide +kernel
theorem dL_law_136 : decode cL_law 136 = .ok (.aload_n 0, 1) := by decide +kernel
theorem dL_law_137 : decode cL_law 137 = .ok (.iload_n 3, 1) := by decide +kernel
theorem dL_law_138 : decode cL_law 138 = .ok (.iconst 4, 1) := by decide +kernel
theorem dL_law_139 : decode cL_law 139 = .ok (.iadd, 1) := by decide +kernel
theorem dL_law_140 : decode cL_law 140 = .ok (.iaload, 1) := by decide +kernel
theorem dL_law_141 : decode cL_law 141 = .ok (.aload_n 0, 1) := by decide +kernel
theorem dL_law_142 : decode cL_law 142 = .ok (.iload_n 3, 1) := by decide +kernel
theorem dL_law_143 : decode cL_law 143 = .ok (.iconst 5, 1) := by decide +kernel
theorem dL_law_144 : decode cL_law 144 = .ok (.iadd, 1) := by decide +kernel
theorem dL_law_145 : decode cL_law 145 = .ok (.iaload, 1) := by decide +kernel
theorem dL_law_146 : decode cL_law 146 = .ok (.invokevirtual 13, 3) := by decide +kernel
theorem dL_law_149 : decode cL_law 149 = .ok (.aload_n 2, 1) := by decide +kernel
theorem dL_law_150 : decode cL_law 150 = .ok (.aload_n 0, 1) := by decide +kernel
theorem dL_law_151 : decode cL_law 151 = .ok (.iload_n 3, 1) := by decide +kernel
theorem dL_law_152 : decode cL_law 152 = .ok (.iconst 1, 1) := by decide +kernel
theorem dL_law_153 : decode cL_law 153 = .ok (.iadd, 1) := by decide +kernel
theorem dL_law_154 : decode cL_law 154 = .ok (.iaload, 1) := by decide +kernel
theorem dL_law_155 : decode cL_law 155 = .ok (.aload_n 0, 1) := by decide +kernel
theorem dL_law_156 : decode cL_law 156 = .ok (.iload_n 3, 1) := by decide +kernel
theorem dL_law_157 : decode cL_law 157 = .ok (.iconst 2, 1) := by decide +kernel
theorem dL_law_158 : decode cL_law 158 = .ok (.iadd, 1) := by decide +kernel
theorem dL_law_159 : decode cL_law 159 = .ok (.iaload, 1) := by decide +kernel
theorem dL_law_160 : decode cL_law 160 = .ok (.aload_n 0, 1) := by decide +kernel
theorem dL_law_161 : decode cL_law 161 = .ok (.iload_n 3, 1) := by decide +kernel
theorem dL_law_162 : decode cL_law 162 = .ok (.iconst 3, 1) := by decide +kernel
theorem dL_law_163 : decode cL_law 163 = .ok (.iadd, 1) := by decide +kernel
theorem dL_law_164 : decode cL_law 164 = .ok (.iaload, 1) := by decide +kernel
theorem dL_law_165 : decode cL_law 165 = .ok (.aload_n 0, 1) := by decide +kernel
theorem dL_law_166 : decode cL_law 166 = .ok (.iload_n 3, 1) := by decide +kernel
theorem dL_law_167 : decode cL_law 167 = .ok (.iconst 4, 1) := by decide +kernel
theorem dL_law_168 : decode cL_law 168 = .ok (.iadd, 1) := by decide +kernel
theorem dL_law_169 : decode cL_law 169 = .ok (.iaload, 1) := by decide +kernel
theorem dL_law_170 : decode cL_law 170 = .ok (.aload_n 0, 1) := by decide +kernel
theorem dL_law_171 : decode cL_law 171 = .ok (.iload_n 3, 1) := by decide +kernel
theorem dL_law_172 : decode cL_law 172 = .ok (.iconst 5, 1) := by decide +kernel
theorem dL_law_173 : decode cL_law 173 = .ok (.iadd, 1) := by decide +kernel
theorem dL_law_174 : decode cL_law 174 = .ok (.iaload, 1) := by decide +kernel
theorem dL_law_175 : decode cL_law 175 = .ok (.invokevirtual 17, 3) := by decide +kernel
theorem dL_law_178 : decode cL_law 178 = .ok (.if_icmp .eq 499, 3) := by decide +kernel
theorem dL_law_181 : decode cL_law 181 = .ok (.iconst 0, 1) := by decide +kernel
theorem dL_law_182 : decode cL_law 182 = .ok (.ireturn, 1) := by decide +kernel
theorem dL_law_183 : decode cL_law 183 = .ok (.aload_n 1, 1) := by decide +kernel
theorem dL_law_184 : decode cL_law 184 = .ok (.aload_n 0, 1) := by decide +kernel
theorem dL_law_185 : decode cL_law 185 = .ok (.iload_n 3, 1) := by decide +kernel
theorem dL_law_186 : decode cL_law 186 = .ok (.iconst 1, 1) := by decide +kernel
theorem dL_law_187 : decode cL_law 187 = .ok (.iadd, 1) := by decide +kernel
theorem dL_law_188 : decode cL_law 188 = .ok (.iaload, 1) := by decide +kernel
theorem dL_law_189 : decode cL_law 189 = .ok (.invokevirtual 18, 3) := by decide +kernel
theorem dL_law_192 : decode cL_law 192 = .ok (.aload_n 2, 1) := by decide +kernel
theorem dL_law_193 : decode cL_law 193 = .ok (.aload_n 0, 1) := by decide +kernel
theorem dL_law_194 : decode cL_law 194 = .ok (.iload_n 3, 1) := by decide +kernel
theorem dL_law_195 : decode cL_law 195 = .ok (.iconst 1, 1) := by decide +kernel
theorem dL_law_196 : decode cL_law 196 = .ok (.iadd, 1) := by decide +kernel
theorem dL_law_197 : decode cL_law 197 = .ok (.iaload, 1) := by decide +kernel
theorem dL_law_198 : decode cL_law 198 = .ok (.invokevirtual 22, 3) := by decide +kernel
theorem dL_law_201 : decode cL_law 201 = .ok (.if_icmp .eq 476, 3) := by decide +kernel
theorem dL_law_204 : decode cL_law 204 = .ok (.iconst 0, 1) := by decide +kernel
theorem dL_law_205 : decode cL_law 205 = .ok (.ireturn, 1) := by decide +kernel
theorem dL_law_206 : decode cL_law 206 = .ok (.aload_n 1, 1) := by decide +kernel
theorem dL_law_207 : decode cL_law 207 = .ok (.aload_n 0, 1) := by decide +kernel
theorem dL_law_208 : decode cL_law 208 = .ok (.iload_n 3, 1) := by decide +kernel
theorem dL_law_209 : decode cL_law 209 = .ok (.iconst 1, 1) := by decide +kernel
theorem dL_law_210 : decode cL_law 210 = .ok (.iadd, 1) := by decide +kernel
theorem dL_law_211 : decode cL_law 211 = .ok (.iaload, 1) := by decide +kernel
theorem dL_law_212 : decode cL_law 212 = .ok (.invokevirtual 23, 3) := by decide +kernel
theorem dL_law_215 : decode cL_law 215 = .ok (.aload_n 2, 1) := by decide +kernel
theorem dL_law_216 : decode cL_law 216 = .ok (.aload_n 0, 1) := by decide +kernel
theorem dL_law_217 : decode cL_law 217 = .ok (.iload_n 3, 1) := by decide +kernel
theorem dL_law_218 : decode cL_law 218 = .ok (.iconst 1, 1) := by decide +kernel
theorem dL_law_219 : decode cL_law 219 = .ok (.iadd, 1) := by decide +kernel
theorem dL_law_220 : decode cL_law 220 = .ok (.iaload, 1) := by decide +kernel
theorem dL_law_221 : decode cL_law 221 = .ok (.invokevirtual 27, 3) := by decide +kernel
theorem dL_law_224 : decode cL_law 224 = .ok (.if_icmp .eq 453, 3) := by decide +kernel
theorem dL_law_227 : decode cL_law 227 = .ok (.iconst 0, 1) := by decide +kernel
theorem dL_law_228 : decode cL_law 228 = .ok (.ireturn, 1) := by decide +kernel
theorem dL_law_229 : decode cL_law 229 = .ok (.aload_n 1, 1) := by decide +kernel
theorem dL_law_230 : decode cL_law 230 = .ok (.aload_n 0, 1) := by decide +kernel
theorem dL_law_231 : decode cL_law 231 = .ok (.iload_n 3, 1) := by decide +kernel
theorem dL_law_232 : decode cL_law 232 = .ok (.iconst 1, 1) := by decide +kernel
theorem dL_law_233 : decode cL_law 233 = .ok (.iadd, 1) := by decide +kernel
theorem dL_law_234 : decode cL_law 234 = .ok (.iaload, 1) := by decide +kernel
theorem dL_law_235 : decode cL_law 235 = .ok (.aload_n 0, 1) := by decide +kernel
theorem dL_law_236 : decode cL_law 236 = .ok (.iload_n 3, 1) := by decide +kernel
theorem dL_law_237 : decode cL_law 237 = .ok (.iconst 2, 1) := by decide +kernel
theorem dL_law_238 : decode cL_law 238 = .ok (.iadd, 1) := by decide +kernel
theorem dL_law_239 : decode cL_law 239 = .ok (.iaload, 1) := by decide +kernel
theorem dL_law_240 : decode cL_law 240 = .ok (.invokevirtual 28, 3) := by decide +kernel
theorem dL_law_243 : decode cL_law 243 = .ok (.aload_n 2, 1) := by decide +kernel
theorem dL_law_244 : decode cL_law 244 = .ok (.aload_n 0, 1) := by decide +kernel
theorem dL_law_245 : decode cL_law 245 = .ok (.iload_n 3, 1) := by decide +kernel
theorem dL_law_246 : decode cL_law 246 = .ok (.iconst 1, 1) := by decide +kernel
theorem dL_law_247 : decode cL_law 247 = .ok (.iadd, 1) := by decide +kernel
theorem dL_law_248 : decode cL_law 248 = .ok (.iaload, 1) := by decide +kernel
theorem dL_law_249 : decode cL_law 249 = .ok (.aload_n 0, 1) := by decide +kernel
theorem dL_law_250 : decode cL_law 250 = .ok (.iload_n 3, 1) := by decide +kernel
theorem dL_law_251 : decode cL_law 251 = .ok (.iconst 2, 1) := by decide +kernel
theorem dL_law_252 : decode cL_law 252 = .ok (.iadd, 1) := by decide +kernel
theorem dL_law_253 : decode cL_law 253 = .ok (.iaload, 1) := by decide +kernel
theorem dL_law_254 : decode cL_law 254 = .ok (.invokevirtual 32, 3) := by decide +kernel
theorem dL_law_257 : decode cL_law 257 = .ok (.if_icmp .eq 420, 3) := by decide +kernel
theorem dL_law_260 : decode cL_law 260 = .ok (.iconst 0, 1) := by decide +kernel
theorem dL_law_261 : decode cL_law 261 = .ok (.ireturn, 1) := by decide +kernel
theorem dL_law_262 : decode cL_law 262 = .ok (.aload_n 1, 1) := by decide +kernel
theorem dL_law_263 : decode cL_law 263 = .ok (.aload_n 0, 1) := by decide +kernel
theorem dL_law_264 : decode cL_law 264 = .ok (.iload_n 3, 1) := by decide +kernel
theorem dL_law_265 : decode cL_law 265 = .ok (.iconst 1, 1) := by decide +kernel
theorem dL_law_266 : decode cL_law 266 = .ok (.iadd, 1) := by decide +kernel
theorem dL_law_267 : decode cL_law 267 = .ok (.iaload, 1) := by decide +kernel
theorem dL_law_268 : decode cL_law 268 = .ok (.aload_n 0, 1) := by decide +kernel
theorem dL_law_269 : decode cL_law 269 = .ok (.iload_n 3, 1) := by decide +kernel
theorem dL_law_270 : decode cL_law 270 = .ok (.iconst 2, 1) := by decide +kernel
theorem dL_law_271 : decode cL_law 271 = .ok (.iadd, 1) := by decide +kernel
theorem dL_law_272 : decode cL_law 272 = .ok (.iaload, 1) := by decide +kernel
theorem dL_law_273 : decode cL_law 273 = .ok (.invokevirtual 33, 3) := by decide +kernel
theorem dL_law_276 : decode cL_law 276 = .ok (.aload_n 2, 1) := by decide +kernel
theorem dL_law_277 : decode cL_law 277 = .ok (.aload_n 0, 1) := by decide +kernel
theorem dL_law_278 : decode cL_law 278 = .ok (.iload_n 3, 1) := by decide +kernel
theorem dL_law_279 : decode cL_law 279 = .ok (.iconst 1, 1) := by decide +kernel
theorem dL_law_280 : decode cL_law 280 = .ok (.iadd, 1) := by decide +kernel
theorem dL_law_281 : decode cL_law 281 = .ok (.iaload, 1) := by decide +kernel
theorem dL_law_282 : decode cL_law 282 = .ok (.aload_n 0, 1) := by decide +kernel
theorem dL_law_283 : decode cL_law 283 = .ok (.iload_n 3, 1) := by decide +kernel
theorem dL_law_284 : decode cL_law 284 = .ok (.iconst 2, 1) := by decide +kernel
theorem dL_law_285 : decode cL_law 285 = .ok (.iadd, 1) := by decide +kernel
theorem dL_law_286 : decode cL_law 286 = .ok (.iaload, 1) := by decide +kernel
theorem dL_law_287 : decode cL_law 287 = .ok (.invokevirtual 36, 3) := by decide +kernel
theorem dL_law_290 : decode cL_law 290 = .ok (.if_icmp .eq 387, 3) := by decide +kernel
theorem dL_law_293 : decode cL_law 293 = .ok (.iconst 0, 1) := by decide +kernel
theorem dL_law_294 : decode cL_law 294 = .ok (.ireturn, 1) := by decide +kernel
theorem dL_law_295 : decode cL_law 295 = .ok (.aload_n 1, 1) := by decide +kernel
theorem dL_law_296 : decode cL_law 296 = .ok (.aload_n 0, 1) := by decide +kernel
theorem dL_law_297 : decode cL_law 297 = .ok (.iload_n 3, 1) := by decide +kernel
theorem dL_law_298 : decode cL_law 298 = .ok (.iconst 1, 1) := by decide +kernel
theorem dL_law_299 : decode cL_law 299 = .ok (.iadd, 1) := by decide +kernel
theorem dL_law_300 : decode cL_law 300 = .ok (.iaload, 1) := by decide +kernel
theorem dL_law_301 : decode cL_law 301 = .ok (.aload_n 0, 1) := by decide +kernel
theorem dL_law_302 : decode cL_law 302 = .ok (.iload_n 3, 1) := by decide +kernel
theorem dL_law_303 : decode cL_law 303 = .ok (.iconst 2, 1) := by decide +kernel
theorem dL_law_304 : decode cL_law 304 = .ok (.iadd, 1) := by decide +kernel
theorem dL_law_305 : decode cL_law 305 = .ok (.iaload, 1) := by decide +kernel
theorem dL_law_306 : decode cL_law 306 = .ok (.invokevirtual 37, 3) := by decide +kernel
theorem dL_law_309 : decode cL_law 309 = .ok (.aload_n 2, 1) := by decide +kernel
theorem dL_law_310 : decode cL_law 310 = .ok (.aload_n 0, 1) := by decide +kernel
theorem dL_law_311 : decode cL_law 311 = .ok (.iload_n 3, 1) := by decide +kernel
theorem dL_law_312 : decode cL_law 312 = .ok (.iconst 1, 1) := by decide +kernel
theorem dL_law_313 : decode cL_law 313 = .ok (.iadd, 1) := by decide +kernel
theorem dL_law_314 : decode cL_law 314 = .ok (.iaload, 1) := by decide +kernel
theorem dL_law_315 : decode cL_law 315 = .ok (.aload_n 0, 1) := by decide +kernel
theorem dL_law_316 : decode cL_law 316 = .ok (.iload_n 3, 1) := by decide +kernel
theorem dL_law_317 : decode cL_law 317 = .ok (.iconst 2, 1) := by decide +kernel
theorem dL_law_318 : decode cL_law 318 = .ok (.iadd, 1) := by decide +kernel
theorem dL_law_319 : decode cL_law 319 = .ok (.iaload, 1) := by decide +kernel
theorem dL_law_320 : decode cL_law 320 = .ok (.invokevirtual 40, 3) := by decide +kernel
theorem dL_law_323 : decode cL_law 323 = .ok (.if_icmp .eq 354, 3) := by decide +kernel
theorem dL_law_326 : decode cL_law 326 = .ok (.iconst 0, 1) := by decide +kernel
theorem dL_law_327 : decode cL_law 327 = .ok (.ireturn, 1) := by decide +kernel
theorem dL_law_328 : decode cL_law 328 = .ok (.aload_n 1, 1) := by decide +kernel
theorem dL_law_329 : decode cL_law 329 = .ok (.aload_n 0, 1) := by decide +kernel
theorem dL_law_330 : decode cL_law 330 = .ok (.iload_n 3, 1) := by decide +kernel
theorem dL_law_331 : decode cL_law 331 = .ok (.iconst 1, 1) := by decide +kernel
theorem dL_law_332 : decode cL_law 332 = .ok (.iadd, 1) := by decide +kernel
theorem dL_law_333 : decode cL_law 333 = .ok (.iaload, 1) := by decide +kernel
theorem dL_law_334 : decode cL_law 334 = .ok (.aload_n 0, 1) := by decide +kernel
theorem dL_law_335 : decode cL_law 335 = .ok (.iload_n 3, 1) := by decide +kernel
theorem dL_law_336 : decode cL_law 336 = .ok (.iconst 2, 1) := by decide +kernel
theorem dL_law_337 : decode cL_law 337 = .ok (.iadd, 1) := by decide +kernel
theorem dL_law_338 : decode cL_law 338 = .ok (.iaload, 1) := by decide +kernel
theorem dL_law_339 : decode cL_law 339 = .ok (.aload_n 0, 1) := by decide +kernel
theorem dL_law_340 : decode cL_law 340 = .ok (.iload_n 3, 1) := by decide +kernel
theorem dL_law_341 : decode cL_law 341 = .ok (.iconst 3, 1) := by decide +kernel
theorem dL_law_342 : decode cL_law 342 = .ok (.iadd, 1) := by decide +kernel
theorem dL_law_343 : decode cL_law 343 = .ok (.iaload, 1) := by decide +kernel
theorem dL_law_344 : decode cL_law 344 = .ok (.aload_n 0, 1) := by decide +kernel
theorem dL_law_345 : decode cL_law 345 = .ok (.iload_n 3, 1) := by decide +kernel
theorem dL_law_346 : decode cL_law 346 = .ok (.iconst 4, 1) := by decide +kernel
theorem dL_law_347 : decode cL_law 347 = .ok (.iadd, 1) := by decide +kernel
theorem dL_law_348 : decode cL_law 348 = .ok (.iaload, 1) := by decide +kernel
theorem dL_law_349 : decode cL_law 349 = .ok (.aload_n 0, 1) := by decide +kernel
theorem dL_law_350 : decode cL_law 350 = .ok (.iload_n 3, 1) := by decide +kernel
theorem dL_law_351 : decode cL_law 351 = .ok (.iconst 5, 1) := by decide +kernel
theorem dL_law_352 : decode cL_law 352 = .ok (.iadd, 1) := by decide +kernel
theorem dL_law_353 : decode cL_law 353 = .ok (.iaload, 1) := by decide +kernel
theorem dL_law_354 : decode cL_law 354 = .ok (.aload_n 0, 1) := by decide +kernel
theorem dL_law_355 : decode cL_law 355 = .ok (.iload_n 3, 1) := by decide +kernel
theorem dL_law_356 : decode cL_law 356 = .ok (.bipush 6, 2) := by decide +kernel
theorem dL_law_358 : decode cL_law 358 = .ok (.iadd, 1) := by decide +kernel
theorem dL_law_359 : decode cL_law 359 = .ok (.iaload, 1) := by decide +kernel
theorem dL_law_360 : decode cL_law 360 = .ok (.invokevirtual 41, 3) := by decide +kernel
theorem dL_law_363 : decode cL_law 363 = .ok (.aload_n 2, 1) := by decide +kernel
theorem dL_law_364 : decode cL_law 364 = .ok (.aload_n 0, 1) := by decide +kernel
theorem dL_law_365 : decode cL_law 365 = .ok (.iload_n 3, 1) := by decide +kernel
theorem dL_law_366 : decode cL_law 366 = .ok (.iconst 1, 1) := by decide +kernel
theorem dL_law_367 : decode cL_law 367 = .ok (.iadd, 1) := by decide +kernel
theorem dL_law_368 : decode cL_law 368 = .ok (.iaload, 1) := by decide +kernel
theorem dL_law_369 : decode cL_law 369 = .ok (.aload_n 0, 1) := by decide +kernel
theorem dL_law_370 : decode cL_law 370 = .ok (.iload_n 3, 1) := by decide +kernel
theorem dL_law_371 : decode cL_law 371 = .ok (.iconst 2, 1) := by decide +kernel
theorem dL_law_372 : decode cL_law 372 = .ok (.iadd, 1) := by decide +kernel
theorem dL_law_373 : decode cL_law 373 = .ok (.iaload, 1) := by decide +kernel
theorem dL_law_374 : decode cL_law 374 = .ok (.aload_n 0, 1) := by decide +kernel
theorem dL_law_375 : decode cL_law 375 = .ok (.iload_n 3, 1) := by decide +kernel
theorem dL_law_376 : decode cL_law 376 = .ok (.iconst 3, 1) := by decide +kernel
theorem dL_law_377 : decode cL_law 377 = .ok (.iadd, 1) := by decide +kernel
theorem dL_law_378 : decode cL_law 378 = .ok (.iaload, 1) := by decide +kernel
theorem dL_law_379 : decode cL_law 379 = .ok (.aload_n 0, 1) := by decide +kernel
theorem dL_law_380 : decode cL_law 380 = .ok (.iload_n 3, 1) := by decide +kernel
theorem dL_law_381 : decode cL_law 381 = .ok (.iconst 4, 1) := by decide +kernel
theorem dL_law_382 : decode cL_law 382 = .ok (.iadd, 1) := by decide +kernel
theorem dL_law_383 : decode cL_law 383 = .ok (.iaload, 1) := by decide +kernel
theorem dL_law_384 : decode cL_law 384 = .ok (.aload_n 0, 1) := by decide +kernel
theorem dL_law_385 : decode cL_law 385 = .ok (.iload_n 3, 1) := by decide +kernel
theorem dL_law_386 : decode cL_law 386 = .ok (.iconst 5, 1) := by decide +kernel
theorem dL_law_387 : decode cL_law 387 = .ok (.iadd, 1) := by decide +kernel
theorem dL_law_388 : decode cL_law 388 = .ok (.iaload, 1) := by decide +kernel
theorem dL_law_389 : decode cL_law 389 = .ok (.aload_n 0, 1) := by decide +kernel
theorem dL_law_390 : decode cL_law 390 = .ok (.iload_n 3, 1) := by decide +kernel
theorem dL_law_391 : decode cL_law 391 = .ok (.bipush 6, 2) := by decide +kernel
theorem dL_law_393 : decode cL_law 393 = .ok (.iadd, 1) := by decide +kernel
theorem dL_law_394 : decode cL_law 394 = .ok (.iaload, 1) := by decide +kernel
theorem dL_law_395 : decode cL_law 395 = .ok (.invokevirtual 45, 3) := by decide +kernel
theorem dL_law_398 : decode cL_law 398 = .ok (.if_icmp .eq 279, 3) := by decide +kernel
theorem dL_law_401 : decode cL_law 401 = .ok (.iconst 0, 1) := by decide +kernel
theorem dL_law_402 : decode cL_law 402 = .ok (.ireturn, 1) := by decide +kernel
theorem dL_law_403 : decode cL_law 403 = .ok (.aload_n 1, 1) := by decide +kernel
theorem dL_law_404 : decode cL_law 404 = .ok (.aload_n 0, 1) := by decide +kernel
theorem dL_law_405 : decode cL_law 405 = .ok (.iload_n 3, 1) := by decide +kernel
theorem dL_law_406 : decode cL_law 406 = .ok (.iconst 1, 1) := by decide +kernel
theorem dL_law_407 : decode cL_law 407 = .ok (.iadd, 1) := by decide +kernel
theorem dL_law_408 : decode cL_law 408 = .ok (.iaload, 1) := by decide +kernel
theorem dL_law_409 : decode cL_law 409 = .ok (.aload_n 0, 1) := by decide +kernel
theorem dL_law_410 : decode cL_law 410 = .ok (.iload_n 3, 1) := by decide +kernel
theorem dL_law_411 : decode cL_law 411 = .ok (.iconst 2, 1) := by decide +kernel
theorem dL_law_412 : decode cL_law 412 = .ok (.iadd, 1) := by decide +kernel
theorem dL_law_413 : decode cL_law 413 = .ok (.iaload, 1) := by decide +kernel
theorem dL_law_414 : decode cL_law 414 = .ok (.aload_n 0, 1) := by decide +kernel
theorem dL_law_415 : decode cL_law 415 = .ok (.iload_n 3, 1) := by decide +kernel
theorem dL_law_416 : decode cL_law 416 = .ok (.iconst 3, 1) := by decide +kernel
theorem dL_law_417 : decode cL_law 417 = .ok (.iadd, 1) := by decide +kernel
theorem dL_law_418 : decode cL_law 418 = .ok (.iaload, 1) := by decide +kernel
theorem dL_law_419 : decode cL_law 419 = .ok (.invokevirtual 46, 3) := by decide +kernel
theorem dL_law_422 : decode cL_law 422 = .ok (.aload_n 2, 1) := by decide +kernel
theorem dL_law_423 : decode cL_law 423 = .ok (.aload_n 0, 1) := by decide +kernel
theorem dL_law_424 : decode cL_law 424 = .ok (.iload_n 3, 1) := by decide +kernel
theorem dL_law_425 : decode cL_law 425 = .ok (.iconst 1, 1) := by decide +kernel
theorem dL_law_426 : decode cL_law 426 = .ok (.iadd, 1) := by decide +kernel
theorem dL_law_427 : decode cL_law 427 = .ok (.iaload, 1) := by decide +kernel
theorem dL_law_428 : decode cL_law 428 = .ok (.aload_n 0, 1) := by decide +kernel
theorem dL_law_429 : decode cL_law 429 = .ok (.iload_n 3, 1) := by decide +kernel
theorem dL_law_430 : decode cL_law 430 = .ok (.iconst 2, 1) := by decide +kernel
theorem dL_law_431 : decode cL_law 431 = .ok (.iadd, 1) := by decide +kernel
theorem dL_law_432 : decode cL_law 432 = .ok (.iaload, 1) := by decide +kernel
theorem dL_law_433 : decode cL_law 433 = .ok (.aload_n 0, 1) := by decide +kernel
theorem dL_law_434 : decode cL_law 434 = .ok (.iload_n 3, 1) := by decide +kernel
theorem dL_law_435 : decode cL_law 435 = .ok (.iconst 3, 1) := by decide +kernel
theorem dL_law_436 : decode cL_law 436 = .ok (.iadd, 1) := by decide +kernel
theorem dL_law_437 : decode cL_law 437 = .ok (.iaload, 1) := by decide +kernel
theorem dL_law_438 : decode cL_law 438 = .ok (.invokevirtual 50, 3) := by decide +kernel
theorem dL_law_441 : decode cL_law 441 = .ok (.if_icmp .eq 236, 3) := by decide +kernel
theorem dL_law_444 : decode cL_law 444 = .ok (.iconst 0, 1) := by decide +kernel
theorem dL_law_445 : decode cL_law 445 = .ok (.ireturn, 1) := by decide +kernel
theorem dL_law_446 : decode cL_law 446 = .ok (.aload_n 1, 1) := by decide +kernel
theorem dL_law_447 : decode cL_law 447 = .ok (.aload_n 0, 1) := by decide +kernel
theorem dL_law_448 : decode cL_law 448 = .ok (.iload_n 3, 1) := by decide +kernel
theorem dL_law_449 : decode cL_law 449 = .ok (.iconst 1, 1) := by decide +kernel
theorem dL_law_450 : decode cL_law 450 = .ok (.iadd, 1) := by decide +kernel
theorem dL_law_451 : decode cL_law 451 = .ok (.iaload, 1) := by decide +kernel
theorem dL_law_452 : decode cL_law 452 = .ok (.invokevirtual 51, 3) := by decide +kernel
theorem dL_law_455 : decode cL_law 455 = .ok (.aload_n 2, 1) := by decide +kernel
theorem dL_law_456 : decode cL_law 456 = .ok (.aload_n 0, 1) := by decide +kernel
theorem dL_law_457 : decode cL_law 457 = .ok (.iload_n 3, 1) := by decide +kernel
theorem dL_law_458 : decode cL_law 458 = .ok (.iconst 1, 1) := by decide +kernel
theorem dL_law_459 : decode cL_law 459 = .ok (.iadd, 1) := by decide +kernel
theorem dL_law_460 : decode cL_law 460 = .ok (.iaload, 1) := by decide +kernel
theorem dL_law_461 : decode cL_law 461 = .ok (.invokevirtual 54, 3) := by decide +kernel
theorem dL_law_464 : decode cL_law 464 = .ok (.if_icmp .eq 213, 3) := by decide +kernel
theorem dL_law_467 : decode cL_law 467 = .ok (.iconst 0, 1) := by decide +kernel
theorem dL_law_468 : decode cL_law 468 = .ok (.ireturn, 1) := by decide +kernel
theorem dL_law_469 : decode cL_law 469 = .ok (.aload_n 1, 1) := by decide +kernel
theorem dL_law_470 : decode cL_law 470 = .ok (.aload_n 0, 1) := by decide +kernel
theorem dL_law_471 : decode cL_law 471 = .ok (.iload_n 3, 1) := by decide +kernel
theorem dL_law_472 : decode cL_law 472 = .ok (.iconst 1, 1) := by decide +kernel
theorem dL_law_473 : decode cL_law 473 = .ok (.iadd, 1) := by decide +kernel
theorem dL_law_474 : decode cL_law 474 = .ok (.iaload, 1) := by decide +kernel
theorem dL_law_475 : decode cL_law 475 = .ok (.aload_n 0, 1) := by decide +kernel
theorem dL_law_476 : decode cL_law 476 = .ok (.iload_n 3, 1) := by decide +kernel
theorem dL_law_477 : decode cL_law 477 = .ok (.iconst 2, 1) := by decide +kernel
theorem dL_law_478 : decode cL_law 478 = .ok (.iadd, 1) := by decide +kernel
theorem dL_law_479 : decode cL_law 479 = .ok (.iaload, 1) := by decide +kernel
theorem dL_law_480 : decode cL_law 480 = .ok (.invokevirtual 55, 3) := by decide +kernel
theorem dL_law_483 : decode cL_law 483 = .ok (.aload_n 2, 1) := by decide +kernel
theorem dL_law_484 : decode cL_law 484 = .ok (.aload_n 0, 1) := by decide +kernel
theorem dL_law_485 : decode cL_law 485 = .ok (.iload_n 3, 1) := by decide +kernel
theorem dL_law_486 : decode cL_law 486 = .ok (.iconst 1, 1) := by decide +kernel
theorem dL_law_487 : decode cL_law 487 = .ok (.iadd, 1) := by decide +kernel
theorem dL_law_488 : decode cL_law 488 = .ok (.iaload, 1) := by decide +kernel
theorem dL_law_489 : decode cL_law 489 = .ok (.aload_n 0, 1) := by decide +kernel
theorem dL_law_490 : decode cL_law 490 = .ok (.iload_n 3, 1) := by decide +kernel
theorem dL_law_491 : decode cL_law 491 = .ok (.iconst 2, 1) := by decide +kernel
theorem dL_law_492 : decode cL_law 492 = .ok (.iadd, 1) := by decide +kernel
theorem dL_law_493 : decode cL_law 493 = .ok (.iaload, 1) := by decide +kernel
theorem dL_law_494 : decode cL_law 494 = .ok (.invokevirtual 59, 3) := by decide +kernel
theorem dL_law_497 : decode cL_law 497 = .ok (.if_icmp .eq 180, 3) := by decide +kernel
theorem dL_law_500 : decode cL_law 500 = .ok (.iconst 0, 1) := by decide +kernel
theorem dL_law_501 : decode cL_law 501 = .ok (.ireturn, 1) := by decide +kernel
theorem dL_law_502 : decode cL_law 502 = .ok (.aload_n 1, 1) := by decide +kernel
theorem dL_law_503 : decode cL_law 503 = .ok (.aload_n 0, 1) := by decide +kernel
theorem dL_law_504 : decode cL_law 504 = .ok (.iload_n 3, 1) := by decide +kernel
theorem dL_law_505 : decode cL_law 505 = .ok (.iconst 1, 1) := by decide +kernel
theorem dL_law_506 : decode cL_law 506 = .ok (.iadd, 1) := by decide +kernel
theorem dL_law_507 : decode cL_law 507 = .ok (.iaload, 1) := by decide +kernel
theorem dL_law_508 : decode cL_law 508 = .ok (.invokevirtual 60, 3) := by decide +kernel
theorem dL_law_511 : decode cL_law 511 = .ok (.aload_n 2, 1) := by decide +kernel
theorem dL_law_512 : decode cL_law 512 = .ok (.aload_n 0, 1) := by decide +kernel
theorem dL_law_513 : decode cL_law 513 = .ok (.iload_n 3, 1) := by decide +kernel
theorem dL_law_514 : decode cL_law 514 = .ok (.iconst 1, 1) := by decide +kernel
theorem dL_law_515 : decode cL_law 515 = .ok (.iadd, 1) := by decide +kernel
theorem dL_law_516 : decode cL_law 516 = .ok (.iaload, 1) := by decide +kernel
theorem dL_law_517 : decode cL_law 517 = .ok (.invokevirtual 63, 3) := by decide +kernel
theorem dL_law_520 : decode cL_law 520 = .ok (.if_icmp .eq 157, 3) := by decide +kernel
theorem dL_law_523 : decode cL_law 523 = .ok (.iconst 0, 1) := by decide +kernel
theorem dL_law_524 : decode cL_law 524 = .ok (.ireturn, 1) := by decide +kernel
theorem dL_law_525 : decode cL_law 525 = .ok (.aload_n 1, 1) := by decide +kernel
theorem dL_law_526 : decode cL_law 526 = .ok (.invokevirtual 64, 3) := by decide +kernel
theorem dL_law_529 : decode cL_law 529 = .ok (.aload_n 2, 1) := by decide +kernel
theorem dL_law_530 : decode cL_law 530 = .ok (.invokevirtual 68, 3) := by decide +kernel
theorem dL_law_533 : decode cL_law 533 = .ok (.if_icmp .eq 144, 3) := by decide +kernel
theorem dL_law_536 : decode cL_law 536 = .ok (.iconst 0, 1) := by decide +kernel
theorem dL_law_537 : decode cL_law 537 = .ok (.ireturn, 1) := by decide +kernel
theorem dL_law_538 : decode cL_law 538 = .ok (.aload_n 1, 1) := by decide +kernel
theorem dL_law_539 : decode cL_law 539 = .ok (.invokevirtual 69, 3) := by decide +kernel
theorem dL_law_542 : decode cL_law 542 = .ok (.aload_n 2, 1) := by decide +kernel
theorem dL_law_543 : decode cL_law 543 = .ok (.invokevirtual 72, 3) := by decide +kernel
theorem dL_law_546 : decode cL_law 546 = .ok (.if_icmp .eq 131, 3) := by decide +kernel
theorem dL_law_549 : decode cL_law 549 = .ok (.iconst 0, 1) := by decide +kernel
theorem dL_law_550 : decode cL_law 550 = .ok (.ireturn, 1) := by decide +kernel
theorem dL_law_551 : decode cL_law 551 = .ok (.aload_n 1, 1) := by decide +kernel
theorem dL_law_552 : decode cL_law 552 = .ok (.aload_n 0, 1) := by decide +kernel
theorem dL_law_553 : decode cL_law 553 = .ok (.iload_n 3, 1) := by decide +kernel
theorem dL_law_554 : decode cL_law 554 = .ok (.iconst 1, 1) := by decide +kernel
theorem dL_law_555 : decode cL_law 555 = .ok (.iadd, 1) := by decide +kernel
theorem dL_law_556 : decode cL_law 556 = .ok (.iaload, 1) := by decide +kernel
theorem dL_law_557 : decode cL_law 557 = .ok (.invokevirtual 73, 3) := by decide +kernel
theorem dL_law_560 : decode cL_law 560 = .ok (.aload_n 2, 1) := by decide +kernel
theorem dL_law_561 : decode cL_law 561 = .ok (.aload_n 0, 1) := by decide +kernel
theorem dL_law_562 : decode cL_law 562 = .ok (.iload_n 3, 1) := by decide +kernel
theorem dL_law_563 : decode cL_law 563 = .ok (.iconst 1, 1) := by decide +kernel
theorem dL_law_564 : decode cL_law 564 = .ok (.iadd, 1) := by decide +kernel
theorem dL_law_565 : decode cL_law 565 = .ok (.iaload, 1) := by decide +kernel
theorem dL_law_566 : decode cL_law 566 = .ok (.invokevirtual 77, 3) := by decide +kernel
theorem dL_law_569 : decode cL_law 569 = .ok (.lcmp, 1) := by decide +kernel
theorem dL_law_570 : decode cL_law 570 = .ok (.ifCond .eq 107, 3) := by decide +kernel
theorem dL_law_573 : decode cL_law 573 = .ok (.iconst 0, 1) := by decide +kernel
theorem dL_law_574 : decode cL_law 574 = .ok (.ireturn, 1) := by decide +kernel
theorem dL_law_575 : decode cL_law 575 = .ok (.aload_n 1, 1) := by decide +kernel
theorem dL_law_576 : decode cL_law 576 = .ok (.aload_n 0, 1) := by decide +kernel
theorem dL_law_577 : decode cL_law 577 = .ok (.iload_n 3, 1) := by decide +kernel
theorem dL_law_578 : decode cL_law 578 = .ok (.iconst 1, 1) := by decide +kernel
theorem dL_law_579 : decode cL_law 579 = .ok (.iadd, 1) := by decide +kernel
theorem dL_law_580 : decode cL_law 580 = .ok (.iaload, 1) := by decide +kernel
theorem dL_law_581 : decode cL_law 581 = .ok (.invokevirtual 78, 3) := by decide +kernel
theorem dL_law_584 : decode cL_law 584 = .ok (.aload_n 2, 1) := by decide +kernel
theorem dL_law_585 : decode cL_law 585 = .ok (.aload_n 0, 1) := by decide +kernel
theorem dL_law_586 : decode cL_law 586 = .ok (.iload_n 3, 1) := by decide +kernel
theorem dL_law_587 : decode cL_law 587 = .ok (.iconst 1, 1) := by decide +kernel
theorem dL_law_588 : decode cL_law 588 = .ok (.iadd, 1) := by decide +kernel
theorem dL_law_589 : decode cL_law 589 = .ok (.iaload, 1) := by decide +kernel
theorem dL_law_590 : decode cL_law 590 = .ok (.invokevirtual 81, 3) := by decide +kernel
theorem dL_law_593 : decode cL_law 593 = .ok (.if_icmp .eq 84, 3) := by decide +kernel
theorem dL_law_596 : decode cL_law 596 = .ok (.iconst 0, 1) := by decide +kernel
theorem dL_law_597 : decode cL_law 597 = .ok (.ireturn, 1) := by decide +kernel
theorem dL_law_598 : decode cL_law 598 = .ok (.aload_n 1, 1) := by decide +kernel
theorem dL_law_599 : decode cL_law 599 = .ok (.aload_n 0, 1) := by decide +kernel
theorem dL_law_600 : decode cL_law 600 = .ok (.iload_n 3, 1) := by decide +kernel
theorem dL_law_601 : decode cL_law 601 = .ok (.iconst 1, 1) := by decide +kernel
theorem dL_law_602 : decode cL_law 602 = .ok (.iadd, 1) := by decide +kernel
theorem dL_law_603 : decode cL_law 603 = .ok (.iaload, 1) := by decide +kernel
theorem dL_law_604 : decode cL_law 604 = .ok (.invokevirtual 82, 3) := by decide +kernel
theorem dL_law_607 : decode cL_law 607 = .ok (.aload_n 2, 1) := by decide +kernel
theorem dL_law_608 : decode cL_law 608 = .ok (.aload_n 0, 1) := by decide +kernel
theorem dL_law_609 : decode cL_law 609 = .ok (.iload_n 3, 1) := by decide +kernel
theorem dL_law_610 : decode cL_law 610 = .ok (.iconst 1, 1) := by decide +kernel
theorem dL_law_611 : decode cL_law 611 = .ok (.iadd, 1) := by decide +kernel
theorem dL_law_612 : decode cL_law 612 = .ok (.iaload, 1) := by decide +kernel
theorem dL_law_613 : decode cL_law 613 = .ok (.invokevirtual 85, 3) := by decide +kernel
theorem dL_law_616 : decode cL_law 616 = .ok (.if_icmp .eq 61, 3) := by decide +kernel
theorem dL_law_619 : decode cL_law 619 = .ok (.iconst 0, 1) := by decide +kernel
theorem dL_law_620 : decode cL_law 620 = .ok (.ireturn, 1) := by decide +kernel
theorem dL_law_621 : decode cL_law 621 = .ok (.aload_n 1, 1) := by decide +kernel
theorem dL_law_622 : decode cL_law 622 = .ok (.aload_n 0, 1) := by decide +kernel
theorem dL_law_623 : decode cL_law 623 = .ok (.iload_n 3, 1) := by decide +kernel
theorem dL_law_624 : decode cL_law 624 = .ok (.iconst 1, 1) := by decide +kernel
theorem dL_law_625 : decode cL_law 625 = .ok (.iadd, 1) := by decide +kernel
theorem dL_law_626 : decode cL_law 626 = .ok (.iaload, 1) := by decide +kernel
theorem dL_law_627 : decode cL_law 627 = .ok (.aload_n 0, 1) := by decide +kernel
theorem dL_law_628 : decode cL_law 628 = .ok (.iload_n 3, 1) := by decide +kernel
theorem dL_law_629 : decode cL_law 629 = .ok (.iconst 2, 1) := by decide +kernel
theorem dL_law_630 : decode cL_law 630 = .ok (.iadd, 1) := by decide +kernel
theorem dL_law_631 : decode cL_law 631 = .ok (.iaload, 1) := by decide +kernel
theorem dL_law_632 : decode cL_law 632 = .ok (.invokevirtual 86, 3) := by decide +kernel
theorem dL_law_635 : decode cL_law 635 = .ok (.aload_n 2, 1) := by decide +kernel
theorem dL_law_636 : decode cL_law 636 = .ok (.aload_n 0, 1) := by decide +kernel
theorem dL_law_637 : decode cL_law 637 = .ok (.iload_n 3, 1) := by decide +kernel
theorem dL_law_638 : decode cL_law 638 = .ok (.iconst 1, 1) := by decide +kernel
theorem dL_law_639 : decode cL_law 639 = .ok (.iadd, 1) := by decide +kernel
theorem dL_law_640 : decode cL_law 640 = .ok (.iaload, 1) := by decide +kernel
theorem dL_law_641 : decode cL_law 641 = .ok (.aload_n 0, 1) := by decide +kernel
theorem dL_law_642 : decode cL_law 642 = .ok (.iload_n 3, 1) := by decide +kernel
theorem dL_law_643 : decode cL_law 643 = .ok (.iconst 2, 1) := by decide +kernel
theorem dL_law_644 : decode cL_law 644 = .ok (.iadd, 1) := by decide +kernel
theorem dL_law_645 : decode cL_law 645 = .ok (.iaload, 1) := by decide +kernel
theorem dL_law_646 : decode cL_law 646 = .ok (.invokevirtual 89, 3) := by decide +kernel
theorem dL_law_649 : decode cL_law 649 = .ok (.if_icmp .eq 28, 3) := by decide +kernel
theorem dL_law_652 : decode cL_law 652 = .ok (.iconst 0, 1) := by decide +kernel
theorem dL_law_653 : decode cL_law 653 = .ok (.ireturn, 1) := by decide +kernel
theorem dL_law_654 : decode cL_law 654 = .ok (.aload_n 1, 1) := by decide +kernel
theorem dL_law_655 : decode cL_law 655 = .ok (.aload_n 0, 1) := by decide +kernel
theorem dL_law_656 : decode cL_law 656 = .ok (.iload_n 3, 1) := by decide +kernel
theorem dL_law_657 : decode cL_law 657 = .ok (.iconst 1, 1) := by decide +kernel
theorem dL_law_658 : decode cL_law 658 = .ok (.iadd, 1) := by decide +kernel
theorem dL_law_659 : decode cL_law 659 = .ok (.iaload, 1) := by decide +kernel
theorem dL_law_660 : decode cL_law 660 = .ok (.invokevirtual 90, 3) := by decide +kernel
theorem dL_law_663 : decode cL_law 663 = .ok (.aload_n 2, 1) := by decide +kernel
theorem dL_law_664 : decode cL_law 664 = .ok (.aload_n 0, 1) := by decide +kernel
theorem dL_law_665 : decode cL_law 665 = .ok (.iload_n 3, 1) := by decide +kernel
theorem dL_law_666 : decode cL_law 666 = .ok (.iconst 1, 1) := by decide +kernel
theorem dL_law_667 : decode cL_law 667 = .ok (.iadd, 1) := by decide +kernel
theorem dL_law_668 : decode cL_law 668 = .ok (.iaload, 1) := by decide +kernel
theorem dL_law_669 : decode cL_law 669 = .ok (.invokevirtual 93, 3) := by decide +kernel
theorem dL_law_672 : decode cL_law 672 = .ok (.if_icmp .eq 5, 3) := by decide +kernel
theorem dL_law_675 : decode cL_law 675 = .ok (.iconst 0, 1) := by decide +kernel
theorem dL_law_676 : decode cL_law 676 = .ok (.ireturn, 1) := by decide +kernel
theorem dL_law_677 : decode cL_law 677 = .ok (.iinc 3 7, 3) := by decide +kernel
theorem dL_law_680 : decode cL_law 680 = .ok (.goto (-662), 3) := by decide +kernel
theorem dL_law_683 : decode cL_law 683 = .ok (.iconst 1, 1) := by decide +kernel
theorem dL_law_684 : decode cL_law 684 = .ok (.ireturn, 1) := by decide +kernel
end
section
/-! THE MEMORY: all cells that the law makes, by keys. Keys 8, 9, .. are the cells in the order in which they are made; 0 is null; 1 .. 7 are cells that were there (statics, a mirror). -/
abbrev Mm : Type := (Nat → Nat → Int32) × (Nat → Nat → Int64) × (Nat → Nat → Nat) × (Nat → Nat) × (Nat → Nat) × Nat
def mI (m : Mm) : Nat → Nat → Int32 := m.1
def mL (m : Mm) : Nat → Nat → Int64 := m.2.1
def mP (m : Mm) : Nat → Nat → Nat := m.2.2.1
def mT (m : Mm) : Nat → Nat := m.2.2.2.1
def mN (m : Mm) : Nat → Nat := m.2.2.2.2.1
def mS (m : Mm) : Nat := m.2.2.2.2.2
def rI (m : Mm) (k : Nat) (f : Nat → Int32) : Mm := (va_up m.1 k f, m.2)
def rL (m : Mm) (k : Nat) (f : Nat → Int64) : Mm := (m.1, va_up m.2.1 k f, m.2.2)
def rP (m : Mm) (k : Nat) (f : Nat → Nat) : Mm := (m.1, m.2.1, va_up m.2.2.1 k f, m.2.2.2)
def sI (m : Mm) (k j : Nat) (v : Int32) : Mm := rI m k (upd (mI m k) j v)
def sL (m : Mm) (k j : Nat) (v : Int64) : Mm := rL m k (vp_updL (mL m k) j v)
def sP (m : Mm) (k j : Nat) (v : Nat) : Mm := rP m k (va_up (mP m k) j v)
def nw (m : Mm) (t len : Nat) : Mm := (va_up (mI m) (mS m) (fun _ => 0), va_up (mL m) (mS m) (fun _ => 0), va_up (mP m) (mS m) (fun _ => 0), va_up (mT m) (mS m) t, va_up (mN m) (mS m) len, mS m + 1)
/-- m2 is m but for the row k -/
def Off (m m2 : Mm) (k : Nat) : Prop := mS m2 = mS m ∧ mT m2 = mT m ∧ mN m2 = mN m ∧ ∀ j, j ≠ k → mI m2 j = mI m j ∧ mL m2 j = mL m j ∧ mP m2 j = mP m j
theorem off_rI (m : Mm) (k : Nat) (f : Nat → Int32) : Off m (rI m k f) k := ⟨rfl, rfl, rfl, fun _ h => ⟨va_up_ne _ _ h, rfl, rfl⟩⟩
theorem off_rL (m : Mm) (k : Nat) (f : Nat → Int64) : Off m (rL m k f) k := ⟨rfl, rfl, rfl, fun _ h => ⟨rfl, va_up_ne _ _ h, rfl⟩⟩
theorem off_rP (m : Mm) (k : Nat) (f : Nat → Nat) : Off m (rP m k f) k := ⟨rfl, rfl, rfl, fun _ h => ⟨rfl, rfl, va_up_ne _ _ h⟩⟩
theorem rI_I (m : Mm) (k : Nat) (f : Nat → Int32) : mI (rI m k f) k = f := va_up_self _ _ _
theorem rL_L (m : Mm) (k : Nat) (f : Nat → Int64) : mL (rL m k f) k = f := va_up_self _ _ _
theorem rP_P (m : Mm) (k : Nat) (f : Nat → Nat) : mP (rP m k f) k = f := va_up_self _ _ _
/-! the world of a launch: the classes' numbers and slots; by number the array classes (0 int, 1 long, 2 byte, 3 Object), 4 the heap's size at the law's start, 16 + x the address of a key x below 8 -/
abbrev Gv : Type := va_G × (Nat → Nat)
def ad (g : Gv) (x : Nat) : Nat := if x < 8 then g.2 (16 + x) else g.2 4 + (x - 8)
def ro (g : Gv) (x : Nat) : Option Nat := if x = 0 then none else some (ad g x)
abbrev rv (g : Gv) (x : Nat) : Value := va_rf (ro g x)
theorem ad_ge (g : Gv) {x : Nat} (h : 8 ≤ x) : ad g x = g.2 4 + (x - 8) := by unfold ad; rw [if_neg (by omega)]
theorem ro_pos (g : Gv) {x : Nat} (h : x ≠ 0) : ro g x = some (ad g x) := by unfold ro; rw [if_neg h]
theorem rv_pos (g : Gv) {x : Nat} (h : x ≠ 0) : rv g x = .ref (ad g x) := by unfold rv; rw [ro_pos g h]; rfl
theorem rv_cat (g : Gv) (x : Nat) : (rv g x).category = 1 := by unfold rv ro; split <;> rfl
abbrev tys (g : Gv) : List (ClassId × FieldType) := [(g.2 0, .int), (g.2 1, .long), (g.2 2, .byte), (g.2 3, .object "java/lang/Object")]
/-- an object's fields, by its class's number in vwCl -/
def flr (g : Gv) (ci : Nat) (i : Nat → Int32) (l : Nat → Int64) (p : Nat → Nat) : List Value := match ci with
  | 0 => [.int (i 0), rv g (p 1), .int (i 2)]
  | 1 => [.int (i 0), .int (i 1), .int (i 2), .int (i 3), .int (i 4), .int (i 5), .int (i 6), .int (i 7)]
  | 2 => [rv g (p 0), rv g (p 1), rv g (p 2), .int (i 3), .int (i 4)]
  | 3 => [rv g (p 0), rv g (p 1), rv g (p 2), rv g (p 3), rv g (p 4), .int (i 5), .int (i 6), rv g (p 7), .long (l 8)]
  | 4 => [rv g (p 0), .int (i 1)]
  | 5 => [rv g (p 0), rv g (p 1), rv g (p 2), .int (i 3)]
  | 6 => [.int (i 0), .long (l 1)]
  | 7 => [rv g (p 0), rv g (p 1), rv g (p 2), rv g (p 3), rv g (p 4), rv g (p 5), rv g (p 6), rv g (p 7), .int (i 8), .int (i 9), .int (i 10), .int (i 11), .int (i 12), .int (i 13), .int (i 14)]
  | _ => [rv g (p 0), .int (i 1), .int (i 2), .int (i 3), .int (i 4), .int (i 5), .int (i 6), .int (i 7), .int (i 8), rv g (p 9), rv g (p 10), rv g (p 11), rv g (p 12), rv g (p 13), rv g (p 14), rv g (p 15), rv g (p 16), rv g (p 17), rv g (p 18), rv g (p 19), rv g (p 20), rv g (p 21), .int (i 22), rv g (p 23), .int (i 24), .int (i 25), .int (i 26), .int (i 27), .int (i 28), rv g (p 29), rv g (p 30), rv g (p 31), rv g (p 32), rv g (p 33), rv g (p 34), rv g (p 35)]
/-- a cell of kind t: 0 .. 8 an object of that class, 9 int[], 10 long[], 11 byte[], 12 Object[] -/
def cel (g : Gv) (t n : Nat) (i : Nat → Int32) (l : Nat → Int64) (p : Nat → Nat) : va_E :=
  if t ≤ 8 then .inr (t, flr g t i l p) else if t = 9 then .inl (g.2 0, n, .inl i) else if t = 10 then .inl (g.2 1, n, .inr (.inl l)) else if t = 11 then .inl (g.2 2, n, .inl i) else .inl (g.2 3, n, .inr (.inr (.inr (.inr (fun j => ro g (p j))))))
theorem cel_o {g : Gv} {t n : Nat} {i l p} (h : t ≤ 8) : cel g t n i l p = .inr (t, flr g t i l p) := by unfold cel; rw [if_pos h]
theorem cel_9 {g : Gv} {n : Nat} {i l p} : cel g 9 n i l p = .inl (g.2 0, n, .inl i) := rfl
theorem cel_10 {g : Gv} {n : Nat} {i l p} : cel g 10 n i l p = .inl (g.2 1, n, .inr (.inl l)) := rfl
theorem cel_11 {g : Gv} {n : Nat} {i l p} : cel g 11 n i l p = .inl (g.2 2, n, .inl i) := rfl
theorem cel_12 {g : Gv} {n : Nat} {i l p} : cel g 12 n i l p = .inl (g.2 3, n, .inr (.inr (.inr (.inr (fun j => ro g (p j)))))) := rfl
abbrev celm (g : Gv) (m : Mm) (k : Nat) : va_E := cel g (mT m k) (mN m k) (mI m k) (mL m k) (mP m k)
/-- the static arrays of Law: 3 FIRST, 4 LETTER, 5 LEAST, 6 MOST -/
def stc (k : Nat) : List Int32 := match k with
  | 3 => [10, 3, 5, 2, 50, 30]
  | 4 => [116, 103, 105, 107, 115, 114]
  | 5 => [1, 0, 0, 0, 1, 1]
  | _ => [999, 99, 99, 20, 999, 999]
/-- the kinds of the keys below 8: 1 the empty list's array, 3 .. 6 the static arrays (kind 13) -/
def kind0 (k : Nat) : Nat := if k = 1 then 12 else if 3 ≤ k ∧ k ≤ 6 then 13 else 99
def Mem (g : Gv) (m : Mm) (H : Heap) : Prop := 8 ≤ mS m ∧ H.size = g.2 4 + (mS m - 8) ∧ (∀ k, k < 8 → mT m k = kind0 k) ∧ (∀ k, mS m ≤ k → mT m k = 99) ∧ mN m 1 = 0 ∧ (∀ k, 3 ≤ k → k ≤ 6 → mN m k = 6 ∧ mI m k = fun j => (stc k).getD j 0) ∧ ∀ k, 8 ≤ k → k < mS m → mT m k ≤ 12 ∧ va_at g.1 vwCl (ad g k, celm g m k) H
abbrev Ag (g : Gv) : Nat → Prop := fun q => g.2 4 ≤ q
/-- the memory as a world of the kit -/
def wl (g : Gv) (m : Mm) : va_W := (List.range (mS m - 8)).map (fun j => (g.2 4 + j, celm g m (j + 8)))
theorem wl_len (g : Gv) (m : Mm) : (wl g m).length = mS m - 8 := by simp [wl]
theorem wl_get (g : Gv) (m : Mm) {k : Nat} (h8 : 8 ≤ k) (hk : k < mS m) : (wl g m)[k - 8]? = some (ad g k, celm g m k) := by
  unfold wl
  rw [List.getElem?_map, List.getElem?_range (by omega), ad_ge g h8]
  simp only [Option.map_some]
  rw [show k - 8 + 8 = k by omega]
theorem wl_in {g : Gv} {m : Mm} {j : Nat} {q : Nat × va_E} (h : (wl g m)[j]? = some q) : j < mS m - 8 ∧ q = (g.2 4 + j, celm g m (j + 8)) := by
  have hl : j < mS m - 8 := by
    have := (List.getElem?_eq_some_iff.mp h).1
    rwa [wl_len] at this
  refine ⟨hl, ?_⟩
  unfold wl at h
  rw [List.getElem?_map, List.getElem?_range hl] at h
  exact (Option.some.inj h).symm
theorem wl_P {g : Gv} {m : Mm} {H : Heap} (h : Mem g m H) : va_P g.1 vwCl (wl g m) H := by
  intro j q hq
  obtain ⟨h1, rfl⟩ := wl_in hq
  have h2 := (h.2.2.2.2.2.2 (j + 8) (by omega) (by omega)).2
  rw [ad_ge g (by omega), Nat.add_sub_cancel] at h2
  exact h2
theorem wl_D (g : Gv) (m : Mm) : va_D (Ag g) (wl g m) := by
  refine ⟨fun i j p q hp hq e => ?_, fun k q hq => ?_⟩
  · obtain ⟨h1, rfl⟩ := wl_in hp
    obtain ⟨h2, rfl⟩ := wl_in hq
    have : g.2 4 + i = g.2 4 + j := e
    omega
  · obtain ⟨h1, rfl⟩ := wl_in hq
    exact Nat.le_add_right _ _
theorem Mem.key {g : Gv} {m : Mm} {H : Heap} (h : Mem g m H) {k t : Nat} (hT : mT m k = t) (ht : t ≤ 11) : 8 ≤ k ∧ k < mS m := by
  obtain ⟨-, -, h3, h4, -⟩ := h
  have a : 8 ≤ k := by
    rcases Nat.lt_or_ge k 8 with q | q
    · have := h3 k q
      unfold kind0 at this
      split at this
      · omega
      · split at this <;> omega
    · exact q
  refine ⟨a, ?_⟩
  rcases Nat.lt_or_ge k (mS m) with q | q
  · exact q
  · have := h4 k q
    omega
theorem Mem.keyO {g : Gv} {m : Mm} {H : Heap} (h : Mem g m H) {k : Nat} (hT : mT m k = 12) (h1 : k ≠ 1) : 8 ≤ k ∧ k < mS m := by
  obtain ⟨-, -, h3, h4, -⟩ := h
  have a : 8 ≤ k := by
    rcases Nat.lt_or_ge k 8 with q | q
    · have := h3 k q
      unfold kind0 at this
      rw [if_neg h1] at this
      split at this <;> omega
    · exact q
  refine ⟨a, ?_⟩
  rcases Nat.lt_or_ge k (mS m) with q | q
  · exact q
  · have := h4 k q
    omega
/-- one row has changed -/
theorem Mem.put {g : Gv} {m m2 : Mm} {H H1 : Heap} {k : Nat} (h : Mem g m H) (h8 : 8 ≤ k) (hk : k < mS m) (ho : Off m m2 k) (z : H1.size = H.size) (oq : ∀ q, q ≠ ad g k → H1[q]? = H[q]?) (hc : va_at g.1 vwCl (ad g k, celm g m2 k) H1) : Mem g m2 H1 := by
  obtain ⟨a1, a2, a3, a4, a5, a6, a7⟩ := h
  obtain ⟨b1, b2, b3, b4⟩ := ho
  refine ⟨by rw [b1]; exact a1, by rw [z, a2, b1], fun j hj => by rw [b2]; exact a3 j hj, fun j hj => by rw [b2]; exact a4 j (by rw [← b1]; exact hj), by rw [b3]; exact a5, fun j h3 h6 => ?_, fun j h8' hj => ?_⟩
  · rw [b3, (b4 j (by omega)).1]
    exact a6 j h3 h6
  · rw [b1] at hj
    refine ⟨by rw [b2]; exact (a7 j h8' hj).1, ?_⟩
    by_cases e : j = k
    · rw [e]; exact hc
    · obtain ⟨c1, c2, c3⟩ := b4 j e
      have := (a7 j h8' hj).2
      unfold celm
      rw [b2, b3, c1, c2, c3]
      refine this.kept (oq _ ?_)
      show ad g j ≠ ad g k
      rw [ad_ge g h8', ad_ge g h8]
      omega
/-- one cell has come -/
theorem Mem.new {g : Gv} {m : Mm} {H H1 : Heap} {t n : Nat} (h : Mem g m H) (ht : t ≤ 12) (z : H1.size = H.size + 1) (oq : ∀ q, q < H.size → H1[q]? = H[q]?) (hc : va_at g.1 vwCl (H.size, cel g t n (fun _ => 0) (fun _ => 0) (fun _ => 0)) H1) : Mem g (nw m t n) H1 := by
  obtain ⟨a1, a2, a3, a4, a5, a6, a7⟩ := h
  have eS : mS (nw m t n) = mS m + 1 := rfl
  have eT : ∀ j, j ≠ mS m → mT (nw m t n) j = mT m j := fun j hj => va_up_ne _ _ hj
  have eN : ∀ j, j ≠ mS m → mN (nw m t n) j = mN m j := fun j hj => va_up_ne _ _ hj
  have eI : ∀ j, j ≠ mS m → mI (nw m t n) j = mI m j := fun j hj => va_up_ne _ _ hj
  have eL : ∀ j, j ≠ mS m → mL (nw m t n) j = mL m j := fun j hj => va_up_ne _ _ hj
  have eP : ∀ j, j ≠ mS m → mP (nw m t n) j = mP m j := fun j hj => va_up_ne _ _ hj
  refine ⟨by rw [eS]; omega, by rw [z, a2, eS]; omega, fun j hj => by rw [eT j (by omega)]; exact a3 j hj, fun j hj => by rw [eS] at hj; rw [eT j (by omega)]; exact a4 j (by omega), by rw [eN 1 (by omega)]; exact a5, fun j h3 h6 => ?_, fun j h8 hj => ?_⟩
  · rw [eN j (by omega), eI j (by omega)]
    exact a6 j h3 h6
  · rw [eS] at hj
    by_cases e : j = mS m
    · subst e
      have c1 : mT (nw m t n) (mS m) = t := va_up_self _ _ _
      have c2 : mN (nw m t n) (mS m) = n := va_up_self _ _ _
      have c3 : mI (nw m t n) (mS m) = fun _ => 0 := va_up_self _ _ _
      have c4 : mL (nw m t n) (mS m) = fun _ => 0 := va_up_self _ _ _
      have c5 : mP (nw m t n) (mS m) = fun _ => 0 := va_up_self _ _ _
      refine ⟨by rw [c1]; exact ht, ?_⟩
      unfold celm
      rw [c1, c2, c3, c4, c5, ad_ge g a1, ← a2]
      exact hc
    · have hj' : j < mS m := by omega
      refine ⟨by rw [eT j e]; exact (a7 j h8 hj').1, ?_⟩
      unfold celm
      rw [eT j e, eN j e, eI j e, eL j e, eP j e]
      have := (a7 j h8 hj').2
      refine this.kept (oq _ ?_)
      exact this.lt
/-- the walk's world: the memory, and nothing older changed -/
def Wo (g : Gv) (m : Mm) (s : State) (H : Heap) (locs : List Loc) : Prop := Mem g m H ∧ va_S (Ag g) s.heap H locs
end
section
/-! what the launch gives at a state, and keeps -/
def Kst (g : Gv) (U : State) (k : Nat) (nm : String) : Prop := va_Z "BoatLift$Law" nm "[I" (.ref (ad g k)) (Ag g) U U.heap ∧ va_T .int (ad g k) 6 (fun j => .int ((stc k).getD j 0)) (Ag g) U U.heap
def xSz : MethodName := ⟨"java/util/List", "size", "()I"⟩
def xGt : MethodName := ⟨"java/util/List", "get", "(I)Ljava/lang/Object;"⟩
def xAd : MethodName := ⟨"java/util/List", "add", "(Ljava/lang/Object;)Z"⟩
def xAi : MethodName := ⟨"java/util/List", "add", "(ILjava/lang/Object;)V"⟩
def Kin (U : State) : Prop := va_Fw RJx4a65c xSz yJx4a65c_size_8abf5 U ∧ va_Fw RJx4a65c xGt yJx4a65c_get_915e3 U ∧ va_Fw RJx4a65c xAd yJx4a65c_add_9ea2d U ∧ va_Fw RJx4a65c xAi yJx4a65c_add_7a177 U
def Knw (U : State) : Prop := va_Nw (.methodLinkNest RX6 9 yX3_init RX6) U ∧ va_Nw (.methodLinkNest RX6 45 yX5_init RX6) U ∧ va_Nw (.methodLinkNest RX2 86 yX6_otherSide RX6) U ∧ va_Nw (.castable RX0 "java/lang/Object") U ∧ va_Nw (.castable "[I" "java/lang/Cloneable") U ∧ va_AO "java/lang/Object" U ∧ va_Dc U
def Kk (g : Gv) (U : State) : Prop := va_K g.1 vwCl (tys g) U ∧ g.2 4 ≤ U.heap.size ∧ (Kst g U 3 "FIRST" ∧ Kst g U 4 "LETTER" ∧ Kst g U 5 "LEAST" ∧ Kst g U 6 "MOST") ∧ (va_Z "java/util/ArrayList" "DEFAULTCAPACITY_EMPTY_ELEMENTDATA" "[Ljava/lang/Object;" (.ref (ad g 1)) (Ag g) U U.heap ∧ va_T (.object "java/lang/Object") (ad g 1) 0 (fun _ => .null) (Ag g) U U.heap) ∧ va_Mi "[Ljava/lang/Object;" (ad g 2) U ∧ Kin U ∧ Knw U
theorem Kst.moved {g : Gv} {s U : State} {H : Heap} {locs : List Loc} {k : Nat} {nm : String} (hU : U.heap = H) (hW : s.WarmedH U.vm) (hS : va_S (Ag g) s.heap H locs) (h : Kst g s k nm) : Kst g U k nm := by
  have hq : ∀ a : Nat, a < s.heap.size → ¬ Ag g a → U.heap[a]? = s.heap[a]? := fun a h1 h2 => by rw [hU]; exact hS.2.1 a h1 h2
  exact ⟨(h.1.moved hW.alike).kept hq, (h.2.moved hW.alike).kept hq⟩
theorem Kk.moved {g : Gv} {s U : State} {H : Heap} {locs : List Loc} (hU : U.heap = H) (hW : s.WarmedH U.vm) (hS : va_S (Ag g) s.heap H locs) (h : Kk g s) : Kk g U := by
  have hq : ∀ a : Nat, a < s.heap.size → ¬ Ag g a → U.heap[a]? = s.heap[a]? := fun a h1 h2 => by rw [hU]; exact hS.2.1 a h1 h2
  obtain ⟨h1, h2, ⟨h3, h4, h5, h6⟩, ⟨h7, h8⟩, h9, ⟨i1, i2, i3, i4⟩, ⟨n1, n2, n3, n4, n5, n6, n7⟩⟩ := h
  have hl : "java/util/List" ≠ "java/lang/invoke/MethodHandle" ∧ "java/util/List" ≠ "java/lang/invoke/VarHandle" := by decide
  exact ⟨h1.moved hW.alike, Nat.le_trans h2 (by rw [hU]; exact hS.1), ⟨h3.moved hU hW hS, h4.moved hU hW hS, h5.moved hU hW hS, h6.moved hU hW hS⟩, ⟨(h7.moved hW.alike).kept hq, (h8.moved hW.alike).kept hq⟩, h9.moved hW.alike, ⟨i1.moved hl hW.alike, i2.moved hl hW.alike, i3.moved hl hW.alike, i4.moved hl hW.alike⟩, ⟨va_Nw.warmM hW n1, va_Nw.warmM hW n2, va_Nw.warmM hW n3, va_Nw.warmC hW n4, va_Nw.warmC hW n5, n6.moved hW.alike, n7.moved hW.alike⟩⟩
/-- a contract's start and end -/
def PP (g : Gv) (As : List Value) (mm : Mm) : Array Value → State → Prop := va_Pc As (fun U => Mem g mm U.heap ∧ Kk g U)
def QQ (g : Gv) {ρ : Type} (vf : ρ → Option Value) (Φ : ρ → Mm → Prop) : Array Value → State → Outcome → State → Prop := fun _ st oc t => (∃ (r : ρ) (u : Mm), oc = .returned (vf r) ∧ Φ r u ∧ Mem g u t.heap) ∧ va_F (Ag g) st t
abbrev vI : Int32 → Option Value := fun r => some (.int r)
abbrev vL : Int64 → Option Value := fun r => some (.long r)
abbrev vR (g : Gv) : Nat → Option Value := fun r => some (.ref (ad g r))
abbrev vV : Unit → Option Value := fun _ => none
theorem Kk.same {g : Gv} {s U : State} (hU : U.heap = s.heap) (hv : U.vm = s.vm) (h : Kk g s) : Kk g U := h.moved hU (by rw [hv]; exact State.WarmedH.refl s) va_S.rf
theorem PP.blind (g : Gv) (As : List Value) (mm : Mm) : FrameBlind (PP g As mm) := fun a U f mk q => ⟨q.1, q.2.1, Kk.same (s := U) (U := U.calling f mk a) rfl rfl q.2.2⟩
theorem PP.pre {g : Gv} {As : List Value} {mm : Mm} {s : State} {H : Heap} {locs : List Loc} (hK : Kk g s) (hW : Wo g mm s H locs) : PreS s H (PP g As mm) As := ⟨PP.blind g As mm, fun U hU hWm => ⟨rfl, by rw [hU]; exact hW.1, hK.moved hU hWm hW.2⟩⟩
section ROWS
variable {p : Program} {l : Launch} {e : Env} {R : Room} {s : State} {m : MethodId} {args : Array Value} {below : List Frame} {meth : Method} {c : Code} {H : Heap} {locs : List Loc} {cells slots : Nat} {Q : State → Prop}
variable {cc : ByteArray} {pc : Nat} {ls : Array Slot} {rest : List Value} {g : Gv} {mm : Mm}
/-- the entry of a method -/
theorem CT_of {y : MethodName} {ws ws' : List Cond} {rm : Room} {mc ms maxL : Nat} {ret : Option FieldType} {ρ : Type} {vf : ρ → Option Value} {Φ : ρ → Mm → Prop} {As : List Value} (hy : plainName y.cls = true) (hw : ws = Cond.code y cc maxL ret :: ws') (hlen : (lg_sl As).length ≤ maxL)
    (body : ∀ (p : Program) (e : Env) (s : State) (m : MethodId) (below : List Frame) (meth : Method) (c : Code), p.tables.exec = Jvm.exec → c.code = cc → meth.sig.returnType = ret → c.maxLocals = maxL → s.vm.findClass y.cls = some m.cls → (∀ w ∈ ws, w.before As.toArray s = true) → meth.locks = false → meth.name = y.name → Kk g s → Wo g mm s s.heap [] → ∀ ls : Array Slot, lv_has ls maxL (lv_args 0 As) →
      W p l e rm s m As.toArray below meth c s.heap [] 0 0 (MQ below (QQ g vf Φ) As.toArray s mc ms (Ag g)) (F0 m 0 ls [])) : Met l y ws rm (PP g As mm) (QQ g vf Φ) mc ms (Ag g) := by
  refine Met.ofW (cc := cc) (maxL := maxL) (ret := ret) hy hw ?_
  intro p e s m args below meth c s₁ B hml hv
  obtain ⟨rfl, hM, hK⟩ := hv
  rw [lg_entry_eq]
  exact body p e s m below meth c B.exec B.bytes B.returns hml (findClass_of_methodNamed B.named) (atoms_spec (ws := ws) B.pre) B.notSynchronized (name_of_methodNamed B.named B.method).1 hK ⟨hM, va_S.rf⟩ _ (lv_entry As hlen)
theorem R_get {own ref C : String} {T : u_T} {N ci index : Nat} {Ts : List Cond} (hx : p.tables.exec = Jvm.exec) (hb : c.code = cc) (hts : ∀ w ∈ Ts, w.before args s = true) (hin : ∀ w ∈ u_ws C T N, w ∈ Ts) (hown : s.vm.findClass own = some m.cls) (hK : Kk g s) (hW : Wo g mm s H locs) {k j : Nat} {v : Value} (hT : mT mm k = ci) (h8 : ci ≤ 8) (hc : vwCl[ci]? = some (C, T, N)) (hj : j < N) (hlink : (Cond.fieldLink own index ref (T j).2.1 (T j).2.2.1).before args s = true) (hsame : ∀ x, s.fieldFound? (T j).1 (T j).2.1 (T j).2.2.1 = some x → s.fieldFound? ref (T j).2.1 (T j).2.2.1 = some x)
    (hv : (flr g ci (mI mm k) (mL mm k) (mP mm k))[j]? = some v) (hdg : decode cc pc = .ok (.getfield index, 3)) (kk : W p l e R s m args below meth c H locs cells slots Q (F0 m (pc + 3) ls (v :: rest))) : W p l e R s m args below meth c H locs cells slots Q (F0 m pc ls (.ref (ad g k) :: rest)) := by
  obtain ⟨a1, a2⟩ := hW.1.key hT (by omega)
  have he := wl_get g mm a1 a2
  rw [celm, hT, cel_o h8] at he
  exact va_get hx hb hts hin hown hK.1 (wl_P hW.1) (k - 8) he hc j hj hlink hsame hv hdg kk
theorem R_getI {own ref C : String} {T : u_T} {N ci index : Nat} {Ts : List Cond} (hx : p.tables.exec = Jvm.exec) (hb : c.code = cc) (hts : ∀ w ∈ Ts, w.before args s = true) (hin : ∀ w ∈ u_ws C T N, w ∈ Ts) (hown : s.vm.findClass own = some m.cls) (hK : Kk g s) (hW : Wo g mm s H locs) {k : Nat} (j : Nat) (hT : mT mm k = ci) (h8 : ci ≤ 8) (hc : vwCl[ci]? = some (C, T, N)) (hj : j < N) (hlink : (Cond.fieldLink own index ref (T j).2.1 (T j).2.2.1).before args s = true)
    (hsame : ∀ x, s.fieldFound? (T j).1 (T j).2.1 (T j).2.2.1 = some x → s.fieldFound? ref (T j).2.1 (T j).2.2.1 = some x) (hv : ∀ i l p, (flr g ci i l p)[j]? = some (.int (i j))) (hdg : decode cc pc = .ok (.getfield index, 3)) (kk : W p l e R s m args below meth c H locs cells slots Q (F0 m (pc + 3) ls (.int (mI mm k j) :: rest))) : W p l e R s m args below meth c H locs cells slots Q (F0 m pc ls (.ref (ad g k) :: rest)) := R_get hx hb hts hin hown hK hW hT h8 hc hj hlink hsame (hv _ _ _) hdg kk
theorem R_getL {own ref C : String} {T : u_T} {N ci index : Nat} {Ts : List Cond} (hx : p.tables.exec = Jvm.exec) (hb : c.code = cc) (hts : ∀ w ∈ Ts, w.before args s = true) (hin : ∀ w ∈ u_ws C T N, w ∈ Ts) (hown : s.vm.findClass own = some m.cls) (hK : Kk g s) (hW : Wo g mm s H locs) {k : Nat} (j : Nat) (hT : mT mm k = ci) (h8 : ci ≤ 8) (hc : vwCl[ci]? = some (C, T, N)) (hj : j < N) (hlink : (Cond.fieldLink own index ref (T j).2.1 (T j).2.2.1).before args s = true)
    (hsame : ∀ x, s.fieldFound? (T j).1 (T j).2.1 (T j).2.2.1 = some x → s.fieldFound? ref (T j).2.1 (T j).2.2.1 = some x) (hv : ∀ i l p, (flr g ci i l p)[j]? = some (.long (l j))) (hdg : decode cc pc = .ok (.getfield index, 3)) (kk : W p l e R s m args below meth c H locs cells slots Q (F0 m (pc + 3) ls (.long (mL mm k j) :: rest))) : W p l e R s m args below meth c H locs cells slots Q (F0 m pc ls (.ref (ad g k) :: rest)) := R_get hx hb hts hin hown hK hW hT h8 hc hj hlink hsame (hv _ _ _) hdg kk
theorem R_getP {own ref C : String} {T : u_T} {N ci index : Nat} {Ts : List Cond} (hx : p.tables.exec = Jvm.exec) (hb : c.code = cc) (hts : ∀ w ∈ Ts, w.before args s = true) (hin : ∀ w ∈ u_ws C T N, w ∈ Ts) (hown : s.vm.findClass own = some m.cls) (hK : Kk g s) (hW : Wo g mm s H locs) {k : Nat} (j : Nat) (hT : mT mm k = ci) (h8 : ci ≤ 8) (hc : vwCl[ci]? = some (C, T, N)) (hj : j < N) (hlink : (Cond.fieldLink own index ref (T j).2.1 (T j).2.2.1).before args s = true)
    (hsame : ∀ x, s.fieldFound? (T j).1 (T j).2.1 (T j).2.2.1 = some x → s.fieldFound? ref (T j).2.1 (T j).2.2.1 = some x) (hv : ∀ i l p, (flr g ci i l p)[j]? = some (rv g (p j))) (hne : mP mm k j ≠ 0) (hdg : decode cc pc = .ok (.getfield index, 3)) (kk : W p l e R s m args below meth c H locs cells slots Q (F0 m (pc + 3) ls (.ref (ad g (mP mm k j)) :: rest))) : W p l e R s m args below meth c H locs cells slots Q (F0 m pc ls (.ref (ad g k) :: rest)) := R_get hx hb hts hin hown hK hW hT h8 hc hj hlink hsame ((hv _ _ _).trans (by rw [rv_pos g hne])) hdg kk
theorem R_getN {own ref C : String} {T : u_T} {N ci index : Nat} {Ts : List Cond} (hx : p.tables.exec = Jvm.exec) (hb : c.code = cc) (hts : ∀ w ∈ Ts, w.before args s = true) (hin : ∀ w ∈ u_ws C T N, w ∈ Ts) (hown : s.vm.findClass own = some m.cls) (hK : Kk g s) (hW : Wo g mm s H locs) {k : Nat} (j : Nat) (hT : mT mm k = ci) (h8 : ci ≤ 8) (hc : vwCl[ci]? = some (C, T, N)) (hj : j < N) (hlink : (Cond.fieldLink own index ref (T j).2.1 (T j).2.2.1).before args s = true)
    (hsame : ∀ x, s.fieldFound? (T j).1 (T j).2.1 (T j).2.2.1 = some x → s.fieldFound? ref (T j).2.1 (T j).2.2.1 = some x) (hv : ∀ i l p, (flr g ci i l p)[j]? = some (rv g (p j))) (hdg : decode cc pc = .ok (.getfield index, 3)) (kk : W p l e R s m args below meth c H locs cells slots Q (F0 m (pc + 3) ls (rv g (mP mm k j) :: rest))) : W p l e R s m args below meth c H locs cells slots Q (F0 m pc ls (.ref (ad g k) :: rest)) := R_get hx hb hts hin hown hK hW hT h8 hc hj hlink hsame (hv _ _ _) hdg kk
theorem R_ifnull {x : Nat} {off : Int} {tgt : Nat} (hx : p.tables.exec = Jvm.exec) (hb : c.code = cc) (hdg : decode cc pc = .ok (.ifnull off, 3)) (ht : (pc : Int) + off = (tgt : Int)) (kt : x = 0 → W p l e R s m args below meth c H locs cells slots Q (F0 m tgt ls rest)) (kf : ¬ x = 0 → W p l e R s m args below meth c H locs cells slots Q (F0 m (pc + 3) ls rest)) : W p l e R s m args below meth c H locs cells slots Q (F0 m pc ls (rv g x :: rest)) := by
  by_cases h : x = 0
  · subst h
    exact lv_ifnullN hx hb hdg ht (kt rfl)
  · rw [rv_pos g h]
    exact lv_ifnull hx hb hdg (kf h)
theorem R_ifnonnull {x : Nat} {off : Int} {tgt : Nat} (hx : p.tables.exec = Jvm.exec) (hb : c.code = cc) (hdg : decode cc pc = .ok (.ifnonnull off, 3)) (ht : (pc : Int) + off = (tgt : Int)) (kt : ¬ x = 0 → W p l e R s m args below meth c H locs cells slots Q (F0 m tgt ls rest)) (kf : x = 0 → W p l e R s m args below meth c H locs cells slots Q (F0 m (pc + 3) ls rest)) : W p l e R s m args below meth c H locs cells slots Q (F0 m pc ls (rv g x :: rest)) := by
  by_cases h : x = 0
  · subst h
    exact lv_ifnonnullN hx hb hdg (kf rfl)
  · rw [rv_pos g h]
    exact lv_ifnonnull hx hb hdg ht (kt h)
/-- a store into a field: the row k becomes that of m2 -/
theorem R_put {own ref C : String} {T : u_T} {N ci index : Nat} {Ts : List Cond} (hx : p.tables.exec = Jvm.exec) (hb : c.code = cc) (hts : ∀ w ∈ Ts, w.before args s = true) (hin : ∀ w ∈ u_ws C T N, w ∈ Ts) (ty0 : Nat → FieldType) (hty : ∀ k, k < N → parseFieldDescriptor (T k).2.2.1 = some (ty0 k)) (hnm : ∀ a, a < N → ∀ b, b < N → a ≠ b → (T a).2.1 ≠ (T b).2.1) (hown : s.vm.findClass own = some m.cls) (hK : Kk g s) (hW : Wo g mm s H locs) {k j : Nat} {v : Value} {m2 : Mm} (hT : mT mm k = ci) (h8 : ci ≤ 8) (hc : vwCl[ci]? = some (C, T, N)) (hj : j < N) (hlink : (Cond.fieldLink own index ref (T j).2.1 (T j).2.2.1).before args s = true)
    (hsame : ∀ x, s.fieldFound? (T j).1 (T j).2.1 (T j).2.2.1 = some x → s.fieldFound? ref (T j).2.1 (T j).2.2.1 = some x) (hfin : (T j).2.2.2 = false ∨ ((T j).2.2.2 = true ∧ meth.name = "<init>" ∧ (T j).1 = own)) (hn : narrow (ty0 j) v = v) (hfit : fits (ty0 j) v = true) (hl : j < (flr g ci (mI mm k) (mL mm k) (mP mm k)).length) (hoff : Off mm m2 k) (hs : (flr g ci (mI mm k) (mL mm k) (mP mm k)).set j v = flr g ci (mI m2 k) (mL m2 k) (mP m2 k))
    (hdg : decode cc pc = .ok (.putfield index, 3)) (kk : ∀ (H1 : Heap) (locs1 : List Loc), Wo g m2 s H1 locs1 → W p l e R s m args below meth c H1 locs1 cells slots Q (F0 m (pc + 3) ls rest)) : W p l e R s m args below meth c H locs cells slots Q (F0 m pc ls (v :: .ref (ad g k) :: rest)) := by
  obtain ⟨b1, b2⟩ := hW.1.key hT (by omega)
  have hd := hty j hj
  have hap := va_apart (own := own) hts hin ty0 hty hnm hK.1 hc
  have hat := (hW.1.2.2.2.2.2.2 k b1 b2).2
  rw [celm, hT, cel_o h8] at hat
  obtain ⟨r, h1, cell, q1, q2, q3, q4⟩ := hat
  have hr : r = (C, T, N) := Option.some.inj (h1.symm.trans hc)
  subst hr
  obtain ⟨hS, hfc, kC, hkC, hkind⟩ := hK.1.1 ci _ hc
  obtain ⟨cf, kf, fi, f, hi, hsl⟩ := hS j hj
  have hlay := hts _ (hin _ (u_in_lay hj))
  have hst := (u_facts hfc hkC (u_lays hts hin hj) hi).1
  have fin : ∀ H' : Heap, H'[ad g k]? = some (cell.setSlot f.slot v) → H'.size = H.size → (∀ q, q ≠ ad g k → H'[q]? = H[q]?) → W p l e R s m args below meth c H' (locs ++ [⟨ad g k, f.slot⟩]) cells slots Q (F0 m (pc + 3) ls rest) := by
    intro H' e1 e2 e3
    rw [hsl] at e1 ⊢
    refine kk H' _ ⟨hW.1.put b1 b2 hoff e2 e3 ?_, hW.2.put e2 e3 ?_⟩
    · rw [celm, hoff.2.1, hT, cel_o h8]
      exact ⟨_, hc, t_OB.to (V := updV (vp_V (flr g ci (mI mm k) (mL mm k) (mP mm k))) j v) ⟨_, e1, q2, q3, t_set q4 hap hj v⟩ (fun i _ => by rw [vp_updV_set hl v i, hs])⟩
    · show g.2 4 ≤ ad g k
      rw [ad_ge g b1]; exact Nat.le_add_right _ _
  rcases hfin with hf | ⟨hf, hin2, hdecl⟩
  · unfold u_lay at hlay
    rw [if_neg (by rw [hf]; decide)] at hlay
    have h6 := u_store hfc hkC hkind hlay hi hd hn hfit
    exact W.putK hx hb (f := f) ⟨hown, hlink, ⟨_, _, _, hsame _ hi⟩, hst⟩ (by rw [q2]; exact h6) q1 q3 (by rw [hsl]; exact k2_hasslot (q4 j hj)) rfl rfl hdg fin
  · unfold u_lay at hlay
    rw [if_pos hf] at hlay
    have hcf : m.cls = cf := by
      obtain ⟨_, _, c', _, _, _, -, -, hf', -, -, -, hown2, -⟩ := Cond.laysFinal_spec hlay
      have e1 : c' = cf := by have := hi.symm.trans hf'; simp at this; exact this.1.symm
      rw [hdecl] at hown2
      rw [← e1]; exact Option.some.inj (hown.symm.trans hown2)
    have h6 := u_fits hfc hkC hkind (Or.inr hlay) hi hd hn hfit
    exact W.putFinK hx hb hown hlink (hsame _ hi) hst hcf hin2 (by rw [q2]; exact h6) q1 q3 (by rw [hsl]; exact k2_hasslot (q4 j hj)) rfl rfl hdg fin
end ROWS
end
section
section ROWS2
variable {p : Program} {l : Launch} {e : Env} {R : Room} {s : State} {m : MethodId} {args : Array Value} {below : List Frame} {meth : Method} {c : Code} {H : Heap} {locs : List Loc} {cells slots : Nat} {Q : State → Prop}
variable {cc : ByteArray} {pc : Nat} {ls : Array Slot} {rest : List Value} {g : Gv} {mm : Mm}
theorem R_putI {own ref C : String} {T : u_T} {N ci index : Nat} {Ts : List Cond} (hx : p.tables.exec = Jvm.exec) (hb : c.code = cc) (hts : ∀ w ∈ Ts, w.before args s = true) (hin : ∀ w ∈ u_ws C T N, w ∈ Ts) (ty0 : Nat → FieldType) (hty : ∀ k, k < N → parseFieldDescriptor (T k).2.2.1 = some (ty0 k)) (hnm : ∀ a, a < N → ∀ b, b < N → a ≠ b → (T a).2.1 ≠ (T b).2.1) (hown : s.vm.findClass own = some m.cls) (hK : Kk g s) (hW : Wo g mm s H locs) {k : Nat} {v : Int32} (j : Nat) (hT : mT mm k = ci) (h8 : ci ≤ 8) (hc : vwCl[ci]? = some (C, T, N)) (hj : j < N) (hlink : (Cond.fieldLink own index ref (T j).2.1 (T j).2.2.1).before args s = true)
    (hsame : ∀ x, s.fieldFound? (T j).1 (T j).2.1 (T j).2.2.1 = some x → s.fieldFound? ref (T j).2.1 (T j).2.2.1 = some x) (hfin : (T j).2.2.2 = false ∨ ((T j).2.2.2 = true ∧ meth.name = "<init>" ∧ (T j).1 = own)) (h0 : ty0 j = .int) (hl : ∀ i l p, (flr g ci i l p).length = N) (hs : ∀ i l p, (flr g ci i l p).set j (.int v) = flr g ci (upd i j v) l p)
    (hdg : decode cc pc = .ok (.putfield index, 3)) (kk : ∀ (H1 : Heap) (locs1 : List Loc), Wo g (sI mm k j v) s H1 locs1 → W p l e R s m args below meth c H1 locs1 cells slots Q (F0 m (pc + 3) ls rest)) : W p l e R s m args below meth c H locs cells slots Q (F0 m pc ls (.int v :: .ref (ad g k) :: rest)) :=
  R_put hx hb hts hin ty0 hty hnm hown hK hW hT h8 hc hj hlink hsame hfin (by rw [h0]; rfl) (by rw [h0]; rfl) (by rw [hl]; exact hj) (off_rI _ _ _) (by rw [hs]; rw [rI_I]; rfl) hdg kk
theorem R_putL {own ref C : String} {T : u_T} {N ci index : Nat} {Ts : List Cond} (hx : p.tables.exec = Jvm.exec) (hb : c.code = cc) (hts : ∀ w ∈ Ts, w.before args s = true) (hin : ∀ w ∈ u_ws C T N, w ∈ Ts) (ty0 : Nat → FieldType) (hty : ∀ k, k < N → parseFieldDescriptor (T k).2.2.1 = some (ty0 k)) (hnm : ∀ a, a < N → ∀ b, b < N → a ≠ b → (T a).2.1 ≠ (T b).2.1) (hown : s.vm.findClass own = some m.cls) (hK : Kk g s) (hW : Wo g mm s H locs) {k : Nat} {v : Int64} (j : Nat) (hT : mT mm k = ci) (h8 : ci ≤ 8) (hc : vwCl[ci]? = some (C, T, N)) (hj : j < N) (hlink : (Cond.fieldLink own index ref (T j).2.1 (T j).2.2.1).before args s = true)
    (hsame : ∀ x, s.fieldFound? (T j).1 (T j).2.1 (T j).2.2.1 = some x → s.fieldFound? ref (T j).2.1 (T j).2.2.1 = some x) (hfin : (T j).2.2.2 = false ∨ ((T j).2.2.2 = true ∧ meth.name = "<init>" ∧ (T j).1 = own)) (h0 : ty0 j = .long) (hl : ∀ i l p, (flr g ci i l p).length = N) (hs : ∀ i l p, (flr g ci i l p).set j (.long v) = flr g ci i (vp_updL l j v) p)
    (hdg : decode cc pc = .ok (.putfield index, 3)) (kk : ∀ (H1 : Heap) (locs1 : List Loc), Wo g (sL mm k j v) s H1 locs1 → W p l e R s m args below meth c H1 locs1 cells slots Q (F0 m (pc + 3) ls rest)) : W p l e R s m args below meth c H locs cells slots Q (F0 m pc ls (.long v :: .ref (ad g k) :: rest)) :=
  R_put hx hb hts hin ty0 hty hnm hown hK hW hT h8 hc hj hlink hsame hfin (by rw [h0]; rfl) (by rw [h0]; rfl) (by rw [hl]; exact hj) (off_rL _ _ _) (by rw [hs]; rw [rL_L]; rfl) hdg kk
theorem R_putP {own ref C : String} {T : u_T} {N ci index : Nat} {Ts : List Cond} (hx : p.tables.exec = Jvm.exec) (hb : c.code = cc) (hts : ∀ w ∈ Ts, w.before args s = true) (hin : ∀ w ∈ u_ws C T N, w ∈ Ts) (ty0 : Nat → FieldType) (hty : ∀ k, k < N → parseFieldDescriptor (T k).2.2.1 = some (ty0 k)) (hnm : ∀ a, a < N → ∀ b, b < N → a ≠ b → (T a).2.1 ≠ (T b).2.1) (hown : s.vm.findClass own = some m.cls) (hK : Kk g s) (hW : Wo g mm s H locs) {k v : Nat} (j : Nat) (hT : mT mm k = ci) (h8 : ci ≤ 8) (hc : vwCl[ci]? = some (C, T, N)) (hj : j < N) (hlink : (Cond.fieldLink own index ref (T j).2.1 (T j).2.2.1).before args s = true)
    (hsame : ∀ x, s.fieldFound? (T j).1 (T j).2.1 (T j).2.2.1 = some x → s.fieldFound? ref (T j).2.1 (T j).2.2.1 = some x) (hfin : (T j).2.2.2 = false ∨ ((T j).2.2.2 = true ∧ meth.name = "<init>" ∧ (T j).1 = own)) (h0 : (∃ n, ty0 j = .object n) ∨ ∃ t, ty0 j = .array t) (hne : v ≠ 0) (hl : ∀ i l p, (flr g ci i l p).length = N) (hs : ∀ i l p, (flr g ci i l p).set j (rv g v) = flr g ci i l (va_up p j v))
    (hdg : decode cc pc = .ok (.putfield index, 3)) (kk : ∀ (H1 : Heap) (locs1 : List Loc), Wo g (sP mm k j v) s H1 locs1 → W p l e R s m args below meth c H1 locs1 cells slots Q (F0 m (pc + 3) ls rest)) : W p l e R s m args below meth c H locs cells slots Q (F0 m pc ls (.ref (ad g v) :: .ref (ad g k) :: rest)) := by
  have e0 := rv_pos g hne
  refine R_put hx hb hts hin ty0 hty hnm hown hK hW hT h8 hc hj hlink hsame hfin ?_ ?_ (by rw [hl]; exact hj) (off_rP _ _ _) (by rw [← e0, hs]; rw [rP_P]; rfl) hdg kk
  · rcases h0 with ⟨n, h⟩ | ⟨t, h⟩ <;> rw [h] <;> rfl
  · rcases h0 with ⟨n, h⟩ | ⟨t, h⟩ <;> rw [h] <;> rfl
theorem R_iald (hx : p.tables.exec = Jvm.exec) (hb : c.code = cc) (hK : Kk g s) (hW : Wo g mm s H locs) {k : Nat} {i : Int32} (hT : mT mm k = 9) (hin : vp_in i (mN mm k)) (hdg : decode cc pc = .ok (.iaload, 1))
    (kk : W p l e R s m args below meth c H locs cells slots Q (F0 m (pc + 1) ls (.int (mI mm k i.toNatClampNeg) :: rest))) : W p l e R s m args below meth c H locs cells slots Q (F0 m pc ls (.int i :: .ref (ad g k) :: rest)) := by
  obtain ⟨a1, a2⟩ := hW.1.key hT (by omega)
  have he := wl_get g mm a1 a2
  rw [celm, hT, cel_9] at he
  exact va_iald hx hb hK.1 (wl_P hW.1) (k - 8) 0 he rfl hin hdg kk
theorem R_lald (hx : p.tables.exec = Jvm.exec) (hb : c.code = cc) (hK : Kk g s) (hW : Wo g mm s H locs) {k : Nat} {i : Int32} (hT : mT mm k = 10) (hin : vp_in i (mN mm k)) (hdg : decode cc pc = .ok (.laload, 1))
    (kk : W p l e R s m args below meth c H locs cells slots Q (F0 m (pc + 1) ls (.long (mL mm k i.toNatClampNeg) :: rest))) : W p l e R s m args below meth c H locs cells slots Q (F0 m pc ls (.int i :: .ref (ad g k) :: rest)) := by
  obtain ⟨a1, a2⟩ := hW.1.key hT (by omega)
  have he := wl_get g mm a1 a2
  rw [celm, hT, cel_10] at he
  exact va_lald hx hb hK.1 (wl_P hW.1) (k - 8) 1 he rfl hin hdg kk
theorem R_bald (hx : p.tables.exec = Jvm.exec) (hb : c.code = cc) (hK : Kk g s) (hW : Wo g mm s H locs) {k : Nat} {i : Int32} (hT : mT mm k = 11) (hin : vp_in i (mN mm k)) (hdg : decode cc pc = .ok (.baload, 1))
    (kk : W p l e R s m args below meth c H locs cells slots Q (F0 m (pc + 1) ls (.int (mI mm k i.toNatClampNeg) :: rest))) : W p l e R s m args below meth c H locs cells slots Q (F0 m pc ls (.int i :: .ref (ad g k) :: rest)) := by
  obtain ⟨a1, a2⟩ := hW.1.key hT (by omega)
  have he := wl_get g mm a1 a2
  rw [celm, hT, cel_11] at he
  exact va_bald hx hb hK.1 (wl_P hW.1) (k - 8) 2 he rfl hin hdg kk
/-- the static arrays -/
theorem R_sald (hx : p.tables.exec = Jvm.exec) (hb : c.code = cc) {k : Nat} {nm : String} (hZ : Kst g s k nm) (h3 : 3 ≤ k) (h6 : k ≤ 6) (hW : Wo g mm s H locs) {i : Int32} (hin : vp_in i (mN mm k)) (hdg : decode cc pc = .ok (.iaload, 1))
    (kk : W p l e R s m args below meth c H locs cells slots Q (F0 m (pc + 1) ls (.int (mI mm k i.toNatClampNeg) :: rest))) : W p l e R s m args below meth c H locs cells slots Q (F0 m pc ls (.int i :: .ref (ad g k) :: rest)) := by
  obtain ⟨n6, eI⟩ := hW.1.2.2.2.2.2.1 k h3 h6
  rw [n6] at hin
  refine va_ti hx hb hZ.2 hW.2 hin (v := .int (mI mm k i.toNatClampNeg)) ?_ hdg kk
  rw [eI]
theorem R_gets (hx : p.tables.exec = Jvm.exec) (hb : c.code = cc) {k : Nat} {nm own : String} {index : Nat} (hZ : Kst g s k nm) (hW : Wo g mm s H locs) (hown : s.vm.findClass own = some m.cls) (hlink : (Cond.fieldLink own index "BoatLift$Law" nm "[I").before args s = true) (hdg : decode cc pc = .ok (.getstatic index, 3))
    (kk : W p l e R s m args below meth c H locs cells slots Q (F0 m (pc + 3) ls (.ref (ad g k) :: rest))) : W p l e R s m args below meth c H locs cells slots Q (F0 m pc ls rest) := va_gets hx hb hZ.1 hW.2 hown hlink (fun _ h => h) hdg kk
theorem R_alen (hx : p.tables.exec = Jvm.exec) (hb : c.code = cc) (hK : Kk g s) (hW : Wo g mm s H locs) {k t : Nat} (hT : mT mm k = t) (h9 : 9 ≤ t) (h11 : t ≤ 11) (hdg : decode cc pc = .ok (.arraylength, 1))
    (kk : W p l e R s m args below meth c H locs cells slots Q (F0 m (pc + 1) ls (.int (nI (mN mm k)) :: rest))) : W p l e R s m args below meth c H locs cells slots Q (F0 m pc ls (.ref (ad g k) :: rest)) := by
  obtain ⟨a1, a2⟩ := hW.1.key hT (by omega)
  have he := wl_get g mm a1 a2
  rw [celm, hT] at he
  rcases (show t = 9 ∨ t = 10 ∨ t = 11 by omega) with rfl | rfl | rfl
  · rw [cel_9] at he
    exact va_alen hx hb hK.1 (wl_P hW.1) (k - 8) 0 he rfl rfl hdg kk
  · rw [cel_10] at he
    exact va_alen hx hb hK.1 (wl_P hW.1) (k - 8) 1 he rfl rfl hdg kk
  · rw [cel_11] at he
    exact va_alen hx hb hK.1 (wl_P hW.1) (k - 8) 2 he rfl rfl hdg kk
/-- behind a store into an array -/
theorem R_row {k : Nat} {m2 : Mm} {i : Nat} (hW : Wo g mm s H locs) (h8 : 8 ≤ k) (hk : k < mS mm) (ho : Off mm m2 k) {H1 : Heap} (z : H1.size = H.size) (oq : ∀ q, q ≠ ad g k → H1[q]? = H[q]?) (hc : va_at g.1 vwCl (ad g k, celm g m2 k) H1) : Wo g m2 s H1 (locs ++ [⟨ad g k, i⟩]) :=
  ⟨hW.1.put h8 hk ho z oq hc, hW.2.put z oq (by show g.2 4 ≤ ad g k; rw [ad_ge g h8]; exact Nat.le_add_right _ _)⟩
theorem R_iast (hx : p.tables.exec = Jvm.exec) (hb : c.code = cc) (hK : Kk g s) (hW : Wo g mm s H locs) {k : Nat} {i x : Int32} (hT : mT mm k = 9) (hin : vp_in i (mN mm k)) (hdg : decode cc pc = .ok (.iastore, 1))
    (kk : ∀ (H1 : Heap) (locs1 : List Loc), Wo g (sI mm k i.toNatClampNeg x) s H1 locs1 → W p l e R s m args below meth c H1 locs1 cells slots Q (F0 m (pc + 1) ls rest)) : W p l e R s m args below meth c H locs cells slots Q (F0 m pc ls (.int x :: .int i :: .ref (ad g k) :: rest)) := by
  obtain ⟨a1, a2⟩ := hW.1.key hT (by omega)
  have hat := (hW.1.2.2.2.2.2.2 k a1 a2).2
  rw [celm, hT, cel_9] at hat
  have hat : H[ad g k]? = some (vp_cell (g.2 0) (mN mm k, .inl (mI mm k))) := hat
  refine W.iast hx hb hat ((hK.1.2 0 _ rfl).1 (mN mm k) (fun j => .int (mI mm k j))) (fun q => by cases q) (by show ¬ (i < 0 ∨ (arrV _ _ _).slots.size ≤ _); rw [arrV_size]; exact hin) rfl rfl hdg fun H1 e z oq => ?_
  refine kk H1 _ (R_row hW a1 a2 (off_rI _ _ _) z oq ?_)
  rw [celm, (off_rI mm k (upd (mI mm k) i.toNatClampNeg x)).2.1, (off_rI mm k (upd (mI mm k) i.toNatClampNeg x)).2.2.1, hT, cel_9, rI_I]
  show H1[ad g k]? = some (vp_cell _ _)
  rw [e, vp_cell_i, vp_cell_i, arrV_store]
  congr 2
  funext q
  by_cases hq : q = i.toNatClampNeg
  · subst hq
    simp [updV, upd]
  · simp [updV, upd, hq]
theorem R_last (hx : p.tables.exec = Jvm.exec) (hb : c.code = cc) (hK : Kk g s) (hW : Wo g mm s H locs) {k : Nat} {i : Int32} {x : Int64} (hT : mT mm k = 10) (hin : vp_in i (mN mm k)) (hdg : decode cc pc = .ok (.lastore, 1))
    (kk : ∀ (H1 : Heap) (locs1 : List Loc), Wo g (sL mm k i.toNatClampNeg x) s H1 locs1 → W p l e R s m args below meth c H1 locs1 cells slots Q (F0 m (pc + 1) ls rest)) : W p l e R s m args below meth c H locs cells slots Q (F0 m pc ls (.long x :: .int i :: .ref (ad g k) :: rest)) := by
  obtain ⟨a1, a2⟩ := hW.1.key hT (by omega)
  have hat := (hW.1.2.2.2.2.2.2 k a1 a2).2
  rw [celm, hT, cel_10] at hat
  have hat : H[ad g k]? = some (vp_cell (g.2 1) (mN mm k, .inr (.inl (mL mm k)))) := hat
  refine W.last hx hb hat ((hK.1.2 1 _ rfl).1 (mN mm k) (fun j => .long (mL mm k j))) (fun q => by cases q) (by show ¬ (i < 0 ∨ (arrV _ _ _).slots.size ≤ _); rw [arrV_size]; exact hin) rfl rfl hdg fun H1 e z oq => ?_
  refine kk H1 _ (R_row hW a1 a2 (off_rL _ _ _) z oq ?_)
  rw [celm, (off_rL mm k (vp_updL (mL mm k) i.toNatClampNeg x)).2.1, (off_rL mm k (vp_updL (mL mm k) i.toNatClampNeg x)).2.2.1, hT, cel_10, rL_L]
  show H1[ad g k]? = some (vp_cell _ _)
  rw [e, vp_cell_l, vp_cell_l, arrV_store]
  congr 2
  funext q
  by_cases hq : q = i.toNatClampNeg
  · subst hq
    simp [updV, vp_updL]
  · simp [updV, vp_updL, hq]
/-- an int that a byte holds is stored as it is -/
theorem R_bast (hx : p.tables.exec = Jvm.exec) (hb : c.code = cc) (hK : Kk g s) (hW : Wo g mm s H locs) {k : Nat} {i x : Int32} (hT : mT mm k = 11) (hin : vp_in i (mN mm k)) (hn : x.toInt8.toInt32 = x) (hdg : decode cc pc = .ok (.bastore, 1))
    (kk : ∀ (H1 : Heap) (locs1 : List Loc), Wo g (sI mm k i.toNatClampNeg x) s H1 locs1 → W p l e R s m args below meth c H1 locs1 cells slots Q (F0 m (pc + 1) ls rest)) : W p l e R s m args below meth c H locs cells slots Q (F0 m pc ls (.int x :: .int i :: .ref (ad g k) :: rest)) := by
  obtain ⟨a1, a2⟩ := hW.1.key hT (by omega)
  have hat := (hW.1.2.2.2.2.2.2 k a1 a2).2
  rw [celm, hT, cel_11] at hat
  have hat : H[ad g k]? = some (vp_cell (g.2 2) (mN mm k, .inl (mI mm k))) := hat
  refine W.bast hx hb hat ((hK.1.2 2 _ rfl).1 (mN mm k) (fun j => .int (mI mm k j))) (fun q => by cases q) (by show ¬ (i < 0 ∨ (arrV _ _ _).slots.size ≤ _); rw [arrV_size]; exact hin) rfl rfl hdg fun H1 e z oq => ?_
  refine kk H1 _ (R_row hW a1 a2 (off_rI _ _ _) z oq ?_)
  rw [celm, (off_rI mm k (upd (mI mm k) i.toNatClampNeg x)).2.1, (off_rI mm k (upd (mI mm k) i.toNatClampNeg x)).2.2.1, hT, cel_11, rI_I]
  show H1[ad g k]? = some (vp_cell _ _)
  rw [e, vp_cell_i, vp_cell_i, arrV_store]
  congr 2
  funext q
  by_cases hq : q = i.toNatClampNeg
  · subst hq
    simp [updV, upd]
    have h1 := pk_nb x
    rw [hn] at h1
    exact h1
  · simp [updV, upd, hq]
/-- a new object -/
theorem R_new {own C : String} {T : u_T} {N ci index : Nat} {Ts : List Cond} (hx : p.tables.exec = Jvm.exec) (hb : c.code = cc) (hts : ∀ w ∈ Ts, w.before args s = true) (hin : ∀ w ∈ u_ws C T N, w ∈ Ts) (ty : Nat → FieldType) (hty : ∀ k, k < N → parseFieldDescriptor (T k).2.2.1 = some (ty k)) (hown : s.vm.findClass own = some m.cls) (hcl : (Cond.classLink own index C).before args s = true) (hinst : (Cond.instantiable C N).before args s = true) (hini : (Cond.initialized C).before args s = true)
    (hK : Kk g s) (hW : Wo g mm s H locs) (h8 : ci ≤ 8) (hc : vwCl[ci]? = some (C, T, N)) (hfs : ∀ j, j < N → defaultValue (ty j) = vp_V (flr g ci (fun _ => 0) (fun _ => 0) (fun _ => 0)) j) (hcells : cells + 1 ≤ R.cells) (hslots : slots + N ≤ R.slots) (hdg : decode cc pc = .ok (.new index, 3))
    (kk : ∀ (H1 : Heap), Wo g (nw mm ci 0) s H1 locs → W p l e R s m args below meth c H1 locs (cells + 1) (slots + N) Q (F0 m (pc + 3) ls (.ref (ad g (mS mm)) :: rest))) : W p l e R s m args below meth c H locs cells slots Q (F0 m pc ls rest) := by
  have hKn := hK.1.1 ci _ hc
  have ea : ad g (mS mm) = H.size := by rw [ad_ge g hW.1.1, hW.1.2.1]
  refine W.newcK hx hb hown hcl hinst hini rfl hdg hcells hslots hKn.2.1 rfl fun H1 kC hkC e1 z1 o1 => ?_
  have h := kk H1 ⟨hW.1.new (by omega) z1 o1 (by rw [cel_o h8]; exact ⟨_, hc, (u_born ty hts hin hKn hkC e1 hty).to hfs⟩), ⟨Nat.le_trans hW.2.1 (by omega), fun x h1 h2 => (o1 x (Nat.lt_of_lt_of_le h1 hW.2.1)).trans (hW.2.2.1 x h1 h2), hW.2.2.2⟩⟩
  rw [ea] at h
  exact h
/-- a new array of numbers: kind t -/
theorem R_newa {atype : ArrayType} {ty : FieldType} {t t0 : Nat} (hx : p.tables.exec = Jvm.exec) (hb : c.code = cc) (harr : (Cond.arrayClass (newarray.typeOf atype)).before args s = true) (hty : newarray.typeOf atype = ty) (hK : Kk g s) (hW : Wo g mm s H locs) {n : Int32} (N' : Nat) (ht : t ≤ 12) (ht0 : (tys g)[t0]? = some (g.2 t0, ty)) (hra : ∀ cA U, va_RA U cA ty → U.vm.findClass ("[" ++ ty.toString) = some cA)
    (ha : ∃ a0 : vp_A, cel g t N' (fun _ => 0) (fun _ => 0) (fun _ => 0) = .inl (g.2 t0, a0) ∧ vp_cell (g.2 t0) a0 = arrV (g.2 t0) N' (fun _ => defaultValue ty)) (hn : ¬ n < 0) (hN : n.toNatClampNeg = N') (hbytes : N' * componentBytes ty ≤ 536870912) (hcells : cells + 1 ≤ R.cells) (hslots : slots + N' ≤ R.slots) (hdg : decode cc pc = .ok (.newarray atype, 2))
    (kk : ∀ (H1 : Heap), Wo g (nw mm t N') s H1 locs → W p l e R s m args below meth c H1 locs (cells + 1) (slots + N') Q (F0 m (pc + 2) ls (.ref (ad g (mS mm)) :: rest))) : W p l e R s m args below meth c H locs cells slots Q (F0 m pc ls (.int n :: rest)) := by
  subst hty
  have ea : ad g (mS mm) = H.size := by rw [ad_ge g hW.1.1, hW.1.2.1]
  refine va_newaK hx hb harr rfl hdg rfl hn hN hbytes hcells hslots rfl fun H1 cA e1 z1 o1 hAr hNm => ?_
  have ec : g.2 t0 = cA := Option.some.inj ((hra _ _ (hK.1.2 t0 _ ht0).2).symm.trans hNm)
  obtain ⟨a0, c1, c2⟩ := ha
  have h := kk H1 ⟨hW.1.new ht z1 o1 (by rw [c1]; show H1[H.size]? = some (vp_cell _ _); rw [c2, ec]; exact e1), ⟨Nat.le_trans hW.2.1 (by omega), fun x h1 h2 => (o1 x (Nat.lt_of_lt_of_le h1 hW.2.1)).trans (hW.2.2.1 x h1 h2), hW.2.2.2⟩⟩
  rw [ea] at h
  exact h
theorem R_newI (hx : p.tables.exec = Jvm.exec) (hb : c.code = cc) (harr : (Cond.arrayClass .int).before args s = true) (hK : Kk g s) (hW : Wo g mm s H locs) {n : Int32} (N' : Nat) (hn : ¬ n < 0) (hN : n.toNatClampNeg = N') (hbytes : N' * 4 ≤ 536870912) (hcells : cells + 1 ≤ R.cells) (hslots : slots + N' ≤ R.slots) (hdg : decode cc pc = .ok (.newarray .int, 2))
    (kk : ∀ (H1 : Heap), Wo g (nw mm 9 N') s H1 locs → W p l e R s m args below meth c H1 locs (cells + 1) (slots + N') Q (F0 m (pc + 2) ls (.ref (ad g (mS mm)) :: rest))) : W p l e R s m args below meth c H locs cells slots Q (F0 m pc ls (.int n :: rest)) :=
  R_newa (atype := .int) (ty := .int) (t := 9) (t0 := 0) hx hb harr rfl hK hW N' (by omega) rfl (fun _ _ h => h) ⟨_, rfl, rfl⟩ hn hN hbytes hcells hslots hdg kk
theorem R_newJ (hx : p.tables.exec = Jvm.exec) (hb : c.code = cc) (harr : (Cond.arrayClass .long).before args s = true) (hK : Kk g s) (hW : Wo g mm s H locs) {n : Int32} (N' : Nat) (hn : ¬ n < 0) (hN : n.toNatClampNeg = N') (hbytes : N' * 8 ≤ 536870912) (hcells : cells + 1 ≤ R.cells) (hslots : slots + N' ≤ R.slots) (hdg : decode cc pc = .ok (.newarray .long, 2))
    (kk : ∀ (H1 : Heap), Wo g (nw mm 10 N') s H1 locs → W p l e R s m args below meth c H1 locs (cells + 1) (slots + N') Q (F0 m (pc + 2) ls (.ref (ad g (mS mm)) :: rest))) : W p l e R s m args below meth c H locs cells slots Q (F0 m pc ls (.int n :: rest)) :=
  R_newa (atype := .long) (ty := .long) (t := 10) (t0 := 1) hx hb harr rfl hK hW N' (by omega) rfl (fun _ _ h => h) ⟨_, rfl, rfl⟩ hn hN hbytes hcells hslots hdg kk
theorem R_newB (hx : p.tables.exec = Jvm.exec) (hb : c.code = cc) (harr : (Cond.arrayClass .byte).before args s = true) (hK : Kk g s) (hW : Wo g mm s H locs) {n : Int32} (N' : Nat) (hn : ¬ n < 0) (hN : n.toNatClampNeg = N') (hbytes : N' * 1 ≤ 536870912) (hcells : cells + 1 ≤ R.cells) (hslots : slots + N' ≤ R.slots) (hdg : decode cc pc = .ok (.newarray .byte, 2))
    (kk : ∀ (H1 : Heap), Wo g (nw mm 11 N') s H1 locs → W p l e R s m args below meth c H1 locs (cells + 1) (slots + N') Q (F0 m (pc + 2) ls (.ref (ad g (mS mm)) :: rest))) : W p l e R s m args below meth c H locs cells slots Q (F0 m pc ls (.int n :: rest)) :=
  R_newa (atype := .byte) (ty := .byte) (t := 11) (t0 := 2) hx hb harr rfl hK hW N' (by omega) rfl (fun _ _ h => h) ⟨_, rfl, rfl⟩ hn hN hbytes hcells hslots hdg kk
/-- behind a call of a method with a contract -/
theorem R_call {ρ : Type} {vf : ρ → Option Value} {Φ : ρ → Mm → Prop} {st0 : List Value} {a : Array Value} {mc ms : Nat} (hr : va_Run p l e R s m args below meth c H locs cells slots mc ms (F0 m pc ls st0) rest (QQ g vf Φ a) (Ag g)) (hW : Wo g mm s H locs)
    (kk : ∀ (r : ρ) (u : Mm) (H1 : Heap) (locs1 : List Loc), Φ r u → Wo g u s H1 locs1 → W p l e R s m args below meth c H1 locs1 (cells + mc) (slots + ms) Q (F0 m (pc + 3) ls ((vf r).toList ++ rest))) : W p l e R s m args below meth c H locs cells slots Q (F0 m pc ls st0) := by
  intro T hT X
  obtain ⟨v, st₀, t, T', L, h0, X', hL, e1, e2, ⟨⟨r, u, hv, hp, hb⟩, hz, hk⟩, st⟩ := hr T hT X
  cases hv
  rw [h0] at hz hk
  obtain ⟨t2, a1, b1⟩ := kk r u T'.heap (locs ++ L) hp ⟨by rw [e1]; exact hb, ⟨Nat.le_trans hW.2.1 (by rw [e1]; exact hz), fun q h1 h2 => by rw [e1, hk q (Nat.lt_of_lt_of_le h1 hW.2.1) h2]; exact hW.2.2.1 q h1 h2, fun q hq => by
      rcases List.mem_append.mp hq with h | h
      · exact hW.2.2.2 q h
      · exact hL q h⟩⟩ T' rfl X'
  exact ⟨t2, st t2 a1, b1⟩
theorem R_call5 {ρ : Type} {vf : ρ → Option Value} {Φ : ρ → Mm → Prop} {st0 : List Value} {a : Array Value} {mc ms : Nat} (hr : va_Run5 p l e R s m args below meth c H locs cells slots mc ms (F0 m pc ls st0) rest (QQ g vf Φ a) (Ag g)) (hW : Wo g mm s H locs)
    (kk : ∀ (r : ρ) (u : Mm) (H1 : Heap) (locs1 : List Loc), Φ r u → Wo g u s H1 locs1 → W p l e R s m args below meth c H1 locs1 (cells + mc) (slots + ms) Q (F0 m (pc + 5) ls ((vf r).toList ++ rest))) : W p l e R s m args below meth c H locs cells slots Q (F0 m pc ls st0) := by
  intro T hT X
  obtain ⟨v, st₀, t, T', L, h0, X', hL, e1, e2, ⟨⟨r, u, hv, hp, hb⟩, hz, hk⟩, st⟩ := hr T hT X
  cases hv
  rw [h0] at hz hk
  obtain ⟨t2, a1, b1⟩ := kk r u T'.heap (locs ++ L) hp ⟨by rw [e1]; exact hb, ⟨Nat.le_trans hW.2.1 (by rw [e1]; exact hz), fun q h1 h2 => by rw [e1, hk q (Nat.lt_of_lt_of_le h1 hW.2.1) h2]; exact hW.2.2.1 q h1 h2, fun q hq => by
      rcases List.mem_append.mp hq with h | h
      · exact hW.2.2.2 q h
      · exact hL q h⟩⟩ T' rfl X'
  exact ⟨t2, st t2 a1, b1⟩
/-- the receiver of a call -/
theorem R_recv {k ci : Nat} {q : vw_C} (hK : Kk g s) (hW : Wo g mm s H locs) (hT : mT mm k = ci) (h8 : ci ≤ 8) (hc : vwCl[ci]? = some q) : ∃ cell : Cell, H[ad g k]? = some cell ∧ cell.vm.isStatics = false ∧ s.vm.findClass q.1 = some cell.cls := by
  obtain ⟨a1, a2⟩ := hW.1.key hT (by omega)
  have he := wl_get g mm a1 a2
  rw [celm, hT, cel_o h8] at he
  exact va_recv hK.1 (wl_P hW.1) hc he
theorem PP.preV {k ci : Nat} {q : vw_C} {As : List Value} (hK : Kk g s) (hW : Wo g mm s H locs) (hT : mT mm k = ci) (h8 : ci ≤ 8) (hc : vwCl[ci]? = some q) : PreV s H q.1 (ad g k) (PP g (.ref (ad g k) :: As) mm) As :=
  ⟨PP.blind g _ mm, R_recv hK hW hT h8 hc, (PP.pre hK hW).2⟩
theorem R_iret {v : Int32} {Φ : Int32 → Mm → Prop} (hx : p.tables.exec = Jvm.exec) (hb : c.code = cc) (hr : meth.sig.returnType = some .int) (hlk : meth.locks = false) (hW : Wo g mm s H locs) (hΦ : Φ v mm) (hdg : decode cc pc = .ok (.ireturn, 1)) : W p l e R s m args below meth c H locs cells slots (MQ below (QQ g vI Φ) args s cells slots (Ag g)) (F0 m pc ls [.int v]) :=
  W.iret hx hb hr (fun t ht _ => ⟨⟨v, mm, rfl, hΦ, by rw [ht]; exact hW.1⟩, hW.2.F ht⟩) hW.2.2.2 hdg hlk
theorem R_zret {v : Int32} {Φ : Int32 → Mm → Prop} (hx : p.tables.exec = Jvm.exec) (hb : c.code = cc) (hr : meth.sig.returnType = some .boolean) (hlk : meth.locks = false) (hW : Wo g mm s H locs) (hv : v = 0 ∨ v = 1) (hΦ : Φ v mm) (hdg : decode cc pc = .ok (.ireturn, 1)) : W p l e R s m args below meth c H locs cells slots (MQ below (QQ g vI Φ) args s cells slots (Ag g)) (F0 m pc ls [.int v]) :=
  W.zret hx hb hr (by rcases hv with rfl | rfl <;> rfl) (fun t ht _ => ⟨⟨v, mm, rfl, hΦ, by rw [ht]; exact hW.1⟩, hW.2.F ht⟩) hW.2.2.2 hdg hlk
theorem R_lret {v : Int64} {Φ : Int64 → Mm → Prop} (hx : p.tables.exec = Jvm.exec) (hb : c.code = cc) (hr : meth.sig.returnType = some .long) (hlk : meth.locks = false) (hW : Wo g mm s H locs) (hΦ : Φ v mm) (hdg : decode cc pc = .ok (.lreturn, 1)) : W p l e R s m args below meth c H locs cells slots (MQ below (QQ g vL Φ) args s cells slots (Ag g)) (F0 m pc ls [.long v]) :=
  W.lret hx hb hr (fun t ht _ => ⟨⟨v, mm, rfl, hΦ, by rw [ht]; exact hW.1⟩, hW.2.F ht⟩) hW.2.2.2 hdg hlk
theorem R_vret {Φ : Unit → Mm → Prop} (hx : p.tables.exec = Jvm.exec) (hb : c.code = cc) (hr : meth.sig.returnType = none) (hlk : meth.locks = false) (hW : Wo g mm s H locs) (hΦ : Φ () mm) (hdg : decode cc pc = .ok (.return_, 1)) : W p l e R s m args below meth c H locs cells slots (MQ below (QQ g vV Φ) args s cells slots (Ag g)) (F0 m pc ls []) :=
  W.vret hx hb hr (fun t ht _ => ⟨⟨(), mm, rfl, hΦ, by rw [ht]; exact hW.1⟩, hW.2.F ht⟩) hW.2.2.2 hdg hlk
theorem R_aret {v : Nat} {rt : FieldType} {Φ : Nat → Mm → Prop} (hx : p.tables.exec = Jvm.exec) (hb : c.code = cc) (hr : meth.sig.returnType = some rt) (hrt : (∃ n, rt = .object n) ∨ ∃ t, rt = .array t) (hlk : meth.locks = false) (hW : Wo g mm s H locs) (hΦ : Φ v mm) (hdg : decode cc pc = .ok (.areturn, 1)) : W p l e R s m args below meth c H locs cells slots (MQ below (QQ g (vR g) Φ) args s cells slots (Ag g)) (F0 m pc ls [.ref (ad g v)]) :=
  W.aret hx hb hr hrt (Or.inr ⟨_, rfl⟩) (fun t ht _ => ⟨⟨v, mm, rfl, hΦ, by rw [ht]; exact hW.1⟩, hW.2.F ht⟩) hW.2.2.2 hdg hlk
end ROWS2
/-- a walk from a place of the method on, whatever the heap and the frame's array -/
def WW (p : Program) (l : Launch) (e : Env) (R : Room) (s : State) (m : MethodId) (args : Array Value) (below : List Frame) (meth : Method) (c : Code) (Q : State → Prop) (g : Gv) (mm : Mm) (nL cells slots pc : Nat) (lv : List (Nat × Value)) (st : List Value) : Prop :=
  ∀ (H : Heap) (locs : List Loc) (ls : Array Slot), Wo g mm s H locs → lv_has ls nL lv → W p l e R s m args below meth c H locs cells slots Q (F0 m pc ls st)
/-- a loop: its body once, and so on, at most n times -/
def LOp {α : Type} (B : (α → Prop) → α → Prop) : Nat → α → Prop
  | 0, _ => False
  | n + 1, x => B (LOp B n) x
theorem LOp_of {α : Type} {B : (α → Prop) → α → Prop} (I : α → Prop) (μ : α → Nat) (hs : ∀ x, I x → ∀ K : α → Prop, (∀ y, I y → μ y < μ x → K y) → B K x) {x : α} (hx : I x) : ∃ n, LOp B n x := by
  have key : ∀ n x, I x → μ x < n → LOp B n x := by
    intro n
    induction n with
    | zero => intro x _ h; exact absurd h (Nat.not_lt_zero _)
    | succ n ih => intro x hx h; exact hs x hx _ (fun y hy hlt => ih y hy (by omega))
  exact ⟨_, key (μ x + 1) x hx (Nat.lt_succ_self _)⟩
end
section
section ROWS3
variable {p : Program} {l : Launch} {e : Env} {R : Room} {s : State} {m : MethodId} {args : Array Value} {below : List Frame} {meth : Method} {c : Code} {H : Heap} {locs : List Loc} {cells slots : Nat} {Q : State → Prop}
variable {cc : ByteArray} {pc : Nat} {ls : Array Slot} {rest : List Value} {g : Gv} {mm : Mm}
/-- Object arrays -/
theorem R_aald (hx : p.tables.exec = Jvm.exec) (hb : c.code = cc) (hK : Kk g s) (hW : Wo g mm s H locs) {k : Nat} {i : Int32} (hT : mT mm k = 12) (hin : vp_in i (mN mm k)) (hne : mP mm k i.toNatClampNeg ≠ 0) (hdg : decode cc pc = .ok (.aaload, 1))
    (kk : W p l e R s m args below meth c H locs cells slots Q (F0 m (pc + 1) ls (.ref (ad g (mP mm k i.toNatClampNeg)) :: rest))) : W p l e R s m args below meth c H locs cells slots Q (F0 m pc ls (.int i :: .ref (ad g k) :: rest)) := by
  have h1 : k ≠ 1 := by
    intro h
    rw [h, hW.1.2.2.2.2.1] at hin
    exact hin (Or.inr (Nat.zero_le _))
  obtain ⟨a1, a2⟩ := hW.1.keyO hT h1
  have he := wl_get g mm a1 a2
  rw [celm, hT, cel_12] at he
  refine va_aldq hx hb hK.1 (wl_P hW.1) (k - 8) 3 he rfl hin hdg ?_
  rw [ro_pos g hne]
  exact kk
theorem R_alenO (hx : p.tables.exec = Jvm.exec) (hb : c.code = cc) (hK : Kk g s) (hW : Wo g mm s H locs) {k : Nat} (hT : mT mm k = 12) (hdg : decode cc pc = .ok (.arraylength, 1))
    (kk : W p l e R s m args below meth c H locs cells slots Q (F0 m (pc + 1) ls (.int (nI (mN mm k)) :: rest))) : W p l e R s m args below meth c H locs cells slots Q (F0 m pc ls (.ref (ad g k) :: rest)) := by
  by_cases h1 : k = 1
  · subst h1
    refine va_tlen hx hb hK.2.2.2.1.2 hW.2 (v := nI (mN mm 1)) ?_ hdg kk
    rw [hW.1.2.2.2.2.1]; rfl
  · obtain ⟨a1, a2⟩ := hW.1.keyO hT h1
    have he := wl_get g mm a1 a2
    rw [celm, hT, cel_12] at he
    exact va_alen hx hb hK.1 (wl_P hW.1) (k - 8) 3 he rfl rfl hdg kk
theorem R_any {v : Nat} (hK : Kk g s) (hW : Wo g mm s H locs) (hv : mT mm v = 1) : va_Any "java/lang/Object" s H (ad g v) := by
  obtain ⟨a1, a2⟩ := hW.1.key hv (by omega)
  have he := wl_get g mm a1 a2
  rw [celm, hv, cel_o (by omega)] at he
  refine va_rAny hK.1 (wl_P hW.1) he (r := (RX0, TX0, 8)) rfl (fun comp c0 h1 h2 => ?_)
  obtain ⟨c1, c2, f1, f2, f3⟩ := Cond.castable_spec (va_Nw.use (A := #[]) rfl hK.2.2.2.2.2.2.2.2.2.1)
  cases h1.symm.trans f2
  cases h2.symm.trans f1
  exact f3
theorem R_aast (hx : p.tables.exec = Jvm.exec) (hb : c.code = cc) (hK : Kk g s) (hW : Wo g mm s H locs) {k v : Nat} {i : Int32} (hT : mT mm k = 12) (hin : vp_in i (mN mm k)) (hv : mT mm v = 1) (hdg : decode cc pc = .ok (.aastore, 1))
    (kk : ∀ (H1 : Heap) (locs1 : List Loc), Wo g (sP mm k i.toNatClampNeg v) s H1 locs1 → W p l e R s m args below meth c H1 locs1 cells slots Q (F0 m (pc + 1) ls rest)) : W p l e R s m args below meth c H locs cells slots Q (F0 m pc ls (.ref (ad g v) :: .int i :: .ref (ad g k) :: rest)) := by
  have h1 : k ≠ 1 := by
    intro h
    rw [h, hW.1.2.2.2.2.1] at hin
    exact hin (Or.inr (Nat.zero_le _))
  obtain ⟨a1, a2⟩ := hW.1.keyO hT h1
  have hv0 : v ≠ 0 := by have := (hW.1.key hv (by omega)).1; omega
  have hat := (hW.1.2.2.2.2.2.2 k a1 a2).2
  rw [celm, hT, cel_12] at hat
  have hat : H[ad g k]? = some (vp_cell (g.2 3) (mN mm k, .inr (.inr (.inr (.inr (fun j => ro g (mP mm k j))))))) := hat
  have hlt : i.toNatClampNeg < mN mm k := Nat.not_le.mp fun q => hin (Or.inr q)
  have h0 : ¬ i < 0 := fun q => hin (Or.inl q)
  obtain ⟨cellV, g1, g3, ⟨kC, hkC⟩, hasg⟩ := R_any hK hW hv
  obtain ⟨kA, comp, k1, k2, k3, -⟩ := (hK.1.2 3 _ rfl).2
  obtain ⟨kE, hkE, -⟩ := Vm.findClass_spec k3
  refine W.aast hx hb hat (fun q h => by cases h) (fun h => by cases h) k1 k2 rfl hkE ⟨h0, by show _ < (arrV _ _ _).slots.size; rw [arrV_size]; exact hlt⟩ g1 (fun q h => by rw [h] at g3; cases g3) hkC (hasg _ k3) rfl rfl hdg fun H1 e z oq => ?_
  refine kk H1 _ (R_row hW a1 a2 (off_rP _ _ _) z oq ?_)
  rw [celm, (off_rP mm k (va_up (mP mm k) i.toNatClampNeg v)).2.1, (off_rP mm k (va_up (mP mm k) i.toNatClampNeg v)).2.2.1, hT, cel_12, rP_P]
  show H1[ad g k]? = some (vp_cell _ _)
  rw [e, vp_cell_q, vp_cell_q, arrV_store]
  congr 2
  funext q
  by_cases hq : q = i.toNatClampNeg
  · subst hq
    simp [updV, va_up, ro_pos g hv0, va_rf]
  · simp [updV, va_up, hq]
theorem R_newO {own : String} {index : Nat} (hx : p.tables.exec = Jvm.exec) (hb : c.code = cc) (hown : s.vm.findClass own = some m.cls) (hclink : (Cond.classLink own index "java/lang/Object").before args s = true) (hK : Kk g s) (hW : Wo g mm s H locs) {n : Int32} (B : Nat) (hn : ¬ n < 0) (hN : n.toNatClampNeg ≤ B) (hbytes : B * 4 ≤ 536870912) (hcells : cells + 1 ≤ R.cells) (hslots : slots + B ≤ R.slots) (hdg : decode cc pc = .ok (.anewarray index, 3))
    (kk : ∀ (H1 : Heap), Wo g (nw mm 12 n.toNatClampNeg) s H1 locs → W p l e R s m args below meth c H1 locs (cells + 1) (slots + B) Q (F0 m (pc + 3) ls (.ref (ad g (mS mm)) :: rest))) : W p l e R s m args below meth c H locs cells slots Q (F0 m pc ls (.int n :: rest)) := by
  have ea : ad g (mS mm) = H.size := by rw [ad_ge g hW.1.1, hW.1.2.1]
  refine W.anew hx hb hown hclink (va_AO.use hK.2.2.2.2.2.2.2.2.2.2.2.1) rfl hdg rfl hn (by omega) hcells (by omega) fun cA kA comp f1 f2 f3 f4 => ?_
  refine W.widen (k := cells + 1) (n := slots + B) (Nat.le_refl _) (by omega) ?_
  generalize hH1 : H.push ({ cls := cA, slots := Array.replicate n.toNatClampNeg .null, vm := .none } : Cell) = H1
  have z1 : H1.size = H.size + 1 := by rw [← hH1, Array.size_push]
  have e1 : H1[H.size]? = some (arrV cA n.toNatClampNeg (fun _ => .null)) := by rw [← hH1, Array.getElem?_push_size, ← arrV_new]
  have o1 : ∀ q : Nat, q < H.size → H1[q]? = H[q]? := fun q hq => by rw [← hH1, Array.getElem?_push, if_neg (Nat.ne_of_lt hq)]
  obtain ⟨kA', comp', k1, k2, k3, k4⟩ := (hK.1.2 3 _ rfl).2
  have ec : g.2 3 = cA := Option.some.inj (k4.symm.trans f1)
  have h := kk H1 ⟨hW.1.new (t := 12) (n := n.toNatClampNeg) (by omega) z1 o1 (by rw [cel_12]; show H1[H.size]? = some (vp_cell _ _); rw [vp_cell_q, ec]; exact e1), ⟨Nat.le_trans hW.2.1 (by omega), fun x h1 h2 => (o1 x (Nat.lt_of_lt_of_le h1 hW.2.1)).trans (hW.2.2.1 x h1 h2), hW.2.2.2⟩⟩
  rw [ea] at h
  exact h
/-- the copying of a stretch, as the heap sees it -/
theorem R_cpd {α : Type} (mk : α → Value) {k a0 : Nat} {cs : Cell} {m2 : Mm} {c1 : ClassId} {n0 n1 : Nat} {f h : Nat → α} {sp dp n : Int32} {ks : Class} {sC dC : ClassId} {kd : Class} {sT dT : FieldType} {own : String} {index : Nat} (hx : p.tables.exec = Jvm.exec) (hb : c.code = cc) (hml : c.maxLocals = ls.size) (hown : s.vm.findClass own = some m.cls) (hlink : (Cond.methodLink own index arraycopyName).before args s = true) (hnat : (Cond.native arraycopyName).before args s = true) (hstat : (Cond.static arraycopyName).before args s = true) (hini : (Cond.initialized "java/lang/System").before args s = true)
    (hW : Wo g mm s H locs) (h8 : 8 ≤ k) (hk : k < mS mm) (hoff : Off mm m2 k) (hs : H[a0]? = some cs) (hsobj : ∀ q, cs.vm ≠ .statics q) (hsk : cs.vm ≠ .unknown) (hks : s.vm.classes[cs.cls]? = some ks) (hsa : ks.kind = .array sC sT) (hcs : ∀ j, j < n0 → cs.slots[j]? = some (mk (f j))) (hsz : n0 ≤ cs.slots.size) (hd : H[ad g k]? = some (arrV c1 n1 (fun j => mk (h j)))) (hkd : s.vm.classes[c1]? = some kd) (hda : kd.kind = .array dC dT) (hty : ((refKind sT != refKind dT) || (!refKind sT && sT != dT)) = false)
    (h1 : ¬ sp < 0) (h2 : ¬ dp < 0) (h3 : ¬ n < 0) (h4 : sp.toNatClampNeg + n.toNatClampNeg ≤ n0) (h5 : dp.toNatClampNeg + n.toNatClampNeg ≤ n1) (hvals : ∀ (T : State) vm', T.heap = H → s.vm.Alike vm' → ∀ i, i < n.toNatClampNeg → fits dT (mk (f (sp.toNatClampNeg + i))) = true ∧ (T.setVm vm').takes dC (mk (f (sp.toNatClampNeg + i))))
    (hframes : 1 ≤ R.frames) (hlocals : (rest.map fun v => v.category).sum + (nativeFrameWords "java/lang/System" "arraycopy" 5 + 11) ≤ R.locals) (hdg : decode cc pc = .ok (.invokestatic index, 3)) (hc : ∀ H1 : Heap, H1[ad g k]? = some (arrV c1 n1 (fun j => mk (va_cpy f h sp.toNatClampNeg dp.toNatClampNeg n.toNatClampNeg j))) → va_at g.1 vwCl (ad g k, celm g m2 k) H1)
    (kk : ∀ (H1 : Heap) (locs1 : List Loc), Wo g m2 s H1 locs1 → W p l e R s m args below meth c H1 locs1 cells slots Q (F0 m (pc + 3) ls rest)) : W p l e R s m args below meth c H locs cells slots Q (F0 m pc ls (.int n :: .int dp :: .ref (ad g k) :: .int sp :: .ref a0 :: rest)) := by
  have nn : ∀ z : Int32, ¬ z < 0 → z.toInt = (z.toNatClampNeg : Int) := by
    intro z hz
    have hz0 : (0 : Int) ≤ z.toInt := by
      have := Int32.not_lt.mp hz
      simpa using Int32.le_iff_toInt_le.mp this
    show z.toInt = ((z.toInt.toNat : Nat) : Int)
    omega
  have rd : ∀ i, i < n.toNatClampNeg → cs.slots.getD (sp.toNatClampNeg + i) .null = mk (f (sp.toNatClampNeg + i)) := by
    intro i hi
    rw [Array.getD_eq_getD_getElem?, hcs _ (by omega)]
    rfl
  intro T hT X
  obtain ⟨vm', X', step⟩ := X.arraycopy hx hown hlink hnat hstat hini (src := a0) (dst := ad g k) (cs := cs) (cd := arrV c1 n1 (fun j => mk (h j))) (srcPos := sp) (destPos := dp) (n := n) (by rw [hT]; exact hs) (by rw [hT]; exact hd)
    hsobj (fun _ h => by cases h) hsk (fun h => by cases h) hks hkd hsa hda hty h1 h2 h3
    (by rw [nn sp h1, nn n h3]; omega) (by rw [nn dp h2, nn n h3, arrV_size]; omega) (fun vm₁ ha i hi => by rw [rd i hi]; exact hvals T vm₁ hT ha i hi)
    (g := F0 m pc ls (.int n :: .int dp :: .ref (ad g k) :: .int sp :: .ref a0 :: rest)) rfl (by rw [hml]) (rest := rest) rfl (by rw [hb]; exact hdg) hframes (by show 2 * 0 + _ + _ ≤ _; omega)
  have e1 : copied cs (arrV c1 n1 (fun j => mk (h j))) sp dp n = arrV c1 n1 (fun j => mk (va_cpy f h sp.toNatClampNeg dp.toNatClampNeg n.toNatClampNeg j)) := va_copiedX mk cs c1 f h hcs h4
  rw [e1] at X' step
  have hl : ad g k < H.size := (Array.getElem?_eq_some_iff.mp hd).1
  have hA : Ag g (ad g k) := by show g.2 4 ≤ ad g k; rw [ad_ge g h8]; exact Nat.le_add_right _ _
  generalize hH1 : H.setIfInBounds (ad g k) (arrV c1 n1 (fun j => mk (va_cpy f h sp.toNatClampNeg dp.toNatClampNeg n.toNatClampNeg j))) = H1
  have oq : ∀ q : Nat, q ≠ ad g k → H1[q]? = H[q]? := fun q hq => by rw [← hH1]; simp [Array.getElem?_setIfInBounds, Ne.symm hq]
  have z1 : H1.size = H.size := by rw [← hH1]; simp
  have hme : H1[ad g k]? = some (arrV c1 n1 (fun j => mk (va_cpy f h sp.toNatClampNeg dp.toNatClampNeg n.toNatClampNeg j))) := by rw [← hH1]; simp [Array.getElem?_setIfInBounds, hl]
  obtain ⟨t, b1, b2⟩ := kk H1 _ ⟨hW.1.put h8 hk hoff z1 oq (hc H1 hme), ⟨by rw [z1]; exact hW.2.1, fun q g1 g2 => by
      rw [oq q (fun e => g2 (by rw [e]; exact hA))]
      exact hW.2.2.1 q g1 g2, fun q hq => by
      rcases List.mem_append.mp hq with h | h
      · exact hW.2.2.2 q h
      · obtain ⟨z, -, hz⟩ := List.mem_map.mp h
        rw [← hz]
        exact hA⟩⟩ _ (by rw [← hH1, ← hT]; rfl) X'
  exact ⟨t, step t b1, b2⟩
/-- a stretch that may be copied -/
def cpok (sp dp n : Int32) (n0 n1 : Nat) : Prop := ¬ sp < 0 ∧ ¬ dp < 0 ∧ ¬ n < 0 ∧ sp.toNatClampNeg + n.toNatClampNeg ≤ n0 ∧ dp.toNatClampNeg + n.toNatClampNeg ≤ n1
theorem R_copyI {own : String} {index k k0 : Nat} {sp dp n : Int32} (hx : p.tables.exec = Jvm.exec) (hb : c.code = cc) (hml : c.maxLocals = ls.size) (hown : s.vm.findClass own = some m.cls) (hlink : (Cond.methodLink own index arraycopyName).before args s = true) (hnat : (Cond.native arraycopyName).before args s = true) (hstat : (Cond.static arraycopyName).before args s = true) (hini : (Cond.initialized "java/lang/System").before args s = true) (hK : Kk g s)
    (hW : Wo g mm s H locs) (hT0 : mT mm k0 = 9) (hT : mT mm k = 9) (hok : cpok sp dp n (mN mm k0) (mN mm k)) (hframes : 1 ≤ R.frames) (hlocals : (rest.map fun v => v.category).sum + (nativeFrameWords "java/lang/System" "arraycopy" 5 + 11) ≤ R.locals) (hdg : decode cc pc = .ok (.invokestatic index, 3))
    (kk : ∀ (H1 : Heap) (locs1 : List Loc), Wo g (rI mm k (va_cpy (mI mm k0) (mI mm k) sp.toNatClampNeg dp.toNatClampNeg n.toNatClampNeg)) s H1 locs1 → W p l e R s m args below meth c H1 locs1 cells slots Q (F0 m (pc + 3) ls rest)) : W p l e R s m args below meth c H locs cells slots Q (F0 m pc ls (.int n :: .int dp :: .ref (ad g k) :: .int sp :: .ref (ad g k0) :: rest)) := by
  obtain ⟨a1, a2⟩ := hW.1.key hT (by omega)
  obtain ⟨b1, b2⟩ := hW.1.key hT0 (by omega)
  have hat := (hW.1.2.2.2.2.2.2 k a1 a2).2
  rw [celm, hT, cel_9] at hat
  have hat0 := (hW.1.2.2.2.2.2.2 k0 b1 b2).2
  rw [celm, hT0, cel_9] at hat0
  obtain ⟨-, kA, hkA, comp, hkind⟩ := (hK.1.2 0 _ rfl).1 0 (fun _ => .null)
  obtain ⟨h1, h2, h3, h4, h5⟩ := hok
  refine R_cpd (sT := .int) (dT := .int) (fun z => Value.int z) (f := mI mm k0) (h := mI mm k) (n0 := mN mm k0) (n1 := mN mm k) (c1 := g.2 0) hx hb hml hown hlink hnat hstat hini hW a1 a2 (off_rI _ _ _) (cs := arrV (g.2 0) (mN mm k0) (fun j => .int (mI mm k0 j))) hat0 (fun _ h => by cases h) (fun h => by cases h) hkA hkind (fun j hj => arrV_read _ _ hj) (by rw [arrV_size]; exact Nat.le_refl _) hat hkA hkind (by decide) h1 h2 h3 h4 h5 (fun _ _ _ _ _ _ => ⟨rfl, trivial⟩) hframes hlocals hdg (fun H1 he => ?_) kk
  rw [celm, (off_rI mm k (va_cpy (mI mm k0) (mI mm k) sp.toNatClampNeg dp.toNatClampNeg n.toNatClampNeg)).2.1, (off_rI mm k (va_cpy (mI mm k0) (mI mm k) sp.toNatClampNeg dp.toNatClampNeg n.toNatClampNeg)).2.2.1, hT, cel_9, rI_I]
  exact he
theorem R_copyS {own : String} {index k k0 : Nat} {nm : String} {sp dp n : Int32} (hx : p.tables.exec = Jvm.exec) (hb : c.code = cc) (hml : c.maxLocals = ls.size) (hown : s.vm.findClass own = some m.cls) (hlink : (Cond.methodLink own index arraycopyName).before args s = true) (hnat : (Cond.native arraycopyName).before args s = true) (hstat : (Cond.static arraycopyName).before args s = true) (hini : (Cond.initialized "java/lang/System").before args s = true) (hK : Kk g s)
    (hW : Wo g mm s H locs) (hZ : Kst g s k0 nm) (h30 : 3 ≤ k0) (h60 : k0 ≤ 6) (hT : mT mm k = 9) (hok : cpok sp dp n (mN mm k0) (mN mm k)) (hframes : 1 ≤ R.frames) (hlocals : (rest.map fun v => v.category).sum + (nativeFrameWords "java/lang/System" "arraycopy" 5 + 11) ≤ R.locals) (hdg : decode cc pc = .ok (.invokestatic index, 3))
    (kk : ∀ (H1 : Heap) (locs1 : List Loc), Wo g (rI mm k (va_cpy (mI mm k0) (mI mm k) sp.toNatClampNeg dp.toNatClampNeg n.toNatClampNeg)) s H1 locs1 → W p l e R s m args below meth c H1 locs1 cells slots Q (F0 m (pc + 3) ls rest)) : W p l e R s m args below meth c H locs cells slots Q (F0 m pc ls (.int n :: .int dp :: .ref (ad g k) :: .int sp :: .ref (ad g k0) :: rest)) := by
  obtain ⟨a1, a2⟩ := hW.1.key hT (by omega)
  have hat := (hW.1.2.2.2.2.2.2 k a1 a2).2
  rw [celm, hT, cel_9] at hat
  obtain ⟨n6, eI⟩ := hW.1.2.2.2.2.2.1 k0 h30 h60
  obtain ⟨cs, q1, ⟨q2a, kS, q2b, sC, q2c⟩, q3, q4, q5, q6, q7⟩ := hZ.2
  have hsl : ad g k0 < s.heap.size := (Array.getElem?_eq_some_iff.mp q1).1
  obtain ⟨-, kA, hkA, comp, hkind⟩ := (hK.1.2 0 _ rfl).1 0 (fun _ => .null)
  obtain ⟨h1, h2, h3, h4, h5⟩ := hok
  refine R_cpd (sT := .int) (dT := .int) (fun z => Value.int z) (f := mI mm k0) (h := mI mm k) (n0 := mN mm k0) (n1 := mN mm k) (c1 := g.2 0) hx hb hml hown hlink hnat hstat hini hW a1 a2 (off_rI _ _ _) (cs := cs) (by rw [hW.2.2.1 _ hsl q7]; exact q1) q2a q3 q2b q2c (fun j hj => by rw [n6] at hj; rw [q6 j hj, eI]) (by rw [n6]; exact q4) hat hkA hkind (by decide) h1 h2 h3 h4 h5 (fun _ _ _ _ _ _ => ⟨rfl, trivial⟩) hframes hlocals hdg (fun H1 he => ?_) kk
  rw [celm, (off_rI mm k (va_cpy (mI mm k0) (mI mm k) sp.toNatClampNeg dp.toNatClampNeg n.toNatClampNeg)).2.1, (off_rI mm k (va_cpy (mI mm k0) (mI mm k) sp.toNatClampNeg dp.toNatClampNeg n.toNatClampNeg)).2.2.1, hT, cel_9, rI_I]
  exact he
theorem R_copyO {own : String} {index k k0 : Nat} {sp dp n : Int32} (hx : p.tables.exec = Jvm.exec) (hb : c.code = cc) (hml : c.maxLocals = ls.size) (hown : s.vm.findClass own = some m.cls) (hlink : (Cond.methodLink own index arraycopyName).before args s = true) (hnat : (Cond.native arraycopyName).before args s = true) (hstat : (Cond.static arraycopyName).before args s = true) (hini : (Cond.initialized "java/lang/System").before args s = true) (hK : Kk g s)
    (hW : Wo g mm s H locs) (hT0 : mT mm k0 = 12) (hn0 : k0 ≠ 1) (hT : mT mm k = 12) (hn1 : k ≠ 1) (hok : cpok sp dp n (mN mm k0) (mN mm k)) (hel : ∀ i, i < n.toNatClampNeg → mP mm k0 (sp.toNatClampNeg + i) = 0 ∨ mT mm (mP mm k0 (sp.toNatClampNeg + i)) = 1) (hframes : 1 ≤ R.frames) (hlocals : (rest.map fun v => v.category).sum + (nativeFrameWords "java/lang/System" "arraycopy" 5 + 11) ≤ R.locals) (hdg : decode cc pc = .ok (.invokestatic index, 3))
    (kk : ∀ (H1 : Heap) (locs1 : List Loc), Wo g (rP mm k (va_cpy (mP mm k0) (mP mm k) sp.toNatClampNeg dp.toNatClampNeg n.toNatClampNeg)) s H1 locs1 → W p l e R s m args below meth c H1 locs1 cells slots Q (F0 m (pc + 3) ls rest)) : W p l e R s m args below meth c H locs cells slots Q (F0 m pc ls (.int n :: .int dp :: .ref (ad g k) :: .int sp :: .ref (ad g k0) :: rest)) := by
  obtain ⟨a1, a2⟩ := hW.1.keyO hT hn1
  obtain ⟨b1, b2⟩ := hW.1.keyO hT0 hn0
  have hat := (hW.1.2.2.2.2.2.2 k a1 a2).2
  rw [celm, hT, cel_12] at hat
  have hat0 := (hW.1.2.2.2.2.2.2 k0 b1 b2).2
  rw [celm, hT0, cel_12] at hat0
  obtain ⟨kA, comp, r1, r2, r3, -⟩ := (hK.1.2 3 _ rfl).2
  obtain ⟨kE, hkE, -⟩ := Vm.findClass_spec r3
  obtain ⟨h1, h2, h3, h4, h5⟩ := hok
  refine R_cpd (fun z : Nat => rv g z) (f := mP mm k0) (h := mP mm k) (n0 := mN mm k0) (n1 := mN mm k) (c1 := g.2 3) hx hb hml hown hlink hnat hstat hini hW a1 a2 (off_rP _ _ _) (cs := arrV (g.2 3) (mN mm k0) (fun j => rv g (mP mm k0 j))) hat0 (fun _ h => by cases h) (fun h => by cases h) r1 r2 (fun j hj => arrV_read _ _ hj) (by rw [arrV_size]; exact Nat.le_refl _) hat r1 r2 rfl h1 h2 h3 h4 h5 (fun T vm₁ hT hal i hi => ?_) hframes hlocals hdg (fun H1 he => ?_) kk
  · rcases hel i hi with h | h
    · rw [h]
      exact ⟨rfl, trivial⟩
    · have hz : mP mm k0 (sp.toNatClampNeg + i) ≠ 0 := by have := (hW.1.key h (by omega)).1; omega
      obtain ⟨cellV, g1, g2, ⟨kC, hkC⟩, hasg⟩ := R_any hK hW h
      obtain ⟨kC', hkC', -⟩ := hal.2.2 _ _ hkC
      obtain ⟨kE', hkE', -⟩ := hal.2.2 _ _ hkE
      rw [rv_pos g hz]
      refine ⟨rfl, cellV, (show T.heap[_]? = some cellV by rw [hT]; exact g1), (fun q h => by rw [h] at g2; cases g2), ⟨kC', hkC'⟩, ⟨kE', hkE'⟩, ?_⟩
      show vm₁.assignable _ _ = true
      rw [hal.assignable]
      exact hasg _ r3
  · rw [celm, (off_rP mm k (va_cpy (mP mm k0) (mP mm k) sp.toNatClampNeg dp.toNatClampNeg n.toNatClampNeg)).2.1, (off_rP mm k (va_cpy (mP mm k0) (mP mm k) sp.toNatClampNeg dp.toNatClampNeg n.toNatClampNeg)).2.2.1, hT, cel_12, rP_P]
    exact he
/-- is it the empty list's array? -/
theorem R_acmpeq1 {x : Nat} {off : Int} {tgt : Nat} (hx : p.tables.exec = Jvm.exec) (hb : c.code = cc) (hK : Kk g s) (h8 : x = 1 ∨ 8 ≤ x) (hdg : decode cc pc = .ok (.if_acmp .eq off, 3)) (ht : (pc : Int) + off = (tgt : Int)) (kt : x = 1 → W p l e R s m args below meth c H locs cells slots Q (F0 m tgt ls rest)) (kf : ¬ x = 1 → W p l e R s m args below meth c H locs cells slots Q (F0 m (pc + 3) ls rest)) : W p l e R s m args below meth c H locs cells slots Q (F0 m pc ls (.ref (ad g 1) :: .ref (ad g x) :: rest)) := by
  have hA : ¬ g.2 4 ≤ ad g 1 := hK.2.2.2.1.2.out
  refine lv_acmp_eq (rx := some (ad g x)) (ry := some (ad g 1)) hx hb hdg ht (fun h => kt ?_) (fun h => kf ?_)
  · rcases h8 with e | e
    · exact e
    · have := Option.some.inj h
      rw [ad_ge g e] at this
      omega
  · intro e
    exact h (by rw [e])
theorem R_acmpne2 {off : Int} (hx : p.tables.exec = Jvm.exec) (hb : c.code = cc) {tgt : Nat} (hdg : decode cc pc = .ok (.if_acmp .ne off, 3)) (ht : (pc : Int) + off = (tgt : Int)) (kf : W p l e R s m args below meth c H locs cells slots Q (F0 m (pc + 3) ls rest)) : W p l e R s m args below meth c H locs cells slots Q (F0 m pc ls (.ref (ad g 2) :: .ref (ad g 2) :: rest)) :=
  lv_acmp_ne (rx := some (ad g 2)) (ry := some (ad g 2)) hx hb hdg ht (fun h => absurd rfl h) (fun _ => kf)
theorem R_recvO {k : Nat} (hK : Kk g s) (hW : Wo g mm s H locs) (hT : mT mm k = 12) (h1 : k ≠ 1) : ∃ cell : Cell, H[ad g k]? = some cell ∧ cell.vm.isStatics = false ∧ s.vm.findClass "[Ljava/lang/Object;" = some cell.cls := by
  obtain ⟨a1, a2⟩ := hW.1.keyO hT h1
  have hat := (hW.1.2.2.2.2.2.2 k a1 a2).2
  rw [celm, hT, cel_12] at hat
  obtain ⟨kA, comp, r1, r2, r3, r4⟩ := (hK.1.2 3 _ rfl).2
  exact ⟨_, hat, rfl, r4⟩
end ROWS3
end
section
def wp_X6_within (m0 : Mm) (v0 : Int32) (v1 : Int32) (v2 : Int32) (Φ : Int32 → Mm → Prop) : Prop :=
  ((v0 < v1 → Φ (0 : Int32) m0) ∧ (¬ v0 < v1 → ((v2 < v0 → Φ (0 : Int32) m0) ∧ (¬ v2 < v0 → Φ (1 : Int32) m0))))
abbrev rm_X6_within : Room := { frames := 0, cells := 0, slots := 0, locals := 0 }
set_option maxHeartbeats 4000000 in
set_option maxRecDepth 100000 in
theorem c_X6_within (l : Launch) (g : Gv) (m0 : Mm) (v0 : Int32) (v1 : Int32) (v2 : Int32) (Φ : Int32 → Mm → Prop) (hw : wp_X6_within m0 v0 v1 v2 Φ) : Met l yX6_within wsX6_within rm_X6_within (PP g [.int v0, .int v1, .int v2] m0) (QQ g vI Φ) 0 0 (Ag g) := by
  refine CT_of (by decide) rfl (Nat.le_of_ble_eq_true rfl) ?_
  intro p e s m below meth c hx hb hr hml hown hts hlk hnm hK hW ls hl
  have hown : s.vm.findClass RX6 = some m.cls := hown
  have hl : lv_has ls 3 [(0, .int v0), (1, .int v1), (2, .int v2)] := hl
  unfold wp_X6_within at hw
  refine lv_iload_n hx hb dX6_within_0 rfl (lv_at hl 0 rfl) ?_
  refine lv_iload_n hx hb dX6_within_1 rfl (lv_at hl 1 rfl) ?_
  refine lv_icmp_lt (tgt := 14) hx hb dX6_within_2 (by decide) (fun c1 => ?_) (fun c1 => ?_)
  · have hw := hw.1 c1
    refine lv_iconst (v := (0 : Int32)) hx hb dX6_within_14 (by decide) ?_
    exact R_zret hx hb hr hlk hW (Or.inl rfl) hw dX6_within_15
  · have hw := hw.2 c1
    refine lv_iload_n hx hb dX6_within_5 rfl (lv_at hl 0 rfl) ?_
    refine lv_iload_n hx hb dX6_within_6 rfl (lv_at hl 2 rfl) ?_
    refine lv_icmp_gt (tgt := 14) hx hb dX6_within_7 (by decide) (fun c2 => ?_) (fun c2 => ?_)
    · have hw := hw.1 c2
      refine lv_iconst (v := (0 : Int32)) hx hb dX6_within_14 (by decide) ?_
      exact R_zret hx hb hr hlk hW (Or.inl rfl) hw dX6_within_15
    · have hw := hw.2 c2
      refine lv_iconst (v := (1 : Int32)) hx hb dX6_within_10 (by decide) ?_
      refine lv_goto (tgt := 15) hx hb dX6_within_11 (by decide) ?_
      exact R_zret hx hb hr hlk hW (Or.inr rfl) hw dX6_within_15

def wp_X6_isSide (m0 : Mm) (v0 : Int32) (Φ : Int32 → Mm → Prop) : Prop :=
  ((v0 = 0 → Φ (1 : Int32) m0) ∧ (¬ v0 = 0 → ((¬ v0 = (1 : Int32) → Φ (0 : Int32) m0) ∧ (v0 = (1 : Int32) → Φ (1 : Int32) m0))))
abbrev rm_X6_isSide : Room := { frames := 0, cells := 0, slots := 0, locals := 0 }
set_option maxHeartbeats 4000000 in
set_option maxRecDepth 100000 in
theorem c_X6_isSide (l : Launch) (g : Gv) (m0 : Mm) (v0 : Int32) (Φ : Int32 → Mm → Prop) (hw : wp_X6_isSide m0 v0 Φ) : Met l yX6_isSide wsX6_isSide rm_X6_isSide (PP g [.int v0] m0) (QQ g vI Φ) 0 0 (Ag g) := by
  refine CT_of (by decide) rfl (Nat.le_of_ble_eq_true rfl) ?_
  intro p e s m below meth c hx hb hr hml hown hts hlk hnm hK hW ls hl
  have hown : s.vm.findClass RX6 = some m.cls := hown
  have hl : lv_has ls 1 [(0, .int v0)] := hl
  unfold wp_X6_isSide at hw
  refine lv_iload_n hx hb dX6_isSide_0 rfl (lv_at hl 0 rfl) ?_
  refine lv_if_eq (tgt := 9) hx hb dX6_isSide_1 (by decide) (fun c1 => ?_) (fun c1 => ?_)
  · have hw := hw.1 c1
    refine lv_iconst (v := (1 : Int32)) hx hb dX6_isSide_9 (by decide) ?_
    refine lv_goto (tgt := 14) hx hb dX6_isSide_10 (by decide) ?_
    exact R_zret hx hb hr hlk hW (Or.inr rfl) hw dX6_isSide_14
  · have hw := hw.2 c1
    refine lv_iload_n hx hb dX6_isSide_4 rfl (lv_at hl 0 rfl) ?_
    refine lv_iconst (v := (1 : Int32)) hx hb dX6_isSide_5 (by decide) ?_
    refine lv_icmp_ne (tgt := 13) hx hb dX6_isSide_6 (by decide) (fun c2 => ?_) (fun c2 => ?_)
    · have hw := hw.1 c2
      refine lv_iconst (v := (0 : Int32)) hx hb dX6_isSide_13 (by decide) ?_
      exact R_zret hx hb hr hlk hW (Or.inl rfl) hw dX6_isSide_14
    · have hw := hw.2 c2
      refine lv_iconst (v := (1 : Int32)) hx hb dX6_isSide_9 (by decide) ?_
      refine lv_goto (tgt := 14) hx hb dX6_isSide_10 (by decide) ?_
      exact R_zret hx hb hr hlk hW (Or.inr rfl) hw dX6_isSide_14

def wp_X6_isMinute (m0 : Mm) (v0 : Int32) (Φ : Int32 → Mm → Prop) : Prop :=
  wp_X6_within m0 v0 (0 : Int32) (20000 : Int32) (fun (r1 : Int32) (m2 : Mm) => (r1 = 0 ∨ r1 = 1) ∧ Φ r1 m2)
abbrev rm_X6_isMinute : Room := { frames := 1, cells := 0, slots := 0, locals := 22 }
set_option maxHeartbeats 4000000 in
set_option maxRecDepth 100000 in
theorem c_X6_isMinute (l : Launch) (g : Gv) (m0 : Mm) (v0 : Int32) (Φ : Int32 → Mm → Prop) (hw : wp_X6_isMinute m0 v0 Φ) : Met l yX6_isMinute wsX6_isMinute rm_X6_isMinute (PP g [.int v0] m0) (QQ g vI Φ) 0 0 (Ag g) := by
  refine CT_of (by decide) rfl (Nat.le_of_ble_eq_true rfl) ?_
  intro p e s m below meth c hx hb hr hml hown hts hlk hnm hK hW ls hl
  have hown : s.vm.findClass RX6 = some m.cls := hown
  have hl : lv_has ls 1 [(0, .int v0)] := hl
  unfold wp_X6_isMinute at hw
  refine lv_iload_n hx hb dX6_isMinute_0 rfl (lv_at hl 0 rfl) ?_
  refine lv_iconst (v := (0 : Int32)) hx hb dX6_isMinute_1 (by decide) ?_
  refine lv_sipush (v := (20000 : Int32)) hx hb dX6_isMinute_2 (by decide) ?_
  refine R_call (va_runS (As := [.int v0, .int (0 : Int32), .int (20000 : Int32)]) (rest := []) ⟨hx, hb, hml, hown, hts⟩ (c_X6_within l g m0 v0 (0 : Int32) (20000 : Int32) _ hw) (va_cwS 3 hts gX6_isMinute_X6_within rfl rfl rfl (by decide +kernel) ⟨by decide, by decide⟩) (PP.pre hK hW) rfl rfl hl.1 rfl (lv_room (Nat.le_of_ble_eq_true rfl)) dX6_isMinute_5 ⟨by decide, by decide⟩) hW (fun r1 m2 H locs hw hW => ?_)
  refine W.eq (g2 := F0 m 8 ls [.int r1]) rfl ?_
  exact R_zret hx hb hr hlk hW hw.1 hw.2 dX6_isMinute_8

def wp_X6_otherSide (m0 : Mm) (v0 : Int32) (Φ : Int32 → Mm → Prop) : Prop :=
  ((¬ v0 = 0 → Φ (0 : Int32) m0) ∧ (v0 = 0 → Φ (1 : Int32) m0))
abbrev rm_X6_otherSide : Room := { frames := 0, cells := 0, slots := 0, locals := 0 }
set_option maxHeartbeats 4000000 in
set_option maxRecDepth 100000 in
theorem c_X6_otherSide (l : Launch) (g : Gv) (m0 : Mm) (v0 : Int32) (Φ : Int32 → Mm → Prop) (hw : wp_X6_otherSide m0 v0 Φ) : Met l yX6_otherSide wsX6_otherSide rm_X6_otherSide (PP g [.int v0] m0) (QQ g vI Φ) 0 0 (Ag g) := by
  refine CT_of (by decide) rfl (Nat.le_of_ble_eq_true rfl) ?_
  intro p e s m below meth c hx hb hr hml hown hts hlk hnm hK hW ls hl
  have hown : s.vm.findClass RX6 = some m.cls := hown
  have hl : lv_has ls 1 [(0, .int v0)] := hl
  unfold wp_X6_otherSide at hw
  refine lv_iload_n hx hb dX6_otherSide_0 rfl (lv_at hl 0 rfl) ?_
  refine lv_if_ne (tgt := 8) hx hb dX6_otherSide_1 (by decide) (fun c1 => ?_) (fun c1 => ?_)
  · have hw := hw.1 c1
    refine lv_iconst (v := (0 : Int32)) hx hb dX6_otherSide_8 (by decide) ?_
    exact R_iret hx hb hr hlk hW hw dX6_otherSide_9
  · have hw := hw.2 c1
    refine lv_iconst (v := (1 : Int32)) hx hb dX6_otherSide_4 (by decide) ?_
    refine lv_goto (tgt := 9) hx hb dX6_otherSide_5 (by decide) ?_
    exact R_iret hx hb hr hlk hW hw dX6_otherSide_9

def wp_X3_size (m0 : Mm) (v0 : Nat) (Φ : Int32 → Mm → Prop) : Prop :=
  mT m0 v0 = 4 ∧ Φ (mI m0 v0 1) m0
abbrev rm_X3_size : Room := { frames := 0, cells := 0, slots := 0, locals := 0 }
set_option maxHeartbeats 4000000 in
set_option maxRecDepth 100000 in
theorem c_X3_size (l : Launch) (g : Gv) (m0 : Mm) (v0 : Nat) (Φ : Int32 → Mm → Prop) (hw : wp_X3_size m0 v0 Φ) : Met l yX3_size wsX3_size rm_X3_size (PP g [.ref (ad g v0)] m0) (QQ g vI Φ) 0 0 (Ag g) := by
  refine CT_of (by decide) rfl (Nat.le_of_ble_eq_true rfl) ?_
  intro p e s m below meth c hx hb hr hml hown hts hlk hnm hK hW ls hl
  have hown : s.vm.findClass RX3 = some m.cls := hown
  have hl : lv_has ls 1 [(0, .ref (ad g v0))] := hl
  have i4 : ∀ w ∈ u_ws RX3 TX3 2, w ∈ wsX3_size := by decide +kernel
  unfold wp_X3_size at hw
  refine lv_aload_n hx hb dX3_size_0 rfl (lv_at hl 0 rfl) ?_
  refine R_getI (C := RX3) (T := TX3) (N := 2) hx hb hts i4 hown hK hW 1 hw.1 (by decide) rfl (by decide) (hts (.fieldLink RX3 15 "BoatLift$Tape" "size" "I") (by decide +kernel)) (fun _ h => h) (fun _ _ _ => rfl) dX3_size_1 ?_
  have hw := hw.2
  exact R_iret hx hb hr hlk hW hw dX3_size_4

def wp_X3_hasRoom (m0 : Mm) (v0 : Nat) (Φ : Int32 → Mm → Prop) : Prop :=
  mT m0 v0 = 4 ∧ (((60 : Int32) < ((mI m0 v0 1) + (20 : Int32)) → Φ (0 : Int32) m0) ∧ (¬ (60 : Int32) < ((mI m0 v0 1) + (20 : Int32)) → Φ (1 : Int32) m0))
abbrev rm_X3_hasRoom : Room := { frames := 0, cells := 0, slots := 0, locals := 0 }
set_option maxHeartbeats 4000000 in
set_option maxRecDepth 100000 in
theorem c_X3_hasRoom (l : Launch) (g : Gv) (m0 : Mm) (v0 : Nat) (Φ : Int32 → Mm → Prop) (hw : wp_X3_hasRoom m0 v0 Φ) : Met l yX3_hasRoom wsX3_hasRoom rm_X3_hasRoom (PP g [.ref (ad g v0)] m0) (QQ g vI Φ) 0 0 (Ag g) := by
  refine CT_of (by decide) rfl (Nat.le_of_ble_eq_true rfl) ?_
  intro p e s m below meth c hx hb hr hml hown hts hlk hnm hK hW ls hl
  have hown : s.vm.findClass RX3 = some m.cls := hown
  have hl : lv_has ls 1 [(0, .ref (ad g v0))] := hl
  have i4 : ∀ w ∈ u_ws RX3 TX3 2, w ∈ wsX3_hasRoom := by decide +kernel
  unfold wp_X3_hasRoom at hw
  refine lv_aload_n hx hb dX3_hasRoom_0 rfl (lv_at hl 0 rfl) ?_
  refine R_getI (C := RX3) (T := TX3) (N := 2) hx hb hts i4 hown hK hW 1 hw.1 (by decide) rfl (by decide) (hts (.fieldLink RX3 15 "BoatLift$Tape" "size" "I") (by decide +kernel)) (fun _ h => h) (fun _ _ _ => rfl) dX3_hasRoom_1 ?_
  have hw := hw.2
  refine lv_bipush (v := (20 : Int32)) hx hb dX3_hasRoom_4 (by decide) ?_
  refine lv_iadd hx hb dX3_hasRoom_6 ?_
  refine lv_bipush (v := (60 : Int32)) hx hb dX3_hasRoom_7 (by decide) ?_
  refine lv_icmp_gt (tgt := 16) hx hb dX3_hasRoom_9 (by decide) (fun c1 => ?_) (fun c1 => ?_)
  · have hw := hw.1 c1
    refine lv_iconst (v := (0 : Int32)) hx hb dX3_hasRoom_16 (by decide) ?_
    exact R_zret hx hb hr hlk hW (Or.inl rfl) hw dX3_hasRoom_17
  · have hw := hw.2 c1
    refine lv_iconst (v := (1 : Int32)) hx hb dX3_hasRoom_12 (by decide) ?_
    refine lv_goto (tgt := 17) hx hb dX3_hasRoom_13 (by decide) ?_
    exact R_zret hx hb hr hlk hW (Or.inr rfl) hw dX3_hasRoom_17

def wp_X3_put_3 (K3 : Int32 → Mm → Prop) (v0 : Nat) (v1 : Int32) (v2 : Int32) (mm : Mm) (Φ : Unit → Mm → Prop) : Prop :=
  ((v2 < 0 → Φ () mm) ∧ (¬ v2 < 0 → mT mm v0 = 4 ∧ (((60 : Int32) ≤ (mI mm v0 1) → Φ () mm) ∧ (¬ (60 : Int32) ≤ (mI mm v0 1) → mT mm v0 = 4 ∧ (mP mm v0 0) ≠ 0 ∧ mT mm v0 = 4 ∧ mT mm (mP mm v0 0) = 9 ∧ vp_in (mI mm v0 1) (mN mm (mP mm v0 0)) ∧ ∀ m3 : Mm, m3 = sI mm (mP mm v0 0) (mI mm v0 1).toNatClampNeg ((v1.toUInt32 >>> (v2.toUInt32 &&& Int32.toUInt32 31)).toInt32 &&& (255 : Int32)) → mT m3 v0 = 4 ∧ mT m3 v0 = 4 ∧ ∀ m4 : Mm, m4 = sI m3 v0 1 ((mI m3 v0 1) + (1 : Int32)) → K3 (v2 + (-8 : Int32)) m4))))
def wp_X3_put (m0 : Mm) (v0 : Nat) (v1 : Int32) (Φ : Unit → Mm → Prop) : Prop :=
  ∃ n, LOp (fun K x => wp_X3_put_3  (fun z0 z1 => K (z0, z1)) v0 v1 x.1 x.2 Φ) n ((24 : Int32), m0)
abbrev rm_X3_put : Room := { frames := 0, cells := 0, slots := 0, locals := 0 }
set_option maxHeartbeats 4000000 in
set_option maxRecDepth 100000 in
theorem c_X3_put (l : Launch) (g : Gv) (m0 : Mm) (v0 : Nat) (v1 : Int32) (Φ : Unit → Mm → Prop) (hw : wp_X3_put m0 v0 v1 Φ) : Met l yX3_put wsX3_put rm_X3_put (PP g [.ref (ad g v0), .int v1] m0) (QQ g vV Φ) 0 0 (Ag g) := by
  refine CT_of (by decide) rfl (Nat.le_of_ble_eq_true rfl) ?_
  intro p e s m below meth c hx hb hr hml hown hts hlk hnm hK hW ls hl
  have hown : s.vm.findClass RX3 = some m.cls := hown
  have hl : lv_has ls 3 [(0, .ref (ad g v0)), (1, .int v1)] := hl
  have i4 : ∀ w ∈ u_ws RX3 TX3 2, w ∈ wsX3_put := by decide +kernel
  have L3 : ∀ (n : Nat) (v2 : Int32) (mm : Mm), LOp (fun K x => wp_X3_put_3  (fun z0 z1 => K (z0, z1)) v0 v1 x.1 x.2 Φ) n (v2, mm) → WW p l e rm_X3_put s m ([.ref (ad g v0), .int v1] : List Value).toArray below meth c (MQ below (QQ g vV Φ) ([.ref (ad g v0), .int v1] : List Value).toArray s 0 0 (Ag g)) g mm 3 0 0 3 [(0, .ref (ad g v0)), (1, .int v1), (2, .int v2)] [] := by
    intro  n
    induction n with
    | zero => intro v2 mm hw; exact hw.elim
    | succ n ih3 =>
      obtain ⟨K3, eK3⟩ : ∃ K : Int32 → Mm → Prop, K = fun v2 mm => LOp (fun K x => wp_X3_put_3  (fun z0 z1 => K (z0, z1)) v0 v1 x.1 x.2 Φ) n (v2, mm) := ⟨_, rfl⟩
      have ih3 : ∀ (v2 : Int32) (mm : Mm), K3 v2 mm → WW p l e rm_X3_put s m ([.ref (ad g v0), .int v1] : List Value).toArray below meth c (MQ below (QQ g vV Φ) ([.ref (ad g v0), .int v1] : List Value).toArray s 0 0 (Ag g)) g mm 3 0 0 3 [(0, .ref (ad g v0)), (1, .int v1), (2, .int v2)] [] := by rw [eK3]; exact ih3
      intro v2 mm hw H locs ls hW hl
      have hw : wp_X3_put_3 K3 v0 v1 v2 mm Φ := by rw [eK3]; exact hw
      unfold wp_X3_put_3 at hw
      refine lv_iload_n hx hb dX3_put_3 rfl (lv_at hl 2 rfl) ?_
      refine lv_if_lt (tgt := 48) hx hb dX3_put_4 (by decide) (fun c1 => ?_) (fun c1 => ?_)
      · have hw := hw.1 c1
        exact R_vret hx hb hr hlk hW hw dX3_put_48
      · have hw := hw.2 c1
        refine lv_aload_n hx hb dX3_put_7 rfl (lv_at hl 0 rfl) ?_
        refine R_getI (C := RX3) (T := TX3) (N := 2) hx hb hts i4 hown hK hW 1 hw.1 (by decide) rfl (by decide) (hts (.fieldLink RX3 15 "BoatLift$Tape" "size" "I") (by decide +kernel)) (fun _ h => h) (fun _ _ _ => rfl) dX3_put_8 ?_
        have hw := hw.2
        refine lv_bipush (v := (60 : Int32)) hx hb dX3_put_11 (by decide) ?_
        refine lv_icmp_ge (tgt := 48) hx hb dX3_put_13 (by decide) (fun c2 => ?_) (fun c2 => ?_)
        · have hw := hw.1 c2
          exact R_vret hx hb hr hlk hW hw dX3_put_48
        · have hw := hw.2 c2
          refine lv_aload_n hx hb dX3_put_16 rfl (lv_at hl 0 rfl) ?_
          refine R_getP (C := RX3) (T := TX3) (N := 2) hx hb hts i4 hown hK hW 0 hw.1 (by decide) rfl (by decide) (hts (.fieldLink RX3 11 "BoatLift$Tape" "bytes" "[I") (by decide +kernel)) (fun _ h => h) (fun _ _ _ => rfl) hw.2.1 dX3_put_17 ?_
          have hw := hw.2.2
          refine lv_aload_n hx hb dX3_put_20 rfl (lv_at hl 0 rfl) ?_
          refine R_getI (C := RX3) (T := TX3) (N := 2) hx hb hts i4 hown hK hW 1 hw.1 (by decide) rfl (by decide) (hts (.fieldLink RX3 15 "BoatLift$Tape" "size" "I") (by decide +kernel)) (fun _ h => h) (fun _ _ _ => rfl) dX3_put_21 ?_
          have hw := hw.2
          refine lv_iload_n hx hb dX3_put_24 rfl (lv_at hl 1 rfl) ?_
          refine lv_iload_n hx hb dX3_put_25 rfl (lv_at hl 2 rfl) ?_
          refine lv_iushr (v := (v1.toUInt32 >>> (v2.toUInt32 &&& Int32.toUInt32 31)).toInt32) hx hb dX3_put_26 rfl ?_
          refine lv_sipush (v := (255 : Int32)) hx hb dX3_put_27 (by decide) ?_
          refine lv_iand hx hb dX3_put_30 ?_
          refine R_iast hx hb hK hW hw.1 hw.2.1 dX3_put_31 (fun H locs hW => ?_)
          obtain ⟨m3, em3⟩ : ∃ z, z = sI mm (mP mm v0 0) (mI mm v0 1).toNatClampNeg ((v1.toUInt32 >>> (v2.toUInt32 &&& Int32.toUInt32 31)).toInt32 &&& (255 : Int32)) := ⟨_, rfl⟩
          rw [← em3] at hW
          have hw := hw.2.2 m3 em3
          refine lv_aload_n hx hb dX3_put_32 rfl (lv_at hl 0 rfl) ?_
          refine lv_dup hx hb dX3_put_33 rfl ?_
          refine R_getI (C := RX3) (T := TX3) (N := 2) hx hb hts i4 hown hK hW 1 hw.1 (by decide) rfl (by decide) (hts (.fieldLink RX3 15 "BoatLift$Tape" "size" "I") (by decide +kernel)) (fun _ h => h) (fun _ _ _ => rfl) dX3_put_34 ?_
          have hw := hw.2
          refine lv_iconst (v := (1 : Int32)) hx hb dX3_put_37 (by decide) ?_
          refine lv_iadd hx hb dX3_put_38 ?_
          refine R_putI (C := RX3) (T := TX3) (N := 2) hx hb hts i4 tyX3 tyX3_ok nmX3 hown hK hW 1 hw.1 (by decide) rfl (by decide) (hts (.fieldLink RX3 15 "BoatLift$Tape" "size" "I") (by decide +kernel)) (fun _ h => h) (Or.inl rfl) rfl (fun _ _ _ => rfl) (fun _ _ _ => rfl) dX3_put_39 (fun H locs hW => ?_)
          obtain ⟨m4, em4⟩ : ∃ z, z = sI m3 v0 1 ((mI m3 v0 1) + (1 : Int32)) := ⟨_, rfl⟩
          rw [← em4] at hW
          have hw := hw.2 m4 em4
          refine lv_iinc (v := (v2 + (-8 : Int32))) (lv' := [(2, .int (v2 + (-8 : Int32))), (0, .ref (ad g v0)), (1, .int v1)]) hx hb dX3_put_42 hl (k := 2) rfl rfl (by decide) rfl (fun ls hl => ?_)
          refine lv_goto (tgt := 3) hx hb dX3_put_45 (by decide) ?_
          exact ih3 (v2 + (-8 : Int32)) m4 hw _ _ _ hW (lv_sub hl [1, 2, 0] rfl)
  unfold wp_X3_put at hw
  refine lv_bipush (v := (24 : Int32)) hx hb dX3_put_0 (by decide) ?_
  refine lv_istore_n (lv' := [(2, .int (24 : Int32)), (0, .ref (ad g v0)), (1, .int v1)]) hx hb dX3_put_2 rfl hl (by decide) rfl (fun ls hl => ?_)
  obtain ⟨n, hw⟩ := hw
  exact L3  n (24 : Int32) m0 hw _ _ _ hW (lv_sub hl [1, 2, 0] rfl)

def wp_X3_at (m0 : Mm) (v0 : Nat) (v1 : Int32) (Φ : Int32 → Mm → Prop) : Prop :=
  ((v1 < 0 → Φ (-1 : Int32) m0) ∧ (¬ v1 < 0 → mT m0 v0 = 4 ∧ (((mI m0 v0 1) ≤ v1 → Φ (-1 : Int32) m0) ∧ (¬ (mI m0 v0 1) ≤ v1 → mT m0 v0 = 4 ∧ (mP m0 v0 0) ≠ 0 ∧ mT m0 (mP m0 v0 0) = 9 ∧ vp_in v1 (mN m0 (mP m0 v0 0)) ∧ Φ (mI m0 (mP m0 v0 0) v1.toNatClampNeg) m0))))
abbrev rm_X3_at : Room := { frames := 0, cells := 0, slots := 0, locals := 0 }
set_option maxHeartbeats 4000000 in
set_option maxRecDepth 100000 in
theorem c_X3_at (l : Launch) (g : Gv) (m0 : Mm) (v0 : Nat) (v1 : Int32) (Φ : Int32 → Mm → Prop) (hw : wp_X3_at m0 v0 v1 Φ) : Met l yX3_at wsX3_at rm_X3_at (PP g [.ref (ad g v0), .int v1] m0) (QQ g vI Φ) 0 0 (Ag g) := by
  refine CT_of (by decide) rfl (Nat.le_of_ble_eq_true rfl) ?_
  intro p e s m below meth c hx hb hr hml hown hts hlk hnm hK hW ls hl
  have hown : s.vm.findClass RX3 = some m.cls := hown
  have hl : lv_has ls 2 [(0, .ref (ad g v0)), (1, .int v1)] := hl
  have i4 : ∀ w ∈ u_ws RX3 TX3 2, w ∈ wsX3_at := by decide +kernel
  unfold wp_X3_at at hw
  refine lv_iload_n hx hb dX3_at_0 rfl (lv_at hl 1 rfl) ?_
  refine lv_if_lt (tgt := 21) hx hb dX3_at_1 (by decide) (fun c1 => ?_) (fun c1 => ?_)
  · have hw := hw.1 c1
    refine lv_iconst (v := (-1 : Int32)) hx hb dX3_at_21 (by decide) ?_
    exact R_iret hx hb hr hlk hW hw dX3_at_22
  · have hw := hw.2 c1
    refine lv_iload_n hx hb dX3_at_4 rfl (lv_at hl 1 rfl) ?_
    refine lv_aload_n hx hb dX3_at_5 rfl (lv_at hl 0 rfl) ?_
    refine R_getI (C := RX3) (T := TX3) (N := 2) hx hb hts i4 hown hK hW 1 hw.1 (by decide) rfl (by decide) (hts (.fieldLink RX3 15 "BoatLift$Tape" "size" "I") (by decide +kernel)) (fun _ h => h) (fun _ _ _ => rfl) dX3_at_6 ?_
    have hw := hw.2
    refine lv_icmp_ge (tgt := 21) hx hb dX3_at_9 (by decide) (fun c2 => ?_) (fun c2 => ?_)
    · have hw := hw.1 c2
      refine lv_iconst (v := (-1 : Int32)) hx hb dX3_at_21 (by decide) ?_
      exact R_iret hx hb hr hlk hW hw dX3_at_22
    · have hw := hw.2 c2
      refine lv_aload_n hx hb dX3_at_12 rfl (lv_at hl 0 rfl) ?_
      refine R_getP (C := RX3) (T := TX3) (N := 2) hx hb hts i4 hown hK hW 0 hw.1 (by decide) rfl (by decide) (hts (.fieldLink RX3 11 "BoatLift$Tape" "bytes" "[I") (by decide +kernel)) (fun _ h => h) (fun _ _ _ => rfl) hw.2.1 dX3_at_13 ?_
      have hw := hw.2.2
      refine lv_iload_n hx hb dX3_at_16 rfl (lv_at hl 1 rfl) ?_
      refine R_iald hx hb hK hW hw.1 hw.2.1 dX3_at_17 ?_
      have hw := hw.2.2
      refine lv_goto (tgt := 22) hx hb dX3_at_18 (by decide) ?_
      exact R_iret hx hb hr hlk hW hw dX3_at_22

def wp_X3_empty (m0 : Mm) (v0 : Nat) (Φ : Unit → Mm → Prop) : Prop :=
  mT m0 v0 = 4 ∧ ∀ m1 : Mm, m1 = sI m0 v0 1 (0 : Int32) → Φ () m1
abbrev rm_X3_empty : Room := { frames := 0, cells := 0, slots := 0, locals := 0 }
set_option maxHeartbeats 4000000 in
set_option maxRecDepth 100000 in
theorem c_X3_empty (l : Launch) (g : Gv) (m0 : Mm) (v0 : Nat) (Φ : Unit → Mm → Prop) (hw : wp_X3_empty m0 v0 Φ) : Met l yX3_empty wsX3_empty rm_X3_empty (PP g [.ref (ad g v0)] m0) (QQ g vV Φ) 0 0 (Ag g) := by
  refine CT_of (by decide) rfl (Nat.le_of_ble_eq_true rfl) ?_
  intro p e s m below meth c hx hb hr hml hown hts hlk hnm hK hW ls hl
  have hown : s.vm.findClass RX3 = some m.cls := hown
  have hl : lv_has ls 1 [(0, .ref (ad g v0))] := hl
  have i4 : ∀ w ∈ u_ws RX3 TX3 2, w ∈ wsX3_empty := by decide +kernel
  unfold wp_X3_empty at hw
  refine lv_aload_n hx hb dX3_empty_0 rfl (lv_at hl 0 rfl) ?_
  refine lv_iconst (v := (0 : Int32)) hx hb dX3_empty_1 (by decide) ?_
  refine R_putI (C := RX3) (T := TX3) (N := 2) hx hb hts i4 tyX3 tyX3_ok nmX3 hown hK hW 1 hw.1 (by decide) rfl (by decide) (hts (.fieldLink RX3 15 "BoatLift$Tape" "size" "I") (by decide +kernel)) (fun _ h => h) (Or.inl rfl) rfl (fun _ _ _ => rfl) (fun _ _ _ => rfl) dX3_empty_2 (fun H locs hW => ?_)
  obtain ⟨m1, em1⟩ : ∃ z, z = sI m0 v0 1 (0 : Int32) := ⟨_, rfl⟩
  rw [← em1] at hW
  have hw := hw.2 m1 em1
  exact R_vret hx hb hr hlk hW hw dX3_empty_5
end
section
def wp_X7_lies (m0 : Mm) (v0 : Int32) (v1 : Int32) (v2 : Int32) (Φ : Int32 → Mm → Prop) : Prop :=
  ((v0 < v1 → Φ (0 : Int32) m0) ∧ (¬ v0 < v1 → ((v2 < v0 → Φ (0 : Int32) m0) ∧ (¬ v2 < v0 → Φ (1 : Int32) m0))))
abbrev rm_X7_lies : Room := { frames := 0, cells := 0, slots := 0, locals := 0 }
set_option maxHeartbeats 4000000 in
set_option maxRecDepth 100000 in
theorem c_X7_lies (l : Launch) (g : Gv) (m0 : Mm) (v0 : Int32) (v1 : Int32) (v2 : Int32) (Φ : Int32 → Mm → Prop) (hw : wp_X7_lies m0 v0 v1 v2 Φ) : Met l yX7_lies wsX7_lies rm_X7_lies (PP g [.int v0, .int v1, .int v2] m0) (QQ g vI Φ) 0 0 (Ag g) := by
  refine CT_of (by decide) rfl (Nat.le_of_ble_eq_true rfl) ?_
  intro p e s m below meth c hx hb hr hml hown hts hlk hnm hK hW ls hl
  have hown : s.vm.findClass RX7 = some m.cls := hown
  have hl : lv_has ls 3 [(0, .int v0), (1, .int v1), (2, .int v2)] := hl
  unfold wp_X7_lies at hw
  refine lv_iload_n hx hb dX7_lies_0 rfl (lv_at hl 0 rfl) ?_
  refine lv_iload_n hx hb dX7_lies_1 rfl (lv_at hl 1 rfl) ?_
  refine lv_icmp_lt (tgt := 14) hx hb dX7_lies_2 (by decide) (fun c1 => ?_) (fun c1 => ?_)
  · have hw := hw.1 c1
    refine lv_iconst (v := (0 : Int32)) hx hb dX7_lies_14 (by decide) ?_
    exact R_zret hx hb hr hlk hW (Or.inl rfl) hw dX7_lies_15
  · have hw := hw.2 c1
    refine lv_iload_n hx hb dX7_lies_5 rfl (lv_at hl 0 rfl) ?_
    refine lv_iload_n hx hb dX7_lies_6 rfl (lv_at hl 2 rfl) ?_
    refine lv_icmp_gt (tgt := 14) hx hb dX7_lies_7 (by decide) (fun c2 => ?_) (fun c2 => ?_)
    · have hw := hw.1 c2
      refine lv_iconst (v := (0 : Int32)) hx hb dX7_lies_14 (by decide) ?_
      exact R_zret hx hb hr hlk hW (Or.inl rfl) hw dX7_lies_15
    · have hw := hw.2 c2
      refine lv_iconst (v := (1 : Int32)) hx hb dX7_lies_10 (by decide) ?_
      refine lv_goto (tgt := 15) hx hb dX7_lies_11 (by decide) ?_
      exact R_zret hx hb hr hlk hW (Or.inr rfl) hw dX7_lies_15

def wp_X7_push_3 (K3 : Int32 → Mm → Prop) (v0 : Nat) (v1 : Int32) (v2 : Int32) (mm : Mm) (Φ : Unit → Mm → Prop) : Prop :=
  ((v2 < 0 → Φ () mm) ∧ (¬ v2 < 0 → mT mm v0 = 8 ∧ (mP mm v0 0) ≠ 0 ∧ mT mm v0 = 8 ∧ mT mm (mP mm v0 0) = 11 ∧ vp_in (mI mm v0 1) (mN mm (mP mm v0 0)) ∧ ((v1 >>> (v2 &&& 31)).toInt8.toInt32).toInt8.toInt32 = (v1 >>> (v2 &&& 31)).toInt8.toInt32 ∧ ∀ m2 : Mm, m2 = sI mm (mP mm v0 0) (mI mm v0 1).toNatClampNeg ((v1 >>> (v2 &&& 31)).toInt8.toInt32) → mT m2 v0 = 8 ∧ mT m2 v0 = 8 ∧ ∀ m3 : Mm, m3 = sI m2 v0 1 ((mI m2 v0 1) + (1 : Int32)) → K3 (v2 + (-8 : Int32)) m3))
def wp_X7_push (m0 : Mm) (v0 : Nat) (v1 : Int32) (Φ : Unit → Mm → Prop) : Prop :=
  ∃ n, LOp (fun K x => wp_X7_push_3  (fun z0 z1 => K (z0, z1)) v0 v1 x.1 x.2 Φ) n ((24 : Int32), m0)
abbrev rm_X7_push : Room := { frames := 0, cells := 0, slots := 0, locals := 0 }
set_option maxHeartbeats 4000000 in
set_option maxRecDepth 100000 in
theorem c_X7_push (l : Launch) (g : Gv) (m0 : Mm) (v0 : Nat) (v1 : Int32) (Φ : Unit → Mm → Prop) (hw : wp_X7_push m0 v0 v1 Φ) : Met l yX7_push wsX7_push rm_X7_push (PP g [.ref (ad g v0), .int v1] m0) (QQ g vV Φ) 0 0 (Ag g) := by
  refine CT_of (by decide) rfl (Nat.le_of_ble_eq_true rfl) ?_
  intro p e s m below meth c hx hb hr hml hown hts hlk hnm hK hW ls hl
  have hown : s.vm.findClass RX7 = some m.cls := hown
  have hl : lv_has ls 3 [(0, .ref (ad g v0)), (1, .int v1)] := hl
  have i8 : ∀ w ∈ u_ws RX7 TX7 36, w ∈ wsX7_push := by decide +kernel
  have L3 : ∀ (n : Nat) (v2 : Int32) (mm : Mm), LOp (fun K x => wp_X7_push_3  (fun z0 z1 => K (z0, z1)) v0 v1 x.1 x.2 Φ) n (v2, mm) → WW p l e rm_X7_push s m ([.ref (ad g v0), .int v1] : List Value).toArray below meth c (MQ below (QQ g vV Φ) ([.ref (ad g v0), .int v1] : List Value).toArray s 0 0 (Ag g)) g mm 3 0 0 3 [(0, .ref (ad g v0)), (1, .int v1), (2, .int v2)] [] := by
    intro  n
    induction n with
    | zero => intro v2 mm hw; exact hw.elim
    | succ n ih3 =>
      obtain ⟨K3, eK3⟩ : ∃ K : Int32 → Mm → Prop, K = fun v2 mm => LOp (fun K x => wp_X7_push_3  (fun z0 z1 => K (z0, z1)) v0 v1 x.1 x.2 Φ) n (v2, mm) := ⟨_, rfl⟩
      have ih3 : ∀ (v2 : Int32) (mm : Mm), K3 v2 mm → WW p l e rm_X7_push s m ([.ref (ad g v0), .int v1] : List Value).toArray below meth c (MQ below (QQ g vV Φ) ([.ref (ad g v0), .int v1] : List Value).toArray s 0 0 (Ag g)) g mm 3 0 0 3 [(0, .ref (ad g v0)), (1, .int v1), (2, .int v2)] [] := by rw [eK3]; exact ih3
      intro v2 mm hw H locs ls hW hl
      have hw : wp_X7_push_3 K3 v0 v1 v2 mm Φ := by rw [eK3]; exact hw
      unfold wp_X7_push_3 at hw
      refine lv_iload_n hx hb dX7_push_3 rfl (lv_at hl 2 rfl) ?_
      refine lv_if_lt (tgt := 36) hx hb dX7_push_4 (by decide) (fun c1 => ?_) (fun c1 => ?_)
      · have hw := hw.1 c1
        exact R_vret hx hb hr hlk hW hw dX7_push_36
      · have hw := hw.2 c1
        refine lv_aload_n hx hb dX7_push_7 rfl (lv_at hl 0 rfl) ?_
        refine R_getP (C := RX7) (T := TX7) (N := 36) hx hb hts i8 hown hK hW 0 hw.1 (by decide) rfl (by decide) (hts (.fieldLink RX7 7 "BoatLiftModel" "tape" "[B") (by decide +kernel)) (fun _ h => h) (fun _ _ _ => rfl) hw.2.1 dX7_push_8 ?_
        have hw := hw.2.2
        refine lv_aload_n hx hb dX7_push_11 rfl (lv_at hl 0 rfl) ?_
        refine R_getI (C := RX7) (T := TX7) (N := 36) hx hb hts i8 hown hK hW 1 hw.1 (by decide) rfl (by decide) (hts (.fieldLink RX7 88 "BoatLiftModel" "taped" "I") (by decide +kernel)) (fun _ h => h) (fun _ _ _ => rfl) dX7_push_12 ?_
        have hw := hw.2
        refine lv_iload_n hx hb dX7_push_15 rfl (lv_at hl 1 rfl) ?_
        refine lv_iload_n hx hb dX7_push_16 rfl (lv_at hl 2 rfl) ?_
        refine lv_ishr hx hb dX7_push_17 ?_
        refine lv_i2b (v := (v1 >>> (v2 &&& 31)).toInt8.toInt32) hx hb dX7_push_18 rfl ?_
        refine R_bast hx hb hK hW hw.1 hw.2.1 hw.2.2.1 dX7_push_19 (fun H locs hW => ?_)
        obtain ⟨m2, em2⟩ : ∃ z, z = sI mm (mP mm v0 0) (mI mm v0 1).toNatClampNeg ((v1 >>> (v2 &&& 31)).toInt8.toInt32) := ⟨_, rfl⟩
        rw [← em2] at hW
        have hw := hw.2.2.2 m2 em2
        refine lv_aload_n hx hb dX7_push_20 rfl (lv_at hl 0 rfl) ?_
        refine lv_dup hx hb dX7_push_21 rfl ?_
        refine R_getI (C := RX7) (T := TX7) (N := 36) hx hb hts i8 hown hK hW 1 hw.1 (by decide) rfl (by decide) (hts (.fieldLink RX7 88 "BoatLiftModel" "taped" "I") (by decide +kernel)) (fun _ h => h) (fun _ _ _ => rfl) dX7_push_22 ?_
        have hw := hw.2
        refine lv_iconst (v := (1 : Int32)) hx hb dX7_push_25 (by decide) ?_
        refine lv_iadd hx hb dX7_push_26 ?_
        refine R_putI (C := RX7) (T := TX7) (N := 36) hx hb hts i8 tyX7 tyX7_ok nmX7 hown hK hW 1 hw.1 (by decide) rfl (by decide) (hts (.fieldLink RX7 88 "BoatLiftModel" "taped" "I") (by decide +kernel)) (fun _ h => h) (Or.inl rfl) rfl (fun _ _ _ => rfl) (fun _ _ _ => rfl) dX7_push_27 (fun H locs hW => ?_)
        obtain ⟨m3, em3⟩ : ∃ z, z = sI m2 v0 1 ((mI m2 v0 1) + (1 : Int32)) := ⟨_, rfl⟩
        rw [← em3] at hW
        have hw := hw.2 m3 em3
        refine lv_iinc (v := (v2 + (-8 : Int32))) (lv' := [(2, .int (v2 + (-8 : Int32))), (0, .ref (ad g v0)), (1, .int v1)]) hx hb dX7_push_30 hl (k := 2) rfl rfl (by decide) rfl (fun ls hl => ?_)
        refine lv_goto (tgt := 3) hx hb dX7_push_33 (by decide) ?_
        exact ih3 (v2 + (-8 : Int32)) m3 hw _ _ _ hW (lv_sub hl [1, 2, 0] rfl)
  unfold wp_X7_push at hw
  refine lv_bipush (v := (24 : Int32)) hx hb dX7_push_0 (by decide) ?_
  refine lv_istore_n (lv' := [(2, .int (24 : Int32)), (0, .ref (ad g v0)), (1, .int v1)]) hx hb dX7_push_2 rfl hl (by decide) rfl (fun ls hl => ?_)
  obtain ⟨n, hw⟩ := hw
  exact L3  n (24 : Int32) m0 hw _ _ _ hW (lv_sub hl [1, 2, 0] rfl)

def wp_X7_feed (m0 : Mm) (v0 : Nat) (v1 : Int32) (v2 : Int32) (v3 : Int32) (v4 : Int32) (v5 : Int32) (Φ : Int32 → Mm → Prop) : Prop :=
  mT m0 v0 = 8 ∧ ((((mI m0 v0 1) + (20 : Int32)) ≤ (60 : Int32) → mT m0 v0 = 8 ∧ wp_X7_push m0 v0 v1 (fun (_ : Unit) (m3 : Mm) => mT m3 v0 = 8 ∧ wp_X7_push m3 v0 v2 (fun (_ : Unit) (m5 : Mm) => mT m5 v0 = 8 ∧ wp_X7_push m5 v0 v3 (fun (_ : Unit) (m7 : Mm) => mT m7 v0 = 8 ∧ wp_X7_push m7 v0 v4 (fun (_ : Unit) (m9 : Mm) => mT m9 v0 = 8 ∧ wp_X7_push m9 v0 v5 (fun (_ : Unit) (m11 : Mm) => mT m11 v0 = 8 ∧ Φ (mI m11 v0 1) m11)))))) ∧ (¬ ((mI m0 v0 1) + (20 : Int32)) ≤ (60 : Int32) → Φ (-1 : Int32) m0))
abbrev rm_X7_feed : Room := { frames := 1, cells := 0, slots := 0, locals := 22 }
set_option maxHeartbeats 4000000 in
set_option maxRecDepth 100000 in
theorem c_X7_feed (l : Launch) (g : Gv) (m0 : Mm) (v0 : Nat) (v1 : Int32) (v2 : Int32) (v3 : Int32) (v4 : Int32) (v5 : Int32) (Φ : Int32 → Mm → Prop) (hw : wp_X7_feed m0 v0 v1 v2 v3 v4 v5 Φ) : Met l yX7_feed wsX7_feed rm_X7_feed (PP g [.ref (ad g v0), .int v1, .int v2, .int v3, .int v4, .int v5] m0) (QQ g vI Φ) 0 0 (Ag g) := by
  refine CT_of (by decide) rfl (Nat.le_of_ble_eq_true rfl) ?_
  intro p e s m below meth c hx hb hr hml hown hts hlk hnm hK hW ls hl
  have hown : s.vm.findClass RX7 = some m.cls := hown
  have hl : lv_has ls 6 [(0, .ref (ad g v0)), (1, .int v1), (2, .int v2), (3, .int v3), (4, .int v4), (5, .int v5)] := hl
  have i8 : ∀ w ∈ u_ws RX7 TX7 36, w ∈ wsX7_feed := by decide +kernel
  unfold wp_X7_feed at hw
  refine lv_aload_n hx hb dX7_feed_0 rfl (lv_at hl 0 rfl) ?_
  refine R_getI (C := RX7) (T := TX7) (N := 36) hx hb hts i8 hown hK hW 1 hw.1 (by decide) rfl (by decide) (hts (.fieldLink RX7 88 "BoatLiftModel" "taped" "I") (by decide +kernel)) (fun _ h => h) (fun _ _ _ => rfl) dX7_feed_1 ?_
  have hw := hw.2
  refine lv_bipush (v := (20 : Int32)) hx hb dX7_feed_4 (by decide) ?_
  refine lv_iadd hx hb dX7_feed_6 ?_
  refine lv_bipush (v := (60 : Int32)) hx hb dX7_feed_7 (by decide) ?_
  refine lv_icmp_le (tgt := 14) hx hb dX7_feed_9 (by decide) (fun c1 => ?_) (fun c1 => ?_)
  · have hw := hw.1 c1
    refine lv_aload_n hx hb dX7_feed_14 rfl (lv_at hl 0 rfl) ?_
    refine lv_iload_n hx hb dX7_feed_15 rfl (lv_at hl 1 rfl) ?_
    refine R_call (va_runV (As := [.int v1]) (rest := []) ⟨hx, hb, hml, hown, hts⟩ (c_X7_push l g m0 v0 v1 _ hw.2) (cwV 1 hts gX7_feed_X7_push rfl rfl rfl (by decide +kernel) ⟨by decide, by decide⟩) (PP.preV (q := (RX7, TX7, 36)) hK hW hw.1 (by decide) rfl) rfl rfl hl.1 rfl (lv_room (Nat.le_of_ble_eq_true rfl)) dX7_feed_16 ⟨by decide, by decide⟩) hW (fun _ m3 H locs hw hW => ?_)
    refine W.eq (g2 := F0 m 19 ls []) rfl ?_
    refine lv_aload_n hx hb dX7_feed_19 rfl (lv_at hl 0 rfl) ?_
    refine lv_iload_n hx hb dX7_feed_20 rfl (lv_at hl 2 rfl) ?_
    refine R_call (va_runV (As := [.int v2]) (rest := []) ⟨hx, hb, hml, hown, hts⟩ (c_X7_push l g m3 v0 v2 _ hw.2) (cwV 1 hts gX7_feed_X7_push rfl rfl rfl (by decide +kernel) ⟨by decide, by decide⟩) (PP.preV (q := (RX7, TX7, 36)) hK hW hw.1 (by decide) rfl) rfl rfl hl.1 rfl (lv_room (Nat.le_of_ble_eq_true rfl)) dX7_feed_21 ⟨by decide, by decide⟩) hW (fun _ m5 H locs hw hW => ?_)
    refine W.eq (g2 := F0 m 24 ls []) rfl ?_
    refine lv_aload_n hx hb dX7_feed_24 rfl (lv_at hl 0 rfl) ?_
    refine lv_iload_n hx hb dX7_feed_25 rfl (lv_at hl 3 rfl) ?_
    refine R_call (va_runV (As := [.int v3]) (rest := []) ⟨hx, hb, hml, hown, hts⟩ (c_X7_push l g m5 v0 v3 _ hw.2) (cwV 1 hts gX7_feed_X7_push rfl rfl rfl (by decide +kernel) ⟨by decide, by decide⟩) (PP.preV (q := (RX7, TX7, 36)) hK hW hw.1 (by decide) rfl) rfl rfl hl.1 rfl (lv_room (Nat.le_of_ble_eq_true rfl)) dX7_feed_26 ⟨by decide, by decide⟩) hW (fun _ m7 H locs hw hW => ?_)
    refine W.eq (g2 := F0 m 29 ls []) rfl ?_
    refine lv_aload_n hx hb dX7_feed_29 rfl (lv_at hl 0 rfl) ?_
    refine lv_iload hx hb dX7_feed_30 (lv_at hl 4 rfl) ?_
    refine R_call (va_runV (As := [.int v4]) (rest := []) ⟨hx, hb, hml, hown, hts⟩ (c_X7_push l g m7 v0 v4 _ hw.2) (cwV 1 hts gX7_feed_X7_push rfl rfl rfl (by decide +kernel) ⟨by decide, by decide⟩) (PP.preV (q := (RX7, TX7, 36)) hK hW hw.1 (by decide) rfl) rfl rfl hl.1 rfl (lv_room (Nat.le_of_ble_eq_true rfl)) dX7_feed_32 ⟨by decide, by decide⟩) hW (fun _ m9 H locs hw hW => ?_)
    refine W.eq (g2 := F0 m 35 ls []) rfl ?_
    refine lv_aload_n hx hb dX7_feed_35 rfl (lv_at hl 0 rfl) ?_
    refine lv_iload hx hb dX7_feed_36 (lv_at hl 5 rfl) ?_
    refine R_call (va_runV (As := [.int v5]) (rest := []) ⟨hx, hb, hml, hown, hts⟩ (c_X7_push l g m9 v0 v5 _ hw.2) (cwV 1 hts gX7_feed_X7_push rfl rfl rfl (by decide +kernel) ⟨by decide, by decide⟩) (PP.preV (q := (RX7, TX7, 36)) hK hW hw.1 (by decide) rfl) rfl rfl hl.1 rfl (lv_room (Nat.le_of_ble_eq_true rfl)) dX7_feed_38 ⟨by decide, by decide⟩) hW (fun _ m11 H locs hw hW => ?_)
    refine W.eq (g2 := F0 m 41 ls []) rfl ?_
    refine lv_aload_n hx hb dX7_feed_41 rfl (lv_at hl 0 rfl) ?_
    refine R_getI (C := RX7) (T := TX7) (N := 36) hx hb hts i8 hown hK hW 1 hw.1 (by decide) rfl (by decide) (hts (.fieldLink RX7 88 "BoatLiftModel" "taped" "I") (by decide +kernel)) (fun _ h => h) (fun _ _ _ => rfl) dX7_feed_42 ?_
    have hw := hw.2
    exact R_iret hx hb hr hlk hW hw dX7_feed_45
  · have hw := hw.2 c1
    refine lv_iconst (v := (-1 : Int32)) hx hb dX7_feed_12 (by decide) ?_
    exact R_iret hx hb hr hlk hW hw dX7_feed_13
end
section
theorem zz_dummy : True := trivial
end
