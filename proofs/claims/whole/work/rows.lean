section
-- ===== PART A: goes FIRST, ahead of the names: the tables' words, and 'selects' of the private methods out of them =====
/-- a private method of a class that the tables say can be made, by its rows of tables_1 -/
def lw_okq (q : MethodName × Nat) : Prop := (q.1.cls ≠ "java/lang/invoke/MethodHandle" ∧ q.1.cls ≠ "java/lang/invoke/VarHandle") ∧ Cond.instantiable q.1.cls q.2 ∈ tables_1 ∧ Cond.privateMethod q.1 ∈ tables_1 ∧ Cond.instanceMethod q.1 ∈ tables_1
theorem lw_p0 : lw_okq (⟨"SeasonOfHours$Programme", "isFault", "(II)Z"⟩, 7) := ⟨⟨by decide +kernel, by decide +kernel⟩, List.mem_of_getElem? (i := 89) (by decide +kernel), List.mem_of_getElem? (i := 373) (by decide +kernel), List.mem_of_getElem? (i := 374) (by decide +kernel)⟩
theorem lw_p1 : lw_okq (⟨"SeasonOfHours$Programme", "isArtistAhead", "(I)Z"⟩, 7) := ⟨⟨by decide +kernel, by decide +kernel⟩, List.mem_of_getElem? (i := 89) (by decide +kernel), List.mem_of_getElem? (i := 380) (by decide +kernel), List.mem_of_getElem? (i := 381) (by decide +kernel)⟩
theorem lw_p2 : lw_okq (⟨"SeasonOfHours$Programme", "isTooNearOneAhead", "(I)Z"⟩, 7) := ⟨⟨by decide +kernel, by decide +kernel⟩, List.mem_of_getElem? (i := 89) (by decide +kernel), List.mem_of_getElem? (i := 384) (by decide +kernel), List.mem_of_getElem? (i := 385) (by decide +kernel)⟩
theorem lw_p3 : lw_okq (⟨"SeasonOfHours$Programme", "clashesInEvening", "(II)Z"⟩, 7) := ⟨⟨by decide +kernel, by decide +kernel⟩, List.mem_of_getElem? (i := 89) (by decide +kernel), List.mem_of_getElem? (i := 393) (by decide +kernel), List.mem_of_getElem? (i := 394) (by decide +kernel)⟩
theorem lw_p4 : lw_okq (⟨"SeasonOfHours$Programme", "clash", "(III)Z"⟩, 7) := ⟨⟨by decide +kernel, by decide +kernel⟩, List.mem_of_getElem? (i := 89) (by decide +kernel), List.mem_of_getElem? (i := 397) (by decide +kernel), List.mem_of_getElem? (i := 398) (by decide +kernel)⟩
theorem lw_p5 : lw_okq (⟨"SeasonOfHours$Planner", "weighOptions", "(II)V"⟩, 11) := ⟨⟨by decide +kernel, by decide +kernel⟩, List.mem_of_getElem? (i := 130) (by decide +kernel), List.mem_of_getElem? (i := 409) (by decide +kernel), List.mem_of_getElem? (i := 410) (by decide +kernel)⟩
theorem lw_p6 : lw_okq (⟨"SeasonOfHours$Planner", "listChoices", "(I)V"⟩, 11) := ⟨⟨by decide +kernel, by decide +kernel⟩, List.mem_of_getElem? (i := 130) (by decide +kernel), List.mem_of_getElem? (i := 416) (by decide +kernel), List.mem_of_getElem? (i := 417) (by decide +kernel)⟩
theorem lw_p7 : lw_okq (⟨"SeasonOfHours$Planner", "listFollowers", "()V"⟩, 11) := ⟨⟨by decide +kernel, by decide +kernel⟩, List.mem_of_getElem? (i := 130) (by decide +kernel), List.mem_of_getElem? (i := 421) (by decide +kernel), List.mem_of_getElem? (i := 422) (by decide +kernel)⟩
theorem lw_p8 : lw_okq (⟨"SeasonOfHours$Planner", "listFarModes", "()V"⟩, 11) := ⟨⟨by decide +kernel, by decide +kernel⟩, List.mem_of_getElem? (i := 130) (by decide +kernel), List.mem_of_getElem? (i := 426) (by decide +kernel), List.mem_of_getElem? (i := 427) (by decide +kernel)⟩
theorem lw_p9 : lw_okq (⟨"SeasonOfHours$Planner", "fillFrom", "(IIIIIJ)V"⟩, 11) := ⟨⟨by decide +kernel, by decide +kernel⟩, List.mem_of_getElem? (i := 130) (by decide +kernel), List.mem_of_getElem? (i := 435) (by decide +kernel), List.mem_of_getElem? (i := 436) (by decide +kernel)⟩
theorem lw_p10 : lw_okq (⟨"SeasonOfHours$Planner", "fillWith", "(IIIIIJ)V"⟩, 11) := ⟨⟨by decide +kernel, by decide +kernel⟩, List.mem_of_getElem? (i := 130) (by decide +kernel), List.mem_of_getElem? (i := 442) (by decide +kernel), List.mem_of_getElem? (i := 443) (by decide +kernel)⟩
theorem lw_p11 : lw_okq (⟨"SeasonOfHours$Planner", "joinEvening", "()V"⟩, 11) := ⟨⟨by decide +kernel, by decide +kernel⟩, List.mem_of_getElem? (i := 130) (by decide +kernel), List.mem_of_getElem? (i := 446) (by decide +kernel), List.mem_of_getElem? (i := 447) (by decide +kernel)⟩
theorem lw_p12 : lw_okq (⟨"SeasonOfHours$Planner", "carryOut", "(J)I"⟩, 11) := ⟨⟨by decide +kernel, by decide +kernel⟩, List.mem_of_getElem? (i := 130) (by decide +kernel), List.mem_of_getElem? (i := 450) (by decide +kernel), List.mem_of_getElem? (i := 451) (by decide +kernel)⟩
theorem lw_p13 : lw_okq (⟨"SeasonOfHours$Pieces", "readyOn", "(I)I"⟩, 12) := ⟨⟨by decide +kernel, by decide +kernel⟩, List.mem_of_getElem? (i := 174) (by decide +kernel), List.mem_of_getElem? (i := 488) (by decide +kernel), List.mem_of_getElem? (i := 489) (by decide +kernel)⟩
theorem lw_p14 : lw_okq (⟨"SeasonOfHours$Pieces", "listFollowers", "()V"⟩, 12) := ⟨⟨by decide +kernel, by decide +kernel⟩, List.mem_of_getElem? (i := 174) (by decide +kernel), List.mem_of_getElem? (i := 495) (by decide +kernel), List.mem_of_getElem? (i := 496) (by decide +kernel)⟩
theorem lw_p15 : lw_okq (⟨"SeasonOfHours$Pieces", "firstsOf", "(I)I"⟩, 12) := ⟨⟨by decide +kernel, by decide +kernel⟩, List.mem_of_getElem? (i := 174) (by decide +kernel), List.mem_of_getElem? (i := 500) (by decide +kernel), List.mem_of_getElem? (i := 501) (by decide +kernel)⟩
def lw_privs_1 : List (MethodName × Nat) := [(⟨"SeasonOfHours$Programme", "isFault", "(II)Z"⟩, 7), (⟨"SeasonOfHours$Programme", "isArtistAhead", "(I)Z"⟩, 7), (⟨"SeasonOfHours$Programme", "isTooNearOneAhead", "(I)Z"⟩, 7), (⟨"SeasonOfHours$Programme", "clashesInEvening", "(II)Z"⟩, 7), (⟨"SeasonOfHours$Programme", "clash", "(III)Z"⟩, 7), (⟨"SeasonOfHours$Planner", "weighOptions", "(II)V"⟩, 11), (⟨"SeasonOfHours$Planner", "listChoices", "(I)V"⟩, 11), (⟨"SeasonOfHours$Planner", "listFollowers", "()V"⟩, 11), (⟨"SeasonOfHours$Planner", "listFarModes", "()V"⟩, 11), (⟨"SeasonOfHours$Planner", "fillFrom", "(IIIIIJ)V"⟩, 11), (⟨"SeasonOfHours$Planner", "fillWith", "(IIIIIJ)V"⟩, 11), (⟨"SeasonOfHours$Planner", "joinEvening", "()V"⟩, 11), (⟨"SeasonOfHours$Planner", "carryOut", "(J)I"⟩, 11), (⟨"SeasonOfHours$Pieces", "readyOn", "(I)I"⟩, 12), (⟨"SeasonOfHours$Pieces", "listFollowers", "()V"⟩, 12), (⟨"SeasonOfHours$Pieces", "firstsOf", "(I)I"⟩, 12)]
theorem lw_r1 : ∀ q ∈ lw_privs_1, lw_okq q := List.forall_mem_cons.mpr ⟨lw_p0, List.forall_mem_cons.mpr ⟨lw_p1, List.forall_mem_cons.mpr ⟨lw_p2, List.forall_mem_cons.mpr ⟨lw_p3, List.forall_mem_cons.mpr ⟨lw_p4, List.forall_mem_cons.mpr ⟨lw_p5, List.forall_mem_cons.mpr ⟨lw_p6, List.forall_mem_cons.mpr ⟨lw_p7, List.forall_mem_cons.mpr ⟨lw_p8, List.forall_mem_cons.mpr ⟨lw_p9, List.forall_mem_cons.mpr ⟨lw_p10, List.forall_mem_cons.mpr ⟨lw_p11, List.forall_mem_cons.mpr ⟨lw_p12, List.forall_mem_cons.mpr ⟨lw_p13, List.forall_mem_cons.mpr ⟨lw_p14, List.forall_mem_cons.mpr ⟨lw_p15, fun _ h => absurd h List.not_mem_nil⟩⟩⟩⟩⟩⟩⟩⟩⟩⟩⟩⟩⟩⟩⟩⟩
theorem lw_p16 : lw_okq (⟨"SeasonOfHours$Pieces", "isGood", "(II)Z"⟩, 12) := ⟨⟨by decide +kernel, by decide +kernel⟩, List.mem_of_getElem? (i := 174) (by decide +kernel), List.mem_of_getElem? (i := 505) (by decide +kernel), List.mem_of_getElem? (i := 506) (by decide +kernel)⟩
theorem lw_p17 : lw_okq (⟨"SeasonOfHours$Pieces", "sum", "([II)I"⟩, 12) := ⟨⟨by decide +kernel, by decide +kernel⟩, List.mem_of_getElem? (i := 174) (by decide +kernel), List.mem_of_getElem? (i := 510) (by decide +kernel), List.mem_of_getElem? (i := 511) (by decide +kernel)⟩
theorem lw_p18 : lw_okq (⟨"SeasonOfHours$Pieces", "isBetter", "(II)Z"⟩, 12) := ⟨⟨by decide +kernel, by decide +kernel⟩, List.mem_of_getElem? (i := 174) (by decide +kernel), List.mem_of_getElem? (i := 514) (by decide +kernel), List.mem_of_getElem? (i := 515) (by decide +kernel)⟩
theorem lw_p19 : lw_okq (⟨"SeasonOfHours$Pieces", "firstRow", "(I)J"⟩, 12) := ⟨⟨by decide +kernel, by decide +kernel⟩, List.mem_of_getElem? (i := 174) (by decide +kernel), List.mem_of_getElem? (i := 518) (by decide +kernel), List.mem_of_getElem? (i := 519) (by decide +kernel)⟩
theorem lw_p20 : lw_okq (⟨"SeasonOfHours$Pieces", "writeLatest", "(I)V"⟩, 12) := ⟨⟨by decide +kernel, by decide +kernel⟩, List.mem_of_getElem? (i := 174) (by decide +kernel), List.mem_of_getElem? (i := 527) (by decide +kernel), List.mem_of_getElem? (i := 528) (by decide +kernel)⟩
theorem lw_p21 : lw_okq (⟨"SeasonOfHours$Jury", "fromJudge", "(II)I"⟩, 5) := ⟨⟨by decide +kernel, by decide +kernel⟩, List.mem_of_getElem? (i := 222) (by decide +kernel), List.mem_of_getElem? (i := 556) (by decide +kernel), List.mem_of_getElem? (i := 557) (by decide +kernel)⟩
theorem lw_p22 : lw_okq (⟨"SeasonOfHours$Jury", "placeOf", "(I)I"⟩, 5) := ⟨⟨by decide +kernel, by decide +kernel⟩, List.mem_of_getElem? (i := 222) (by decide +kernel), List.mem_of_getElem? (i := 572) (by decide +kernel), List.mem_of_getElem? (i := 573) (by decide +kernel)⟩
theorem lw_p23 : lw_okq (⟨"SeasonOfHours$Jury", "isAhead", "(II)Z"⟩, 5) := ⟨⟨by decide +kernel, by decide +kernel⟩, List.mem_of_getElem? (i := 222) (by decide +kernel), List.mem_of_getElem? (i := 576) (by decide +kernel), List.mem_of_getElem? (i := 577) (by decide +kernel)⟩
theorem lw_p24 : lw_okq (⟨"java/lang/Throwable", "fillInStackTrace", "(I)Ljava/lang/Throwable;"⟩, 6) := ⟨⟨by decide +kernel, by decide +kernel⟩, List.mem_of_getElem? (i := 624) (by decide +kernel), List.mem_of_getElem? (i := 622) (by decide +kernel), List.mem_of_getElem? (i := 623) (by decide +kernel)⟩
theorem lw_p25 : lw_okq (⟨"SeasonOfHoursModel", "empty", "()V"⟩, 37) := ⟨⟨by decide +kernel, by decide +kernel⟩, List.mem_of_getElem? (i := 657) (by decide +kernel), List.mem_of_getElem? (i := 663) (by decide +kernel), List.mem_of_getElem? (i := 664) (by decide +kernel)⟩
theorem lw_p26 : lw_okq (⟨"SeasonOfHoursModel", "isArtist", "(I)Z"⟩, 37) := ⟨⟨by decide +kernel, by decide +kernel⟩, List.mem_of_getElem? (i := 657) (by decide +kernel), List.mem_of_getElem? (i := 799) (by decide +kernel), List.mem_of_getElem? (i := 800) (by decide +kernel)⟩
theorem lw_p27 : lw_okq (⟨"SeasonOfHoursModel", "isMode", "(I)Z"⟩, 37) := ⟨⟨by decide +kernel, by decide +kernel⟩, List.mem_of_getElem? (i := 657) (by decide +kernel), List.mem_of_getElem? (i := 803) (by decide +kernel), List.mem_of_getElem? (i := 804) (by decide +kernel)⟩
theorem lw_p28 : lw_okq (⟨"SeasonOfHoursModel", "share", "(II)I"⟩, 37) := ⟨⟨by decide +kernel, by decide +kernel⟩, List.mem_of_getElem? (i := 657) (by decide +kernel), List.mem_of_getElem? (i := 827) (by decide +kernel), List.mem_of_getElem? (i := 828) (by decide +kernel)⟩
theorem lw_p29 : lw_okq (⟨"SeasonOfHoursModel", "all", "()I"⟩, 37) := ⟨⟨by decide +kernel, by decide +kernel⟩, List.mem_of_getElem? (i := 657) (by decide +kernel), List.mem_of_getElem? (i := 836) (by decide +kernel), List.mem_of_getElem? (i := 837) (by decide +kernel)⟩
theorem lw_p30 : lw_okq (⟨"SeasonOfHoursModel", "holds", "(II)Z"⟩, 37) := ⟨⟨by decide +kernel, by decide +kernel⟩, List.mem_of_getElem? (i := 657) (by decide +kernel), List.mem_of_getElem? (i := 852) (by decide +kernel), List.mem_of_getElem? (i := 853) (by decide +kernel)⟩
theorem lw_p31 : lw_okq (⟨"SeasonOfHoursModel", "search", "(Z)V"⟩, 37) := ⟨⟨by decide +kernel, by decide +kernel⟩, List.mem_of_getElem? (i := 657) (by decide +kernel), List.mem_of_getElem? (i := 860) (by decide +kernel), List.mem_of_getElem? (i := 861) (by decide +kernel)⟩
def lw_privs_2 : List (MethodName × Nat) := [(⟨"SeasonOfHours$Pieces", "isGood", "(II)Z"⟩, 12), (⟨"SeasonOfHours$Pieces", "sum", "([II)I"⟩, 12), (⟨"SeasonOfHours$Pieces", "isBetter", "(II)Z"⟩, 12), (⟨"SeasonOfHours$Pieces", "firstRow", "(I)J"⟩, 12), (⟨"SeasonOfHours$Pieces", "writeLatest", "(I)V"⟩, 12), (⟨"SeasonOfHours$Jury", "fromJudge", "(II)I"⟩, 5), (⟨"SeasonOfHours$Jury", "placeOf", "(I)I"⟩, 5), (⟨"SeasonOfHours$Jury", "isAhead", "(II)Z"⟩, 5), (⟨"java/lang/Throwable", "fillInStackTrace", "(I)Ljava/lang/Throwable;"⟩, 6), (⟨"SeasonOfHoursModel", "empty", "()V"⟩, 37), (⟨"SeasonOfHoursModel", "isArtist", "(I)Z"⟩, 37), (⟨"SeasonOfHoursModel", "isMode", "(I)Z"⟩, 37), (⟨"SeasonOfHoursModel", "share", "(II)I"⟩, 37), (⟨"SeasonOfHoursModel", "all", "()I"⟩, 37), (⟨"SeasonOfHoursModel", "holds", "(II)Z"⟩, 37), (⟨"SeasonOfHoursModel", "search", "(Z)V"⟩, 37)]
theorem lw_r2 : ∀ q ∈ lw_privs_2, lw_okq q := List.forall_mem_cons.mpr ⟨lw_p16, List.forall_mem_cons.mpr ⟨lw_p17, List.forall_mem_cons.mpr ⟨lw_p18, List.forall_mem_cons.mpr ⟨lw_p19, List.forall_mem_cons.mpr ⟨lw_p20, List.forall_mem_cons.mpr ⟨lw_p21, List.forall_mem_cons.mpr ⟨lw_p22, List.forall_mem_cons.mpr ⟨lw_p23, List.forall_mem_cons.mpr ⟨lw_p24, List.forall_mem_cons.mpr ⟨lw_p25, List.forall_mem_cons.mpr ⟨lw_p26, List.forall_mem_cons.mpr ⟨lw_p27, List.forall_mem_cons.mpr ⟨lw_p28, List.forall_mem_cons.mpr ⟨lw_p29, List.forall_mem_cons.mpr ⟨lw_p30, List.forall_mem_cons.mpr ⟨lw_p31, fun _ h => absurd h List.not_mem_nil⟩⟩⟩⟩⟩⟩⟩⟩⟩⟩⟩⟩⟩⟩⟩⟩
theorem lw_p32 : lw_okq (⟨"SeasonOfHoursModel", "go", "(IIIIZ)V"⟩, 37) := ⟨⟨by decide +kernel, by decide +kernel⟩, List.mem_of_getElem? (i := 657) (by decide +kernel), List.mem_of_getElem? (i := 865) (by decide +kernel), List.mem_of_getElem? (i := 866) (by decide +kernel)⟩
theorem lw_p33 : lw_okq (⟨"SeasonOfHoursModel", "join", "(III)V"⟩, 37) := ⟨⟨by decide +kernel, by decide +kernel⟩, List.mem_of_getElem? (i := 657) (by decide +kernel), List.mem_of_getElem? (i := 869) (by decide +kernel), List.mem_of_getElem? (i := 870) (by decide +kernel)⟩
theorem lw_p34 : lw_okq (⟨"SeasonOfHoursModel", "isAhead", "()Z"⟩, 37) := ⟨⟨by decide +kernel, by decide +kernel⟩, List.mem_of_getElem? (i := 657) (by decide +kernel), List.mem_of_getElem? (i := 873) (by decide +kernel), List.mem_of_getElem? (i := 874) (by decide +kernel)⟩
theorem lw_p35 : lw_okq (⟨"SeasonOfHoursModel", "findFirsts", "()V"⟩, 37) := ⟨⟨by decide +kernel, by decide +kernel⟩, List.mem_of_getElem? (i := 657) (by decide +kernel), List.mem_of_getElem? (i := 894) (by decide +kernel), List.mem_of_getElem? (i := 895) (by decide +kernel)⟩
theorem lw_p36 : lw_okq (⟨"SeasonOfHoursModel", "canFollow", "(II)Z"⟩, 37) := ⟨⟨by decide +kernel, by decide +kernel⟩, List.mem_of_getElem? (i := 657) (by decide +kernel), List.mem_of_getElem? (i := 898) (by decide +kernel), List.mem_of_getElem? (i := 899) (by decide +kernel)⟩
theorem lw_p37 : lw_okq (⟨"SeasonOfHoursModel", "mayBe", "(III)Z"⟩, 37) := ⟨⟨by decide +kernel, by decide +kernel⟩, List.mem_of_getElem? (i := 657) (by decide +kernel), List.mem_of_getElem? (i := 902) (by decide +kernel), List.mem_of_getElem? (i := 903) (by decide +kernel)⟩
theorem lw_p38 : lw_okq (⟨"SeasonOfHoursModel", "sum", "(I)I"⟩, 37) := ⟨⟨by decide +kernel, by decide +kernel⟩, List.mem_of_getElem? (i := 657) (by decide +kernel), List.mem_of_getElem? (i := 907) (by decide +kernel), List.mem_of_getElem? (i := 908) (by decide +kernel)⟩
theorem lw_p39 : lw_okq (⟨"SeasonOfHoursModel", "layRow", "(I)V"⟩, 37) := ⟨⟨by decide +kernel, by decide +kernel⟩, List.mem_of_getElem? (i := 657) (by decide +kernel), List.mem_of_getElem? (i := 911) (by decide +kernel), List.mem_of_getElem? (i := 912) (by decide +kernel)⟩
theorem lw_p40 : lw_okq (⟨"SeasonOfHoursModel", "isRowAhead", "(I[I)Z"⟩, 37) := ⟨⟨by decide +kernel, by decide +kernel⟩, List.mem_of_getElem? (i := 657) (by decide +kernel), List.mem_of_getElem? (i := 915) (by decide +kernel), List.mem_of_getElem? (i := 916) (by decide +kernel)⟩
theorem lw_p41 : lw_okq (⟨"SeasonOfHoursModel", "pointsOf", "(I)I"⟩, 37) := ⟨⟨by decide +kernel, by decide +kernel⟩, List.mem_of_getElem? (i := 657) (by decide +kernel), List.mem_of_getElem? (i := 935) (by decide +kernel), List.mem_of_getElem? (i := 936) (by decide +kernel)⟩
theorem lw_p42 : lw_okq (⟨"SeasonOfHoursModel", "stands", "(II)Z"⟩, 37) := ⟨⟨by decide +kernel, by decide +kernel⟩, List.mem_of_getElem? (i := 657) (by decide +kernel), List.mem_of_getElem? (i := 943) (by decide +kernel), List.mem_of_getElem? (i := 944) (by decide +kernel)⟩
def lw_privs_3 : List (MethodName × Nat) := [(⟨"SeasonOfHoursModel", "go", "(IIIIZ)V"⟩, 37), (⟨"SeasonOfHoursModel", "join", "(III)V"⟩, 37), (⟨"SeasonOfHoursModel", "isAhead", "()Z"⟩, 37), (⟨"SeasonOfHoursModel", "findFirsts", "()V"⟩, 37), (⟨"SeasonOfHoursModel", "canFollow", "(II)Z"⟩, 37), (⟨"SeasonOfHoursModel", "mayBe", "(III)Z"⟩, 37), (⟨"SeasonOfHoursModel", "sum", "(I)I"⟩, 37), (⟨"SeasonOfHoursModel", "layRow", "(I)V"⟩, 37), (⟨"SeasonOfHoursModel", "isRowAhead", "(I[I)Z"⟩, 37), (⟨"SeasonOfHoursModel", "pointsOf", "(I)I"⟩, 37), (⟨"SeasonOfHoursModel", "stands", "(II)Z"⟩, 37)]
theorem lw_r3 : ∀ q ∈ lw_privs_3, lw_okq q := List.forall_mem_cons.mpr ⟨lw_p32, List.forall_mem_cons.mpr ⟨lw_p33, List.forall_mem_cons.mpr ⟨lw_p34, List.forall_mem_cons.mpr ⟨lw_p35, List.forall_mem_cons.mpr ⟨lw_p36, List.forall_mem_cons.mpr ⟨lw_p37, List.forall_mem_cons.mpr ⟨lw_p38, List.forall_mem_cons.mpr ⟨lw_p39, List.forall_mem_cons.mpr ⟨lw_p40, List.forall_mem_cons.mpr ⟨lw_p41, List.forall_mem_cons.mpr ⟨lw_p42, fun _ h => absurd h List.not_mem_nil⟩⟩⟩⟩⟩⟩⟩⟩⟩⟩⟩
def lw_privs : List (MethodName × Nat) := lw_privs_1 ++ (lw_privs_2 ++ (lw_privs_3))
def lw_tbl : List Cond := k2_sels lw_privs ++ tables_1
theorem lw_privs_ok : ∀ q ∈ lw_privs, lw_okq q := by
  show ∀ q ∈ lw_privs_1 ++ (lw_privs_2 ++ (lw_privs_3)), lw_okq q
  exact List.forall_mem_append.mpr ⟨lw_r1, List.forall_mem_append.mpr ⟨lw_r2, lw_r3⟩⟩
end
section
def RX0 : String := "SeasonOfHours$Artists"
def TX0 : u_T := fun k => match k with
  | 0 => ("SeasonOfHours$Artists", "ranks", "[I", true)
  | 1 => ("SeasonOfHours$Artists", "rivals", "[I", true)
  | 2 => ("SeasonOfHours$Artists", "likings", "[[I", true)
  | 3 => ("SeasonOfHours$Artists", "sick", "I", false)
  | _ => ("SeasonOfHours$Artists", "size", "I", false)
def tyX0 : Nat → FieldType := fun k => match k with
  | 0 => .array .int
  | 1 => .array .int
  | 2 => .array (.array .int)
  | 3 => .int
  | _ => .int
abbrev wsX00 : List Cond := u_ws RX0 TX0 5
theorem nmX0 : ∀ a, a < 5 → ∀ b, b < 5 → a ≠ b → (TX0 a).2.1 ≠ (TX0 b).2.1 := by decide +kernel
theorem tyX0_ok : ∀ k, k < 5 → parseFieldDescriptor (TX0 k).2.2.1 = some (tyX0 k) := by decide +kernel
abbrev cX0_init : ByteArray := prog_2_method_1_code
def yX0_init : MethodName := ⟨RX0, "<init>", "()V"⟩
abbrev cX0_has : ByteArray := prog_2_method_2_code
def yX0_has : MethodName := ⟨RX0, "has", "(I)Z"⟩
abbrev cX0_add : ByteArray := prog_2_method_3_code
def yX0_add : MethodName := ⟨RX0, "add", "(I)I"⟩
def RX1 : String := "SeasonOfHours$Jury"
def TX1 : u_T := fun k => match k with
  | 0 => ("SeasonOfHours$Jury", "artists", "LSeasonOfHours$Artists;", true)
  | 1 => ("SeasonOfHours$Jury", "rows", "[[I", true)
  | 2 => ("SeasonOfHours$Jury", "sizes", "[I", true)
  | 3 => ("SeasonOfHours$Jury", "families", "[I", true)
  | _ => ("SeasonOfHours$Jury", "sums", "[I", true)
def tyX1 : Nat → FieldType := fun k => match k with
  | 0 => .object "SeasonOfHours$Artists"
  | 1 => .array (.array .int)
  | 2 => .array .int
  | 3 => .array .int
  | _ => .array .int
abbrev wsX10 : List Cond := u_ws RX1 TX1 5
theorem nmX1 : ∀ a, a < 5 → ∀ b, b < 5 → a ≠ b → (TX1 a).2.1 ≠ (TX1 b).2.1 := by decide +kernel
theorem tyX1_ok : ∀ k, k < 5 → parseFieldDescriptor (TX1 k).2.2.1 = some (tyX1 k) := by decide +kernel
abbrev cX1_init : ByteArray := prog_3_method_1_code
def yX1_init : MethodName := ⟨RX1, "<init>", "(LSeasonOfHours$Artists;)V"⟩
abbrev cX1_append : ByteArray := prog_3_method_2_code
def yX1_append : MethodName := ⟨RX1, "append", "(II)I"⟩
abbrev cX1_sumFor : ByteArray := prog_3_method_3_code
def yX1_sumFor : MethodName := ⟨RX1, "sumFor", "(I)I"⟩
abbrev cX1_fromJudge : ByteArray := prog_3_method_4_code
def yX1_fromJudge : MethodName := ⟨RX1, "fromJudge", "(II)I"⟩
abbrev cX1_artistAtPlace : ByteArray := prog_3_method_5_code
def yX1_artistAtPlace : MethodName := ⟨RX1, "artistAtPlace", "(I)I"⟩
abbrev cX1_placeOf : ByteArray := prog_3_method_6_code
def yX1_placeOf : MethodName := ⟨RX1, "placeOf", "(I)I"⟩
abbrev cX1_isAhead : ByteArray := prog_3_method_7_code
def yX1_isAhead : MethodName := ⟨RX1, "isAhead", "(II)Z"⟩
def RX2 : String := "SeasonOfHours$Modes"
def TX2 : u_T := fun k => match k with
  | 0 => ("SeasonOfHours$Modes", "notes", "[I", true)
  | 1 => ("SeasonOfHours$Modes", "hours", "[I", true)
  | 2 => ("SeasonOfHours$Modes", "size", "I", false)
  | _ => ("SeasonOfHours$Modes", "limit", "I", false)
def tyX2 : Nat → FieldType := fun k => match k with
  | 0 => .array .int
  | 1 => .array .int
  | 2 => .int
  | _ => .int
abbrev wsX20 : List Cond := u_ws RX2 TX2 4
theorem nmX2 : ∀ a, a < 4 → ∀ b, b < 4 → a ≠ b → (TX2 a).2.1 ≠ (TX2 b).2.1 := by decide +kernel
theorem tyX2_ok : ∀ k, k < 4 → parseFieldDescriptor (TX2 k).2.2.1 = some (tyX2 k) := by decide +kernel
abbrev cX2_init : ByteArray := prog_4_method_1_code
def yX2_init : MethodName := ⟨RX2, "<init>", "()V"⟩
abbrev cX2_has : ByteArray := prog_4_method_2_code
def yX2_has : MethodName := ⟨RX2, "has", "(I)Z"⟩
abbrev cX2_add : ByteArray := prog_4_method_3_code
def yX2_add : MethodName := ⟨RX2, "add", "(II)I"⟩
abbrev cX2_shared : ByteArray := prog_4_method_4_code
def yX2_shared : MethodName := ⟨RX2, "shared", "(II)I"⟩
abbrev cX2_areTooNear : ByteArray := prog_4_method_5_code
def yX2_areTooNear : MethodName := ⟨RX2, "areTooNear", "(II)Z"⟩
def RX3 : String := "SeasonOfHours$Pieces"
def TX3 : u_T := fun k => match k with
  | 0 => ("SeasonOfHours$Pieces", "modes", "LSeasonOfHours$Modes;", true)
  | 1 => ("SeasonOfHours$Pieces", "modeOf", "[I", true)
  | 2 => ("SeasonOfHours$Pieces", "minutes", "[I", true)
  | 3 => ("SeasonOfHours$Pieces", "likings", "[I", true)
  | 4 => ("SeasonOfHours$Pieces", "lastDays", "[I", true)
  | 5 => ("SeasonOfHours$Pieces", "followers", "[I", true)
  | 6 => ("SeasonOfHours$Pieces", "latest", "[I", true)
  | 7 => ("SeasonOfHours$Pieces", "firsts", "[I", true)
  | 8 => ("SeasonOfHours$Pieces", "mains", "I", false)
  | 9 => ("SeasonOfHours$Pieces", "size", "I", false)
  | 10 => ("SeasonOfHours$Pieces", "rest", "I", false)
  | _ => ("SeasonOfHours$Pieces", "latestSize", "I", false)
def tyX3 : Nat → FieldType := fun k => match k with
  | 0 => .object "SeasonOfHours$Modes"
  | 1 => .array .int
  | 2 => .array .int
  | 3 => .array .int
  | 4 => .array .int
  | 5 => .array .int
  | 6 => .array .int
  | 7 => .array .int
  | 8 => .int
  | 9 => .int
  | 10 => .int
  | _ => .int
abbrev wsX30 : List Cond := u_ws RX3 TX3 12
theorem nmX3 : ∀ a, a < 12 → ∀ b, b < 12 → a ≠ b → (TX3 a).2.1 ≠ (TX3 b).2.1 := by decide +kernel
theorem tyX3_ok : ∀ k, k < 12 → parseFieldDescriptor (TX3 k).2.2.1 = some (tyX3 k) := by decide +kernel
abbrev cX3_init : ByteArray := prog_5_method_1_code
def yX3_init : MethodName := ⟨RX3, "<init>", "(LSeasonOfHours$Modes;)V"⟩
abbrev cX3_has : ByteArray := prog_5_method_2_code
def yX3_has : MethodName := ⟨RX3, "has", "(I)Z"⟩
abbrev cX3_add : ByteArray := prog_5_method_3_code
def yX3_add : MethodName := ⟨RX3, "add", "(IIIZ)I"⟩
abbrev cX3_findRow : ByteArray := prog_5_method_4_code
def yX3_findRow : MethodName := ⟨RX3, "findRow", "(II)I"⟩
abbrev cX3_readyOn : ByteArray := prog_5_method_5_code
def yX3_readyOn : MethodName := ⟨RX3, "readyOn", "(I)I"⟩
abbrev cX3_listFollowers : ByteArray := prog_5_method_6_code
def yX3_listFollowers : MethodName := ⟨RX3, "listFollowers", "()V"⟩
abbrev cX3_firstsOf : ByteArray := prog_5_method_7_code
def yX3_firstsOf : MethodName := ⟨RX3, "firstsOf", "(I)I"⟩
abbrev cX3_isGood : ByteArray := prog_5_method_8_code
def yX3_isGood : MethodName := ⟨RX3, "isGood", "(II)Z"⟩
abbrev cX3_isBetter : ByteArray := prog_5_method_9_code
def yX3_isBetter : MethodName := ⟨RX3, "isBetter", "(II)Z"⟩
abbrev cX3_sum : ByteArray := prog_5_method_10_code
def yX3_sum : MethodName := ⟨RX3, "sum", "([II)I"⟩
abbrev cX3_firstRow : ByteArray := prog_5_method_11_code
def yX3_firstRow : MethodName := ⟨RX3, "firstRow", "(I)J"⟩
abbrev cX3_writeLatest : ByteArray := prog_5_method_12_code
def yX3_writeLatest : MethodName := ⟨RX3, "writeLatest", "(I)V"⟩
def RX4 : String := "SeasonOfHours$Planner"
def TX4 : u_T := fun k => match k with
  | 0 => ("SeasonOfHours$Planner", "modes", "LSeasonOfHours$Modes;", true)
  | 1 => ("SeasonOfHours$Planner", "artists", "LSeasonOfHours$Artists;", true)
  | 2 => ("SeasonOfHours$Planner", "programme", "LSeasonOfHours$Programme;", true)
  | 3 => ("SeasonOfHours$Planner", "values", "[[J", true)
  | 4 => ("SeasonOfHours$Planner", "choices", "[[I", true)
  | 5 => ("SeasonOfHours$Planner", "choiceCounts", "[I", true)
  | 6 => ("SeasonOfHours$Planner", "followers", "[I", true)
  | 7 => ("SeasonOfHours$Planner", "farModes", "[I", true)
  | 8 => ("SeasonOfHours$Planner", "ofCompany", "[J", true)
  | 9 => ("SeasonOfHours$Planner", "ofLater", "[J", true)
  | _ => ("SeasonOfHours$Planner", "firstSlot", "I", false)
def tyX4 : Nat → FieldType := fun k => match k with
  | 0 => .object "SeasonOfHours$Modes"
  | 1 => .object "SeasonOfHours$Artists"
  | 2 => .object "SeasonOfHours$Programme"
  | 3 => .array (.array .long)
  | 4 => .array (.array .int)
  | 5 => .array .int
  | 6 => .array .int
  | 7 => .array .int
  | 8 => .array .long
  | 9 => .array .long
  | _ => .int
abbrev wsX40 : List Cond := u_ws RX4 TX4 11
theorem nmX4 : ∀ a, a < 11 → ∀ b, b < 11 → a ≠ b → (TX4 a).2.1 ≠ (TX4 b).2.1 := by decide +kernel
theorem tyX4_ok : ∀ k, k < 11 → parseFieldDescriptor (TX4 k).2.2.1 = some (tyX4 k) := by decide +kernel
abbrev cX4_init : ByteArray := prog_6_method_1_code
def yX4_init : MethodName := ⟨RX4, "<init>", "(LSeasonOfHours$Modes;LSeasonOfHours$Artists;LSeasonOfHours$Programme;)V"⟩
abbrev cX4_plan : ByteArray := prog_6_method_2_code
def yX4_plan : MethodName := ⟨RX4, "plan", "(I)I"⟩
abbrev cX4_weighOptions : ByteArray := prog_6_method_3_code
def yX4_weighOptions : MethodName := ⟨RX4, "weighOptions", "(II)V"⟩
abbrev cX4_listChoices : ByteArray := prog_6_method_4_code
def yX4_listChoices : MethodName := ⟨RX4, "listChoices", "(I)V"⟩
abbrev cX4_listFollowers : ByteArray := prog_6_method_5_code
def yX4_listFollowers : MethodName := ⟨RX4, "listFollowers", "()V"⟩
abbrev cX4_listFarModes : ByteArray := prog_6_method_6_code
def yX4_listFarModes : MethodName := ⟨RX4, "listFarModes", "()V"⟩
abbrev cX4_fillFrom : ByteArray := prog_6_method_7_code
def yX4_fillFrom : MethodName := ⟨RX4, "fillFrom", "(IIIIIJ)V"⟩
abbrev cX4_fillWith : ByteArray := prog_6_method_8_code
def yX4_fillWith : MethodName := ⟨RX4, "fillWith", "(IIIIIJ)V"⟩
abbrev cX4_joinEvening : ByteArray := prog_6_method_9_code
def yX4_joinEvening : MethodName := ⟨RX4, "joinEvening", "()V"⟩
abbrev cX4_carryOut : ByteArray := prog_6_method_10_code
def yX4_carryOut : MethodName := ⟨RX4, "carryOut", "(J)I"⟩
def RX5 : String := "SeasonOfHours$Programme"
def TX5 : u_T := fun k => match k with
  | 0 => ("SeasonOfHours$Programme", "modes", "LSeasonOfHours$Modes;", true)
  | 1 => ("SeasonOfHours$Programme", "artists", "LSeasonOfHours$Artists;", true)
  | 2 => ("SeasonOfHours$Programme", "options", "[I", true)
  | 3 => ("SeasonOfHours$Programme", "hourOf", "[I", true)
  | 4 => ("SeasonOfHours$Programme", "evenings", "I", false)
  | 5 => ("SeasonOfHours$Programme", "hours", "I", false)
  | _ => ("SeasonOfHours$Programme", "slots", "I", false)
def tyX5 : Nat → FieldType := fun k => match k with
  | 0 => .object "SeasonOfHours$Modes"
  | 1 => .object "SeasonOfHours$Artists"
  | 2 => .array .int
  | 3 => .array .int
  | 4 => .int
  | 5 => .int
  | _ => .int
abbrev wsX50 : List Cond := u_ws RX5 TX5 7
theorem nmX5 : ∀ a, a < 7 → ∀ b, b < 7 → a ≠ b → (TX5 a).2.1 ≠ (TX5 b).2.1 := by decide +kernel
theorem tyX5_ok : ∀ k, k < 7 → parseFieldDescriptor (TX5 k).2.2.1 = some (tyX5 k) := by decide +kernel
abbrev cX5_init : ByteArray := prog_7_method_1_code
def yX5_init : MethodName := ⟨RX5, "<init>", "(LSeasonOfHours$Modes;LSeasonOfHours$Artists;)V"⟩
abbrev cX5_begin : ByteArray := prog_7_method_2_code
def yX5_begin : MethodName := ⟨RX5, "begin", "(II)V"⟩
abbrev cX5_hasSlot : ByteArray := prog_7_method_3_code
def yX5_hasSlot : MethodName := ⟨RX5, "hasSlot", "(I)Z"⟩
abbrev cX5_isFilled : ByteArray := prog_7_method_4_code
def yX5_isFilled : MethodName := ⟨RX5, "isFilled", "(I)Z"⟩
abbrev cX5_artistAt : ByteArray := prog_7_method_5_code
def yX5_artistAt : MethodName := ⟨RX5, "artistAt", "(I)I"⟩
abbrev cX5_modeAt : ByteArray := prog_7_method_6_code
def yX5_modeAt : MethodName := ⟨RX5, "modeAt", "(I)I"⟩
abbrev cX5_filledSlots : ByteArray := prog_7_method_7_code
def yX5_filledSlots : MethodName := ⟨RX5, "filledSlots", "()I"⟩
abbrev cX5_worth : ByteArray := prog_7_method_8_code
def yX5_worth : MethodName := ⟨RX5, "worth", "()I"⟩
abbrev cX5_firstFault : ByteArray := prog_7_method_9_code
def yX5_firstFault : MethodName := ⟨RX5, "firstFault", "()I"⟩
abbrev cX5_isFault : ByteArray := prog_7_method_10_code
def yX5_isFault : MethodName := ⟨RX5, "isFault", "(II)Z"⟩
abbrev cX5_isArtistAhead : ByteArray := prog_7_method_11_code
def yX5_isArtistAhead : MethodName := ⟨RX5, "isArtistAhead", "(I)Z"⟩
abbrev cX5_clashesInEvening : ByteArray := prog_7_method_12_code
def yX5_clashesInEvening : MethodName := ⟨RX5, "clashesInEvening", "(II)Z"⟩
abbrev cX5_clash : ByteArray := prog_7_method_13_code
def yX5_clash : MethodName := ⟨RX5, "clash", "(III)Z"⟩
abbrev cX5_isTooNearOneAhead : ByteArray := prog_7_method_14_code
def yX5_isTooNearOneAhead : MethodName := ⟨RX5, "isTooNearOneAhead", "(I)Z"⟩
def RX6 : String := "SeasonOfHours"
def TX6 : u_T := fun k => match k with
  | 0 => ("SeasonOfHours", "modes", "LSeasonOfHours$Modes;", true)
  | 1 => ("SeasonOfHours", "artists", "LSeasonOfHours$Artists;", true)
  | 2 => ("SeasonOfHours", "programme", "LSeasonOfHours$Programme;", true)
  | 3 => ("SeasonOfHours", "planner", "LSeasonOfHours$Planner;", true)
  | 4 => ("SeasonOfHours", "pieces", "LSeasonOfHours$Pieces;", true)
  | _ => ("SeasonOfHours", "jury", "LSeasonOfHours$Jury;", true)
def tyX6 : Nat → FieldType := fun k => match k with
  | 0 => .object "SeasonOfHours$Modes"
  | 1 => .object "SeasonOfHours$Artists"
  | 2 => .object "SeasonOfHours$Programme"
  | 3 => .object "SeasonOfHours$Planner"
  | 4 => .object "SeasonOfHours$Pieces"
  | _ => .object "SeasonOfHours$Jury"
abbrev wsX60 : List Cond := u_ws RX6 TX6 6
theorem nmX6 : ∀ a, a < 6 → ∀ b, b < 6 → a ≠ b → (TX6 a).2.1 ≠ (TX6 b).2.1 := by decide +kernel
theorem tyX6_ok : ∀ k, k < 6 → parseFieldDescriptor (TX6 k).2.2.1 = some (tyX6 k) := by decide +kernel
abbrev cX6_init : ByteArray := prog_1_method_1_code
def yX6_init : MethodName := ⟨RX6, "<init>", "()V"⟩
abbrev cX6_mode : ByteArray := prog_1_method_2_code
def yX6_mode : MethodName := ⟨RX6, "mode", "(II)I"⟩
abbrev cX6_artist : ByteArray := prog_1_method_3_code
def yX6_artist : MethodName := ⟨RX6, "artist", "(I)I"⟩
abbrev cX6_like : ByteArray := prog_1_method_4_code
def yX6_like : MethodName := ⟨RX6, "like", "(III)Z"⟩
abbrev cX6_rival : ByteArray := prog_1_method_5_code
def yX6_rival : MethodName := ⟨RX6, "rival", "(IIZ)Z"⟩
abbrev cX6_ill : ByteArray := prog_1_method_6_code
def yX6_ill : MethodName := ⟨RX6, "ill", "(IZ)Z"⟩
abbrev cX6_set : ByteArray := prog_1_method_7_code
def yX6_set : MethodName := ⟨RX6, "set", "(II)I"⟩
abbrev cX6_season : ByteArray := prog_1_method_8_code
def yX6_season : MethodName := ⟨RX6, "season", "(II)Z"⟩
abbrev cX6_near : ByteArray := prog_1_method_9_code
def yX6_near : MethodName := ⟨RX6, "near", "(II)I"⟩
abbrev cX6_count : ByteArray := prog_1_method_10_code
def yX6_count : MethodName := ⟨RX6, "count", "(I)I"⟩
abbrev cX6_put : ByteArray := prog_1_method_11_code
def yX6_put : MethodName := ⟨RX6, "put", "(III)Z"⟩
abbrev cX6_at : ByteArray := prog_1_method_12_code
def yX6_at : MethodName := ⟨RX6, "at", "(II)I"⟩
abbrev cX6_wrong : ByteArray := prog_1_method_13_code
def yX6_wrong : MethodName := ⟨RX6, "wrong", "()I"⟩
abbrev cX6_best : ByteArray := prog_1_method_14_code
def yX6_best : MethodName := ⟨RX6, "best", "()I"⟩
abbrev cX6_mend : ByteArray := prog_1_method_15_code
def yX6_mend : MethodName := ⟨RX6, "mend", "()I"⟩
abbrev cX6_piece : ByteArray := prog_1_method_16_code
def yX6_piece : MethodName := ⟨RX6, "piece", "(IIIZ)I"⟩
abbrev cX6_played : ByteArray := prog_1_method_17_code
def yX6_played : MethodName := ⟨RX6, "played", "(II)Z"⟩
abbrev cX6_row : ByteArray := prog_1_method_18_code
def yX6_row : MethodName := ⟨RX6, "row", "(II)I"⟩
abbrev cX6_told : ByteArray := prog_1_method_19_code
def yX6_told : MethodName := ⟨RX6, "told", "(I)I"⟩
abbrev cX6_vote : ByteArray := prog_1_method_20_code
def yX6_vote : MethodName := ⟨RX6, "vote", "(II)I"⟩
abbrev cX6_kin : ByteArray := prog_1_method_21_code
def yX6_kin : MethodName := ⟨RX6, "kin", "(IIZ)Z"⟩
abbrev cX6_points : ByteArray := prog_1_method_22_code
def yX6_points : MethodName := ⟨RX6, "points", "(I)I"⟩
abbrev cX6_prize : ByteArray := prog_1_method_23_code
def yX6_prize : MethodName := ⟨RX6, "prize", "(I)I"⟩
abbrev cX6_isWithin : ByteArray := prog_1_method_24_code
def yX6_isWithin : MethodName := ⟨RX6, "isWithin", "(III)Z"⟩
abbrev cX6_hasBit : ByteArray := prog_1_method_25_code
def yX6_hasBit : MethodName := ⟨RX6, "hasBit", "(II)Z"⟩
abbrev cX6_withBit : ByteArray := prog_1_method_26_code
def yX6_withBit : MethodName := ⟨RX6, "withBit", "(IIZ)I"⟩
def RX7 : String := "SeasonOfHoursModel"
def TX7 : u_T := fun k => match k with
  | 0 => ("SeasonOfHoursModel", "notes", "[I", true)
  | 1 => ("SeasonOfHoursModel", "hours", "[I", true)
  | 2 => ("SeasonOfHoursModel", "modes", "I", false)
  | 3 => ("SeasonOfHoursModel", "rank", "[I", true)
  | 4 => ("SeasonOfHoursModel", "ill", "[Z", true)
  | 5 => ("SeasonOfHoursModel", "liking", "[I", true)
  | 6 => ("SeasonOfHoursModel", "rivals", "[Z", true)
  | 7 => ("SeasonOfHoursModel", "artists", "I", false)
  | 8 => ("SeasonOfHoursModel", "limit", "I", false)
  | 9 => ("SeasonOfHoursModel", "rest", "I", false)
  | 10 => ("SeasonOfHoursModel", "evenings", "I", false)
  | 11 => ("SeasonOfHoursModel", "slots", "I", false)
  | 12 => ("SeasonOfHoursModel", "who", "[I", true)
  | 13 => ("SeasonOfHoursModel", "what", "[I", true)
  | 14 => ("SeasonOfHoursModel", "pieceMode", "[I", true)
  | 15 => ("SeasonOfHoursModel", "minutes", "[I", true)
  | 16 => ("SeasonOfHoursModel", "worth", "[I", true)
  | 17 => ("SeasonOfHoursModel", "isMain", "[Z", true)
  | 18 => ("SeasonOfHoursModel", "last", "[I", true)
  | 19 => ("SeasonOfHoursModel", "pieces", "I", false)
  | 20 => ("SeasonOfHoursModel", "row", "[I", true)
  | 21 => ("SeasonOfHoursModel", "rowMany", "I", false)
  | 22 => ("SeasonOfHoursModel", "votes", "[I", true)
  | 23 => ("SeasonOfHoursModel", "voted", "[I", true)
  | 24 => ("SeasonOfHoursModel", "kin", "[Z", true)
  | 25 => ("SeasonOfHoursModel", "thrown", "I", false)
  | 26 => ("SeasonOfHoursModel", "wasWho", "[I", true)
  | 27 => ("SeasonOfHoursModel", "wasWhat", "[I", true)
  | 28 => ("SeasonOfHoursModel", "value", "[I", true)
  | 29 => ("SeasonOfHoursModel", "bestWho", "[I", true)
  | 30 => ("SeasonOfHoursModel", "bestWhat", "[I", true)
  | 31 => ("SeasonOfHoursModel", "trySet", "[I", true)
  | 32 => ("SeasonOfHoursModel", "foundSet", "[I", true)
  | 33 => ("SeasonOfHoursModel", "found", "I", false)
  | 34 => ("SeasonOfHoursModel", "firsts", "[I", true)
  | 35 => ("SeasonOfHoursModel", "tryRow", "[I", true)
  | _ => ("SeasonOfHoursModel", "goodRow", "[I", true)
def tyX7 : Nat → FieldType := fun k => match k with
  | 0 => .array .int
  | 1 => .array .int
  | 2 => .int
  | 3 => .array .int
  | 4 => .array .boolean
  | 5 => .array .int
  | 6 => .array .boolean
  | 7 => .int
  | 8 => .int
  | 9 => .int
  | 10 => .int
  | 11 => .int
  | 12 => .array .int
  | 13 => .array .int
  | 14 => .array .int
  | 15 => .array .int
  | 16 => .array .int
  | 17 => .array .boolean
  | 18 => .array .int
  | 19 => .int
  | 20 => .array .int
  | 21 => .int
  | 22 => .array .int
  | 23 => .array .int
  | 24 => .array .boolean
  | 25 => .int
  | 26 => .array .int
  | 27 => .array .int
  | 28 => .array .int
  | 29 => .array .int
  | 30 => .array .int
  | 31 => .array .int
  | 32 => .array .int
  | 33 => .int
  | 34 => .array .int
  | 35 => .array .int
  | _ => .array .int
abbrev wsX70 : List Cond := u_ws RX7 TX7 37
theorem nmX7 : ∀ a, a < 37 → ∀ b, b < 37 → a ≠ b → (TX7 a).2.1 ≠ (TX7 b).2.1 := by decide +kernel
theorem tyX7_ok : ∀ k, k < 37 → parseFieldDescriptor (TX7 k).2.2.1 = some (tyX7 k) := by decide +kernel
abbrev cX7_init : ByteArray := prog_9_method_1_code
def yX7_init : MethodName := ⟨RX7, "<init>", "()V"⟩
abbrev cX7_thrown : ByteArray := prog_9_method_2_code
def yX7_thrown : MethodName := ⟨RX7, "thrown", "()I"⟩
abbrev cX7_in : ByteArray := prog_9_method_3_code
def yX7_in : MethodName := ⟨RX7, "in", "(III)Z"⟩
abbrev cX7_empty : ByteArray := prog_9_method_4_code
def yX7_empty : MethodName := ⟨RX7, "empty", "()V"⟩
abbrev cX7_isMode : ByteArray := prog_9_method_5_code
def yX7_isMode : MethodName := ⟨RX7, "isMode", "(I)Z"⟩
abbrev cX7_isArtist : ByteArray := prog_9_method_6_code
def yX7_isArtist : MethodName := ⟨RX7, "isArtist", "(I)Z"⟩
abbrev cX7_mode : ByteArray := prog_9_method_7_code
def yX7_mode : MethodName := ⟨RX7, "mode", "(II)I"⟩
abbrev cX7_artist : ByteArray := prog_9_method_8_code
def yX7_artist : MethodName := ⟨RX7, "artist", "(I)I"⟩
abbrev cX7_like : ByteArray := prog_9_method_9_code
def yX7_like : MethodName := ⟨RX7, "like", "(III)Z"⟩
abbrev cX7_rival : ByteArray := prog_9_method_10_code
def yX7_rival : MethodName := ⟨RX7, "rival", "(IIZ)Z"⟩
abbrev cX7_ill : ByteArray := prog_9_method_11_code
def yX7_ill : MethodName := ⟨RX7, "ill", "(IZ)Z"⟩
abbrev cX7_set : ByteArray := prog_9_method_12_code
def yX7_set : MethodName := ⟨RX7, "set", "(II)I"⟩
abbrev cX7_season : ByteArray := prog_9_method_13_code
def yX7_season : MethodName := ⟨RX7, "season", "(II)Z"⟩
abbrev cX7_share : ByteArray := prog_9_method_14_code
def yX7_share : MethodName := ⟨RX7, "share", "(II)I"⟩
abbrev cX7_near : ByteArray := prog_9_method_15_code
def yX7_near : MethodName := ⟨RX7, "near", "(II)I"⟩
abbrev cX7_all : ByteArray := prog_9_method_16_code
def yX7_all : MethodName := ⟨RX7, "all", "()I"⟩
abbrev cX7_count : ByteArray := prog_9_method_17_code
def yX7_count : MethodName := ⟨RX7, "count", "(I)I"⟩
abbrev cX7_put : ByteArray := prog_9_method_18_code
def yX7_put : MethodName := ⟨RX7, "put", "(III)Z"⟩
abbrev cX7_at : ByteArray := prog_9_method_19_code
def yX7_at : MethodName := ⟨RX7, "at", "(II)I"⟩
abbrev cX7_holds : ByteArray := prog_9_method_20_code
def yX7_holds : MethodName := ⟨RX7, "holds", "(II)Z"⟩
abbrev cX7_wrong : ByteArray := prog_9_method_21_code
def yX7_wrong : MethodName := ⟨RX7, "wrong", "()I"⟩
abbrev cX7_go : ByteArray := prog_9_method_22_code
def yX7_go : MethodName := ⟨RX7, "go", "(IIIIZ)V"⟩
abbrev cX7_join : ByteArray := prog_9_method_23_code
def yX7_join : MethodName := ⟨RX7, "join", "(III)V"⟩
abbrev cX7_isAhead : ByteArray := prog_9_method_24_code
def yX7_isAhead : MethodName := ⟨RX7, "isAhead", "()Z"⟩
abbrev cX7_search : ByteArray := prog_9_method_25_code
def yX7_search : MethodName := ⟨RX7, "search", "(Z)V"⟩
abbrev cX7_best : ByteArray := prog_9_method_26_code
def yX7_best : MethodName := ⟨RX7, "best", "()I"⟩
abbrev cX7_mend : ByteArray := prog_9_method_27_code
def yX7_mend : MethodName := ⟨RX7, "mend", "()I"⟩
abbrev cX7_piece : ByteArray := prog_9_method_28_code
def yX7_piece : MethodName := ⟨RX7, "piece", "(IIIZ)I"⟩
abbrev cX7_played : ByteArray := prog_9_method_29_code
def yX7_played : MethodName := ⟨RX7, "played", "(II)Z"⟩
abbrev cX7_canFollow : ByteArray := prog_9_method_30_code
def yX7_canFollow : MethodName := ⟨RX7, "canFollow", "(II)Z"⟩
abbrev cX7_findFirsts : ByteArray := prog_9_method_31_code
def yX7_findFirsts : MethodName := ⟨RX7, "findFirsts", "()V"⟩
abbrev cX7_mayBe : ByteArray := prog_9_method_32_code
def yX7_mayBe : MethodName := ⟨RX7, "mayBe", "(III)Z"⟩
abbrev cX7_sum : ByteArray := prog_9_method_33_code
def yX7_sum : MethodName := ⟨RX7, "sum", "(I)I"⟩
abbrev cX7_layRow : ByteArray := prog_9_method_34_code
def yX7_layRow : MethodName := ⟨RX7, "layRow", "(I)V"⟩
abbrev cX7_isRowAhead : ByteArray := prog_9_method_35_code
def yX7_isRowAhead : MethodName := ⟨RX7, "isRowAhead", "(I[I)Z"⟩
abbrev cX7_row : ByteArray := prog_9_method_36_code
def yX7_row : MethodName := ⟨RX7, "row", "(II)I"⟩
abbrev cX7_told : ByteArray := prog_9_method_37_code
def yX7_told : MethodName := ⟨RX7, "told", "(I)I"⟩
abbrev cX7_vote : ByteArray := prog_9_method_38_code
def yX7_vote : MethodName := ⟨RX7, "vote", "(II)I"⟩
abbrev cX7_kin : ByteArray := prog_9_method_39_code
def yX7_kin : MethodName := ⟨RX7, "kin", "(IIZ)Z"⟩
abbrev cX7_pointsOf : ByteArray := prog_9_method_40_code
def yX7_pointsOf : MethodName := ⟨RX7, "pointsOf", "(I)I"⟩
abbrev cX7_points : ByteArray := prog_9_method_41_code
def yX7_points : MethodName := ⟨RX7, "points", "(I)I"⟩
abbrev cX7_stands : ByteArray := prog_9_method_42_code
def yX7_stands : MethodName := ⟨RX7, "stands", "(II)Z"⟩
abbrev cX7_prize : ByteArray := prog_9_method_43_code
def yX7_prize : MethodName := ⟨RX7, "prize", "(I)I"⟩
def RJ6 : String := "java/lang/Integer"
def TJ6 : u_T := fun k => match k with
  | _ => ("", "", "", false)
def tyJ6 : Nat → FieldType := fun k => match k with
  | _ => .int
abbrev wsJ60 : List Cond := u_ws RJ6 TJ6 0
theorem nmJ6 : ∀ a, a < 0 → ∀ b, b < 0 → a ≠ b → (TJ6 a).2.1 ≠ (TJ6 b).2.1 := by decide +kernel
theorem tyJ6_ok : ∀ k, k < 0 → parseFieldDescriptor (TJ6 k).2.2.1 = some (tyJ6 k) := by decide +kernel
abbrev cJ6_numberOfTrailingZeros_0f7a4 : ByteArray := prog_11_method_48_code
def yJ6_numberOfTrailingZeros_0f7a4 : MethodName := ⟨RJ6, "numberOfTrailingZeros", "(I)I"⟩
abbrev cJ6_bitCount_0f7a4 : ByteArray := prog_11_method_49_code
def yJ6_bitCount_0f7a4 : MethodName := ⟨RJ6, "bitCount", "(I)I"⟩
def RJ9 : String := "java/lang/Math"
def TJ9 : u_T := fun k => match k with
  | _ => ("", "", "", false)
def tyJ9 : Nat → FieldType := fun k => match k with
  | _ => .int
abbrev wsJ90 : List Cond := u_ws RJ9 TJ9 0
theorem nmJ9 : ∀ a, a < 0 → ∀ b, b < 0 → a ≠ b → (TJ9 a).2.1 ≠ (TJ9 b).2.1 := by decide +kernel
theorem tyJ9_ok : ∀ k, k < 0 → parseFieldDescriptor (TJ9 k).2.2.1 = some (tyJ9 k) := by decide +kernel
abbrev cJ9_floorMod_f86c9 : ByteArray := prog_12_method_52_code
def yJ9_floorMod_f86c9 : MethodName := ⟨RJ9, "floorMod", "(JJ)J"⟩
abbrev cJ9_abs_0f7a4 : ByteArray := prog_12_method_59_code
def yJ9_abs_0f7a4 : MethodName := ⟨RJ9, "abs", "(I)I"⟩
abbrev cJ9_max_7cf53 : ByteArray := prog_12_method_65_code
def yJ9_max_7cf53 : MethodName := ⟨RJ9, "max", "(II)I"⟩
abbrev cJ9_max_f86c9 : ByteArray := prog_12_method_66_code
def yJ9_max_f86c9 : MethodName := ⟨RJ9, "max", "(JJ)J"⟩
def RJ0 : String := "java/lang/String"
def TJ0 : u_T := fun k => match k with
  | _ => ("", "", "", false)
def tyJ0 : Nat → FieldType := fun k => match k with
  | _ => .int
abbrev wsJ00 : List Cond := u_ws RJ0 TJ0 0
theorem nmJ0 : ∀ a, a < 0 → ∀ b, b < 0 → a ≠ b → (TJ0 a).2.1 ≠ (TJ0 b).2.1 := by decide +kernel
theorem tyJ0_ok : ∀ k, k < 0 → parseFieldDescriptor (TJ0 k).2.2.1 = some (tyJ0 k) := by decide +kernel
def RJ7 : String := "java/util/Arrays"
def TJ7 : u_T := fun k => match k with
  | _ => ("", "", "", false)
def tyJ7 : Nat → FieldType := fun k => match k with
  | _ => .int
abbrev wsJ70 : List Cond := u_ws RJ7 TJ7 0
theorem nmJ7 : ∀ a, a < 0 → ∀ b, b < 0 → a ≠ b → (TJ7 a).2.1 ≠ (TJ7 b).2.1 := by decide +kernel
theorem tyJ7_ok : ∀ k, k < 0 → parseFieldDescriptor (TJ7 k).2.2.1 = some (tyJ7 k) := by decide +kernel
abbrev cJ7_fill_d0a16 : ByteArray := prog_16_method_101_code
def yJ7_fill_d0a16 : MethodName := ⟨RJ7, "fill", "([JJ)V"⟩
abbrev cJ7_fill_53178 : ByteArray := prog_16_method_103_code
def yJ7_fill_53178 : MethodName := ⟨RJ7, "fill", "([II)V"⟩
def RL : String := "SeasonOfHoursLaw"
abbrev cL_at : ByteArray := method_3_code
def yL_at : MethodName := ⟨RL, "at", "(LSeasonOfHours;II[J)I"⟩
abbrev cL_law : ByteArray := code
def yL_law : MethodName := ⟨RL, "law", "([I)Z"⟩
abbrev classes : List vw_C := [(RX0, TX0, 5), (RX1, TX1, 5), (RX2, TX2, 4), (RX3, TX3, 12), (RX4, TX4, 11), (RX5, TX5, 7), (RX6, TX6, 6), (RX7, TX7, 37)]
end
section
/-! A small machine of numbers: its values, its steps, its runs (my own words for the class's bytecode) -/
abbrev AV : Type := Int ⊕ (Int ⊕ Option Nat)
abbrev vI (z : Int) : AV := Sum.inl z
abbrev vL (z : Int) : AV := Sum.inr (Sum.inl z)
abbrev vR (a : Nat) : AV := Sum.inr (Sum.inr (some a))
abbrev vU : AV := Sum.inr (Sum.inr none)
abbrev AG : Type := Nat → Int → Int
abbrev SK : Type := List (Nat × Nat × List Nat)
abbrev CF : Type := Nat × List AV × List AV × AG
abbrev OP : Type := SK → List AV → List AV → AG → Option CF
abbrev IN : Type := OP ⊕ ((Nat × Nat) ⊕ Unit)
abbrev CD : Type := List (Nat × IN)
def am_i (z : Int) : Int32 := Int32.ofInt z
def am_l (z : Int) : Int64 := Int64.ofInt z
def am_up (G : AG) (a : Nat) (i z : Int) : AG := fun b j => if b = a then (if j = i then z else G b j) else G b j
def am_nl : AV → Bool
  | .inr (.inl _) => false
  | _ => true
def am_okst (ls : List AV) (i : Nat) : Bool := decide (i < ls.length) && (match i with
  | 0 => true
  | j + 1 => match ls[j]? with
    | some v => am_nl v
    | none => true)
def am_cat : AV → Nat
  | .inr (.inl _) => 2
  | _ => 1
def am_cats : List AV → Nat
  | [] => 0
  | v :: r => am_cat v + am_cats r
/-- the steps; n is where they go on -/
def o_k (n : Nat) (v : AV) : OP := fun _ ls st G => some (n, ls, v :: st, G)
def o_il (n i : Nat) : OP := fun _ ls st G => match ls[i]? with
  | some (.inl z) => some (n, ls, vI z :: st, G)
  | _ => none
def o_ll (n i : Nat) : OP := fun _ ls st G => match ls[i]? with
  | some (.inr (.inl z)) => some (n, ls, vL z :: st, G)
  | _ => none
def o_al (n i : Nat) : OP := fun _ ls st G => match ls[i]? with
  | some (.inr (.inr (some a))) => some (n, ls, vR a :: st, G)
  | _ => none
def o_is (n i : Nat) : OP := fun _ ls st G => match st with
  | .inl z :: st' => if am_okst ls i = true then some (n, ls.set i (vI z), st', G) else none
  | _ => none
def o_as (n i : Nat) : OP := fun _ ls st G => match st with
  | .inr (.inr (some a)) :: st' => if am_okst ls i = true then some (n, ls.set i (vR a), st', G) else none
  | _ => none
def o_ls (n i : Nat) : OP := fun _ ls st G => match st with
  | .inr (.inl z) :: st' => if am_okst ls i = true then (if i + 1 < ls.length then some (n, (ls.set i (vL z)).set (i + 1) vU, st', G) else none) else none
  | _ => none
def o_ii (n i : Nat) (k : Int) : OP := fun _ ls st G => match ls[i]? with
  | some (.inl z) => some (n, ls.set i (vI (z + k)), st, G)
  | _ => none
def o_ib (n : Nat) (f : Int → Int → Int) : OP := fun _ ls st G => match st with
  | .inl b :: .inl a :: st' => some (n, ls, vI (f a b) :: st', G)
  | _ => none
def o_id (n : Nat) (f : Int → Int → Int) : OP := fun _ ls st G => match st with
  | .inl b :: .inl a :: st' => if am_i b = 0 then none else some (n, ls, vI (f a b) :: st', G)
  | _ => none
def o_lb (n : Nat) (f : Int → Int → Int) : OP := fun _ ls st G => match st with
  | .inr (.inl b) :: .inr (.inl a) :: st' => some (n, ls, vL (f a b) :: st', G)
  | _ => none
def o_ld (n : Nat) (f : Int → Int → Int) : OP := fun _ ls st G => match st with
  | .inr (.inl b) :: .inr (.inl a) :: st' => if am_l b = 0 then none else some (n, ls, vL (f a b) :: st', G)
  | _ => none
def o_iu (n : Nat) (f : Int → Int) : OP := fun _ ls st G => match st with
  | .inl a :: st' => some (n, ls, vI (f a) :: st', G)
  | _ => none
def o_lu (n : Nat) (f : Int → Int) : OP := fun _ ls st G => match st with
  | .inr (.inl a) :: st' => some (n, ls, vL (f a) :: st', G)
  | _ => none
def o_i2l (n : Nat) : OP := fun _ ls st G => match st with
  | .inl a :: st' => some (n, ls, vL ((am_i a).toInt) :: st', G)
  | _ => none
def o_l2i (n : Nat) : OP := fun _ ls st G => match st with
  | .inr (.inl a) :: st' => some (n, ls, vI a :: st', G)
  | _ => none
def o_lcmp (n : Nat) : OP := fun _ ls st G => match st with
  | .inr (.inl b) :: .inr (.inl a) :: st' => some (n, ls, vI (lg_cmp (am_l a) (am_l b)).toInt :: st', G)
  | _ => none
def o_dup (n : Nat) : OP := fun _ ls st G => match st with
  | v :: st' => if am_nl v = true then some (n, ls, v :: v :: st', G) else none
  | _ => none
def o_dup2 (n : Nat) : OP := fun _ ls st G => match st with
  | v :: w :: st' => if am_nl v = true then (if am_nl w = true then some (n, ls, v :: w :: v :: w :: st', G) else none) else none
  | _ => none
def o_pop (n : Nat) : OP := fun _ ls st G => match st with
  | v :: st' => if am_nl v = true then some (n, ls, st', G) else none
  | _ => none
def o_if (t n : Nat) (q : Int32 → Bool) : OP := fun _ ls st G => match st with
  | .inl a :: st' => some (if q (am_i a) = true then t else n, ls, st', G)
  | _ => none
def o_ic (t n : Nat) (q : Int32 → Int32 → Bool) : OP := fun _ ls st G => match st with
  | .inl b :: .inl a :: st' => some (if q (am_i a) (am_i b) = true then t else n, ls, st', G)
  | _ => none
def o_go (t : Nat) : OP := fun _ ls st G => some (t, ls, st, G)
def o_sw (f : Int → Nat) : OP := fun _ ls st G => match st with
  | .inl a :: st' => some (f (am_i a).toInt, ls, st', G)
  | _ => none
def o_gf (n ci f : Nat) : OP := fun sk ls st G => match st with
  | .inr (.inr (some a)) :: st' => match sk[a]? with
    | some (0, c, fl) => if c = ci then (match fl[f]? with
      | some 0 => some (n, ls, vI (G a f) :: st', G)
      | some (r + 1) => some (n, ls, vR r :: st', G)
      | none => none) else none
    | _ => none
  | _ => none
def o_pf (n ci f : Nat) : OP := fun sk ls st G => match st with
  | .inl z :: .inr (.inr (some a)) :: st' => match sk[a]? with
    | some (0, c, fl) => if c = ci then (match fl[f]? with
      | some 0 => some (n, ls, st', am_up G a f z)
      | _ => none) else none
    | _ => none
  | _ => none
/-- the class's one static row -/
def am_pl : List Int := [69343957, 1874161, 50653, 1369, 37, 1]
def am_in (z : Int) (n : Nat) : Bool := decide (0 ≤ (am_i z).toInt) && decide ((am_i z).toInt < n)
def o_ia (n : Nat) : OP := fun sk ls st G => match st with
  | .inl i :: .inr (.inr (some a)) :: st' => match sk[a]? with
    | some (1, len, _) => if am_in i len = true then some (n, ls, vI (G a (am_i i).toInt) :: st', G) else none
    | _ => none
  | _ => none
def o_ba (n : Nat) : OP := fun sk ls st G => match st with
  | .inl i :: .inr (.inr (some a)) :: st' => match sk[a]? with
    | some (2, len, _) => if am_in i len = true then some (n, ls, vI (G a (am_i i).toInt) :: st', G) else none
    | _ => none
  | _ => none
def o_la (n : Nat) : OP := fun sk ls st G => match st with
  | .inl i :: .inr (.inr (some a)) :: st' => match sk[a]? with
    | some (3, len, _) => if am_in i len = true then some (n, ls, vL (G a (am_i i).toInt) :: st', G) else none
    | none => if a = 1000 then (if am_in i 6 = true then some (n, ls, vL (am_pl.getD (am_i i).toInt.toNat 0) :: st', G) else none) else none
    | _ => none
  | _ => none
def o_aa (n : Nat) : OP := fun sk ls st G => match st with
  | .inl i :: .inr (.inr (some a)) :: st' => match sk[a]? with
    | some (4, len, fl) => if am_in i len = true then (match fl[(am_i i).toInt.toNat]? with
      | some r => some (n, ls, vR r :: st', G)
      | none => none) else none
    | some (5, len, fl) => if am_in i len = true then (match fl[(am_i i).toInt.toNat]? with
      | some r => some (n, ls, vR r :: st', G)
      | none => none) else none
    | _ => none
  | _ => none
def o_iw (n : Nat) : OP := fun sk ls st G => match st with
  | .inl z :: .inl i :: .inr (.inr (some a)) :: st' => match sk[a]? with
    | some (1, len, _) => if am_in i len = true then some (n, ls, st', am_up G a (am_i i).toInt z) else none
    | _ => none
  | _ => none
def o_bw (n : Nat) : OP := fun sk ls st G => match st with
  | .inl z :: .inl i :: .inr (.inr (some a)) :: st' => match sk[a]? with
    | some (2, len, _) => if am_in i len = true then (if z = 0 ∨ z = 1 then some (n, ls, st', am_up G a (am_i i).toInt z) else none) else none
    | _ => none
  | _ => none
def o_lw (n : Nat) : OP := fun sk ls st G => match st with
  | .inr (.inl z) :: .inl i :: .inr (.inr (some a)) :: st' => match sk[a]? with
    | some (3, len, _) => if am_in i len = true then some (n, ls, st', am_up G a (am_i i).toInt z) else none
    | _ => none
  | _ => none
def o_len (n : Nat) : OP := fun sk ls st G => match st with
  | .inr (.inr (some a)) :: st' => match sk[a]? with
    | some (1, len, _) => some (n, ls, vI len :: st', G)
    | some (3, len, _) => some (n, ls, vI len :: st', G)
    | _ => none
  | _ => none
/-- where the code stands -/
def am_at : CD → Nat → Option IN
  | [], _ => none
  | q :: r, pc => if q.1 = pc then some q.2 else am_at r pc
def am_slots : List AV → List AV
  | [] => []
  | .inr (.inl z) :: r => vL z :: vU :: am_slots r
  | v :: r => v :: am_slots r
def am_ent (n : Nat) (as : List AV) : List AV := am_slots as ++ List.replicate (n - (am_slots as).length) vU
/-- of a method: its code, its locals, what it answers (0: nothing, 1: an int, 2: a truth value, 3: a long), whether it has a receiver (its class + 1) -/
abbrev MT : Type := Nat → CD × Nat × Nat × Nat
def am_ret (q : Nat) (st : List AV) : Option (Option AV) := match q, st with
  | 0, [] => some none
  | 1, [.inl z] => some (some (vI z))
  | 2, [.inl z] => if z = 0 ∨ z = 1 then some (some (vI z)) else none
  | 3, [.inr (.inl z)] => some (some (vL z))
  | _, _ => none
def am_recv (sk : SK) (q : Nat) (as : List AV) : Bool := match q with
  | 0 => true
  | ci + 1 => match as with
    | .inr (.inr (some a)) :: _ => match sk[a]? with
      | some (0, c, _) => decide (c = ci)
      | _ => false
    | _ => false
/-- no value that isn't one -/
def am_vals : List AV → Bool
  | [] => true
  | .inr (.inr none) :: _ => false
  | _ :: r => am_vals r
def am_run (mt : MT) (sk : SK) : Nat → Nat → Nat → Nat → List AV → List AV → AG → Option (Option AV × AG)
  | 0, _, _, _, _, _, _ => none
  | n + 1, d, k, pc, ls, st, G => match am_at (mt k).1 pc with
    | none => none
    | some (.inl op) => match op sk ls st G with
      | none => none
      | some (pc', ls', st', G') => am_run mt sk n d k pc' ls' st' G'
    | some (.inr (.inl (j, na))) => match d with
      | 0 => none
      | d' + 1 => if na ≤ st.length ∧ am_cats (st.drop na) ≤ 8 ∧ am_recv sk (mt j).2.2.2 (st.take na).reverse = true ∧ am_vals (st.take na) = true ∧ (am_slots (st.take na).reverse).length ≤ (mt j).2.1 then
          match am_run mt sk n d' j 0 (am_ent (mt j).2.1 (st.take na).reverse) [] G with
          | none => none
          | some (r, G') => am_run mt sk n (d' + 1) k (pc + 3) ls (r.toList ++ st.drop na) G'
        else none
    | some (.inr (.inr ())) => match am_ret (mt k).2.2.1 st with
      | none => none
      | some r => some (r, G)
end
section
/-! How the small machine's values and cells stand in the machine -/
def am_rp (ad : Nat → Nat) : AV → Value
  | .inl z => .int (am_i z)
  | .inr (.inl z) => .long (am_l z)
  | .inr (.inr (some a)) => .ref (ad a)
  | .inr (.inr none) => .null
def am_fld (ad : Nat → Nat) (g : Int → Int) (j x : Nat) : Value := match x with
  | 0 => .int (am_i (g j))
  | r + 1 => .ref (ad r)
def am_cell (ad : Nat → Nat) (cA : Nat → ClassId) (c : Nat × Nat × List Nat) (g : Int → Int) : va_E := match c with
  | (0, ci, fl) => .inr (ci, fl.mapIdx (fun j x => am_fld ad g j x))
  | (1, n, _) => .inl (cA 0, n, .inl (fun j => am_i (g j)))
  | (2, n, _) => .inl (cA 1, n, .inl (fun j => am_i (g j)))
  | (3, n, _) => .inl (cA 2, n, .inr (.inl (fun j => am_l (g j))))
  | (4, n, fl) => .inl (cA 3, n, .inr (.inr (.inr (.inr (fun j => (fl[j]?).map ad)))))
  | (_, n, fl) => .inl (cA 4, n, .inr (.inr (.inr (.inr (fun j => (fl[j]?).map ad)))))
def am_wo (ad : Nat → Nat) (cA : Nat → ClassId) (sk : SK) (G : AG) : va_W := sk.mapIdx (fun k c => (ad k, am_cell ad cA c (G k)))
def am_tys (cA : Nat → ClassId) : List (ClassId × FieldType) := [(cA 0, .int), (cA 1, .boolean), (cA 2, .long), (cA 3, .array .int), (cA 4, .array .long)]
def am_A (ad : Nat → Nat) (sk : SK) : Nat → Prop := fun q => ∃ k, k < sk.length ∧ ad k = q
def am_inj (ad : Nat → Nat) (sk : SK) : Prop := ∀ i j, i < sk.length → j < sk.length → ad i = ad j → i = j
def am_Z (ad : Nat → Nat) (A : Nat → Prop) (U : State) (H : Heap) : Prop := va_Z "SeasonOfHours$Planner" "PLACES" "[J" (.ref (ad 1000)) A U H ∧ va_T .long (ad 1000) 6 (fun j => .long (am_l (am_pl.getD j 0))) A U H
def am_LR (ad : Nat → Nat) (nL : Nat) (al : List AV) (ls : Array Slot) : Prop := ls.size = nL ∧ al.length = nL ∧ lv_wf ls ∧ ∀ (i : Nat) (v : AV), al[i]? = some v → v ≠ vU → ls[i]? = some (.val (am_rp ad v))
abbrev NS : Type := List (String × Nat × MethodName × String)
def am_Cx (ad : Nat → Nat) (cA : Nat → ClassId) (D : va_G) (sk : SK) (Ts : List Cond) (Ns : NS) (p : Program) (s : State) (m : MethodId) (args : Array Value) (c : Code) (cc : ByteArray) (nL : Nat) (own : String) : Prop :=
  p.tables.exec = Jvm.exec ∧ c.code = cc ∧ c.maxLocals = nL ∧ s.vm.findClass own = some m.cls ∧ (∀ w ∈ Ts, w.before args s = true) ∧ (∀ q ∈ Ns, va_Nw (.methodLinkNest q.1 q.2.1 q.2.2.1 q.2.2.2) s) ∧ va_K D classes (am_tys cA) s ∧ am_Z ad (am_A ad sk) s s.heap
def am_St (ad : Nat → Nat) (cA : Nat → ClassId) (D : va_G) (sk : SK) (s : State) (nL : Nat) (al : List AV) (G : AG) (H : Heap) (locs : List Loc) (ls : Array Slot) : Prop :=
  va_P D classes (am_wo ad cA sk G) H ∧ va_S (am_A ad sk) s.heap H locs ∧ am_LR ad nL al ls
def am_ok (Ts : List Cond) (cc : ByteArray) (nL : Nat) (own : String) (pc : Nat) (op : OP) : Prop :=
  ∀ (ad : Nat → Nat) (cA : Nat → ClassId) (D : va_G) (sk : SK) (Ns : NS) (p : Program) (l : Launch) (e : Env) (R : Room) (s : State) (m : MethodId) (args : Array Value) (below : List Frame) (meth : Method) (c : Code) (H : Heap) (locs : List Loc) (Q : State → Prop) (ls : Array Slot) (al st : List AV) (G : AG) (cf : CF),
    am_inj ad sk → am_Cx ad cA D sk Ts Ns p s m args c cc nL own → am_St ad cA D sk s nL al G H locs ls → op sk al st G = some cf →
    (∀ (H' : Heap) (locs' : List Loc) (ls' : Array Slot), am_St ad cA D sk s nL cf.2.1 cf.2.2.2 H' locs' ls' → W p l e R s m args below meth c H' locs' 0 0 Q (F0 m cf.1 ls' (cf.2.2.1.map (am_rp ad)))) →
    W p l e R s m args below meth c H locs 0 0 Q (F0 m pc ls (st.map (am_rp ad)))
/-! numbers -/
theorem am_i_add (a b : Int) : am_i (a + b) = am_i a + am_i b := Int32.ofInt_add ..
theorem am_i_sub (a b : Int) : am_i (a - b) = am_i a - am_i b := Int32.ofInt_sub ..
theorem am_i_mul (a b : Int) : am_i (a * b) = am_i a * am_i b := Int32.ofInt_mul ..
theorem am_i_neg (a : Int) : am_i (-a) = -am_i a := Int32.ofInt_neg ..
theorem am_l_add (a b : Int) : am_l (a + b) = am_l a + am_l b := Int64.ofInt_add ..
theorem am_l_sub (a b : Int) : am_l (a - b) = am_l a - am_l b := Int64.ofInt_sub ..
theorem am_l_mul (a b : Int) : am_l (a * b) = am_l a * am_l b := Int64.ofInt_mul ..
theorem am_l_neg (a : Int) : am_l (-a) = -am_l a := Int64.ofInt_neg ..
theorem am_i_t (x : Int32) : am_i x.toInt = x := Int32.ofInt_toInt x
theorem am_l_t (x : Int64) : am_l x.toInt = x := Int64.ofInt_toInt x
/-! cells -/
theorem am_wo_at {ad : Nat → Nat} {cA : Nat → ClassId} {sk : SK} {G : AG} {a : Nat} {c : Nat × Nat × List Nat} (h : sk[a]? = some c) : (am_wo ad cA sk G)[a]? = some (ad a, am_cell ad cA c (G a)) := by
  simp [am_wo, List.getElem?_mapIdx, h]
theorem am_wo_get {ad : Nat → Nat} {cA : Nat → ClassId} {sk : SK} {G : AG} {a : Nat} {q : Nat × va_E} (h : (am_wo ad cA sk G)[a]? = some q) : a < sk.length ∧ q.1 = ad a := by
  simp only [am_wo, List.getElem?_mapIdx, Option.map_eq_some_iff] at h
  obtain ⟨c, h1, h2⟩ := h
  exact ⟨(List.getElem?_eq_some_iff.mp h1).1, by rw [← h2]⟩
theorem am_D {ad : Nat → Nat} {cA : Nat → ClassId} {sk : SK} (h : am_inj ad sk) (G : AG) : va_D (am_A ad sk) (am_wo ad cA sk G) := by
  refine ⟨fun i j p q hp hq e => ?_, fun k q hq => ?_⟩
  · obtain ⟨h1, h2⟩ := am_wo_get hp
    obtain ⟨h3, h4⟩ := am_wo_get hq
    exact h i j h1 h3 (by rw [← h2, ← h4]; exact e)
  · obtain ⟨h1, h2⟩ := am_wo_get hq
    exact ⟨k, h1, h2.symm⟩
theorem am_wo_set {ad : Nat → Nat} {cA : Nat → ClassId} {sk : SK} {G : AG} {a : Nat} {c : Nat × Nat × List Nat} {E : va_E} {G' : AG} (h : sk[a]? = some c) (he : am_cell ad cA c (G' a) = E) (ho : ∀ b, b ≠ a → G' b = G b) : (am_wo ad cA sk G).set a (ad a, E) = am_wo ad cA sk G' := by
  refine List.ext_getElem? fun k => ?_
  by_cases hk : k = a
  · subst hk
    rw [am_wo_at (G := G') h, he, List.getElem?_set_self]
    simp only [am_wo, List.length_mapIdx]
    exact (List.getElem?_eq_some_iff.mp h).1
  · rw [List.getElem?_set_ne (fun q => hk q.symm)]
    simp only [am_wo, List.getElem?_mapIdx, ho k hk]
theorem am_up_ne (G : AG) (a : Nat) (i z : Int) (b : Nat) (h : b ≠ a) : am_up G a i z b = G b := by
  funext j
  simp [am_up, h]
theorem am_in_iff {z : Int} {n : Nat} : am_in z n = true ↔ vp_in (am_i z) n := by
  rw [vp_in_iff, am_in, Bool.and_eq_true, decide_eq_true_iff, decide_eq_true_iff]
theorem am_clamp {z : Int} {n : Nat} (h : am_in z n = true) : ((am_i z).toNatClampNeg : Int) = (am_i z).toInt := by
  have h1 := (vp_in_iff.mp (am_in_iff.mp h)).1
  show (((am_i z).toInt.toNat : Nat) : Int) = _
  exact Int.toNat_of_nonneg h1
/-! locals -/
def am_toL (ad : Nat → Nat) (al : List AV) : List (Nat × Value) := (al.zipIdx).filterMap (fun q => match q.1 with
  | .inr (.inr none) => none
  | v => some (q.2, am_rp ad v))
theorem am_toL_mem {ad : Nat → Nat} {al : List AV} {q : Nat × Value} : q ∈ am_toL ad al ↔ ∃ (i : Nat) (v : AV), al[i]? = some v ∧ v ≠ vU ∧ q = (i, am_rp ad v) := by
  unfold am_toL
  rw [List.mem_filterMap]
  constructor
  · rintro ⟨⟨v, i⟩, h1, h2⟩
    have h3 := List.mem_zipIdx_iff_getElem?.mp h1
    refine ⟨i, v, h3, ?_⟩
    rcases v with z | z | _ | a
    · simp at h2; exact ⟨by simp, h2.symm⟩
    · simp at h2; exact ⟨by simp, h2.symm⟩
    · simp at h2
    · simp at h2; exact ⟨by simp, h2.symm⟩
  · rintro ⟨i, v, h1, h2, rfl⟩
    refine ⟨(v, i), List.mem_zipIdx_iff_getElem?.mpr h1, ?_⟩
    rcases v with z | z | _ | a
    · rfl
    · rfl
    · exact absurd rfl h2
    · rfl
theorem am_LR.has {ad : Nat → Nat} {nL : Nat} {al : List AV} {ls : Array Slot} (h : am_LR ad nL al ls) : lv_has ls nL (am_toL ad al) := by
  refine ⟨h.1, h.2.2.1, fun q hq => ?_⟩
  obtain ⟨i, v, h1, h2, rfl⟩ := am_toL_mem.mp hq
  exact h.2.2.2 i v h1 h2
theorem am_rp_cat {ad : Nat → Nat} {v : AV} (h : am_nl v = true) : (am_rp ad v).category = 1 := by
  rcases v with z | z | _ | a
  · rfl
  · simp [am_nl] at h
  · rfl
  · rfl
theorem am_okst_lt {al : List AV} {i : Nat} (h : am_okst al i = true) : i < al.length := by
  unfold am_okst at h
  rw [Bool.and_eq_true] at h
  exact of_decide_eq_true h.1
theorem am_okst_nl {al : List AV} {j : Nat} {v : AV} (h : am_okst al (j + 1) = true) (hv : al[j]? = some v) : am_nl v = true := by
  unfold am_okst at h
  rw [Bool.and_eq_true] at h
  have h2 := h.2
  simp only [hv] at h2
  exact h2
theorem am_LR.st1 {ad : Nat → Nat} {nL : Nat} {al : List AV} {ls ls' : Array Slot} {i : Nat} {v : AV} (h : am_LR ad nL al ls) (hi : am_okst al i = true)
    (h' : lv_has ls' nL ((i, am_rp ad v) :: (am_toL ad al).filter (fun q => !(q.1 == i) && !(q.1 + 1 == i && q.2.category == 2)))) : am_LR ad nL (al.set i v) ls' := by
  refine ⟨h'.1, by rw [List.length_set]; exact h.2.1, h'.2.1, fun j w hw hu => ?_⟩
  by_cases e : j = i
  · subst e
    rw [List.getElem?_set_self (am_okst_lt hi)] at hw
    cases hw
    exact h'.2.2 _ List.mem_cons_self
  · rw [List.getElem?_set_ne (fun q => e q.symm)] at hw
    refine h'.2.2 (j, am_rp ad w) (List.mem_cons_of_mem _ (List.mem_filter.mpr ⟨am_toL_mem.mpr ⟨j, w, hw, hu, rfl⟩, ?_⟩))
    have h2 : (j + 1 == i && (am_rp ad w).category == 2) = false := by
      by_cases e2 : j + 1 = i
      · subst e2
        rw [am_rp_cat (am_okst_nl hi hw)]
        simp
      · simp [e2]
    simp [e, h2]
theorem am_LR.st2 {ad : Nat → Nat} {nL : Nat} {al : List AV} {ls ls' : Array Slot} {i : Nat} {v : AV} (h : am_LR ad nL al ls) (hi : am_okst al i = true)
    (h' : lv_has ls' nL ((i, am_rp ad v) :: (am_toL ad al).filter (fun q => !(q.1 == i) && (!(q.1 == i + 1) && !(q.1 + 1 == i && q.2.category == 2))))) : am_LR ad nL ((al.set i v).set (i + 1) vU) ls' := by
  refine ⟨h'.1, by rw [List.length_set, List.length_set]; exact h.2.1, h'.2.1, fun j w hw hu => ?_⟩
  by_cases e1 : j = i + 1
  · subst e1
    by_cases hl : i + 1 < (al.set i v).length
    · rw [List.getElem?_set_self hl] at hw
      cases hw
      exact absurd rfl hu
    · rw [List.getElem?_eq_none (by rw [List.length_set]; omega)] at hw
      cases hw
  · rw [List.getElem?_set_ne (fun q => e1 q.symm)] at hw
    by_cases e : j = i
    · subst e
      rw [List.getElem?_set_self (am_okst_lt hi)] at hw
      cases hw
      exact h'.2.2 _ List.mem_cons_self
    · rw [List.getElem?_set_ne (fun q => e q.symm)] at hw
      refine h'.2.2 (j, am_rp ad w) (List.mem_cons_of_mem _ (List.mem_filter.mpr ⟨am_toL_mem.mpr ⟨j, w, hw, hu, rfl⟩, ?_⟩))
      have h2 : (j + 1 == i && (am_rp ad w).category == 2) = false := by
        by_cases e2 : j + 1 = i
        · subst e2
          rw [am_rp_cat (am_okst_nl hi hw)]
          simp
        · simp [e2]
      simp [e, e1, h2]
/-- at an int no wide value stands ahead -/
theorem am_LR.okst {ad : Nat → Nat} {nL : Nat} {al : List AV} {ls : Array Slot} {i : Nat} {z : Int} (h : am_LR ad nL al ls) (hz : al[i]? = some (vI z)) : am_okst al i = true := by
  have hl : i < al.length := (List.getElem?_eq_some_iff.mp hz).1
  have h1 := h.2.2.2 i _ hz (by simp)
  unfold am_okst
  rw [Bool.and_eq_true]
  refine ⟨decide_eq_true hl, ?_⟩
  cases i with
  | zero => rfl
  | succ j =>
    cases hj : al[j]? with
    | none => simp only [hj]
    | some v =>
      simp only [hj]
      rcases v with a | a | _ | a
      · rfl
      · have h2 := h.2.2.2 j _ hj (by simp)
        have h3 := h.2.2.1.1 j _ h2 rfl
        rw [h3] at h1
        cases h1
      · rfl
      · rfl
end
section
/-! each step of the small machine is the machine's -/
section AmOps
variable {Ts : List Cond} {cc : ByteArray} {nL pc : Nat} {own : String}
theorem so_k {v : Int} (hdg : decode cc pc = .ok (.iconst v, 1)) : am_ok Ts cc nL own pc (o_k (pc + 1) (vI v)) := by
  intro ad cA D sk Ns p l e R s m args below meth c H locs Q ls al st G cf hj hC hS ho k
  obtain ⟨hx, hb, -⟩ := hC
  cases ho
  exact lv_iconst (v := am_i v) hx hb hdg rfl (k H locs ls hS)
theorem so_bp {v : Int} (hv : (Int8.ofInt v).toInt32 = am_i v) (hdg : decode cc pc = .ok (.bipush v, 2)) : am_ok Ts cc nL own pc (o_k (pc + 2) (vI v)) := by
  intro ad cA D sk Ns p l e R s m args below meth c H locs Q ls al st G cf hj hC hS ho k
  obtain ⟨hx, hb, -⟩ := hC
  cases ho
  exact lv_bipush (v := am_i v) hx hb hdg hv (k H locs ls hS)
theorem so_sp {v : Int} (hv : (Int16.ofInt v).toInt32 = am_i v) (hdg : decode cc pc = .ok (.sipush v, 3)) : am_ok Ts cc nL own pc (o_k (pc + 3) (vI v)) := by
  intro ad cA D sk Ns p l e R s m args below meth c H locs Q ls al st G cf hj hC hS ho k
  obtain ⟨hx, hb, -⟩ := hC
  cases ho
  exact lv_sipush (v := am_i v) hx hb hdg hv (k H locs ls hS)
theorem so_lk {v : Int} {n : Fin 2} (hn : (Int64.ofNat n.val) = am_l v) (hdg : decode cc pc = .ok (.lconst n, 1)) : am_ok Ts cc nL own pc (o_k (pc + 1) (vL v)) := by
  intro ad cA D sk Ns p l e R s m args below meth c H locs Q ls al st G cf hj hC hS ho k
  obtain ⟨hx, hb, -⟩ := hC
  cases ho
  exact lv_lconst (v := am_l v) hx hb hdg hn (k H locs ls hS)
theorem so_ldc {v : Int} {ix : Nat} (hw : Cond.constant own ix (am_i v) ∈ Ts) (hdg : decode cc pc = .ok (.ldc ix, 2)) : am_ok Ts cc nL own pc (o_k (pc + 2) (vI v)) := by
  intro ad cA D sk Ns p l e R s m args below meth c H locs Q ls al st G cf hj hC hS ho k
  obtain ⟨hx, hb, -, hown, hts, -⟩ := hC
  cases ho
  exact lv_ldc hx hb hown (hts _ hw) hdg (k H locs ls hS)
theorem so_ldcw {v : Int} {ix : Nat} (hw : Cond.constant own ix (am_i v) ∈ Ts) (hdg : decode cc pc = .ok (.ldc_w ix, 3)) : am_ok Ts cc nL own pc (o_k (pc + 3) (vI v)) := by
  intro ad cA D sk Ns p l e R s m args below meth c H locs Q ls al st G cf hj hC hS ho k
  obtain ⟨hx, hb, -, hown, hts, -⟩ := hC
  cases ho
  exact lv_ldcw hx hb hown (hts _ hw) hdg (k H locs ls hS)
theorem so_ldc2 {v : Int} {ix : Nat} (hw : Cond.constantLong own ix (am_l v) ∈ Ts) (hdg : decode cc pc = .ok (.ldc2_w ix, 3)) : am_ok Ts cc nL own pc (o_k (pc + 3) (vL v)) := by
  intro ad cA D sk Ns p l e R s m args below meth c H locs Q ls al st G cf hj hC hS ho k
  obtain ⟨hx, hb, -, hown, hts, -⟩ := hC
  cases ho
  exact lv_ldc2 hx hb hown (hts _ hw) hdg (k H locs ls hS)
theorem so_gs {ix : Nat} (hw : Cond.fieldLink own ix "SeasonOfHours$Planner" "PLACES" "[J" ∈ Ts) (hdg : decode cc pc = .ok (.getstatic ix, 3)) : am_ok Ts cc nL own pc (o_k (pc + 3) (vR 1000)) := by
  intro ad cA D sk Ns p l e R s m args below meth c H locs Q ls al st G cf hj hC hS ho k
  obtain ⟨hx, hb, -, hown, hts, -, -, hZ⟩ := hC
  cases ho
  exact va_gets hx hb hZ.1 hS.2.1 hown (hts _ hw) (fun _ h => h) hdg (k H locs ls hS)
theorem so_il {i n : Nat} {q : Instr} (hi : (∃ f : Fin 4, q = .iload_n f ∧ (f : Nat) = i ∧ n = pc + 1) ∨ q = .iload i ∧ n = pc + 2) (hdg : decode cc pc = .ok (q, n - pc)) : am_ok Ts cc nL own pc (o_il n i) := by
  intro ad cA D sk Ns p l e R s m args below meth c H locs Q ls al st G cf hj hC hS ho k
  obtain ⟨hx, hb, -⟩ := hC
  unfold o_il at ho
  split at ho
  · rename_i z hz
    cases ho
    have h1 := hS.2.2.2.2.2 i _ hz (by simp)
    have k := k H locs ls hS
    rcases hi with ⟨f, rfl, hf, rfl⟩ | ⟨rfl, rfl⟩
    · rw [show pc + 1 - pc = 1 by omega] at hdg
      exact lv_iload_n hx hb hdg hf h1 k
    · rw [show pc + 2 - pc = 2 by omega] at hdg
      exact lv_iload hx hb hdg h1 k
  · cases ho
theorem so_ll {i n : Nat} {q : Instr} (hi : (∃ f : Fin 4, q = .lload_n f ∧ (f : Nat) = i ∧ n = pc + 1) ∨ q = .lload i ∧ n = pc + 2) (hdg : decode cc pc = .ok (q, n - pc)) : am_ok Ts cc nL own pc (o_ll n i) := by
  intro ad cA D sk Ns p l e R s m args below meth c H locs Q ls al st G cf hj hC hS ho k
  obtain ⟨hx, hb, -⟩ := hC
  unfold o_ll at ho
  split at ho
  · rename_i z hz
    cases ho
    have h1 := hS.2.2.2.2.2 i _ hz (by simp)
    have k := k H locs ls hS
    rcases hi with ⟨f, rfl, hf, rfl⟩ | ⟨rfl, rfl⟩
    · rw [show pc + 1 - pc = 1 by omega] at hdg
      exact lv_lload_n hx hb hdg hf h1 k
    · rw [show pc + 2 - pc = 2 by omega] at hdg
      exact lv_lload hx hb hdg h1 k
  · cases ho
theorem so_al {i n : Nat} {q : Instr} (hi : (∃ f : Fin 4, q = .aload_n f ∧ (f : Nat) = i ∧ n = pc + 1) ∨ q = .aload i ∧ n = pc + 2) (hdg : decode cc pc = .ok (q, n - pc)) : am_ok Ts cc nL own pc (o_al n i) := by
  intro ad cA D sk Ns p l e R s m args below meth c H locs Q ls al st G cf hj hC hS ho k
  obtain ⟨hx, hb, -⟩ := hC
  unfold o_al at ho
  split at ho
  · rename_i z hz
    cases ho
    have h1 := hS.2.2.2.2.2 i _ hz (by simp)
    have k := k H locs ls hS
    rcases hi with ⟨f, rfl, hf, rfl⟩ | ⟨rfl, rfl⟩
    · rw [show pc + 1 - pc = 1 by omega] at hdg
      exact lv_aload_n hx hb hdg hf h1 k
    · rw [show pc + 2 - pc = 2 by omega] at hdg
      exact lv_aload hx hb hdg h1 k
  · cases ho
theorem so_is {i n : Nat} {q : Instr} (hi : (∃ f : Fin 4, q = .istore_n f ∧ (f : Nat) = i ∧ n = pc + 1) ∨ q = .istore i ∧ n = pc + 2) (hdg : decode cc pc = .ok (q, n - pc)) : am_ok Ts cc nL own pc (o_is n i) := by
  intro ad cA D sk Ns p l e R s m args below meth c H locs Q ls al st G cf hj hC hS ho k
  obtain ⟨hx, hb, -⟩ := hC
  unfold o_is at ho
  split at ho
  · split at ho
    · rename_i z st' hok
      cases ho
      have hlt : i < nL := by rw [← hS.2.2.2.1]; exact am_okst_lt hok
      rcases hi with ⟨f, rfl, hf, rfl⟩ | ⟨rfl, rfl⟩
      · rw [show pc + 1 - pc = 1 by omega] at hdg
        exact lv_istore_n hx hb hdg hf hS.2.2.has hlt rfl (fun ls' hl => k H locs ls' ⟨hS.1, hS.2.1, hS.2.2.st1 (v := vI z) hok hl⟩)
      · rw [show pc + 2 - pc = 2 by omega] at hdg
        exact lv_istore hx hb hdg hS.2.2.has hlt rfl (fun ls' hl => k H locs ls' ⟨hS.1, hS.2.1, hS.2.2.st1 (v := vI z) hok hl⟩)
    · cases ho
  · cases ho
theorem so_as {i n : Nat} {q : Instr} (hi : (∃ f : Fin 4, q = .astore_n f ∧ (f : Nat) = i ∧ n = pc + 1) ∨ q = .astore i ∧ n = pc + 2) (hdg : decode cc pc = .ok (q, n - pc)) : am_ok Ts cc nL own pc (o_as n i) := by
  intro ad cA D sk Ns p l e R s m args below meth c H locs Q ls al st G cf hj hC hS ho k
  obtain ⟨hx, hb, -⟩ := hC
  unfold o_as at ho
  split at ho
  · split at ho
    · rename_i z st' hok
      cases ho
      have hlt : i < nL := by rw [← hS.2.2.2.1]; exact am_okst_lt hok
      rcases hi with ⟨f, rfl, hf, rfl⟩ | ⟨rfl, rfl⟩
      · rw [show pc + 1 - pc = 1 by omega] at hdg
        exact lv_astore_n hx hb hdg hf hS.2.2.has hlt rfl (fun ls' hl => k H locs ls' ⟨hS.1, hS.2.1, hS.2.2.st1 (v := vR z) hok hl⟩)
      · rw [show pc + 2 - pc = 2 by omega] at hdg
        exact lv_astore hx hb hdg hS.2.2.has hlt rfl (fun ls' hl => k H locs ls' ⟨hS.1, hS.2.1, hS.2.2.st1 (v := vR z) hok hl⟩)
    · cases ho
  · cases ho
theorem so_ls {i n : Nat} {q : Instr} (hi : (∃ f : Fin 4, q = .lstore_n f ∧ (f : Nat) = i ∧ n = pc + 1) ∨ q = .lstore i ∧ n = pc + 2) (hdg : decode cc pc = .ok (q, n - pc)) : am_ok Ts cc nL own pc (o_ls n i) := by
  intro ad cA D sk Ns p l e R s m args below meth c H locs Q ls al st G cf hj hC hS ho k
  obtain ⟨hx, hb, -⟩ := hC
  unfold o_ls at ho
  split at ho
  · split at ho
    · split at ho
      · rename_i z st' hok hlt
        cases ho
        have hlt : i + 1 < nL := by rw [← hS.2.2.2.1]; exact hlt
        rcases hi with ⟨f, rfl, hf, rfl⟩ | ⟨rfl, rfl⟩
        · rw [show pc + 1 - pc = 1 by omega] at hdg
          exact lv_lstore_n hx hb hdg hf hS.2.2.has hlt rfl (fun ls' hl => k H locs ls' ⟨hS.1, hS.2.1, hS.2.2.st2 (v := vL z) hok hl⟩)
        · rw [show pc + 2 - pc = 2 by omega] at hdg
          exact lv_lstore hx hb hdg hS.2.2.has hlt rfl (fun ls' hl => k H locs ls' ⟨hS.1, hS.2.1, hS.2.2.st2 (v := vL z) hok hl⟩)
      · cases ho
    · cases ho
  · cases ho
theorem so_ii {i : Nat} {v : Int} (hdg : decode cc pc = .ok (.iinc i v, 3)) : am_ok Ts cc nL own pc (o_ii (pc + 3) i v) := by
  intro ad cA D sk Ns p l e R s m args below meth c H locs Q ls al st G cf hj hC hS ho k
  obtain ⟨hx, hb, -⟩ := hC
  unfold o_ii at ho
  split at ho
  · rename_i z hz
    cases ho
    have hok := hS.2.2.okst hz
    have hlt : i < nL := by rw [← hS.2.2.2.1]; exact am_okst_lt hok
    obtain ⟨kk, hkk⟩ := List.getElem?_of_mem (am_toL_mem (ad := ad).mpr ⟨i, vI z, hz, by simp, rfl⟩)
    exact lv_iinc (v := am_i (z + v)) hx hb hdg hS.2.2.has hkk (am_i_add z v).symm hlt rfl (fun ls' hl => k H locs ls' ⟨hS.1, hS.2.1, hS.2.2.st1 (v := vI (z + v)) hok hl⟩)
  · cases ho
end AmOps
end
section
theorem fb_rng' (x : Int32) : -2147483648 ≤ x.toInt ∧ x.toInt < 2147483648 := by
  have h1 := Int32.le_toInt x
  have h2 := Int32.toInt_lt x
  omega
/-! arithmetic, compares, branches -/
section AmOps2
variable {Ts : List Cond} {cc : ByteArray} {nL pc : Nat} {own : String}
def f_and (a b : Int) : Int := (am_i a &&& am_i b).toInt
def f_or (a b : Int) : Int := (am_i a ||| am_i b).toInt
def f_xor (a b : Int) : Int := (am_i a ^^^ am_i b).toInt
def f_shl (a b : Int) : Int := (am_i a <<< (am_i b &&& 31)).toInt
def f_shr (a b : Int) : Int := (am_i a >>> (am_i b &&& 31)).toInt
def f_ushr (a b : Int) : Int := ((am_i a).toUInt32 >>> ((am_i b).toUInt32 &&& Int32.toUInt32 31)).toInt32.toInt
def f_div (a b : Int) : Int := (am_i a / am_i b).toInt
def f_rem (a b : Int) : Int := (am_i a - am_i a / am_i b * am_i b).toInt
def f_ldiv (a b : Int) : Int := (am_l a / am_l b).toInt
def f_lrem (a b : Int) : Int := (am_l a - am_l a / am_l b * am_l b).toInt
def f_lxor (a b : Int) : Int := (am_l a ^^^ am_l b).toInt
def f_add (a b : Int) : Int := a + b
def f_sub (a b : Int) : Int := a - b
def f_mul (a b : Int) : Int := a * b
theorem so_iadd (hdg : decode cc pc = .ok (.iadd, 1)) : am_ok Ts cc nL own pc (o_ib (pc + 1) f_add) := by
  intro ad cA D sk Ns p l e R s m args below meth c H locs Q ls al st G cf hj hC hS ho k
  obtain ⟨hx, hb, -⟩ := hC
  unfold o_ib at ho
  split at ho
  · rename_i b a st'
    cases ho
    have k := k H locs ls hS
    have e9 : am_rp ad (vI (f_add a b)) = .int (am_i a + am_i b) := congrArg _ (am_i_add a b)
    rw [List.map_cons, e9] at k
    exact lv_iadd hx hb hdg k
  · cases ho
theorem so_isub (hdg : decode cc pc = .ok (.isub, 1)) : am_ok Ts cc nL own pc (o_ib (pc + 1) f_sub) := by
  intro ad cA D sk Ns p l e R s m args below meth c H locs Q ls al st G cf hj hC hS ho k
  obtain ⟨hx, hb, -⟩ := hC
  unfold o_ib at ho
  split at ho
  · rename_i b a st'
    cases ho
    have k := k H locs ls hS
    have e9 : am_rp ad (vI (f_sub a b)) = .int (am_i a - am_i b) := congrArg _ (am_i_sub a b)
    rw [List.map_cons, e9] at k
    exact lv_isub hx hb hdg k
  · cases ho
theorem so_imul (hdg : decode cc pc = .ok (.imul, 1)) : am_ok Ts cc nL own pc (o_ib (pc + 1) f_mul) := by
  intro ad cA D sk Ns p l e R s m args below meth c H locs Q ls al st G cf hj hC hS ho k
  obtain ⟨hx, hb, -⟩ := hC
  unfold o_ib at ho
  split at ho
  · rename_i b a st'
    cases ho
    have k := k H locs ls hS
    have e9 : am_rp ad (vI (f_mul a b)) = .int (am_i a * am_i b) := congrArg _ (am_i_mul a b)
    rw [List.map_cons, e9] at k
    exact lv_imul hx hb hdg k
  · cases ho
theorem so_iand (hdg : decode cc pc = .ok (.iand, 1)) : am_ok Ts cc nL own pc (o_ib (pc + 1) f_and) := by
  intro ad cA D sk Ns p l e R s m args below meth c H locs Q ls al st G cf hj hC hS ho k
  obtain ⟨hx, hb, -⟩ := hC
  unfold o_ib at ho
  split at ho
  · rename_i b a st'
    cases ho
    have k := k H locs ls hS
    have e9 : am_rp ad (vI (f_and a b)) = .int (am_i a &&& am_i b) := congrArg _ (am_i_t _)
    rw [List.map_cons, e9] at k
    exact lv_iand hx hb hdg k
  · cases ho
theorem so_ior (hdg : decode cc pc = .ok (.ior, 1)) : am_ok Ts cc nL own pc (o_ib (pc + 1) f_or) := by
  intro ad cA D sk Ns p l e R s m args below meth c H locs Q ls al st G cf hj hC hS ho k
  obtain ⟨hx, hb, -⟩ := hC
  unfold o_ib at ho
  split at ho
  · rename_i b a st'
    cases ho
    have k := k H locs ls hS
    have e9 : am_rp ad (vI (f_or a b)) = .int (am_i a ||| am_i b) := congrArg _ (am_i_t _)
    rw [List.map_cons, e9] at k
    exact lv_ior hx hb hdg k
  · cases ho
theorem so_ixor (hdg : decode cc pc = .ok (.ixor, 1)) : am_ok Ts cc nL own pc (o_ib (pc + 1) f_xor) := by
  intro ad cA D sk Ns p l e R s m args below meth c H locs Q ls al st G cf hj hC hS ho k
  obtain ⟨hx, hb, -⟩ := hC
  unfold o_ib at ho
  split at ho
  · rename_i b a st'
    cases ho
    have k := k H locs ls hS
    have e9 : am_rp ad (vI (f_xor a b)) = .int (am_i a ^^^ am_i b) := congrArg _ (am_i_t _)
    rw [List.map_cons, e9] at k
    exact lv_ixor hx hb hdg k
  · cases ho
theorem so_ishl (hdg : decode cc pc = .ok (.ishl, 1)) : am_ok Ts cc nL own pc (o_ib (pc + 1) f_shl) := by
  intro ad cA D sk Ns p l e R s m args below meth c H locs Q ls al st G cf hj hC hS ho k
  obtain ⟨hx, hb, -⟩ := hC
  unfold o_ib at ho
  split at ho
  · rename_i b a st'
    cases ho
    have k := k H locs ls hS
    have e9 : am_rp ad (vI (f_shl a b)) = .int (am_i a <<< (am_i b &&& 31)) := congrArg _ (am_i_t _)
    rw [List.map_cons, e9] at k
    exact lv_ishl hx hb hdg k
  · cases ho
theorem so_ishr (hdg : decode cc pc = .ok (.ishr, 1)) : am_ok Ts cc nL own pc (o_ib (pc + 1) f_shr) := by
  intro ad cA D sk Ns p l e R s m args below meth c H locs Q ls al st G cf hj hC hS ho k
  obtain ⟨hx, hb, -⟩ := hC
  unfold o_ib at ho
  split at ho
  · rename_i b a st'
    cases ho
    have k := k H locs ls hS
    have e9 : am_rp ad (vI (f_shr a b)) = .int (am_i a >>> (am_i b &&& 31)) := congrArg _ (am_i_t _)
    rw [List.map_cons, e9] at k
    exact lv_ishr hx hb hdg k
  · cases ho
theorem so_iushr (hdg : decode cc pc = .ok (.iushr, 1)) : am_ok Ts cc nL own pc (o_ib (pc + 1) f_ushr) := by
  intro ad cA D sk Ns p l e R s m args below meth c H locs Q ls al st G cf hj hC hS ho k
  obtain ⟨hx, hb, -⟩ := hC
  unfold o_ib at ho
  split at ho
  · rename_i b a st'
    cases ho
    have k := k H locs ls hS
    have e9 : am_rp ad (vI (f_ushr a b)) = .int (((am_i a).toUInt32 >>> ((am_i b).toUInt32 &&& Int32.toUInt32 31)).toInt32) := congrArg _ (am_i_t _)
    rw [List.map_cons, e9] at k
    exact lv_iushr hx hb hdg rfl k
  · cases ho
theorem so_idiv (hdg : decode cc pc = .ok (.idiv, 1)) : am_ok Ts cc nL own pc (o_id (pc + 1) f_div) := by
  intro ad cA D sk Ns p l e R s m args below meth c H locs Q ls al st G cf hj hC hS ho k
  obtain ⟨hx, hb, -⟩ := hC
  unfold o_id at ho
  split at ho
  · split at ho
    · cases ho
    · rename_i b a st' hne
      cases ho
      have k := k H locs ls hS
      have e9 : am_rp ad (vI (f_div a b)) = .int (am_i a / am_i b) := congrArg _ (am_i_t _)
      rw [List.map_cons, e9] at k
      exact lv_idiv hx hb hdg hne k
  · cases ho
theorem so_irem (hdg : decode cc pc = .ok (.irem, 1)) : am_ok Ts cc nL own pc (o_id (pc + 1) f_rem) := by
  intro ad cA D sk Ns p l e R s m args below meth c H locs Q ls al st G cf hj hC hS ho k
  obtain ⟨hx, hb, -⟩ := hC
  unfold o_id at ho
  split at ho
  · split at ho
    · cases ho
    · rename_i b a st' hne
      cases ho
      have k := k H locs ls hS
      have e9 : am_rp ad (vI (f_rem a b)) = .int (am_i a - am_i a / am_i b * am_i b) := congrArg _ (am_i_t _)
      rw [List.map_cons, e9] at k
      exact lv_irem hx hb hdg hne k
  · cases ho
theorem so_ladd (hdg : decode cc pc = .ok (.ladd, 1)) : am_ok Ts cc nL own pc (o_lb (pc + 1) f_add) := by
  intro ad cA D sk Ns p l e R s m args below meth c H locs Q ls al st G cf hj hC hS ho k
  obtain ⟨hx, hb, -⟩ := hC
  unfold o_lb at ho
  split at ho
  · rename_i b a st'
    cases ho
    have k := k H locs ls hS
    have e9 : am_rp ad (vL (f_add a b)) = .long (am_l a + am_l b) := congrArg _ (am_l_add a b)
    rw [List.map_cons, e9] at k
    exact lv_ladd hx hb hdg k
  · cases ho
theorem so_lsub (hdg : decode cc pc = .ok (.lsub, 1)) : am_ok Ts cc nL own pc (o_lb (pc + 1) f_sub) := by
  intro ad cA D sk Ns p l e R s m args below meth c H locs Q ls al st G cf hj hC hS ho k
  obtain ⟨hx, hb, -⟩ := hC
  unfold o_lb at ho
  split at ho
  · rename_i b a st'
    cases ho
    have k := k H locs ls hS
    have e9 : am_rp ad (vL (f_sub a b)) = .long (am_l a - am_l b) := congrArg _ (am_l_sub a b)
    rw [List.map_cons, e9] at k
    exact lv_lsub hx hb hdg k
  · cases ho
theorem so_lmul (hdg : decode cc pc = .ok (.lmul, 1)) : am_ok Ts cc nL own pc (o_lb (pc + 1) f_mul) := by
  intro ad cA D sk Ns p l e R s m args below meth c H locs Q ls al st G cf hj hC hS ho k
  obtain ⟨hx, hb, -⟩ := hC
  unfold o_lb at ho
  split at ho
  · rename_i b a st'
    cases ho
    have k := k H locs ls hS
    have e9 : am_rp ad (vL (f_mul a b)) = .long (am_l a * am_l b) := congrArg _ (am_l_mul a b)
    rw [List.map_cons, e9] at k
    exact lv_lmul hx hb hdg k
  · cases ho
theorem so_lxor (hdg : decode cc pc = .ok (.lxor, 1)) : am_ok Ts cc nL own pc (o_lb (pc + 1) f_lxor) := by
  intro ad cA D sk Ns p l e R s m args below meth c H locs Q ls al st G cf hj hC hS ho k
  obtain ⟨hx, hb, -⟩ := hC
  unfold o_lb at ho
  split at ho
  · rename_i b a st'
    cases ho
    have k := k H locs ls hS
    have e9 : am_rp ad (vL (f_lxor a b)) = .long (am_l a ^^^ am_l b) := congrArg _ (am_l_t _)
    rw [List.map_cons, e9] at k
    exact lv_lxor hx hb hdg k
  · cases ho
theorem so_ldiv (hdg : decode cc pc = .ok (.ldiv, 1)) : am_ok Ts cc nL own pc (o_ld (pc + 1) f_ldiv) := by
  intro ad cA D sk Ns p l e R s m args below meth c H locs Q ls al st G cf hj hC hS ho k
  obtain ⟨hx, hb, -⟩ := hC
  unfold o_ld at ho
  split at ho
  · split at ho
    · cases ho
    · rename_i b a st' hne
      cases ho
      have k := k H locs ls hS
      have e9 : am_rp ad (vL (f_ldiv a b)) = .long (am_l a / am_l b) := congrArg _ (am_l_t _)
      rw [List.map_cons, e9] at k
      exact lv_ldiv hx hb hdg hne k
  · cases ho
theorem so_lrem (hdg : decode cc pc = .ok (.lrem, 1)) : am_ok Ts cc nL own pc (o_ld (pc + 1) f_lrem) := by
  intro ad cA D sk Ns p l e R s m args below meth c H locs Q ls al st G cf hj hC hS ho k
  obtain ⟨hx, hb, -⟩ := hC
  unfold o_ld at ho
  split at ho
  · split at ho
    · cases ho
    · rename_i b a st' hne
      cases ho
      have k := k H locs ls hS
      have e9 : am_rp ad (vL (f_lrem a b)) = .long (am_l a - am_l a / am_l b * am_l b) := congrArg _ (am_l_t _)
      rw [List.map_cons, e9] at k
      exact lv_lrem hx hb hdg hne k
  · cases ho
def f_neg (a : Int) : Int := -a
theorem so_ineg (hdg : decode cc pc = .ok (.ineg, 1)) : am_ok Ts cc nL own pc (o_iu (pc + 1) f_neg) := by
  intro ad cA D sk Ns p l e R s m args below meth c H locs Q ls al st G cf hj hC hS ho k
  obtain ⟨hx, hb, -⟩ := hC
  unfold o_iu at ho
  split at ho
  · rename_i a st'
    cases ho
    have k := k H locs ls hS
    have e9 : am_rp ad (vI (f_neg a)) = .int (-am_i a) := congrArg _ (am_i_neg a)
    rw [List.map_cons, e9] at k
    exact lv_ineg hx hb hdg k
  · cases ho
theorem so_lneg (hdg : decode cc pc = .ok (.lneg, 1)) : am_ok Ts cc nL own pc (o_lu (pc + 1) f_neg) := by
  intro ad cA D sk Ns p l e R s m args below meth c H locs Q ls al st G cf hj hC hS ho k
  obtain ⟨hx, hb, -⟩ := hC
  unfold o_lu at ho
  split at ho
  · rename_i a st'
    cases ho
    have k := k H locs ls hS
    have e9 : am_rp ad (vL (f_neg a)) = .long (-am_l a) := congrArg _ (am_l_neg a)
    rw [List.map_cons, e9] at k
    exact lv_lneg hx hb hdg k
  · cases ho
theorem am_i2l (x : Int32) : x.toInt64 = am_l x.toInt := by
  apply Int64.toInt_inj.mp
  have h1 := fb_rng' x
  rw [Int32.toInt_toInt64, am_l, Int64.toInt_ofInt]
  have h2 : (Int64.size : Int) = 18446744073709551616 := rfl
  exact (Int.bmod_eq_of_le (by omega) (by omega)).symm
theorem am_l2i (a : Int) : (am_l a).toInt32 = am_i a := by
  rw [am_l, am_i]
  exact Int64.toInt32_ofInt
theorem so_i2l (hdg : decode cc pc = .ok (.i2l, 1)) : am_ok Ts cc nL own pc (o_i2l (pc + 1)) := by
  intro ad cA D sk Ns p l e R s m args below meth c H locs Q ls al st G cf hj hC hS ho k
  obtain ⟨hx, hb, -⟩ := hC
  unfold o_i2l at ho
  split at ho
  · rename_i a st'
    cases ho
    exact lv_i2l hx hb hdg (am_i2l _) (k H locs ls hS)
  · cases ho
theorem so_l2i (hdg : decode cc pc = .ok (.l2i, 1)) : am_ok Ts cc nL own pc (o_l2i (pc + 1)) := by
  intro ad cA D sk Ns p l e R s m args below meth c H locs Q ls al st G cf hj hC hS ho k
  obtain ⟨hx, hb, -⟩ := hC
  unfold o_l2i at ho
  split at ho
  · rename_i a st'
    cases ho
    exact lv_l2i hx hb hdg (am_l2i a) (k H locs ls hS)
  · cases ho
theorem so_lcmp (hdg : decode cc pc = .ok (.lcmp, 1)) : am_ok Ts cc nL own pc (o_lcmp (pc + 1)) := by
  intro ad cA D sk Ns p l e R s m args below meth c H locs Q ls al st G cf hj hC hS ho k
  obtain ⟨hx, hb, -⟩ := hC
  unfold o_lcmp at ho
  split at ho
  · rename_i b a st'
    cases ho
    have k := k H locs ls hS
    have e9 : am_rp ad (vI (lg_cmp (am_l a) (am_l b)).toInt) = .int (lg_cmp (am_l a) (am_l b)) := congrArg _ (am_i_t _)
    rw [List.map_cons, e9] at k
    exact W.lcmp hx hb hdg k
  · cases ho
theorem so_dup (hdg : decode cc pc = .ok (.dup, 1)) : am_ok Ts cc nL own pc (o_dup (pc + 1)) := by
  intro ad cA D sk Ns p l e R s m args below meth c H locs Q ls al st G cf hj hC hS ho k
  obtain ⟨hx, hb, -⟩ := hC
  unfold o_dup at ho
  split at ho
  · split at ho
    · rename_i v st' hv
      cases ho
      exact lv_dup hx hb hdg (am_rp_cat hv) (k H locs ls hS)
    · cases ho
  · cases ho
theorem so_dup2 (hdg : decode cc pc = .ok (.dup2, 1)) : am_ok Ts cc nL own pc (o_dup2 (pc + 1)) := by
  intro ad cA D sk Ns p l e R s m args below meth c H locs Q ls al st G cf hj hC hS ho k
  obtain ⟨hx, hb, -⟩ := hC
  unfold o_dup2 at ho
  split at ho
  · split at ho
    · split at ho
      · rename_i v w st' hv hw
        cases ho
        exact lv_dup2_11 hx hb hdg (am_rp_cat hv) (am_rp_cat hw) (k H locs ls hS)
      · cases ho
    · cases ho
  · cases ho
theorem so_pop (hdg : decode cc pc = .ok (.pop, 1)) : am_ok Ts cc nL own pc (o_pop (pc + 1)) := by
  intro ad cA D sk Ns p l e R s m args below meth c H locs Q ls al st G cf hj hC hS ho k
  obtain ⟨hx, hb, -⟩ := hC
  unfold o_pop at ho
  split at ho
  · split at ho
    · rename_i v st' hv
      cases ho
      exact lv_pop hx hb hdg (am_rp_cat hv) (k H locs ls hS)
    · cases ho
  · cases ho
def q_eq (x : Int32) : Bool := decide (x = 0)
def r_eq (x y : Int32) : Bool := decide (x = y)
theorem so_if_eq {off : Int} {t : Nat} (hdg : decode cc pc = .ok (.ifCond .eq off, 3)) (ht : (pc : Int) + off = (t : Int)) : am_ok Ts cc nL own pc (o_if t (pc + 3) q_eq) := by
  intro ad cA D sk Ns p l e R s m args below meth c H locs Q ls al st G cf hj hC hS ho k
  obtain ⟨hx, hb, -⟩ := hC
  unfold o_if at ho
  split at ho
  · rename_i a st'
    cases ho
    have k := k H locs ls hS
    refine lv_if_eq hx hb hdg ht (fun h => ?_) (fun h => ?_)
    · rw [if_pos (show q_eq (am_i a) = true from decide_eq_true h)] at k
      exact k
    · rw [if_neg (show ¬ q_eq (am_i a) = true from fun q => h (of_decide_eq_true q))] at k
      exact k
  · cases ho
theorem so_ic_eq {off : Int} {t : Nat} (hdg : decode cc pc = .ok (.if_icmp .eq off, 3)) (ht : (pc : Int) + off = (t : Int)) : am_ok Ts cc nL own pc (o_ic t (pc + 3) r_eq) := by
  intro ad cA D sk Ns p l e R s m args below meth c H locs Q ls al st G cf hj hC hS ho k
  obtain ⟨hx, hb, -⟩ := hC
  unfold o_ic at ho
  split at ho
  · rename_i b a st'
    cases ho
    have k := k H locs ls hS
    refine lv_icmp_eq hx hb hdg ht (fun h => ?_) (fun h => ?_)
    · rw [if_pos (show r_eq (am_i a) (am_i b) = true from decide_eq_true h)] at k
      exact k
    · rw [if_neg (show ¬ r_eq (am_i a) (am_i b) = true from fun q => h (of_decide_eq_true q))] at k
      exact k
  · cases ho
def q_ne (x : Int32) : Bool := decide (x ≠ 0)
def r_ne (x y : Int32) : Bool := decide (x ≠ y)
theorem so_if_ne {off : Int} {t : Nat} (hdg : decode cc pc = .ok (.ifCond .ne off, 3)) (ht : (pc : Int) + off = (t : Int)) : am_ok Ts cc nL own pc (o_if t (pc + 3) q_ne) := by
  intro ad cA D sk Ns p l e R s m args below meth c H locs Q ls al st G cf hj hC hS ho k
  obtain ⟨hx, hb, -⟩ := hC
  unfold o_if at ho
  split at ho
  · rename_i a st'
    cases ho
    have k := k H locs ls hS
    refine lv_if_ne hx hb hdg ht (fun h => ?_) (fun h => ?_)
    · rw [if_pos (show q_ne (am_i a) = true from decide_eq_true h)] at k
      exact k
    · rw [if_neg (show ¬ q_ne (am_i a) = true from fun q => absurd h (of_decide_eq_true q))] at k
      exact k
  · cases ho
theorem so_ic_ne {off : Int} {t : Nat} (hdg : decode cc pc = .ok (.if_icmp .ne off, 3)) (ht : (pc : Int) + off = (t : Int)) : am_ok Ts cc nL own pc (o_ic t (pc + 3) r_ne) := by
  intro ad cA D sk Ns p l e R s m args below meth c H locs Q ls al st G cf hj hC hS ho k
  obtain ⟨hx, hb, -⟩ := hC
  unfold o_ic at ho
  split at ho
  · rename_i b a st'
    cases ho
    have k := k H locs ls hS
    refine lv_icmp_ne hx hb hdg ht (fun h => ?_) (fun h => ?_)
    · rw [if_pos (show r_ne (am_i a) (am_i b) = true from decide_eq_true h)] at k
      exact k
    · rw [if_neg (show ¬ r_ne (am_i a) (am_i b) = true from fun q => absurd h (of_decide_eq_true q))] at k
      exact k
  · cases ho
def q_lt (x : Int32) : Bool := decide (x < 0)
def r_lt (x y : Int32) : Bool := decide (x < y)
theorem so_if_lt {off : Int} {t : Nat} (hdg : decode cc pc = .ok (.ifCond .lt off, 3)) (ht : (pc : Int) + off = (t : Int)) : am_ok Ts cc nL own pc (o_if t (pc + 3) q_lt) := by
  intro ad cA D sk Ns p l e R s m args below meth c H locs Q ls al st G cf hj hC hS ho k
  obtain ⟨hx, hb, -⟩ := hC
  unfold o_if at ho
  split at ho
  · rename_i a st'
    cases ho
    have k := k H locs ls hS
    refine lv_if_lt hx hb hdg ht (fun h => ?_) (fun h => ?_)
    · rw [if_pos (show q_lt (am_i a) = true from decide_eq_true h)] at k
      exact k
    · rw [if_neg (show ¬ q_lt (am_i a) = true from fun q => h (of_decide_eq_true q))] at k
      exact k
  · cases ho
theorem so_ic_lt {off : Int} {t : Nat} (hdg : decode cc pc = .ok (.if_icmp .lt off, 3)) (ht : (pc : Int) + off = (t : Int)) : am_ok Ts cc nL own pc (o_ic t (pc + 3) r_lt) := by
  intro ad cA D sk Ns p l e R s m args below meth c H locs Q ls al st G cf hj hC hS ho k
  obtain ⟨hx, hb, -⟩ := hC
  unfold o_ic at ho
  split at ho
  · rename_i b a st'
    cases ho
    have k := k H locs ls hS
    refine lv_icmp_lt hx hb hdg ht (fun h => ?_) (fun h => ?_)
    · rw [if_pos (show r_lt (am_i a) (am_i b) = true from decide_eq_true h)] at k
      exact k
    · rw [if_neg (show ¬ r_lt (am_i a) (am_i b) = true from fun q => h (of_decide_eq_true q))] at k
      exact k
  · cases ho
def q_ge (x : Int32) : Bool := decide (0 ≤ x)
def r_ge (x y : Int32) : Bool := decide (y ≤ x)
theorem so_if_ge {off : Int} {t : Nat} (hdg : decode cc pc = .ok (.ifCond .ge off, 3)) (ht : (pc : Int) + off = (t : Int)) : am_ok Ts cc nL own pc (o_if t (pc + 3) q_ge) := by
  intro ad cA D sk Ns p l e R s m args below meth c H locs Q ls al st G cf hj hC hS ho k
  obtain ⟨hx, hb, -⟩ := hC
  unfold o_if at ho
  split at ho
  · rename_i a st'
    cases ho
    have k := k H locs ls hS
    refine lv_if_ge hx hb hdg ht (fun h => ?_) (fun h => ?_)
    · rw [if_pos (show q_ge (am_i a) = true from decide_eq_true h)] at k
      exact k
    · rw [if_neg (show ¬ q_ge (am_i a) = true from fun q => h (of_decide_eq_true q))] at k
      exact k
  · cases ho
theorem so_ic_ge {off : Int} {t : Nat} (hdg : decode cc pc = .ok (.if_icmp .ge off, 3)) (ht : (pc : Int) + off = (t : Int)) : am_ok Ts cc nL own pc (o_ic t (pc + 3) r_ge) := by
  intro ad cA D sk Ns p l e R s m args below meth c H locs Q ls al st G cf hj hC hS ho k
  obtain ⟨hx, hb, -⟩ := hC
  unfold o_ic at ho
  split at ho
  · rename_i b a st'
    cases ho
    have k := k H locs ls hS
    refine lv_icmp_ge hx hb hdg ht (fun h => ?_) (fun h => ?_)
    · rw [if_pos (show r_ge (am_i a) (am_i b) = true from decide_eq_true h)] at k
      exact k
    · rw [if_neg (show ¬ r_ge (am_i a) (am_i b) = true from fun q => h (of_decide_eq_true q))] at k
      exact k
  · cases ho
def q_gt (x : Int32) : Bool := decide (0 < x)
def r_gt (x y : Int32) : Bool := decide (y < x)
theorem so_if_gt {off : Int} {t : Nat} (hdg : decode cc pc = .ok (.ifCond .gt off, 3)) (ht : (pc : Int) + off = (t : Int)) : am_ok Ts cc nL own pc (o_if t (pc + 3) q_gt) := by
  intro ad cA D sk Ns p l e R s m args below meth c H locs Q ls al st G cf hj hC hS ho k
  obtain ⟨hx, hb, -⟩ := hC
  unfold o_if at ho
  split at ho
  · rename_i a st'
    cases ho
    have k := k H locs ls hS
    refine lv_if_gt hx hb hdg ht (fun h => ?_) (fun h => ?_)
    · rw [if_pos (show q_gt (am_i a) = true from decide_eq_true h)] at k
      exact k
    · rw [if_neg (show ¬ q_gt (am_i a) = true from fun q => h (of_decide_eq_true q))] at k
      exact k
  · cases ho
theorem so_ic_gt {off : Int} {t : Nat} (hdg : decode cc pc = .ok (.if_icmp .gt off, 3)) (ht : (pc : Int) + off = (t : Int)) : am_ok Ts cc nL own pc (o_ic t (pc + 3) r_gt) := by
  intro ad cA D sk Ns p l e R s m args below meth c H locs Q ls al st G cf hj hC hS ho k
  obtain ⟨hx, hb, -⟩ := hC
  unfold o_ic at ho
  split at ho
  · rename_i b a st'
    cases ho
    have k := k H locs ls hS
    refine lv_icmp_gt hx hb hdg ht (fun h => ?_) (fun h => ?_)
    · rw [if_pos (show r_gt (am_i a) (am_i b) = true from decide_eq_true h)] at k
      exact k
    · rw [if_neg (show ¬ r_gt (am_i a) (am_i b) = true from fun q => h (of_decide_eq_true q))] at k
      exact k
  · cases ho
def q_le (x : Int32) : Bool := decide (x ≤ 0)
def r_le (x y : Int32) : Bool := decide (x ≤ y)
theorem so_if_le {off : Int} {t : Nat} (hdg : decode cc pc = .ok (.ifCond .le off, 3)) (ht : (pc : Int) + off = (t : Int)) : am_ok Ts cc nL own pc (o_if t (pc + 3) q_le) := by
  intro ad cA D sk Ns p l e R s m args below meth c H locs Q ls al st G cf hj hC hS ho k
  obtain ⟨hx, hb, -⟩ := hC
  unfold o_if at ho
  split at ho
  · rename_i a st'
    cases ho
    have k := k H locs ls hS
    refine lv_if_le hx hb hdg ht (fun h => ?_) (fun h => ?_)
    · rw [if_pos (show q_le (am_i a) = true from decide_eq_true h)] at k
      exact k
    · rw [if_neg (show ¬ q_le (am_i a) = true from fun q => h (of_decide_eq_true q))] at k
      exact k
  · cases ho
theorem so_ic_le {off : Int} {t : Nat} (hdg : decode cc pc = .ok (.if_icmp .le off, 3)) (ht : (pc : Int) + off = (t : Int)) : am_ok Ts cc nL own pc (o_ic t (pc + 3) r_le) := by
  intro ad cA D sk Ns p l e R s m args below meth c H locs Q ls al st G cf hj hC hS ho k
  obtain ⟨hx, hb, -⟩ := hC
  unfold o_ic at ho
  split at ho
  · rename_i b a st'
    cases ho
    have k := k H locs ls hS
    refine lv_icmp_le hx hb hdg ht (fun h => ?_) (fun h => ?_)
    · rw [if_pos (show r_le (am_i a) (am_i b) = true from decide_eq_true h)] at k
      exact k
    · rw [if_neg (show ¬ r_le (am_i a) (am_i b) = true from fun q => h (of_decide_eq_true q))] at k
      exact k
  · cases ho
theorem so_go {off : Int} {t : Nat} (hdg : decode cc pc = .ok (.goto off, 3)) (ht : (pc : Int) + off = (t : Int)) : am_ok Ts cc nL own pc (o_go t) := by
  intro ad cA D sk Ns p l e R s m args below meth c H locs Q ls al st G cf hj hC hS ho k
  obtain ⟨hx, hb, -⟩ := hC
  cases ho
  exact lv_goto hx hb hdg ht (k H locs ls hS)
def f_sw (pc : Nat) (dflt lo hi : Int) (offs : Array Int) (x : Int) : Nat := if x < lo ∨ hi < x then (pc + dflt).toNat else (pc + offs.getD (x - lo).toNat 0).toNat
theorem so_sw {dflt lo hi : Int} {offs : Array Int} {len : Nat} (hdg : decode cc pc = .ok (.tableswitch dflt lo hi offs, len)) (h1 : 0 ≤ (pc : Int) + dflt) (h2 : ∀ o ∈ offs.toList, 0 ≤ (pc : Int) + o) (h3 : hi - lo < offs.size) : am_ok Ts cc nL own pc (o_sw (f_sw pc dflt lo hi offs)) := by
  intro ad cA D sk Ns p l e R s m args below meth c H locs Q ls al st G cf hj hC hS ho k
  obtain ⟨hx, hb, -⟩ := hC
  unfold o_sw at ho
  split at ho
  · rename_i a st'
    cases ho
    have k := k H locs ls hS
    by_cases h : (am_i a).toInt < lo ∨ hi < (am_i a).toInt
    · refine lv_tableOut hx hb hdg h ?_ k
      show _ = ((f_sw pc dflt lo hi offs (am_i a).toInt : Nat) : Int)
      rw [f_sw, if_pos h]
      exact (Int.toNat_of_nonneg h1).symm
    · have hlt : ((am_i a).toInt - lo).toNat < offs.size := by omega
      refine lv_tableIn hx hb hdg (fun q => h (Or.inl q)) (fun q => h (Or.inr q)) (Array.getElem?_eq_getElem hlt) ?_ k
      show _ = ((f_sw pc dflt lo hi offs (am_i a).toInt : Nat) : Int)
      rw [f_sw, if_neg h, Array.getD_eq_getD_getElem?, Array.getElem?_eq_getElem hlt]
      exact (Int.toNat_of_nonneg (h2 _ (by simp))).symm
  · cases ho
def f_lk (pc : Nat) (dflt : Int) (ps : List (Int × Int)) (x : Int) : Nat := (pc + Op.lookupswitch.offset ps dflt x).toNat
theorem so_lk2 {dflt : Int} {ps : Array (Int × Int)} {len : Nat} (hdg : decode cc pc = .ok (.lookupswitch dflt ps, len)) (hp : (ps.toList.zip (ps.toList.drop 1)).all (fun (a, next) => a.1 < next.1) = true) (h0 : ∀ x, 0 ≤ (pc : Int) + Op.lookupswitch.offset ps.toList dflt x) : am_ok Ts cc nL own pc (o_sw (f_lk pc dflt ps.toList)) := by
  intro ad cA D sk Ns p l e R s m args below meth c H locs Q ls al st G cf hj hC hS ho k
  obtain ⟨hx, hb, -⟩ := hC
  unfold o_sw at ho
  split at ho
  · rename_i a st'
    cases ho
    exact lv_lookup hx hb hdg hp rfl (Int.toNat_of_nonneg (h0 _)).symm (k H locs ls hS)
  · cases ho
end AmOps2
end
section
/-! fields and rows -/
section AmOps3
variable {Ts : List Cond} {cc : ByteArray} {nL pc : Nat} {own : String}
theorem am_fl_at {ad : Nat → Nat} {g : Int → Int} {fl : List Nat} {f x : Nat} (h : fl[f]? = some x) : (fl.mapIdx (fun j x => am_fld ad g j x))[f]? = some (am_fld ad g f x) := by
  simp [List.getElem?_mapIdx, h]
/-- what the table of a class says -/
def am_cl (Ts : List Cond) (ci : Nat) (C : String) (T : u_T) (N : Nat) : Prop := classes[ci]? = some (C, T, N) ∧ (∀ w ∈ u_ws C T N, w ∈ Ts)
theorem so_gf {ix ci f N : Nat} {C : String} {T : u_T} (hc : am_cl Ts ci C T N) (hf : f < N) (hw : Cond.fieldLink own ix (T f).1 (T f).2.1 (T f).2.2.1 ∈ Ts) (hdg : decode cc pc = .ok (.getfield ix, 3)) : am_ok Ts cc nL own pc (o_gf (pc + 3) ci f) := by
  intro ad cA D sk Ns p l e R s m args below meth c H locs Q ls al st G cf hj hC hS ho k
  obtain ⟨hx, hb, -, hown, hts, -, hK, -⟩ := hC
  unfold o_gf at ho
  split at ho
  · rename_i a st'
    split at ho
    · rename_i c0 fl hsk
      split at ho
      · rename_i hci
        subst hci
        have he := am_wo_at (ad := ad) (cA := cA) (G := G) hsk
        split at ho
        · rename_i hfl
          cases ho
          exact va_get hx hb hts hc.2 hown hK hS.1 a he hc.1 f hf (hts _ hw) (fun _ h => h) (am_fl_at hfl) hdg (k H locs ls hS)
        · rename_i r hfl
          cases ho
          exact va_get hx hb hts hc.2 hown hK hS.1 a he hc.1 f hf (hts _ hw) (fun _ h => h) (am_fl_at hfl) hdg (k H locs ls hS)
        · cases ho
      · cases ho
    · cases ho
  · cases ho
theorem am_obj_set {ad : Nat → Nat} {G : AG} {a f : Nat} {fl : List Nat} {z : Int} (h : fl[f]? = some 0) : fl.mapIdx (fun j x => am_fld ad (am_up G a f z a) j x) = (fl.mapIdx (fun j x => am_fld ad (G a) j x)).set f (.int (am_i z)) := by
  refine List.ext_getElem? fun j => ?_
  by_cases e : j = f
  · subst e
    rw [am_fl_at h, List.getElem?_set_self (by rw [List.length_mapIdx]; exact (List.getElem?_eq_some_iff.mp h).1)]
    simp [am_fld, am_up]
  · rw [List.getElem?_set_ne (fun q => e q.symm), List.getElem?_mapIdx, List.getElem?_mapIdx]
    cases fl[j]? with
    | none => rfl
    | some x =>
      cases x with
      | zero => simp [am_fld, am_up, show ¬ (j : Int) = (f : Int) by omega]
      | succ r => simp [am_fld]
theorem so_pf {ix ci f N : Nat} {C : String} {T : u_T} {ty : Nat → FieldType} (hc : am_cl Ts ci C T N) (hty : ∀ k, k < N → parseFieldDescriptor (T k).2.2.1 = some (ty k)) (hnm : ∀ a, a < N → ∀ b, b < N → a ≠ b → (T a).2.1 ≠ (T b).2.1) (hf : f < N) (hi : ty f = .int) (hfin : (T f).2.2.2 = false) (hw : Cond.fieldLink own ix (T f).1 (T f).2.1 (T f).2.2.1 ∈ Ts) (hdg : decode cc pc = .ok (.putfield ix, 3)) : am_ok Ts cc nL own pc (o_pf (pc + 3) ci f) := by
  intro ad cA D sk Ns p l e R s m args below meth c H locs Q ls al st G cf hj hC hS ho k
  obtain ⟨hx, hb, -, hown, hts, -, hK, -⟩ := hC
  unfold o_pf at ho
  split at ho
  · rename_i z a st'
    split at ho
    · rename_i c0 fl hsk
      split at ho
      · rename_i hci
        subst hci
        have he := am_wo_at (ad := ad) (cA := cA) (G := G) hsk
        split at ho
        · rename_i hfl
          cases ho
          have hd : parseFieldDescriptor (T f).2.2.1 = some .int := by rw [← hi]; exact hty f hf
          refine va_put hx hb hts hc.2 ty hty hnm hown hK hS.1 (am_D hj G) hS.2.1 a he hc.1 f hf (hts _ hw) (fun _ h => h) hfin hd (v := .int (am_i z)) rfl rfl (by rw [List.length_mapIdx]; exact (List.getElem?_eq_some_iff.mp hfl).1) hdg (fun H1 locs1 hP1 _ hS1 => ?_)
          refine k H1 locs1 ls ⟨?_, hS1, hS.2.2⟩
          rw [am_wo_set (G' := am_up G a f z) hsk (congrArg Sum.inr (congrArg (Prod.mk c0) (am_obj_set hfl))) (fun b hb => am_up_ne G a f z b hb)] at hP1
          exact hP1
        · cases ho
      · cases ho
    · cases ho
  · cases ho
theorem am_ix {i : Int} {n : Nat} (h : am_in i n = true) (g : Int → Int) : g ((am_i i).toNatClampNeg : Int) = g (am_i i).toInt := by rw [am_clamp h]
theorem so_ia (hdg : decode cc pc = .ok (.iaload, 1)) : am_ok Ts cc nL own pc (o_ia (pc + 1)) := by
  intro ad cA D sk Ns p l e R s m args below meth c H locs Q ls al st G cf hj hC hS ho k
  obtain ⟨hx, hb, -, hown, hts, -, hK, -⟩ := hC
  unfold o_ia at ho
  split at ho
  · rename_i i a st'
    split at ho
    · rename_i len fl hsk
      split at ho
      · rename_i hin
        cases ho
        have he := am_wo_at (ad := ad) (cA := cA) (G := G) hsk
        have k := k H locs ls hS
        refine va_iald hx hb hK hS.1 a 0 he rfl (am_in_iff.mp hin) hdg ?_
        have e9 : am_rp ad (vI (G a (am_i i).toInt)) = .int (am_i (G a ((am_i i).toNatClampNeg : Int))) := by rw [am_clamp hin]; rfl
        rw [List.map_cons, e9] at k
        exact k
      · cases ho
    · cases ho
  · cases ho
theorem so_ba (hdg : decode cc pc = .ok (.baload, 1)) : am_ok Ts cc nL own pc (o_ba (pc + 1)) := by
  intro ad cA D sk Ns p l e R s m args below meth c H locs Q ls al st G cf hj hC hS ho k
  obtain ⟨hx, hb, -, hown, hts, -, hK, -⟩ := hC
  unfold o_ba at ho
  split at ho
  · rename_i i a st'
    split at ho
    · rename_i len fl hsk
      split at ho
      · rename_i hin
        cases ho
        have he := am_wo_at (ad := ad) (cA := cA) (G := G) hsk
        have k := k H locs ls hS
        refine va_zald hx hb hK hS.1 a 1 he rfl (am_in_iff.mp hin) hdg ?_
        have e9 : am_rp ad (vI (G a (am_i i).toInt)) = .int (am_i (G a ((am_i i).toNatClampNeg : Int))) := by rw [am_clamp hin]; rfl
        rw [List.map_cons, e9] at k
        exact k
      · cases ho
    · cases ho
  · cases ho
theorem so_la (hdg : decode cc pc = .ok (.laload, 1)) : am_ok Ts cc nL own pc (o_la (pc + 1)) := by
  intro ad cA D sk Ns p l e R s m args below meth c H locs Q ls al st G cf hj hC hS ho k
  obtain ⟨hx, hb, -, hown, hts, -, hK, hZ⟩ := hC
  unfold o_la at ho
  split at ho
  · rename_i i a st'
    split at ho
    · rename_i len fl hsk
      split at ho
      · rename_i hin
        cases ho
        have he := am_wo_at (ad := ad) (cA := cA) (G := G) hsk
        have k := k H locs ls hS
        refine va_lald hx hb hK hS.1 a 2 he rfl (am_in_iff.mp hin) hdg ?_
        have e9 : am_rp ad (vL (G a (am_i i).toInt)) = .long (am_l (G a ((am_i i).toNatClampNeg : Int))) := by rw [am_clamp hin]; rfl
        rw [List.map_cons, e9] at k
        exact k
      · cases ho
    · split at ho
      · rename_i ha
        subst ha
        split at ho
        · rename_i hin
          cases ho
          have k := k H locs ls hS
          refine va_tl hx hb hZ.2 hS.2.1 (am_in_iff.mp hin) rfl hdg ?_
          exact k
        · cases ho
      · cases ho
    · cases ho
  · cases ho
theorem am_aald {ad : Nat → Nat} {cA : Nat → ClassId} {D : va_G} {p : Program} {l : Launch} {e : Env} {R : Room} {s : State} {m : MethodId} {args : Array Value} {below : List Frame} {meth : Method} {c : Code} {H : Heap} {locs : List Loc} {Q : State → Prop} {ls : Array Slot} {rest : List Value} {ws : va_W} {a len t0 r : Nat} {cls : ClassId} {ty : FieldType} {fl : List Nat} {i : Int} (hx : p.tables.exec = Jvm.exec) (hb : c.code = cc) (hK : va_K D classes (am_tys cA) s) (hP : va_P D classes ws H) (he : ws[a]? = some (ad a, .inl (cls, len, .inr (.inr (.inr (.inr (fun j => (fl[j]?).map ad))))))) (ht : (am_tys cA)[t0]? = some (cls, ty)) (hty : ty.isReference = true) (hin : am_in i len = true) (hfl : fl[(am_i i).toInt.toNat]? = some r) (hdg : decode cc pc = .ok (.aaload, 1))
    (k : W p l e R s m args below meth c H locs 0 0 Q (F0 m (pc + 1) ls (.ref (ad r) :: rest))) : W p l e R s m args below meth c H locs 0 0 Q (F0 m pc ls (.int (am_i i) :: .ref (ad a) :: rest)) := by
  refine W.aald hx hb (hP a _ he) ((hK.2 t0 _ ht).1 len (fun j => va_rf ((fl[j]?).map ad))) hty (fun q => by cases q) (by show ¬ (_ ∨ (arrV _ _ _).slots.size ≤ _); rw [arrV_size]; exact am_in_iff.mp hin) (v := .ref (ad r)) ?_ rfl rfl hdg k
  show (arrV _ _ _).slots[_]? = _
  have h1 := (vp_in_iff.mp (am_in_iff.mp hin))
  have hlt : (am_i i).toInt.toNat < len := by omega
  refine (arrV_read cls (fun j => va_rf ((fl[j]?).map ad)) hlt).trans ?_
  rw [hfl]
  rfl
theorem so_aa (hdg : decode cc pc = .ok (.aaload, 1)) : am_ok Ts cc nL own pc (o_aa (pc + 1)) := by
  intro ad cA D sk Ns p l e R s m args below meth c H locs Q ls al st G cf hj hC hS ho k
  obtain ⟨hx, hb, -, hown, hts, -, hK, -⟩ := hC
  unfold o_aa at ho
  split at ho
  · rename_i i a st'
    split at ho
    · rename_i len fl hsk
      split at ho
      · rename_i hin
        split at ho
        · rename_i r hfl
          cases ho
          exact am_aald (t0 := 3) hx hb hK hS.1 (am_wo_at hsk) rfl rfl hin hfl hdg (k H locs ls hS)
        · cases ho
      · cases ho
    · rename_i len fl hsk
      split at ho
      · rename_i hin
        split at ho
        · rename_i r hfl
          cases ho
          exact am_aald (t0 := 4) hx hb hK hS.1 (am_wo_at hsk) rfl rfl hin hfl hdg (k H locs ls hS)
        · cases ho
      · cases ho
    · cases ho
  · cases ho
theorem am_updI {G : AG} {a n : Nat} {i z : Int} (h : am_in i n = true) : (fun j : Nat => am_i (am_up G a (am_i i).toInt z a j)) = upd (fun j : Nat => am_i (G a j)) (am_i i).toNatClampNeg (am_i z) := by
  funext j
  have h1 := am_clamp h
  unfold upd am_up
  by_cases e : j = (am_i i).toNatClampNeg
  · rw [if_pos e, if_pos rfl, if_pos (by rw [e, h1])]
  · rw [if_neg e, if_pos rfl, if_neg (fun q => e (by omega))]
theorem am_updL {G : AG} {a n : Nat} {i z : Int} (h : am_in i n = true) : (fun j : Nat => am_l (am_up G a (am_i i).toInt z a j)) = vp_updL (fun j : Nat => am_l (G a j)) (am_i i).toNatClampNeg (am_l z) := by
  funext j
  have h1 := am_clamp h
  unfold vp_updL am_up
  by_cases e : j = (am_i i).toNatClampNeg
  · rw [if_pos e, if_pos rfl, if_pos (by rw [e, h1])]
  · rw [if_neg e, if_pos rfl, if_neg (fun q => e (by omega))]
theorem so_iw (hdg : decode cc pc = .ok (.iastore, 1)) : am_ok Ts cc nL own pc (o_iw (pc + 1)) := by
  intro ad cA D sk Ns p l e R s m args below meth c H locs Q ls al st G cf hj hC hS ho k
  obtain ⟨hx, hb, -, hown, hts, -, hK, -⟩ := hC
  unfold o_iw at ho
  split at ho
  · rename_i z i a st'
    split at ho
    · rename_i len fl hsk
      split at ho
      · rename_i hin
        cases ho
        have he := am_wo_at (ad := ad) (cA := cA) (G := G) hsk
        refine va_iast hx hb hK hS.1 (am_D hj G) hS.2.1 a 0 he rfl (am_in_iff.mp hin) hdg (fun H1 locs1 hP1 _ hS1 => ?_)
        refine k H1 locs1 ls ⟨?_, hS1, hS.2.2⟩
        rw [am_wo_set (G' := am_up G a (am_i i).toInt z) hsk (by rw [← am_updI hin]; rfl) (fun b hb => am_up_ne G a _ z b hb)] at hP1
        exact hP1
      · cases ho
    · cases ho
  · cases ho
theorem so_bw (hdg : decode cc pc = .ok (.bastore, 1)) : am_ok Ts cc nL own pc (o_bw (pc + 1)) := by
  intro ad cA D sk Ns p l e R s m args below meth c H locs Q ls al st G cf hj hC hS ho k
  obtain ⟨hx, hb, -, hown, hts, -, hK, -⟩ := hC
  unfold o_bw at ho
  split at ho
  · rename_i z i a st'
    split at ho
    · rename_i len fl hsk
      split at ho
      · rename_i hin
        split at ho
        · rename_i hz
          cases ho
          have he := am_wo_at (ad := ad) (cA := cA) (G := G) hsk
          have e8 : vp_nar .boolean (am_i z) = am_i z := by rcases hz with rfl | rfl <;> rfl
          refine va_zast hx hb hK hS.1 (am_D hj G) hS.2.1 a 1 he rfl (am_in_iff.mp hin) hdg (fun H1 locs1 hP1 _ hS1 => ?_)
          refine k H1 locs1 ls ⟨?_, hS1, hS.2.2⟩
          try rw [e8] at hP1
          rw [am_wo_set (G' := am_up G a (am_i i).toInt z) hsk (by rw [← am_updI hin]; rfl) (fun b hb => am_up_ne G a _ z b hb)] at hP1
          exact hP1
        · cases ho
      · cases ho
    · cases ho
  · cases ho
theorem so_lw (hdg : decode cc pc = .ok (.lastore, 1)) : am_ok Ts cc nL own pc (o_lw (pc + 1)) := by
  intro ad cA D sk Ns p l e R s m args below meth c H locs Q ls al st G cf hj hC hS ho k
  obtain ⟨hx, hb, -, hown, hts, -, hK, -⟩ := hC
  unfold o_lw at ho
  split at ho
  · rename_i z i a st'
    split at ho
    · rename_i len fl hsk
      split at ho
      · rename_i hin
        cases ho
        have he := am_wo_at (ad := ad) (cA := cA) (G := G) hsk
        refine va_last hx hb hK hS.1 (am_D hj G) hS.2.1 a 2 he rfl (am_in_iff.mp hin) hdg (fun H1 locs1 hP1 _ hS1 => ?_)
        refine k H1 locs1 ls ⟨?_, hS1, hS.2.2⟩
        rw [am_wo_set (G' := am_up G a (am_i i).toInt z) hsk (by rw [← am_updL hin]; rfl) (fun b hb => am_up_ne G a _ z b hb)] at hP1
        exact hP1
      · cases ho
    · cases ho
  · cases ho
theorem so_len (hdg : decode cc pc = .ok (.arraylength, 1)) : am_ok Ts cc nL own pc (o_len (pc + 1)) := by
  intro ad cA D sk Ns p l e R s m args below meth c H locs Q ls al st G cf hj hC hS ho k
  obtain ⟨hx, hb, -, hown, hts, -, hK, -⟩ := hC
  unfold o_len at ho
  split at ho
  · rename_i a st'
    split at ho
    · rename_i len fl hsk
      cases ho
      exact va_alen hx hb hK hS.1 a 0 (am_wo_at hsk) rfl (by show Int32.ofNat len = am_i len; rfl) hdg (k H locs ls hS)
    · rename_i len fl hsk
      cases ho
      exact va_alen hx hb hK hS.1 a 2 (am_wo_at hsk) rfl (by show Int32.ofNat len = am_i len; rfl) hdg (k H locs ls hS)
    · cases ho
  · cases ho
end AmOps3
end
section
/-! a run of the small machine is a run of the machine -/
theorem am_args_mem {ad : Nat → Nat} : ∀ (as : List AV) (i0 i : Nat) (v : AV), (am_slots as)[i]? = some v → v ≠ vU → (i0 + i, am_rp ad v) ∈ lv_args i0 (as.map (am_rp ad))
  | [], i0, i, v, h, _ => by simp [am_slots] at h
  | .inr (.inl z) :: r, i0, i, v, h, hu => by
    show _ ∈ (i0, am_rp ad (vL z)) :: lv_args (i0 + 2) (r.map (am_rp ad))
    match i, h with
    | 0, h => cases h; exact List.mem_cons_self
    | 1, h => cases h; exact absurd rfl hu
    | i + 2, h =>
      have h2 := am_args_mem (ad := ad) r (i0 + 2) i v h hu
      rw [show i0 + (i + 2) = i0 + 2 + i by omega]
      exact List.mem_cons_of_mem _ h2
  | .inl z :: r, i0, i, v, h, hu => by
    show _ ∈ (i0, am_rp ad (vI z)) :: lv_args (i0 + 1) (r.map (am_rp ad))
    match i, h with
    | 0, h => cases h; exact List.mem_cons_self
    | i + 1, h =>
      have h2 := am_args_mem (ad := ad) r (i0 + 1) i v h hu
      rw [show i0 + (i + 1) = i0 + 1 + i by omega]
      exact List.mem_cons_of_mem _ h2
  | .inr (.inr none) :: r, i0, i, v, h, hu => by
    show _ ∈ (i0, am_rp ad vU) :: lv_args (i0 + 1) (r.map (am_rp ad))
    match i, h with
    | 0, h => cases h; exact List.mem_cons_self
    | i + 1, h =>
      have h2 := am_args_mem (ad := ad) r (i0 + 1) i v h hu
      rw [show i0 + (i + 1) = i0 + 1 + i by omega]
      exact List.mem_cons_of_mem _ h2
  | .inr (.inr (some a)) :: r, i0, i, v, h, hu => by
    show _ ∈ (i0, am_rp ad (vR a)) :: lv_args (i0 + 1) (r.map (am_rp ad))
    match i, h with
    | 0, h => cases h; exact List.mem_cons_self
    | i + 1, h =>
      have h2 := am_args_mem (ad := ad) r (i0 + 1) i v h hu
      rw [show i0 + (i + 1) = i0 + 1 + i by omega]
      exact List.mem_cons_of_mem _ h2
theorem am_sl_len {ad : Nat → Nat} : ∀ as : List AV, (lg_sl (as.map (am_rp ad))).length = (am_slots as).length
  | [] => rfl
  | .inr (.inl z) :: r => by
    have h := am_sl_len (ad := ad) r
    simp only [List.map_cons, am_slots, lg_sl, am_rp, Value.category, List.length_cons] at h ⊢
    simp [h]
  | .inl z :: r => by
    have h := am_sl_len (ad := ad) r
    simp only [List.map_cons, am_slots, lg_sl, am_rp, Value.category, List.length_cons] at h ⊢
    simp [h]
  | .inr (.inr none) :: r => by
    have h := am_sl_len (ad := ad) r
    simp only [List.map_cons, am_slots, lg_sl, am_rp, Value.category, List.length_cons] at h ⊢
    simp [h]
  | .inr (.inr (some a)) :: r => by
    have h := am_sl_len (ad := ad) r
    simp only [List.map_cons, am_slots, lg_sl, am_rp, Value.category, List.length_cons] at h ⊢
    simp [h]
theorem am_LR_ent {ad : Nat → Nat} {n : Nat} {as : List AV} (h : (am_slots as).length ≤ n) : am_LR ad n (am_ent n as) ((lg_sl (as.map (am_rp ad)) ++ List.replicate (n - (lg_sl (as.map (am_rp ad))).length) Slot.unset).toArray) := by
  have hl := lv_entry (as.map (am_rp ad)) (n := n) (by rw [am_sl_len]; exact h)
  refine ⟨hl.1, by simp [am_ent]; omega, hl.2.1, fun i v hv hu => ?_⟩
  have h1 : (am_slots as)[i]? = some v := by
    unfold am_ent at hv
    rw [List.getElem?_append] at hv
    split at hv
    · exact hv
    · rw [List.getElem?_replicate] at hv
      split at hv
      · cases hv; exact absurd rfl hu
      · cases hv
  have h2 := am_args_mem (ad := ad) as 0 i v h1 hu
  rw [Nat.zero_add] at h2
  exact hl.2.2 _ h2
/-- of a method in the machine: its name, its bytes, its locals, what it answers -/
abbrev MI : Type := Nat → MethodName × ByteArray × Nat × Option FieldType
def am_rt (q : Nat) : Option FieldType := match q with
  | 0 => none
  | 1 => some .int
  | 2 => some .boolean
  | _ => some .long
/-- what a contract says of the end -/
def am_Q (ad : Nat → Nat) (cA : Nat → ClassId) (D : va_G) (sk : SK) (r : Option AV) (G : AG) : Array Value → State → Outcome → State → Prop := match r with
  | some (.inl z) => va_Qi (fun (x : Int32) (_ : Unit) => x = am_i z) (fun _ t => va_P D classes (am_wo ad cA sk G) t.heap) (am_A ad sk)
  | some (.inr (.inl z)) => va_Ql (fun (x : Int64) (_ : Unit) => x = am_l z) (fun _ t => va_P D classes (am_wo ad cA sk G) t.heap) (am_A ad sk)
  | none => va_Qv (fun (_ : Unit) => True) (fun _ t => va_P D classes (am_wo ad cA sk G) t.heap) (am_A ad sk)
  | _ => fun _ _ _ _ => False
def am_P (ad : Nat → Nat) (cA : Nat → ClassId) (D : va_G) (sk : SK) (Ns : NS) (as : List AV) (G : AG) : Array Value → State → Prop := va_Pc (as.map (am_rp ad)) (fun U => va_P D classes (am_wo ad cA sk G) U.heap ∧ va_K D classes (am_tys cA) U ∧ (∀ q ∈ Ns, va_Nw (.methodLinkNest q.1 q.2.1 q.2.2.1 q.2.2.2) U) ∧ am_Z ad (am_A ad sk) U U.heap)
def am_room (d : Nat) : Room := { frames := d, cells := 0, slots := 0, locals := 60 * d }
/-- what is to be known of a call -/
def am_okc (mi : MI) (mt : MT) (Ts : List Cond) (Ns : NS) (cc : ByteArray) (own : String) (pc j na : Nat) : Prop :=
  ∃ ix : Nat, ((mi j).1.cls ≠ "java/lang/invoke/MethodHandle" ∧ (mi j).1.cls ≠ "java/lang/invoke/VarHandle" ∧ plainFor (mi j).1 = true) ∧ Cond.code (mi j).1 (mi j).2.1 (mi j).2.2.1 (mi j).2.2.2 ∈ Ts ∧ Cond.initialized (mi j).1.cls ∈ Ts ∧ (mi j).2.2.1 ≤ 40 ∧
    (((mt j).2.2.2 = 0 ∧ decode cc pc = .ok (.invokestatic ix, 3) ∧ Cond.static (mi j).1 ∈ Ts ∧ (parseMethodDescriptor (mi j).1.desc).map (fun d => d.parameters.length) = some na ∧ (Cond.methodLink own ix (mi j).1 ∈ Ts ∨ ∃ host, (own, ix, (mi j).1, host) ∈ Ns)) ∨
     (∃ (ci nb : Nat) (T : u_T) (N : Nat), (mt j).2.2.2 = ci + 1 ∧ na = nb + 1 ∧ classes[ci]? = some ((mi j).1.cls, T, N) ∧ decode cc pc = .ok (.invokevirtual ix, 3) ∧ Cond.instanceMethod (mi j).1 ∈ Ts ∧ Cond.selects (mi j).1.cls (mi j).1 (mi j).1 ∈ Ts ∧ Cond.methodLink own ix (mi j).1 ∈ Ts ∧ (parseMethodDescriptor (mi j).1.desc).map (fun d => d.parameters.length) = some nb))
def am_okr (cc : ByteArray) (pc q : Nat) : Prop := match q with
  | 0 => decode cc pc = .ok (.return_, 1)
  | 1 => decode cc pc = .ok (.ireturn, 1)
  | 2 => decode cc pc = .ok (.ireturn, 1)
  | _ => decode cc pc = .ok (.lreturn, 1)
def am_okI (mi : MI) (mt : MT) (Ts : List Cond) (Ns : NS) (k pc : Nat) (i : IN) : Prop := match i with
  | .inl op => am_ok Ts (mi k).2.1 (mi k).2.2.1 (mi k).1.cls pc op
  | .inr (.inl (j, na)) => am_okc mi mt Ts Ns (mi k).2.1 (mi k).1.cls pc j na
  | .inr (.inr ()) => am_okr (mi k).2.1 pc (mt k).2.2.1
def am_okT (mi : MI) (mt : MT) (Ts : List Cond) (Ns : NS) : Prop := ∀ k pc i, am_at (mt k).1 pc = some i → (mi k).2.2.1 = (mt k).2.1 ∧ (mi k).2.2.2 = am_rt (mt k).2.2.1 ∧ am_okI mi mt Ts Ns k pc i
theorem am_blind {ad : Nat → Nat} {cA : Nat → ClassId} {D : va_G} {sk : SK} {Ns : NS} {as : List AV} {G : AG} : FrameBlind (am_P ad cA D sk Ns as G) := by
  intro a U g mk q
  obtain ⟨q0, q1, q2, q3, q4⟩ := q
  exact ⟨q0, q1, va_K.moved (u := U) (U := U.calling g mk a) (Vm.Alike.refl U.vm) q2, fun w hw => va_Nw.same rfl (u := U) (U := U.calling g mk a) rfl (q3 w hw), va_Z.moved (u := U) (U := U.calling g mk a) (Vm.Alike.refl U.vm) q4.1, va_T.moved (u := U) (U := U.calling g mk a) (Vm.Alike.refl U.vm) q4.2⟩
end
section
theorem am_ofW {l : Launch} {y : MethodName} {ws ws' : List Cond} {rm : Room} {Pc : Array Value → State → Prop} {Qc : Array Value → State → Outcome → State → Prop} {mc ms : Nat} {free : Addr → Prop} {cc : ByteArray} {maxL : Nat} {ret : Option FieldType}
    (hy : plainFor y = true) (hw : ws = Cond.code y cc maxL ret :: ws')
    (body : ∀ p e s m args below meth c s₁, BodyLoose p l y (headSpec ws rm) cc maxL ret e s m args below meth c s₁ → c.maxLocals = maxL → Pc args s →
      W p l e (headSpec ws rm).room s m args below meth c s.heap [] 0 0 (MQ below Qc args s mc ms free) (entryFrame m args maxL)) : Met l y ws rm Pc Qc mc ms free := by
  refine MetFree.of_bodySF (code := cc) (maxLocals := maxL) (ret := ret) hy ?_ ?_
  · intro args s m h hn
    obtain ⟨meth, c, h1, h2, h3, h4, h5, h6, -, -⟩ := Cond.code_spec hn (atoms_spec (ws := ws) h _ (by rw [hw]; exact List.mem_cons_self))
    exact ⟨meth, c, h1, h2, h3, h4, h5, h6⟩
  · intro p e s m args below meth c s₁ B hml hP _
    have hh0 : s₁.heap = s.heap := by rw [B.state]; rfl
    obtain ⟨t, a1, o, b1, b2, b3⟩ := body p e s m args below meth c s₁ B hml hP s₁ hh0 (Stand.of_body B)
    exact ⟨t, o, a1, b1, b2, b3⟩
theorem am_cats_eq {ad : Nat → Nat} : ∀ l : List AV, ((l.map (am_rp ad)).map fun v => v.category).sum = am_cats l
  | [] => rfl
  | .inl z :: r => by simp only [List.map_cons, List.sum_cons, am_cats, am_cats_eq r]; rfl
  | .inr (.inl z) :: r => by simp only [List.map_cons, List.sum_cons, am_cats, am_cats_eq r]; rfl
  | .inr (.inr none) :: r => by simp only [List.map_cons, List.sum_cons, am_cats, am_cats_eq r]; rfl
  | .inr (.inr (some a)) :: r => by simp only [List.map_cons, List.sum_cons, am_cats, am_cats_eq r]; rfl
/-- the statement of n steps -/
def am_SW (mi : MI) (mt : MT) (Ts : List Cond) (Ns : NS) (ad : Nat → Nat) (cA : Nat → ClassId) (D : va_G) (sk : SK) (n : Nat) : Prop :=
  ∀ (d k pc : Nat) (al st : List AV) (G : AG) (r : Option AV) (G' : AG), am_run mt sk n d k pc al st G = some (r, G') →
    ∀ (p : Program) (l : Launch) (e : Env) (R : Room) (s : State) (m : MethodId) (args : Array Value) (below : List Frame) (meth : Method) (c : Code) (H : Heap) (locs : List Loc) (ls : Array Slot),
      am_Cx ad cA D sk Ts Ns p s m args c (mi k).2.1 (mi k).2.2.1 (mi k).1.cls → am_St ad cA D sk s (mi k).2.2.1 al G H locs ls → meth.sig.returnType = (mi k).2.2.2 → meth.locks = false → d ≤ R.frames ∧ 60 * d ≤ R.locals →
      W p l e R s m args below meth c H locs 0 0 (MQ below (am_Q ad cA D sk r G') args s 0 0 (am_A ad sk)) (F0 m pc ls (st.map (am_rp ad)))
section AmSound
variable {mi : MI} {mt : MT} {Ts : List Cond} {Ns : NS} {ad : Nat → Nat} {cA : Nat → ClassId} {D : va_G} {sk : SK}
theorem am_met_of {n : Nat} (h : am_SW mi mt Ts Ns ad cA D sk n) (l : Launch) {d j : Nat} {as : List AV} {G : AG} {r : Option AV} {G' : AG} (hr : am_run mt sk n d j 0 (am_ent (mi j).2.2.1 as) [] G = some (r, G')) (hs : (am_slots as).length ≤ (mi j).2.2.1) (hy : plainFor (mi j).1 = true) :
    Met l (mi j).1 (Cond.code (mi j).1 (mi j).2.1 (mi j).2.2.1 (mi j).2.2.2 :: Ts) (am_room d) (am_P ad cA D sk Ns as G) (am_Q ad cA D sk r G') 0 0 (am_A ad sk) := by
  refine am_ofW (cc := (mi j).2.1) (maxL := (mi j).2.2.1) (ret := (mi j).2.2.2) hy rfl ?_
  intro p e s m args below meth c s₁ B hml hv
  obtain ⟨rfl, hP, hK, hN, hZ⟩ := hv
  have hts := atoms_spec (ws := Cond.code (mi j).1 (mi j).2.1 (mi j).2.2.1 (mi j).2.2.2 :: Ts) B.pre
  rw [lg_entry_eq]
  exact h d j 0 _ [] G r G' hr p l e (am_room d) s m _ below meth c s.heap [] _ ⟨B.exec, B.bytes, hml, findClass_of_methodNamed B.named, fun w hw => hts w (List.mem_cons_of_mem _ hw), hN, hK, hZ⟩ ⟨hP, va_S.rf, am_LR_ent hs⟩ B.returns B.notSynchronized ⟨Nat.le_refl _, Nat.le_refl _⟩
theorem am_Zk {s U : State} {H : Heap} {locs : List Loc} {A : Nat → Prop} (hZ : am_Z ad A s s.heap) (hS : va_S A s.heap H locs) (hU : U.heap = H) (hW : s.WarmedH U.vm) : am_Z ad A U U.heap := by
  rw [hU]
  exact ⟨va_Z.moved hW.alike (hZ.1.kept hS.2.1), va_T.moved hW.alike (hZ.2.kept hS.2.1)⟩
theorem am_call {n : Nat} (ih : am_SW mi mt Ts Ns ad cA D sk n) {d' k pc na : Nat} {al st : List AV} {r r' : Option AV} {G1 G' : AG} (h2 : am_run mt sk n (d' + 1) k (pc + 3) al (r'.toList ++ st.drop na) G1 = some (r, G'))
    {p : Program} {l : Launch} {e : Env} {R : Room} {s : State} {m : MethodId} {args : Array Value} {below : List Frame} {meth : Method} {c : Code} {H : Heap} {locs : List Loc} {ls : Array Slot} {a : Array Value} {stk : List Value}
    (hC : am_Cx ad cA D sk Ts Ns p s m args c (mi k).2.1 (mi k).2.2.1 (mi k).1.cls) {G : AG} (hS : am_St ad cA D sk s (mi k).2.2.1 al G H locs ls) (hret : meth.sig.returnType = (mi k).2.2.2) (hlk : meth.locks = false) (hR : d' + 1 ≤ R.frames ∧ 60 * (d' + 1) ≤ R.locals)
    (hrun : va_Run p l e R s m args below meth c H locs 0 0 0 0 (F0 m pc ls stk) ((st.drop na).map (am_rp ad)) (am_Q ad cA D sk r' G1 a) (am_A ad sk)) :
    W p l e R s m args below meth c H locs 0 0 (MQ below (am_Q ad cA D sk r G') args s 0 0 (am_A ad sk)) (F0 m pc ls stk) := by
  rcases r' with _ | z | z | _ | b
  · exact va_callv (a := a) hrun hS.2.1 (fun _ _ h => h) (fun _ h => h) (fun u t H1 locs1 ht hvm hw hB hz hk hS1 => ih _ _ _ _ _ _ _ _ h2 p l e R s m args below meth c H1 locs1 ls hC ⟨by rw [← ht]; exact hB, hS1, hS.2.2⟩ hret hlk hR)
  · refine va_calli (a := a) hrun hS.2.1 (fun _ _ h => h) (fun _ h => h) (fun x u t H1 locs1 ht hvm hw hB hz hk hS1 => ?_)
    have hw : x = am_i z := hw
    subst hw
    exact ih _ _ _ _ _ _ _ _ h2 p l e R s m args below meth c H1 locs1 ls hC ⟨by rw [← ht]; exact hB, hS1, hS.2.2⟩ hret hlk hR
  · refine va_calll (a := a) hrun hS.2.1 (fun _ _ h => h) (fun _ h => h) (fun x u t H1 locs1 ht hvm hw hB hz hk hS1 => ?_)
    have hw : x = am_l z := hw
    subst hw
    exact ih _ _ _ _ _ _ _ _ h2 p l e R s m args below meth c H1 locs1 ls hC ⟨by rw [← ht]; exact hB, hS1, hS.2.2⟩ hret hlk hR
  · intro T hT X
    obtain ⟨v, st₀, t, T', L, h0, X', hL, e1, e2, hf, st⟩ := hrun T hT X
    exact hf.elim
  · intro T hT X
    obtain ⟨v, st₀, t, T', L, h0, X', hL, e1, e2, hf, st⟩ := hrun T hT X
    exact hf.elim
theorem am_sound (hT : am_okT mi mt Ts Ns) (hg : ∀ w ∈ Ts, goodWord w = true) (hj : am_inj ad sk) : ∀ n, am_SW mi mt Ts Ns ad cA D sk n := by
  intro n
  induction n with
  | zero =>
    intro d k pc al st G r G' h
    simp [am_run] at h
  | succ n ih =>
    intro d k pc al st G r G' h p l e R s m args below meth c H locs ls hC hS hret hlk hR
    unfold am_run at h
    split at h
    · cases h
    · rename_i op hat
      obtain ⟨-, -, hok⟩ := hT k pc _ hat
      split at h
      · cases h
      · rename_i pc' ls' st' G1 hop
        exact hok ad cA D sk Ns p l e R s m args below meth c H locs _ ls al st G _ hj hC hS hop (fun H' locs' ls'' hS' => ih _ _ _ _ _ _ _ _ h p l e R s m args below meth c H' locs' ls'' hC hS' hret hlk hR)
    · rename_i j na hat
      obtain ⟨-, -, hok⟩ := hT k pc _ hat
      obtain ⟨ix, ⟨hy1, hy2, hy3⟩, hcode, hini, hml, hcase⟩ := hok
      split at h
      · cases h
      · rename_i d'
        split at h
        · rename_i hc
          obtain ⟨hna, hcat, hrecv, -, hslots⟩ := hc
          split at h
          · cases h
          · rename_i r' G1 h1
            obtain ⟨hx, hb, hmx, hown, hts, hN, hK, hZ⟩ := id hC
            have hmj : (mi j).2.2.1 = (mt j).2.1 := by
              cases n with
              | zero => simp [am_run] at h1
              | succ n =>
                cases ha : am_at (mt j).1 0 with
                | none => simp [am_run, ha] at h1
                | some i => exact (hT j 0 i ha).1
            rw [← hmj] at h1 hslots
            have hM := am_met_of ih l h1 hslots hy3
            have hGood : GoodIn Ts (Cond.code (mi j).1 (mi j).2.1 (mi j).2.2.1 (mi j).2.2.2 :: Ts) := by
              intro w hw
              rcases List.mem_cons.mp hw with rfl | hw
              · exact ⟨hcode, good_of_word (hg _ hcode)⟩
              · exact ⟨hw, good_of_word (hg _ hw)⟩
            have hRm : (am_room d').frames + 1 ≤ R.frames ∧ 8 + ((mi j).2.2.1 + 11) + (am_room d').locals ≤ R.locals := ⟨hR.1, by show 8 + ((mi j).2.2.1 + 11) + 60 * d' ≤ R.locals; omega⟩
            have hroom : (((st.drop na).map (am_rp ad)).map fun v => v.category).sum ≤ 8 := by rw [am_cats_eq]; exact hcat
            have hpre : ∀ U : State, U.heap = H → s.WarmedH U.vm → am_P ad cA D sk Ns (st.take na).reverse G (((st.take na).reverse).map (am_rp ad)).toArray U := fun U hU hW => ⟨rfl, by rw [hU]; exact hS.1, va_K.moved hW.alike hK, fun q hq => va_Nw.warmM hW (hN q hq), am_Zk hZ hS.2.1 hU hW⟩
            refine am_call (na := na) ih h hC hS hret hlk hR (a := (((st.take na).reverse).map (am_rp ad)).toArray) ?_
            rcases hcase with ⟨-, hdg, hstat, hpar, hlink⟩ | ⟨ci, nb, T, N, hq, hnb, hcl, hdg, hinst, hsel, hlink, hpar⟩
            · have hstack : st.map (am_rp ad) = (((st.take na).reverse).map (am_rp ad)).reverse ++ (st.drop na).map (am_rp ad) := by
                rw [List.map_reverse, List.reverse_reverse, ← List.map_append, List.take_append_drop]
              have hlen : (((st.take na).reverse).map (am_rp ad)).length = na := by simp; omega
              rcases hlink with hlink | ⟨host, hlink⟩
              · exact va_runS ⟨hx, hb, hmx, hown, hts⟩ hM ⟨callB_of na hts hGood rfl rfl rfl (hts _ hini) (hts _ hlink) ⟨hy1, hy2, hpar⟩ hRm, hts _ hstat⟩ ⟨am_blind, hpre⟩ rfl hlen hS.2.2.1 hstack (lv_room hroom) hdg ⟨Nat.zero_le _, Nat.zero_le _⟩
              · exact va_runSN ⟨hx, hb, hmx, hown, hts⟩ hM ⟨va_cnB na hts hGood rfl rfl rfl (hN _ hlink) (hts _ hini) ⟨hy1, hy2, hpar⟩ hRm, hts _ hstat, trivial⟩ ⟨am_blind, hpre⟩ rfl hlen hS.2.2.1 hstack (lv_room hroom) hdg ⟨Nat.zero_le _, Nat.zero_le _⟩
            · rw [hq] at hrecv
              cases has : (st.take na).reverse with
              | nil => rw [has] at hrecv; simp [am_recv] at hrecv
              | cons v as =>
                rw [has] at hrecv hpre hM
                rcases v with z | z | _ | b
                · simp [am_recv] at hrecv
                · simp [am_recv] at hrecv
                · simp [am_recv] at hrecv
                · simp only [am_recv] at hrecv
                  split at hrecv
                  · rename_i c0 fl hsk
                    have hc0 := of_decide_eq_true hrecv
                    subst hc0
                    have hlen : (as.map (am_rp ad)).length = nb := by
                      have h5 := congrArg List.length has
                      simp at h5
                      simp
                      omega
                    have hstack : st.map (am_rp ad) = (as.map (am_rp ad)).reverse ++ .ref (ad b) :: (st.drop na).map (am_rp ad) := by
                      have h5 : st.take na = (as.reverse ++ [vR b] : List AV) := by
                        have h6 := congrArg List.reverse has
                        rw [List.reverse_reverse, List.reverse_cons] at h6
                        exact h6
                      conv => lhs; rw [← List.take_append_drop na st, h5]
                      simp [am_rp]
                    have hcw : CallW R s args (mi k).1.cls (mi j).1.cls ix (mi j).1 (mi j).2.1 (mi j).2.2.1 (mi j).2.2.2 (Cond.code (mi j).1 (mi j).2.1 (mi j).2.2.1 (mi j).2.2.2 :: Ts) (am_room d') 0 0 nb := ⟨callB_of nb hts hGood rfl rfl rfl (hts _ hini) (hts _ hlink) ⟨hy1, hy2, hpar⟩ hRm, hts _ hinst, hts _ hsel⟩
                    exact va_runV ⟨hx, hb, hmx, hown, hts⟩ hM hcw ⟨am_blind, va_recv hK hS.1 hcl (am_wo_at hsk), hpre⟩ rfl hlen hS.2.2.1 hstack (lv_room hroom) hdg ⟨Nat.zero_le _, Nat.zero_le _⟩
                  · cases hrecv
        · cases h
    · rename_i hat
      obtain ⟨-, hrt, hok⟩ := hT k pc _ hat
      obtain ⟨hx, hb, -⟩ := id hC
      split at h
      · cases h
      · rename_i r0 hr0
        cases h
        rw [hrt] at hret
        have hok : am_okr (mi k).2.1 pc (mt k).2.2.1 := hok
        generalize (mt k).2.2.1 = q at hr0 hok hret
        unfold am_ret at hr0
        split at hr0
        · cases hr0
          exact W.vret hx hb hret (fun t ht hW => ⟨⟨(), rfl, trivial, by show va_P D classes (am_wo ad cA sk G) t.heap; rw [ht]; exact hS.1⟩, hS.2.1.F ht⟩) hS.2.1.2.2 hok hlk
        · rename_i z
          cases hr0
          exact W.iret (v := am_i z) hx hb hret (fun t ht hW => ⟨⟨am_i z, (), rfl, rfl, by show va_P D classes (am_wo ad cA sk G) t.heap; rw [ht]; exact hS.1⟩, hS.2.1.F ht⟩) hS.2.1.2.2 hok hlk
        · rename_i z
          split at hr0
          · rename_i hz
            cases hr0
            exact W.zret (v := am_i z) hx hb hret (by rcases hz with rfl | rfl <;> rfl) (fun t ht hW => ⟨⟨am_i z, (), rfl, rfl, by show va_P D classes (am_wo ad cA sk G) t.heap; rw [ht]; exact hS.1⟩, hS.2.1.F ht⟩) hS.2.1.2.2 hok hlk
          · cases hr0
        · rename_i z
          cases hr0
          exact W.lret (v := am_l z) hx hb hret (fun t ht hW => ⟨⟨am_l z, (), rfl, rfl, by show va_P D classes (am_wo ad cA sk G) t.heap; rw [ht]; exact hS.1⟩, hS.2.1.F ht⟩) hS.2.1.2.2 hok hlk
        · cases hr0
end AmSound
end
section
/-! the words that the tables have, by their places -/
def lw_Ts : List Cond := lw_tbl.filter goodWord
theorem am_mem {w : Cond} (i : Nat) (h : lw_tbl[i]? = some w) (g : goodWord w = true) : w ∈ lw_Ts := List.mem_filter.mpr ⟨List.mem_of_getElem? h, g⟩
theorem lw_Ts_good : ∀ w ∈ lw_Ts, goodWord w = true := fun _ h => (List.mem_filter.mp h).2
theorem wt_116 : (.fieldLink "SeasonOfHours$Artists" 27 "SeasonOfHours$Artists" "size" "I" : Cond) ∈ lw_Ts := am_mem 116 (by decide +kernel) rfl
theorem wt_312 : (.static yX6_isWithin : Cond) ∈ lw_Ts := am_mem 312 (by decide +kernel) rfl
theorem wt_100 : (.fieldLink "SeasonOfHours$Artists" 9 "SeasonOfHours$Artists" "ranks" "[I" : Cond) ∈ lw_Ts := am_mem 100 (by decide +kernel) rfl
theorem wt_273 : (.fieldLink "SeasonOfHours$Jury" 16 "SeasonOfHours$Jury" "sizes" "[I" : Cond) ∈ lw_Ts := am_mem 273 (by decide +kernel) rfl
theorem wt_272 : (.fieldLink "SeasonOfHours$Jury" 11 "SeasonOfHours$Jury" "rows" "[[I" : Cond) ∈ lw_Ts := am_mem 272 (by decide +kernel) rfl
theorem wt_274 : (.fieldLink "SeasonOfHours$Jury" 20 "SeasonOfHours$Jury" "families" "[I" : Cond) ∈ lw_Ts := am_mem 274 (by decide +kernel) rfl
theorem wt_420 : (.static yX6_hasBit : Cond) ∈ lw_Ts := am_mem 420 (by decide +kernel) rfl
theorem wt_600 : (.instanceMethod yX1_fromJudge : Cond) ∈ lw_Ts := am_mem 600 (by decide +kernel) rfl
theorem wt_21 : (.selects "SeasonOfHours$Jury" yX1_fromJudge yX1_fromJudge : Cond) ∈ lw_Ts := am_mem 21 (by decide +kernel) rfl
theorem wt_598 : (.methodLink "SeasonOfHours$Jury" 34 yX1_fromJudge : Cond) ∈ lw_Ts := am_mem 598 (by decide +kernel) rfl
theorem wt_602 : (.methodLink "SeasonOfHours$Jury" 38 yJ9_max_7cf53 : Cond) ∈ lw_Ts := am_mem 602 (by decide +kernel) rfl
theorem wt_603 : (.static yJ9_max_7cf53 : Cond) ∈ lw_Ts := am_mem 603 (by decide +kernel) rfl
theorem wt_271 : (.fieldLink "SeasonOfHours$Jury" 26 "SeasonOfHours$Jury" "artists" "LSeasonOfHours$Artists;" : Cond) ∈ lw_Ts := am_mem 271 (by decide +kernel) rfl
theorem wt_118 : (.fieldLink "SeasonOfHours$Jury" 43 "SeasonOfHours$Artists" "size" "I" : Cond) ∈ lw_Ts := am_mem 118 (by decide +kernel) rfl
theorem wt_276 : (.fieldLink "SeasonOfHours$Jury" 23 "SeasonOfHours$Jury" "sums" "[I" : Cond) ∈ lw_Ts := am_mem 276 (by decide +kernel) rfl
theorem wt_594 : (.instanceMethod yX1_sumFor : Cond) ∈ lw_Ts := am_mem 594 (by decide +kernel) rfl
theorem wt_595 : (.selects "SeasonOfHours$Jury" yX1_sumFor yX1_sumFor : Cond) ∈ lw_Ts := am_mem 595 (by decide +kernel) rfl
theorem wt_613 : (.methodLink "SeasonOfHours$Jury" 49 yX1_sumFor : Cond) ∈ lw_Ts := am_mem 613 (by decide +kernel) rfl
theorem wt_616 : (.instanceMethod yX1_placeOf : Cond) ∈ lw_Ts := am_mem 616 (by decide +kernel) rfl
theorem wt_22 : (.selects "SeasonOfHours$Jury" yX1_placeOf yX1_placeOf : Cond) ∈ lw_Ts := am_mem 22 (by decide +kernel) rfl
theorem wt_614 : (.methodLink "SeasonOfHours$Jury" 53 yX1_placeOf : Cond) ∈ lw_Ts := am_mem 614 (by decide +kernel) rfl
theorem wt_620 : (.instanceMethod yX1_isAhead : Cond) ∈ lw_Ts := am_mem 620 (by decide +kernel) rfl
theorem wt_23 : (.selects "SeasonOfHours$Jury" yX1_isAhead yX1_isAhead : Cond) ∈ lw_Ts := am_mem 23 (by decide +kernel) rfl
theorem wt_618 : (.methodLink "SeasonOfHours$Jury" 56 yX1_isAhead : Cond) ∈ lw_Ts := am_mem 618 (by decide +kernel) rfl
theorem wt_102 : (.fieldLink "SeasonOfHours$Jury" 59 "SeasonOfHours$Artists" "ranks" "[I" : Cond) ∈ lw_Ts := am_mem 102 (by decide +kernel) rfl
theorem wt_77 : (.fieldLink "SeasonOfHours$Modes" 18 "SeasonOfHours$Modes" "size" "I" : Cond) ∈ lw_Ts := am_mem 77 (by decide +kernel) rfl
theorem wt_73 : (.fieldLink "SeasonOfHours$Modes" 9 "SeasonOfHours$Modes" "notes" "[I" : Cond) ∈ lw_Ts := am_mem 73 (by decide +kernel) rfl
theorem wt_74 : (.fieldLink "SeasonOfHours$Modes" 15 "SeasonOfHours$Modes" "hours" "[I" : Cond) ∈ lw_Ts := am_mem 74 (by decide +kernel) rfl
theorem wt_368 : (.methodLink "SeasonOfHours$Modes" 29 yJ6_bitCount_0f7a4 : Cond) ∈ lw_Ts := am_mem 368 (by decide +kernel) rfl
theorem wt_369 : (.static yJ6_bitCount_0f7a4 : Cond) ∈ lw_Ts := am_mem 369 (by decide +kernel) rfl
theorem wt_365 : (.instanceMethod yX2_shared : Cond) ∈ lw_Ts := am_mem 365 (by decide +kernel) rfl
theorem wt_366 : (.selects "SeasonOfHours$Modes" yX2_shared yX2_shared : Cond) ∈ lw_Ts := am_mem 366 (by decide +kernel) rfl
theorem wt_434 : (.methodLink "SeasonOfHours$Modes" 35 yX2_shared : Cond) ∈ lw_Ts := am_mem 434 (by decide +kernel) rfl
theorem wt_80 : (.fieldLink "SeasonOfHours$Modes" 22 "SeasonOfHours$Modes" "limit" "I" : Cond) ∈ lw_Ts := am_mem 80 (by decide +kernel) rfl
theorem wt_233 : (.fieldLink "SeasonOfHours$Pieces" 37 "SeasonOfHours$Pieces" "size" "I" : Cond) ∈ lw_Ts := am_mem 233 (by decide +kernel) rfl
theorem wt_223 : (.fieldLink "SeasonOfHours$Pieces" 9 "SeasonOfHours$Pieces" "modeOf" "[I" : Cond) ∈ lw_Ts := am_mem 223 (by decide +kernel) rfl
theorem wt_224 : (.fieldLink "SeasonOfHours$Pieces" 15 "SeasonOfHours$Pieces" "minutes" "[I" : Cond) ∈ lw_Ts := am_mem 224 (by decide +kernel) rfl
theorem wt_225 : (.fieldLink "SeasonOfHours$Pieces" 18 "SeasonOfHours$Pieces" "likings" "[I" : Cond) ∈ lw_Ts := am_mem 225 (by decide +kernel) rfl
theorem wt_226 : (.fieldLink "SeasonOfHours$Pieces" 21 "SeasonOfHours$Pieces" "lastDays" "[I" : Cond) ∈ lw_Ts := am_mem 226 (by decide +kernel) rfl
theorem wt_232 : (.fieldLink "SeasonOfHours$Pieces" 33 "SeasonOfHours$Pieces" "mains" "I" : Cond) ∈ lw_Ts := am_mem 232 (by decide +kernel) rfl
theorem wt_345 : (.static yX6_withBit : Cond) ∈ lw_Ts := am_mem 345 (by decide +kernel) rfl
theorem wt_532 : (.instanceMethod yX3_readyOn : Cond) ∈ lw_Ts := am_mem 532 (by decide +kernel) rfl
theorem wt_13 : (.selects "SeasonOfHours$Pieces" yX3_readyOn yX3_readyOn : Cond) ∈ lw_Ts := am_mem 13 (by decide +kernel) rfl
theorem wt_530 : (.methodLink "SeasonOfHours$Pieces" 58 yX3_readyOn : Cond) ∈ lw_Ts := am_mem 530 (by decide +kernel) rfl
theorem wt_539 : (.instanceMethod yX3_listFollowers : Cond) ∈ lw_Ts := am_mem 539 (by decide +kernel) rfl
theorem wt_14 : (.selects "SeasonOfHours$Pieces" yX3_listFollowers yX3_listFollowers : Cond) ∈ lw_Ts := am_mem 14 (by decide +kernel) rfl
theorem wt_537 : (.methodLink "SeasonOfHours$Pieces" 62 yX3_listFollowers : Cond) ∈ lw_Ts := am_mem 537 (by decide +kernel) rfl
theorem wt_231 : (.fieldLink "SeasonOfHours$Pieces" 30 "SeasonOfHours$Pieces" "firsts" "[I" : Cond) ∈ lw_Ts := am_mem 231 (by decide +kernel) rfl
theorem wt_544 : (.instanceMethod yX3_firstsOf : Cond) ∈ lw_Ts := am_mem 544 (by decide +kernel) rfl
theorem wt_15 : (.selects "SeasonOfHours$Pieces" yX3_firstsOf yX3_firstsOf : Cond) ∈ lw_Ts := am_mem 15 (by decide +kernel) rfl
theorem wt_542 : (.methodLink "SeasonOfHours$Pieces" 65 yX3_firstsOf : Cond) ∈ lw_Ts := am_mem 542 (by decide +kernel) rfl
theorem wt_549 : (.instanceMethod yX3_isGood : Cond) ∈ lw_Ts := am_mem 549 (by decide +kernel) rfl
theorem wt_16 : (.selects "SeasonOfHours$Pieces" yX3_isGood yX3_isGood : Cond) ∈ lw_Ts := am_mem 16 (by decide +kernel) rfl
theorem wt_547 : (.methodLink "SeasonOfHours$Pieces" 68 yX3_isGood : Cond) ∈ lw_Ts := am_mem 547 (by decide +kernel) rfl
theorem wt_558 : (.instanceMethod yX3_isBetter : Cond) ∈ lw_Ts := am_mem 558 (by decide +kernel) rfl
theorem wt_18 : (.selects "SeasonOfHours$Pieces" yX3_isBetter yX3_isBetter : Cond) ∈ lw_Ts := am_mem 18 (by decide +kernel) rfl
theorem wt_556 : (.methodLink "SeasonOfHours$Pieces" 72 yX3_isBetter : Cond) ∈ lw_Ts := am_mem 556 (by decide +kernel) rfl
theorem wt_571 : (.instanceMethod yX3_writeLatest : Cond) ∈ lw_Ts := am_mem 571 (by decide +kernel) rfl
theorem wt_20 : (.selects "SeasonOfHours$Pieces" yX3_writeLatest yX3_writeLatest : Cond) ∈ lw_Ts := am_mem 20 (by decide +kernel) rfl
theorem wt_569 : (.methodLink "SeasonOfHours$Pieces" 75 yX3_writeLatest : Cond) ∈ lw_Ts := am_mem 569 (by decide +kernel) rfl
theorem wt_554 : (.instanceMethod yX3_sum : Cond) ∈ lw_Ts := am_mem 554 (by decide +kernel) rfl
theorem wt_17 : (.selects "SeasonOfHours$Pieces" yX3_sum yX3_sum : Cond) ∈ lw_Ts := am_mem 17 (by decide +kernel) rfl
theorem wt_552 : (.methodLink "SeasonOfHours$Pieces" 79 yX3_sum : Cond) ∈ lw_Ts := am_mem 552 (by decide +kernel) rfl
theorem wt_534 : (.methodLink "SeasonOfHours$Pieces" 83 yJ9_abs_0f7a4 : Cond) ∈ lw_Ts := am_mem 534 (by decide +kernel) rfl
theorem wt_535 : (.static yJ9_abs_0f7a4 : Cond) ∈ lw_Ts := am_mem 535 (by decide +kernel) rfl
theorem wt_235 : (.fieldLink "SeasonOfHours$Pieces" 40 "SeasonOfHours$Pieces" "rest" "I" : Cond) ∈ lw_Ts := am_mem 235 (by decide +kernel) rfl
theorem wt_228 : (.fieldLink "SeasonOfHours$Pieces" 24 "SeasonOfHours$Pieces" "followers" "[I" : Cond) ∈ lw_Ts := am_mem 228 (by decide +kernel) rfl
theorem wt_222 : (.fieldLink "SeasonOfHours$Pieces" 46 "SeasonOfHours$Pieces" "modes" "LSeasonOfHours$Modes;" : Cond) ∈ lw_Ts := am_mem 222 (by decide +kernel) rfl
theorem wt_431 : (.instanceMethod yX2_areTooNear : Cond) ∈ lw_Ts := am_mem 431 (by decide +kernel) rfl
theorem wt_432 : (.selects "SeasonOfHours$Modes" yX2_areTooNear yX2_areTooNear : Cond) ∈ lw_Ts := am_mem 432 (by decide +kernel) rfl
theorem wt_541 : (.methodLink "SeasonOfHours$Pieces" 88 yX2_areTooNear : Cond) ∈ lw_Ts := am_mem 541 (by decide +kernel) rfl
theorem wt_551 : (.methodLink "SeasonOfHours$Pieces" 96 yJ6_bitCount_0f7a4 : Cond) ∈ lw_Ts := am_mem 551 (by decide +kernel) rfl
theorem wt_562 : (.instanceMethod yX3_firstRow : Cond) ∈ lw_Ts := am_mem 562 (by decide +kernel) rfl
theorem wt_19 : (.selects "SeasonOfHours$Pieces" yX3_firstRow yX3_firstRow : Cond) ∈ lw_Ts := am_mem 19 (by decide +kernel) rfl
theorem wt_560 : (.methodLink "SeasonOfHours$Pieces" 101 yX3_firstRow : Cond) ∈ lw_Ts := am_mem 560 (by decide +kernel) rfl
theorem wt_564 : (.methodLink "SeasonOfHours$Pieces" 105 yJ6_numberOfTrailingZeros_0f7a4 : Cond) ∈ lw_Ts := am_mem 564 (by decide +kernel) rfl
theorem wt_565 : (.static yJ6_numberOfTrailingZeros_0f7a4 : Cond) ∈ lw_Ts := am_mem 565 (by decide +kernel) rfl
theorem wt_568 : (.constantLong "SeasonOfHours$Pieces" 108 (am_l (10)) : Cond) ∈ lw_Ts := am_mem 568 (by decide +kernel) rfl
theorem wt_237 : (.fieldLink "SeasonOfHours$Pieces" 43 "SeasonOfHours$Pieces" "latestSize" "I" : Cond) ∈ lw_Ts := am_mem 237 (by decide +kernel) rfl
theorem wt_229 : (.fieldLink "SeasonOfHours$Pieces" 27 "SeasonOfHours$Pieces" "latest" "[I" : Cond) ∈ lw_Ts := am_mem 229 (by decide +kernel) rfl
theorem wt_183 : (.fieldLink "SeasonOfHours$Planner" 52 "SeasonOfHours$Planner" "programme" "LSeasonOfHours$Programme;" : Cond) ∈ lw_Ts := am_mem 183 (by decide +kernel) rfl
theorem wt_154 : (.fieldLink "SeasonOfHours$Planner" 56 "SeasonOfHours$Programme" "slots" "I" : Cond) ∈ lw_Ts := am_mem 154 (by decide +kernel) rfl
theorem wt_453 : (.instanceMethod yX4_weighOptions : Cond) ∈ lw_Ts := am_mem 453 (by decide +kernel) rfl
theorem wt_5 : (.selects "SeasonOfHours$Planner" yX4_weighOptions yX4_weighOptions : Cond) ∈ lw_Ts := am_mem 5 (by decide +kernel) rfl
theorem wt_451 : (.methodLink "SeasonOfHours$Planner" 61 yX4_weighOptions : Cond) ∈ lw_Ts := am_mem 451 (by decide +kernel) rfl
theorem wt_153 : (.fieldLink "SeasonOfHours$Planner" 65 "SeasonOfHours$Programme" "hours" "I" : Cond) ∈ lw_Ts := am_mem 153 (by decide +kernel) rfl
theorem wt_460 : (.instanceMethod yX4_listChoices : Cond) ∈ lw_Ts := am_mem 460 (by decide +kernel) rfl
theorem wt_6 : (.selects "SeasonOfHours$Planner" yX4_listChoices yX4_listChoices : Cond) ∈ lw_Ts := am_mem 6 (by decide +kernel) rfl
theorem wt_458 : (.methodLink "SeasonOfHours$Planner" 68 yX4_listChoices : Cond) ∈ lw_Ts := am_mem 458 (by decide +kernel) rfl
theorem wt_465 : (.instanceMethod yX4_listFollowers : Cond) ∈ lw_Ts := am_mem 465 (by decide +kernel) rfl
theorem wt_7 : (.selects "SeasonOfHours$Planner" yX4_listFollowers yX4_listFollowers : Cond) ∈ lw_Ts := am_mem 7 (by decide +kernel) rfl
theorem wt_463 : (.methodLink "SeasonOfHours$Planner" 72 yX4_listFollowers : Cond) ∈ lw_Ts := am_mem 463 (by decide +kernel) rfl
theorem wt_470 : (.instanceMethod yX4_listFarModes : Cond) ∈ lw_Ts := am_mem 470 (by decide +kernel) rfl
theorem wt_8 : (.selects "SeasonOfHours$Planner" yX4_listFarModes yX4_listFarModes : Cond) ∈ lw_Ts := am_mem 8 (by decide +kernel) rfl
theorem wt_468 : (.methodLink "SeasonOfHours$Planner" 75 yX4_listFarModes : Cond) ∈ lw_Ts := am_mem 468 (by decide +kernel) rfl
theorem wt_190 : (.fieldLink "SeasonOfHours$Planner" 37 "SeasonOfHours$Planner" "ofLater" "[J" : Cond) ∈ lw_Ts := am_mem 190 (by decide +kernel) rfl
theorem wt_473 : (.methodLink "SeasonOfHours$Planner" 78 yJ7_fill_d0a16 : Cond) ∈ lw_Ts := am_mem 473 (by decide +kernel) rfl
theorem wt_474 : (.static yJ7_fill_d0a16 : Cond) ∈ lw_Ts := am_mem 474 (by decide +kernel) rfl
theorem wt_151 : (.fieldLink "SeasonOfHours$Planner" 84 "SeasonOfHours$Programme" "evenings" "I" : Cond) ∈ lw_Ts := am_mem 151 (by decide +kernel) rfl
theorem wt_189 : (.fieldLink "SeasonOfHours$Planner" 33 "SeasonOfHours$Planner" "ofCompany" "[J" : Cond) ∈ lw_Ts := am_mem 189 (by decide +kernel) rfl
theorem wt_476 : (.constantLong "SeasonOfHours$Planner" 87 (am_l (-9223372036854775808)) : Cond) ∈ lw_Ts := am_mem 476 (by decide +kernel) rfl
theorem wt_191 : (.fieldLink "SeasonOfHours$Planner" 40 "SeasonOfHours$Planner" "firstSlot" "I" : Cond) ∈ lw_Ts := am_mem 191 (by decide +kernel) rfl
theorem wt_182 : (.fieldLink "SeasonOfHours$Planner" 48 "SeasonOfHours$Planner" "artists" "LSeasonOfHours$Artists;" : Cond) ∈ lw_Ts := am_mem 182 (by decide +kernel) rfl
theorem wt_117 : (.fieldLink "SeasonOfHours$Planner" 89 "SeasonOfHours$Artists" "size" "I" : Cond) ∈ lw_Ts := am_mem 117 (by decide +kernel) rfl
theorem wt_479 : (.instanceMethod yX4_fillFrom : Cond) ∈ lw_Ts := am_mem 479 (by decide +kernel) rfl
theorem wt_9 : (.selects "SeasonOfHours$Planner" yX4_fillFrom yX4_fillFrom : Cond) ∈ lw_Ts := am_mem 9 (by decide +kernel) rfl
theorem wt_477 : (.methodLink "SeasonOfHours$Planner" 94 yX4_fillFrom : Cond) ∈ lw_Ts := am_mem 477 (by decide +kernel) rfl
theorem wt_490 : (.instanceMethod yX4_joinEvening : Cond) ∈ lw_Ts := am_mem 490 (by decide +kernel) rfl
theorem wt_11 : (.selects "SeasonOfHours$Planner" yX4_joinEvening yX4_joinEvening : Cond) ∈ lw_Ts := am_mem 11 (by decide +kernel) rfl
theorem wt_488 : (.methodLink "SeasonOfHours$Planner" 98 yX4_joinEvening : Cond) ∈ lw_Ts := am_mem 488 (by decide +kernel) rfl
theorem wt_494 : (.instanceMethod yX4_carryOut : Cond) ∈ lw_Ts := am_mem 494 (by decide +kernel) rfl
theorem wt_12 : (.selects "SeasonOfHours$Planner" yX4_carryOut yX4_carryOut : Cond) ∈ lw_Ts := am_mem 12 (by decide +kernel) rfl
theorem wt_492 : (.methodLink "SeasonOfHours$Planner" 101 yX4_carryOut : Cond) ∈ lw_Ts := am_mem 492 (by decide +kernel) rfl
theorem wt_109 : (.fieldLink "SeasonOfHours$Planner" 105 "SeasonOfHours$Artists" "likings" "[[I" : Cond) ∈ lw_Ts := am_mem 109 (by decide +kernel) rfl
theorem wt_147 : (.fieldLink "SeasonOfHours$Planner" 108 "SeasonOfHours$Programme" "options" "[I" : Cond) ∈ lw_Ts := am_mem 147 (by decide +kernel) rfl
theorem wt_184 : (.fieldLink "SeasonOfHours$Planner" 13 "SeasonOfHours$Planner" "values" "[[J" : Cond) ∈ lw_Ts := am_mem 184 (by decide +kernel) rfl
theorem wt_455 : (.constantLong "SeasonOfHours$Planner" 111 (am_l (2565726409)) : Cond) ∈ lw_Ts := am_mem 455 (by decide +kernel) rfl
theorem wt_456 : (.fieldLink "SeasonOfHours$Planner" 113 "SeasonOfHours$Planner" "PLACES" "[J" : Cond) ∈ lw_Ts := am_mem 456 (by decide +kernel) rfl
theorem wt_113 : (.fieldLink "SeasonOfHours$Planner" 116 "SeasonOfHours$Artists" "sick" "I" : Cond) ∈ lw_Ts := am_mem 113 (by decide +kernel) rfl
theorem wt_181 : (.fieldLink "SeasonOfHours$Planner" 44 "SeasonOfHours$Planner" "modes" "LSeasonOfHours$Modes;" : Cond) ∈ lw_Ts := am_mem 181 (by decide +kernel) rfl
theorem wt_75 : (.fieldLink "SeasonOfHours$Planner" 123 "SeasonOfHours$Modes" "hours" "[I" : Cond) ∈ lw_Ts := am_mem 75 (by decide +kernel) rfl
theorem wt_185 : (.fieldLink "SeasonOfHours$Planner" 20 "SeasonOfHours$Planner" "choices" "[[I" : Cond) ∈ lw_Ts := am_mem 185 (by decide +kernel) rfl
theorem wt_186 : (.fieldLink "SeasonOfHours$Planner" 23 "SeasonOfHours$Planner" "choiceCounts" "[I" : Cond) ∈ lw_Ts := am_mem 186 (by decide +kernel) rfl
theorem wt_187 : (.fieldLink "SeasonOfHours$Planner" 27 "SeasonOfHours$Planner" "followers" "[I" : Cond) ∈ lw_Ts := am_mem 187 (by decide +kernel) rfl
theorem wt_101 : (.fieldLink "SeasonOfHours$Planner" 127 "SeasonOfHours$Artists" "ranks" "[I" : Cond) ∈ lw_Ts := am_mem 101 (by decide +kernel) rfl
theorem wt_106 : (.fieldLink "SeasonOfHours$Planner" 130 "SeasonOfHours$Artists" "rivals" "[I" : Cond) ∈ lw_Ts := am_mem 106 (by decide +kernel) rfl
theorem wt_78 : (.fieldLink "SeasonOfHours$Planner" 137 "SeasonOfHours$Modes" "size" "I" : Cond) ∈ lw_Ts := am_mem 78 (by decide +kernel) rfl
theorem wt_188 : (.fieldLink "SeasonOfHours$Planner" 30 "SeasonOfHours$Planner" "farModes" "[I" : Cond) ∈ lw_Ts := am_mem 188 (by decide +kernel) rfl
theorem wt_472 : (.methodLink "SeasonOfHours$Planner" 138 yX2_areTooNear : Cond) ∈ lw_Ts := am_mem 472 (by decide +kernel) rfl
theorem wt_481 : (.methodLink "SeasonOfHours$Planner" 141 yJ9_max_f86c9 : Cond) ∈ lw_Ts := am_mem 481 (by decide +kernel) rfl
theorem wt_482 : (.static yJ9_max_f86c9 : Cond) ∈ lw_Ts := am_mem 482 (by decide +kernel) rfl
theorem wt_486 : (.instanceMethod yX4_fillWith : Cond) ∈ lw_Ts := am_mem 486 (by decide +kernel) rfl
theorem wt_10 : (.selects "SeasonOfHours$Planner" yX4_fillWith yX4_fillWith : Cond) ∈ lw_Ts := am_mem 10 (by decide +kernel) rfl
theorem wt_484 : (.methodLink "SeasonOfHours$Planner" 147 yX4_fillWith : Cond) ∈ lw_Ts := am_mem 484 (by decide +kernel) rfl
theorem wt_496 : (.methodLink "SeasonOfHours$Planner" 150 yJ9_floorMod_f86c9 : Cond) ∈ lw_Ts := am_mem 496 (by decide +kernel) rfl
theorem wt_497 : (.static yJ9_floorMod_f86c9 : Cond) ∈ lw_Ts := am_mem 497 (by decide +kernel) rfl
theorem wt_499 : (.constantLong "SeasonOfHours$Planner" 153 (am_l (37)) : Cond) ∈ lw_Ts := am_mem 499 (by decide +kernel) rfl
theorem wt_150 : (.fieldLink "SeasonOfHours$Programme" 30 "SeasonOfHours$Programme" "evenings" "I" : Cond) ∈ lw_Ts := am_mem 150 (by decide +kernel) rfl
theorem wt_152 : (.fieldLink "SeasonOfHours$Programme" 34 "SeasonOfHours$Programme" "hours" "I" : Cond) ∈ lw_Ts := am_mem 152 (by decide +kernel) rfl
theorem wt_155 : (.fieldLink "SeasonOfHours$Programme" 37 "SeasonOfHours$Programme" "slots" "I" : Cond) ∈ lw_Ts := am_mem 155 (by decide +kernel) rfl
theorem wt_146 : (.fieldLink "SeasonOfHours$Programme" 9 "SeasonOfHours$Programme" "options" "[I" : Cond) ∈ lw_Ts := am_mem 146 (by decide +kernel) rfl
theorem wt_141 : (.methodLink "SeasonOfHours$Programme" 40 yJ7_fill_53178 : Cond) ∈ lw_Ts := am_mem 141 (by decide +kernel) rfl
theorem wt_142 : (.static yJ7_fill_53178 : Cond) ∈ lw_Ts := am_mem 142 (by decide +kernel) rfl
theorem wt_149 : (.fieldLink "SeasonOfHours$Programme" 15 "SeasonOfHours$Programme" "hourOf" "[I" : Cond) ∈ lw_Ts := am_mem 149 (by decide +kernel) rfl
theorem wt_383 : (.instanceMethod yX5_isFilled : Cond) ∈ lw_Ts := am_mem 383 (by decide +kernel) rfl
theorem wt_384 : (.selects "SeasonOfHours$Programme" yX5_isFilled yX5_isFilled : Cond) ∈ lw_Ts := am_mem 384 (by decide +kernel) rfl
theorem wt_382 : (.methodLink "SeasonOfHours$Programme" 50 yX5_isFilled : Cond) ∈ lw_Ts := am_mem 382 (by decide +kernel) rfl
theorem wt_145 : (.fieldLink "SeasonOfHours$Programme" 22 "SeasonOfHours$Programme" "artists" "LSeasonOfHours$Artists;" : Cond) ∈ lw_Ts := am_mem 145 (by decide +kernel) rfl
theorem wt_111 : (.fieldLink "SeasonOfHours$Programme" 54 "SeasonOfHours$Artists" "likings" "[[I" : Cond) ∈ lw_Ts := am_mem 111 (by decide +kernel) rfl
theorem wt_391 : (.instanceMethod yX5_artistAt : Cond) ∈ lw_Ts := am_mem 391 (by decide +kernel) rfl
theorem wt_392 : (.selects "SeasonOfHours$Programme" yX5_artistAt yX5_artistAt : Cond) ∈ lw_Ts := am_mem 392 (by decide +kernel) rfl
theorem wt_390 : (.methodLink "SeasonOfHours$Programme" 60 yX5_artistAt : Cond) ∈ lw_Ts := am_mem 390 (by decide +kernel) rfl
theorem wt_395 : (.instanceMethod yX5_modeAt : Cond) ∈ lw_Ts := am_mem 395 (by decide +kernel) rfl
theorem wt_396 : (.selects "SeasonOfHours$Programme" yX5_modeAt yX5_modeAt : Cond) ∈ lw_Ts := am_mem 396 (by decide +kernel) rfl
theorem wt_394 : (.methodLink "SeasonOfHours$Programme" 64 yX5_modeAt : Cond) ∈ lw_Ts := am_mem 394 (by decide +kernel) rfl
theorem wt_417 : (.instanceMethod yX5_isFault : Cond) ∈ lw_Ts := am_mem 417 (by decide +kernel) rfl
theorem wt_0 : (.selects "SeasonOfHours$Programme" yX5_isFault yX5_isFault : Cond) ∈ lw_Ts := am_mem 0 (by decide +kernel) rfl
theorem wt_415 : (.methodLink "SeasonOfHours$Programme" 67 yX5_isFault : Cond) ∈ lw_Ts := am_mem 415 (by decide +kernel) rfl
theorem wt_115 : (.fieldLink "SeasonOfHours$Programme" 71 "SeasonOfHours$Artists" "sick" "I" : Cond) ∈ lw_Ts := am_mem 115 (by decide +kernel) rfl
theorem wt_424 : (.instanceMethod yX5_isArtistAhead : Cond) ∈ lw_Ts := am_mem 424 (by decide +kernel) rfl
theorem wt_1 : (.selects "SeasonOfHours$Programme" yX5_isArtistAhead yX5_isArtistAhead : Cond) ∈ lw_Ts := am_mem 1 (by decide +kernel) rfl
theorem wt_422 : (.methodLink "SeasonOfHours$Programme" 77 yX5_isArtistAhead : Cond) ∈ lw_Ts := am_mem 422 (by decide +kernel) rfl
theorem wt_144 : (.fieldLink "SeasonOfHours$Programme" 18 "SeasonOfHours$Programme" "modes" "LSeasonOfHours$Modes;" : Cond) ∈ lw_Ts := am_mem 144 (by decide +kernel) rfl
theorem wt_76 : (.fieldLink "SeasonOfHours$Programme" 80 "SeasonOfHours$Modes" "hours" "[I" : Cond) ∈ lw_Ts := am_mem 76 (by decide +kernel) rfl
theorem wt_428 : (.instanceMethod yX5_isTooNearOneAhead : Cond) ∈ lw_Ts := am_mem 428 (by decide +kernel) rfl
theorem wt_2 : (.selects "SeasonOfHours$Programme" yX5_isTooNearOneAhead yX5_isTooNearOneAhead : Cond) ∈ lw_Ts := am_mem 2 (by decide +kernel) rfl
theorem wt_426 : (.methodLink "SeasonOfHours$Programme" 84 yX5_isTooNearOneAhead : Cond) ∈ lw_Ts := am_mem 426 (by decide +kernel) rfl
theorem wt_437 : (.instanceMethod yX5_clashesInEvening : Cond) ∈ lw_Ts := am_mem 437 (by decide +kernel) rfl
theorem wt_3 : (.selects "SeasonOfHours$Programme" yX5_clashesInEvening yX5_clashesInEvening : Cond) ∈ lw_Ts := am_mem 3 (by decide +kernel) rfl
theorem wt_435 : (.methodLink "SeasonOfHours$Programme" 87 yX5_clashesInEvening : Cond) ∈ lw_Ts := am_mem 435 (by decide +kernel) rfl
theorem wt_441 : (.instanceMethod yX5_clash : Cond) ∈ lw_Ts := am_mem 441 (by decide +kernel) rfl
theorem wt_4 : (.selects "SeasonOfHours$Programme" yX5_clash yX5_clash : Cond) ∈ lw_Ts := am_mem 4 (by decide +kernel) rfl
theorem wt_439 : (.methodLink "SeasonOfHours$Programme" 90 yX5_clash : Cond) ∈ lw_Ts := am_mem 439 (by decide +kernel) rfl
theorem wt_103 : (.fieldLink "SeasonOfHours$Programme" 93 "SeasonOfHours$Artists" "ranks" "[I" : Cond) ∈ lw_Ts := am_mem 103 (by decide +kernel) rfl
theorem wt_107 : (.fieldLink "SeasonOfHours$Programme" 96 "SeasonOfHours$Artists" "rivals" "[I" : Cond) ∈ lw_Ts := am_mem 107 (by decide +kernel) rfl
theorem wt_430 : (.methodLink "SeasonOfHours$Programme" 99 yX2_areTooNear : Cond) ∈ lw_Ts := am_mem 430 (by decide +kernel) rfl
theorem wt_311 : (.methodLink "SeasonOfHours" 59 yX6_isWithin : Cond) ∈ lw_Ts := am_mem 311 (by decide +kernel) rfl
theorem wt_288 : (.fieldLink "SeasonOfHours" 10 "SeasonOfHours" "modes" "LSeasonOfHours$Modes;" : Cond) ∈ lw_Ts := am_mem 288 (by decide +kernel) rfl
theorem wt_315 : (.instanceMethod yX2_add : Cond) ∈ lw_Ts := am_mem 315 (by decide +kernel) rfl
theorem wt_316 : (.selects "SeasonOfHours$Modes" yX2_add yX2_add : Cond) ∈ lw_Ts := am_mem 316 (by decide +kernel) rfl
theorem wt_314 : (.methodLink "SeasonOfHours" 63 yX2_add : Cond) ∈ lw_Ts := am_mem 314 (by decide +kernel) rfl
theorem wt_289 : (.fieldLink "SeasonOfHours" 19 "SeasonOfHours" "artists" "LSeasonOfHours$Artists;" : Cond) ∈ lw_Ts := am_mem 289 (by decide +kernel) rfl
theorem wt_323 : (.instanceMethod yX0_add : Cond) ∈ lw_Ts := am_mem 323 (by decide +kernel) rfl
theorem wt_324 : (.selects "SeasonOfHours$Artists" yX0_add yX0_add : Cond) ∈ lw_Ts := am_mem 324 (by decide +kernel) rfl
theorem wt_322 : (.methodLink "SeasonOfHours" 67 yX0_add : Cond) ∈ lw_Ts := am_mem 322 (by decide +kernel) rfl
theorem wt_331 : (.instanceMethod yX0_has : Cond) ∈ lw_Ts := am_mem 331 (by decide +kernel) rfl
theorem wt_332 : (.selects "SeasonOfHours$Artists" yX0_has yX0_has : Cond) ∈ lw_Ts := am_mem 332 (by decide +kernel) rfl
theorem wt_330 : (.methodLink "SeasonOfHours" 70 yX0_has : Cond) ∈ lw_Ts := am_mem 330 (by decide +kernel) rfl
theorem wt_336 : (.instanceMethod yX2_has : Cond) ∈ lw_Ts := am_mem 336 (by decide +kernel) rfl
theorem wt_337 : (.selects "SeasonOfHours$Modes" yX2_has yX2_has : Cond) ∈ lw_Ts := am_mem 337 (by decide +kernel) rfl
theorem wt_335 : (.methodLink "SeasonOfHours" 74 yX2_has : Cond) ∈ lw_Ts := am_mem 335 (by decide +kernel) rfl
theorem wt_110 : (.fieldLink "SeasonOfHours" 75 "SeasonOfHours$Artists" "likings" "[[I" : Cond) ∈ lw_Ts := am_mem 110 (by decide +kernel) rfl
theorem wt_105 : (.fieldLink "SeasonOfHours" 79 "SeasonOfHours$Artists" "rivals" "[I" : Cond) ∈ lw_Ts := am_mem 105 (by decide +kernel) rfl
theorem wt_344 : (.methodLink "SeasonOfHours" 83 yX6_withBit : Cond) ∈ lw_Ts := am_mem 344 (by decide +kernel) rfl
theorem wt_114 : (.fieldLink "SeasonOfHours" 87 "SeasonOfHours$Artists" "sick" "I" : Cond) ∈ lw_Ts := am_mem 114 (by decide +kernel) rfl
theorem wt_81 : (.fieldLink "SeasonOfHours" 91 "SeasonOfHours$Modes" "limit" "I" : Cond) ∈ lw_Ts := am_mem 81 (by decide +kernel) rfl
theorem wt_292 : (.fieldLink "SeasonOfHours" 46 "SeasonOfHours" "pieces" "LSeasonOfHours$Pieces;" : Cond) ∈ lw_Ts := am_mem 292 (by decide +kernel) rfl
theorem wt_236 : (.fieldLink "SeasonOfHours" 94 "SeasonOfHours$Pieces" "rest" "I" : Cond) ∈ lw_Ts := am_mem 236 (by decide +kernel) rfl
theorem wt_290 : (.fieldLink "SeasonOfHours" 28 "SeasonOfHours" "programme" "LSeasonOfHours$Programme;" : Cond) ∈ lw_Ts := am_mem 290 (by decide +kernel) rfl
theorem wt_138 : (.instanceMethod yX5_begin : Cond) ∈ lw_Ts := am_mem 138 (by decide +kernel) rfl
theorem wt_139 : (.selects "SeasonOfHours$Programme" yX5_begin yX5_begin : Cond) ∈ lw_Ts := am_mem 139 (by decide +kernel) rfl
theorem wt_359 : (.methodLink "SeasonOfHours" 97 yX5_begin : Cond) ∈ lw_Ts := am_mem 359 (by decide +kernel) rfl
theorem wt_364 : (.methodLink "SeasonOfHours" 101 yX2_shared : Cond) ∈ lw_Ts := am_mem 364 (by decide +kernel) rfl
theorem wt_79 : (.fieldLink "SeasonOfHours" 104 "SeasonOfHours$Modes" "size" "I" : Cond) ∈ lw_Ts := am_mem 79 (by decide +kernel) rfl
theorem wt_119 : (.fieldLink "SeasonOfHours" 107 "SeasonOfHours$Artists" "size" "I" : Cond) ∈ lw_Ts := am_mem 119 (by decide +kernel) rfl
theorem wt_156 : (.fieldLink "SeasonOfHours" 108 "SeasonOfHours$Programme" "slots" "I" : Cond) ∈ lw_Ts := am_mem 156 (by decide +kernel) rfl
theorem wt_379 : (.instanceMethod yX5_filledSlots : Cond) ∈ lw_Ts := am_mem 379 (by decide +kernel) rfl
theorem wt_380 : (.selects "SeasonOfHours$Programme" yX5_filledSlots yX5_filledSlots : Cond) ∈ lw_Ts := am_mem 380 (by decide +kernel) rfl
theorem wt_378 : (.methodLink "SeasonOfHours" 111 yX5_filledSlots : Cond) ∈ lw_Ts := am_mem 378 (by decide +kernel) rfl
theorem wt_387 : (.instanceMethod yX5_worth : Cond) ∈ lw_Ts := am_mem 387 (by decide +kernel) rfl
theorem wt_388 : (.selects "SeasonOfHours$Programme" yX5_worth yX5_worth : Cond) ∈ lw_Ts := am_mem 388 (by decide +kernel) rfl
theorem wt_386 : (.methodLink "SeasonOfHours" 115 yX5_worth : Cond) ∈ lw_Ts := am_mem 386 (by decide +kernel) rfl
theorem wt_234 : (.fieldLink "SeasonOfHours" 118 "SeasonOfHours$Pieces" "size" "I" : Cond) ∈ lw_Ts := am_mem 234 (by decide +kernel) rfl
theorem wt_238 : (.fieldLink "SeasonOfHours" 119 "SeasonOfHours$Pieces" "latestSize" "I" : Cond) ∈ lw_Ts := am_mem 238 (by decide +kernel) rfl
theorem wt_403 : (.instanceMethod yX5_hasSlot : Cond) ∈ lw_Ts := am_mem 403 (by decide +kernel) rfl
theorem wt_404 : (.selects "SeasonOfHours$Programme" yX5_hasSlot yX5_hasSlot : Cond) ∈ lw_Ts := am_mem 404 (by decide +kernel) rfl
theorem wt_402 : (.methodLink "SeasonOfHours" 122 yX5_hasSlot : Cond) ∈ lw_Ts := am_mem 402 (by decide +kernel) rfl
theorem wt_148 : (.fieldLink "SeasonOfHours" 125 "SeasonOfHours$Programme" "options" "[I" : Cond) ∈ lw_Ts := am_mem 148 (by decide +kernel) rfl
theorem wt_412 : (.instanceMethod yX5_firstFault : Cond) ∈ lw_Ts := am_mem 412 (by decide +kernel) rfl
theorem wt_413 : (.selects "SeasonOfHours$Programme" yX5_firstFault yX5_firstFault : Cond) ∈ lw_Ts := am_mem 413 (by decide +kernel) rfl
theorem wt_411 : (.methodLink "SeasonOfHours" 143 yX5_firstFault : Cond) ∈ lw_Ts := am_mem 411 (by decide +kernel) rfl
theorem wt_291 : (.fieldLink "SeasonOfHours" 37 "SeasonOfHours" "planner" "LSeasonOfHours$Planner;" : Cond) ∈ lw_Ts := am_mem 291 (by decide +kernel) rfl
theorem wt_448 : (.instanceMethod yX4_plan : Cond) ∈ lw_Ts := am_mem 448 (by decide +kernel) rfl
theorem wt_449 : (.selects "SeasonOfHours$Planner" yX4_plan yX4_plan : Cond) ∈ lw_Ts := am_mem 449 (by decide +kernel) rfl
theorem wt_447 : (.methodLink "SeasonOfHours" 146 yX4_plan : Cond) ∈ lw_Ts := am_mem 447 (by decide +kernel) rfl
theorem wt_509 : (.instanceMethod yX3_add : Cond) ∈ lw_Ts := am_mem 509 (by decide +kernel) rfl
theorem wt_510 : (.selects "SeasonOfHours$Pieces" yX3_add yX3_add : Cond) ∈ lw_Ts := am_mem 510 (by decide +kernel) rfl
theorem wt_508 : (.methodLink "SeasonOfHours" 149 yX3_add : Cond) ∈ lw_Ts := am_mem 508 (by decide +kernel) rfl
theorem wt_518 : (.instanceMethod yX3_has : Cond) ∈ lw_Ts := am_mem 518 (by decide +kernel) rfl
theorem wt_519 : (.selects "SeasonOfHours$Pieces" yX3_has yX3_has : Cond) ∈ lw_Ts := am_mem 519 (by decide +kernel) rfl
theorem wt_517 : (.methodLink "SeasonOfHours" 152 yX3_has : Cond) ∈ lw_Ts := am_mem 517 (by decide +kernel) rfl
theorem wt_227 : (.fieldLink "SeasonOfHours" 153 "SeasonOfHours$Pieces" "lastDays" "[I" : Cond) ∈ lw_Ts := am_mem 227 (by decide +kernel) rfl
theorem wt_527 : (.instanceMethod yX3_findRow : Cond) ∈ lw_Ts := am_mem 527 (by decide +kernel) rfl
theorem wt_528 : (.selects "SeasonOfHours$Pieces" yX3_findRow yX3_findRow : Cond) ∈ lw_Ts := am_mem 528 (by decide +kernel) rfl
theorem wt_526 : (.methodLink "SeasonOfHours" 156 yX3_findRow : Cond) ∈ lw_Ts := am_mem 526 (by decide +kernel) rfl
theorem wt_230 : (.fieldLink "SeasonOfHours" 159 "SeasonOfHours$Pieces" "latest" "[I" : Cond) ∈ lw_Ts := am_mem 230 (by decide +kernel) rfl
theorem wt_293 : (.fieldLink "SeasonOfHours" 55 "SeasonOfHours" "jury" "LSeasonOfHours$Jury;" : Cond) ∈ lw_Ts := am_mem 293 (by decide +kernel) rfl
theorem wt_582 : (.instanceMethod yX1_append : Cond) ∈ lw_Ts := am_mem 582 (by decide +kernel) rfl
theorem wt_583 : (.selects "SeasonOfHours$Jury" yX1_append yX1_append : Cond) ∈ lw_Ts := am_mem 583 (by decide +kernel) rfl
theorem wt_581 : (.methodLink "SeasonOfHours" 162 yX1_append : Cond) ∈ lw_Ts := am_mem 581 (by decide +kernel) rfl
theorem wt_275 : (.fieldLink "SeasonOfHours" 165 "SeasonOfHours$Jury" "families" "[I" : Cond) ∈ lw_Ts := am_mem 275 (by decide +kernel) rfl
theorem wt_593 : (.methodLink "SeasonOfHours" 168 yX1_sumFor : Cond) ∈ lw_Ts := am_mem 593 (by decide +kernel) rfl
theorem wt_610 : (.instanceMethod yX1_artistAtPlace : Cond) ∈ lw_Ts := am_mem 610 (by decide +kernel) rfl
theorem wt_611 : (.selects "SeasonOfHours$Jury" yX1_artistAtPlace yX1_artistAtPlace : Cond) ∈ lw_Ts := am_mem 611 (by decide +kernel) rfl
theorem wt_609 : (.methodLink "SeasonOfHours" 171 yX1_artistAtPlace : Cond) ∈ lw_Ts := am_mem 609 (by decide +kernel) rfl
theorem wt_734 : (.fieldLink "SeasonOfHoursModel" 108 "SeasonOfHoursModel" "thrown" "I" : Cond) ∈ lw_Ts := am_mem 734 (by decide +kernel) rfl
theorem wt_721 : (.fieldLink "SeasonOfHoursModel" 42 "SeasonOfHoursModel" "who" "[I" : Cond) ∈ lw_Ts := am_mem 721 (by decide +kernel) rfl
theorem wt_722 : (.fieldLink "SeasonOfHoursModel" 45 "SeasonOfHoursModel" "what" "[I" : Cond) ∈ lw_Ts := am_mem 722 (by decide +kernel) rfl
theorem wt_711 : (.fieldLink "SeasonOfHoursModel" 111 "SeasonOfHoursModel" "modes" "I" : Cond) ∈ lw_Ts := am_mem 711 (by decide +kernel) rfl
theorem wt_830 : (.methodLink "SeasonOfHoursModel" 114 yX7_in : Cond) ∈ lw_Ts := am_mem 830 (by decide +kernel) rfl
theorem wt_831 : (.static yX7_in : Cond) ∈ lw_Ts := am_mem 831 (by decide +kernel) rfl
theorem wt_716 : (.fieldLink "SeasonOfHoursModel" 118 "SeasonOfHoursModel" "artists" "I" : Cond) ∈ lw_Ts := am_mem 716 (by decide +kernel) rfl
theorem wt_709 : (.fieldLink "SeasonOfHoursModel" 9 "SeasonOfHoursModel" "notes" "[I" : Cond) ∈ lw_Ts := am_mem 709 (by decide +kernel) rfl
theorem wt_710 : (.fieldLink "SeasonOfHoursModel" 13 "SeasonOfHoursModel" "hours" "[I" : Cond) ∈ lw_Ts := am_mem 710 (by decide +kernel) rfl
theorem wt_712 : (.fieldLink "SeasonOfHoursModel" 16 "SeasonOfHoursModel" "rank" "[I" : Cond) ∈ lw_Ts := am_mem 712 (by decide +kernel) rfl
theorem wt_843 : (.instanceMethod yX7_isArtist : Cond) ∈ lw_Ts := am_mem 843 (by decide +kernel) rfl
theorem wt_26 : (.selects "SeasonOfHoursModel" yX7_isArtist yX7_isArtist : Cond) ∈ lw_Ts := am_mem 26 (by decide +kernel) rfl
theorem wt_841 : (.methodLink "SeasonOfHoursModel" 121 yX7_isArtist : Cond) ∈ lw_Ts := am_mem 841 (by decide +kernel) rfl
theorem wt_847 : (.instanceMethod yX7_isMode : Cond) ∈ lw_Ts := am_mem 847 (by decide +kernel) rfl
theorem wt_27 : (.selects "SeasonOfHoursModel" yX7_isMode yX7_isMode : Cond) ∈ lw_Ts := am_mem 27 (by decide +kernel) rfl
theorem wt_845 : (.methodLink "SeasonOfHoursModel" 125 yX7_isMode : Cond) ∈ lw_Ts := am_mem 845 (by decide +kernel) rfl
theorem wt_714 : (.fieldLink "SeasonOfHoursModel" 23 "SeasonOfHoursModel" "liking" "[I" : Cond) ∈ lw_Ts := am_mem 714 (by decide +kernel) rfl
theorem wt_715 : (.fieldLink "SeasonOfHoursModel" 26 "SeasonOfHoursModel" "rivals" "[Z" : Cond) ∈ lw_Ts := am_mem 715 (by decide +kernel) rfl
theorem wt_713 : (.fieldLink "SeasonOfHoursModel" 19 "SeasonOfHoursModel" "ill" "[Z" : Cond) ∈ lw_Ts := am_mem 713 (by decide +kernel) rfl
theorem wt_717 : (.fieldLink "SeasonOfHoursModel" 29 "SeasonOfHoursModel" "limit" "I" : Cond) ∈ lw_Ts := am_mem 717 (by decide +kernel) rfl
theorem wt_718 : (.fieldLink "SeasonOfHoursModel" 33 "SeasonOfHoursModel" "rest" "I" : Cond) ∈ lw_Ts := am_mem 718 (by decide +kernel) rfl
theorem wt_719 : (.fieldLink "SeasonOfHoursModel" 36 "SeasonOfHoursModel" "evenings" "I" : Cond) ∈ lw_Ts := am_mem 719 (by decide +kernel) rfl
theorem wt_720 : (.fieldLink "SeasonOfHoursModel" 39 "SeasonOfHoursModel" "slots" "I" : Cond) ∈ lw_Ts := am_mem 720 (by decide +kernel) rfl
theorem wt_707 : (.instanceMethod yX7_empty : Cond) ∈ lw_Ts := am_mem 707 (by decide +kernel) rfl
theorem wt_25 : (.selects "SeasonOfHoursModel" yX7_empty yX7_empty : Cond) ∈ lw_Ts := am_mem 25 (by decide +kernel) rfl
theorem wt_705 : (.methodLink "SeasonOfHoursModel" 105 yX7_empty : Cond) ∈ lw_Ts := am_mem 705 (by decide +kernel) rfl
theorem wt_873 : (.methodLink "SeasonOfHoursModel" 128 yJ6_bitCount_0f7a4 : Cond) ∈ lw_Ts := am_mem 873 (by decide +kernel) rfl
theorem wt_871 : (.instanceMethod yX7_share : Cond) ∈ lw_Ts := am_mem 871 (by decide +kernel) rfl
theorem wt_28 : (.selects "SeasonOfHoursModel" yX7_share yX7_share : Cond) ∈ lw_Ts := am_mem 28 (by decide +kernel) rfl
theorem wt_869 : (.methodLink "SeasonOfHoursModel" 134 yX7_share : Cond) ∈ lw_Ts := am_mem 869 (by decide +kernel) rfl
theorem wt_880 : (.instanceMethod yX7_all : Cond) ∈ lw_Ts := am_mem 880 (by decide +kernel) rfl
theorem wt_29 : (.selects "SeasonOfHoursModel" yX7_all yX7_all : Cond) ∈ lw_Ts := am_mem 29 (by decide +kernel) rfl
theorem wt_878 : (.methodLink "SeasonOfHoursModel" 138 yX7_all : Cond) ∈ lw_Ts := am_mem 878 (by decide +kernel) rfl
theorem wt_728 : (.fieldLink "SeasonOfHoursModel" 142 "SeasonOfHoursModel" "pieces" "I" : Cond) ∈ lw_Ts := am_mem 728 (by decide +kernel) rfl
theorem wt_730 : (.fieldLink "SeasonOfHoursModel" 145 "SeasonOfHoursModel" "rowMany" "I" : Cond) ∈ lw_Ts := am_mem 730 (by decide +kernel) rfl
theorem wt_896 : (.instanceMethod yX7_holds : Cond) ∈ lw_Ts := am_mem 896 (by decide +kernel) rfl
theorem wt_30 : (.selects "SeasonOfHoursModel" yX7_holds yX7_holds : Cond) ∈ lw_Ts := am_mem 30 (by decide +kernel) rfl
theorem wt_894 : (.methodLink "SeasonOfHoursModel" 148 yX7_holds : Cond) ∈ lw_Ts := am_mem 894 (by decide +kernel) rfl
theorem wt_737 : (.fieldLink "SeasonOfHoursModel" 81 "SeasonOfHoursModel" "value" "[I" : Cond) ∈ lw_Ts := am_mem 737 (by decide +kernel) rfl
theorem wt_738 : (.fieldLink "SeasonOfHoursModel" 84 "SeasonOfHoursModel" "bestWho" "[I" : Cond) ∈ lw_Ts := am_mem 738 (by decide +kernel) rfl
theorem wt_739 : (.fieldLink "SeasonOfHoursModel" 87 "SeasonOfHoursModel" "bestWhat" "[I" : Cond) ∈ lw_Ts := am_mem 739 (by decide +kernel) rfl
theorem wt_735 : (.fieldLink "SeasonOfHoursModel" 75 "SeasonOfHoursModel" "wasWho" "[I" : Cond) ∈ lw_Ts := am_mem 735 (by decide +kernel) rfl
theorem wt_736 : (.fieldLink "SeasonOfHoursModel" 78 "SeasonOfHoursModel" "wasWhat" "[I" : Cond) ∈ lw_Ts := am_mem 736 (by decide +kernel) rfl
theorem wt_909 : (.instanceMethod yX7_go : Cond) ∈ lw_Ts := am_mem 909 (by decide +kernel) rfl
theorem wt_32 : (.selects "SeasonOfHoursModel" yX7_go yX7_go : Cond) ∈ lw_Ts := am_mem 32 (by decide +kernel) rfl
theorem wt_907 : (.methodLink "SeasonOfHoursModel" 152 yX7_go : Cond) ∈ lw_Ts := am_mem 907 (by decide +kernel) rfl
theorem wt_742 : (.fieldLink "SeasonOfHoursModel" 156 "SeasonOfHoursModel" "found" "I" : Cond) ∈ lw_Ts := am_mem 742 (by decide +kernel) rfl
theorem wt_917 : (.instanceMethod yX7_isAhead : Cond) ∈ lw_Ts := am_mem 917 (by decide +kernel) rfl
theorem wt_34 : (.selects "SeasonOfHoursModel" yX7_isAhead yX7_isAhead : Cond) ∈ lw_Ts := am_mem 34 (by decide +kernel) rfl
theorem wt_915 : (.methodLink "SeasonOfHoursModel" 159 yX7_isAhead : Cond) ∈ lw_Ts := am_mem 915 (by decide +kernel) rfl
theorem wt_741 : (.fieldLink "SeasonOfHoursModel" 93 "SeasonOfHoursModel" "foundSet" "[I" : Cond) ∈ lw_Ts := am_mem 741 (by decide +kernel) rfl
theorem wt_740 : (.fieldLink "SeasonOfHoursModel" 90 "SeasonOfHoursModel" "trySet" "[I" : Cond) ∈ lw_Ts := am_mem 740 (by decide +kernel) rfl
theorem wt_906 : (.constant "SeasonOfHoursModel" 163 (am_i (-1000000)) : Cond) ∈ lw_Ts := am_mem 906 (by decide +kernel) rfl
theorem wt_913 : (.instanceMethod yX7_join : Cond) ∈ lw_Ts := am_mem 913 (by decide +kernel) rfl
theorem wt_33 : (.selects "SeasonOfHoursModel" yX7_join yX7_join : Cond) ∈ lw_Ts := am_mem 33 (by decide +kernel) rfl
theorem wt_911 : (.methodLink "SeasonOfHoursModel" 164 yX7_join : Cond) ∈ lw_Ts := am_mem 911 (by decide +kernel) rfl
theorem wt_904 : (.instanceMethod yX7_search : Cond) ∈ lw_Ts := am_mem 904 (by decide +kernel) rfl
theorem wt_31 : (.selects "SeasonOfHoursModel" yX7_search yX7_search : Cond) ∈ lw_Ts := am_mem 31 (by decide +kernel) rfl
theorem wt_902 : (.methodLink "SeasonOfHoursModel" 168 yX7_search : Cond) ∈ lw_Ts := am_mem 902 (by decide +kernel) rfl
theorem wt_875 : (.instanceMethod yX7_count : Cond) ∈ lw_Ts := am_mem 875 (by decide +kernel) rfl
theorem wt_876 : (.selects "SeasonOfHoursModel" yX7_count yX7_count : Cond) ∈ lw_Ts := am_mem 876 (by decide +kernel) rfl
theorem wt_919 : (.methodLink "SeasonOfHoursModel" 172 yX7_count : Cond) ∈ lw_Ts := am_mem 919 (by decide +kernel) rfl
theorem wt_723 : (.fieldLink "SeasonOfHoursModel" 48 "SeasonOfHoursModel" "pieceMode" "[I" : Cond) ∈ lw_Ts := am_mem 723 (by decide +kernel) rfl
theorem wt_724 : (.fieldLink "SeasonOfHoursModel" 51 "SeasonOfHoursModel" "minutes" "[I" : Cond) ∈ lw_Ts := am_mem 724 (by decide +kernel) rfl
theorem wt_725 : (.fieldLink "SeasonOfHoursModel" 54 "SeasonOfHoursModel" "worth" "[I" : Cond) ∈ lw_Ts := am_mem 725 (by decide +kernel) rfl
theorem wt_726 : (.fieldLink "SeasonOfHoursModel" 57 "SeasonOfHoursModel" "isMain" "[Z" : Cond) ∈ lw_Ts := am_mem 726 (by decide +kernel) rfl
theorem wt_727 : (.fieldLink "SeasonOfHoursModel" 60 "SeasonOfHoursModel" "last" "[I" : Cond) ∈ lw_Ts := am_mem 727 (by decide +kernel) rfl
theorem wt_743 : (.fieldLink "SeasonOfHoursModel" 96 "SeasonOfHoursModel" "firsts" "[I" : Cond) ∈ lw_Ts := am_mem 743 (by decide +kernel) rfl
theorem wt_942 : (.instanceMethod yX7_canFollow : Cond) ∈ lw_Ts := am_mem 942 (by decide +kernel) rfl
theorem wt_36 : (.selects "SeasonOfHoursModel" yX7_canFollow yX7_canFollow : Cond) ∈ lw_Ts := am_mem 36 (by decide +kernel) rfl
theorem wt_940 : (.methodLink "SeasonOfHoursModel" 175 yX7_canFollow : Cond) ∈ lw_Ts := am_mem 940 (by decide +kernel) rfl
theorem wt_948 : (.methodLink "SeasonOfHoursModel" 178 yJ9_abs_0f7a4 : Cond) ∈ lw_Ts := am_mem 948 (by decide +kernel) rfl
theorem wt_744 : (.fieldLink "SeasonOfHoursModel" 99 "SeasonOfHoursModel" "tryRow" "[I" : Cond) ∈ lw_Ts := am_mem 744 (by decide +kernel) rfl
theorem wt_938 : (.instanceMethod yX7_findFirsts : Cond) ∈ lw_Ts := am_mem 938 (by decide +kernel) rfl
theorem wt_35 : (.selects "SeasonOfHoursModel" yX7_findFirsts yX7_findFirsts : Cond) ∈ lw_Ts := am_mem 35 (by decide +kernel) rfl
theorem wt_936 : (.methodLink "SeasonOfHoursModel" 183 yX7_findFirsts : Cond) ∈ lw_Ts := am_mem 936 (by decide +kernel) rfl
theorem wt_946 : (.instanceMethod yX7_mayBe : Cond) ∈ lw_Ts := am_mem 946 (by decide +kernel) rfl
theorem wt_37 : (.selects "SeasonOfHoursModel" yX7_mayBe yX7_mayBe : Cond) ∈ lw_Ts := am_mem 37 (by decide +kernel) rfl
theorem wt_944 : (.methodLink "SeasonOfHoursModel" 186 yX7_mayBe : Cond) ∈ lw_Ts := am_mem 944 (by decide +kernel) rfl
theorem wt_951 : (.instanceMethod yX7_sum : Cond) ∈ lw_Ts := am_mem 951 (by decide +kernel) rfl
theorem wt_38 : (.selects "SeasonOfHoursModel" yX7_sum yX7_sum : Cond) ∈ lw_Ts := am_mem 38 (by decide +kernel) rfl
theorem wt_949 : (.methodLink "SeasonOfHoursModel" 189 yX7_sum : Cond) ∈ lw_Ts := am_mem 949 (by decide +kernel) rfl
theorem wt_955 : (.instanceMethod yX7_layRow : Cond) ∈ lw_Ts := am_mem 955 (by decide +kernel) rfl
theorem wt_39 : (.selects "SeasonOfHoursModel" yX7_layRow yX7_layRow : Cond) ∈ lw_Ts := am_mem 39 (by decide +kernel) rfl
theorem wt_953 : (.methodLink "SeasonOfHoursModel" 192 yX7_layRow : Cond) ∈ lw_Ts := am_mem 953 (by decide +kernel) rfl
theorem wt_745 : (.fieldLink "SeasonOfHoursModel" 102 "SeasonOfHoursModel" "goodRow" "[I" : Cond) ∈ lw_Ts := am_mem 745 (by decide +kernel) rfl
theorem wt_959 : (.instanceMethod yX7_isRowAhead : Cond) ∈ lw_Ts := am_mem 959 (by decide +kernel) rfl
theorem wt_40 : (.selects "SeasonOfHoursModel" yX7_isRowAhead yX7_isRowAhead : Cond) ∈ lw_Ts := am_mem 40 (by decide +kernel) rfl
theorem wt_957 : (.methodLink "SeasonOfHoursModel" 196 yX7_isRowAhead : Cond) ∈ lw_Ts := am_mem 957 (by decide +kernel) rfl
theorem wt_729 : (.fieldLink "SeasonOfHoursModel" 63 "SeasonOfHoursModel" "row" "[I" : Cond) ∈ lw_Ts := am_mem 729 (by decide +kernel) rfl
theorem wt_732 : (.fieldLink "SeasonOfHoursModel" 69 "SeasonOfHoursModel" "voted" "[I" : Cond) ∈ lw_Ts := am_mem 732 (by decide +kernel) rfl
theorem wt_731 : (.fieldLink "SeasonOfHoursModel" 66 "SeasonOfHoursModel" "votes" "[I" : Cond) ∈ lw_Ts := am_mem 731 (by decide +kernel) rfl
theorem wt_733 : (.fieldLink "SeasonOfHoursModel" 72 "SeasonOfHoursModel" "kin" "[Z" : Cond) ∈ lw_Ts := am_mem 733 (by decide +kernel) rfl
theorem wt_979 : (.instanceMethod yX7_pointsOf : Cond) ∈ lw_Ts := am_mem 979 (by decide +kernel) rfl
theorem wt_41 : (.selects "SeasonOfHoursModel" yX7_pointsOf yX7_pointsOf : Cond) ∈ lw_Ts := am_mem 41 (by decide +kernel) rfl
theorem wt_977 : (.methodLink "SeasonOfHoursModel" 200 yX7_pointsOf : Cond) ∈ lw_Ts := am_mem 977 (by decide +kernel) rfl
theorem wt_987 : (.instanceMethod yX7_stands : Cond) ∈ lw_Ts := am_mem 987 (by decide +kernel) rfl
theorem wt_42 : (.selects "SeasonOfHoursModel" yX7_stands yX7_stands : Cond) ∈ lw_Ts := am_mem 42 (by decide +kernel) rfl
theorem wt_985 : (.methodLink "SeasonOfHoursModel" 203 yX7_stands : Cond) ∈ lw_Ts := am_mem 985 (by decide +kernel) rfl
theorem wt_567 : (.constant "java/lang/Integer" 264 (am_i (65536)) : Cond) ∈ lw_Ts := am_mem 567 (by decide +kernel) rfl
theorem wt_371 : (.constant "java/lang/Integer" 265 (am_i (1431655765)) : Cond) ∈ lw_Ts := am_mem 371 (by decide +kernel) rfl
theorem wt_372 : (.constant "java/lang/Integer" 266 (am_i (858993459)) : Cond) ∈ lw_Ts := am_mem 372 (by decide +kernel) rfl
theorem wt_373 : (.constant "java/lang/Integer" 267 (am_i (252645135)) : Cond) ∈ lw_Ts := am_mem 373 (by decide +kernel) rfl
theorem wt_333 : (.code yX0_has cX0_has 2 (some .boolean) : Cond) ∈ lw_Ts := am_mem 333 (by decide +kernel) rfl
theorem wt_46 : (.initialized "SeasonOfHours$Artists" : Cond) ∈ lw_Ts := am_mem 46 (by decide +kernel) rfl
theorem wt_325 : (.code yX0_add cX0_add 2 (some .int) : Cond) ∈ lw_Ts := am_mem 325 (by decide +kernel) rfl
theorem wt_584 : (.code yX1_append cX1_append 5 (some .int) : Cond) ∈ lw_Ts := am_mem 584 (by decide +kernel) rfl
theorem wt_51 : (.initialized "SeasonOfHours$Jury" : Cond) ∈ lw_Ts := am_mem 51 (by decide +kernel) rfl
theorem wt_596 : (.code yX1_sumFor cX1_sumFor 4 (some .int) : Cond) ∈ lw_Ts := am_mem 596 (by decide +kernel) rfl
theorem wt_601 : (.code yX1_fromJudge cX1_fromJudge 5 (some .int) : Cond) ∈ lw_Ts := am_mem 601 (by decide +kernel) rfl
theorem wt_612 : (.code yX1_artistAtPlace cX1_artistAtPlace 3 (some .int) : Cond) ∈ lw_Ts := am_mem 612 (by decide +kernel) rfl
theorem wt_617 : (.code yX1_placeOf cX1_placeOf 4 (some .int) : Cond) ∈ lw_Ts := am_mem 617 (by decide +kernel) rfl
theorem wt_621 : (.code yX1_isAhead cX1_isAhead 3 (some .boolean) : Cond) ∈ lw_Ts := am_mem 621 (by decide +kernel) rfl
theorem wt_338 : (.code yX2_has cX2_has 2 (some .boolean) : Cond) ∈ lw_Ts := am_mem 338 (by decide +kernel) rfl
theorem wt_45 : (.initialized "SeasonOfHours$Modes" : Cond) ∈ lw_Ts := am_mem 45 (by decide +kernel) rfl
theorem wt_317 : (.code yX2_add cX2_add 3 (some .int) : Cond) ∈ lw_Ts := am_mem 317 (by decide +kernel) rfl
theorem wt_367 : (.code yX2_shared cX2_shared 3 (some .int) : Cond) ∈ lw_Ts := am_mem 367 (by decide +kernel) rfl
theorem wt_433 : (.code yX2_areTooNear cX2_areTooNear 3 (some .boolean) : Cond) ∈ lw_Ts := am_mem 433 (by decide +kernel) rfl
theorem wt_520 : (.code yX3_has cX3_has 2 (some .boolean) : Cond) ∈ lw_Ts := am_mem 520 (by decide +kernel) rfl
theorem wt_50 : (.initialized "SeasonOfHours$Pieces" : Cond) ∈ lw_Ts := am_mem 50 (by decide +kernel) rfl
theorem wt_511 : (.code yX3_add cX3_add 5 (some .int) : Cond) ∈ lw_Ts := am_mem 511 (by decide +kernel) rfl
theorem wt_529 : (.code yX3_findRow cX3_findRow 6 (some .int) : Cond) ∈ lw_Ts := am_mem 529 (by decide +kernel) rfl
theorem wt_533 : (.code yX3_readyOn cX3_readyOn 5 (some .int) : Cond) ∈ lw_Ts := am_mem 533 (by decide +kernel) rfl
theorem wt_540 : (.code yX3_listFollowers cX3_listFollowers 4 none : Cond) ∈ lw_Ts := am_mem 540 (by decide +kernel) rfl
theorem wt_545 : (.code yX3_firstsOf cX3_firstsOf 6 (some .int) : Cond) ∈ lw_Ts := am_mem 545 (by decide +kernel) rfl
theorem wt_550 : (.code yX3_isGood cX3_isGood 3 (some .boolean) : Cond) ∈ lw_Ts := am_mem 550 (by decide +kernel) rfl
theorem wt_559 : (.code yX3_isBetter cX3_isBetter 5 (some .boolean) : Cond) ∈ lw_Ts := am_mem 559 (by decide +kernel) rfl
theorem wt_555 : (.code yX3_sum cX3_sum 5 (some .int) : Cond) ∈ lw_Ts := am_mem 555 (by decide +kernel) rfl
theorem wt_563 : (.code yX3_firstRow cX3_firstRow 8 (some .long) : Cond) ∈ lw_Ts := am_mem 563 (by decide +kernel) rfl
theorem wt_572 : (.code yX3_writeLatest cX3_writeLatest 5 none : Cond) ∈ lw_Ts := am_mem 572 (by decide +kernel) rfl
theorem wt_450 : (.code yX4_plan cX4_plan 3 (some .int) : Cond) ∈ lw_Ts := am_mem 450 (by decide +kernel) rfl
theorem wt_49 : (.initialized "SeasonOfHours$Planner" : Cond) ∈ lw_Ts := am_mem 49 (by decide +kernel) rfl
theorem wt_454 : (.code yX4_weighOptions cX4_weighOptions 6 none : Cond) ∈ lw_Ts := am_mem 454 (by decide +kernel) rfl
theorem wt_461 : (.code yX4_listChoices cX4_listChoices 6 none : Cond) ∈ lw_Ts := am_mem 461 (by decide +kernel) rfl
theorem wt_466 : (.code yX4_listFollowers cX4_listFollowers 4 none : Cond) ∈ lw_Ts := am_mem 466 (by decide +kernel) rfl
theorem wt_471 : (.code yX4_listFarModes cX4_listFarModes 3 none : Cond) ∈ lw_Ts := am_mem 471 (by decide +kernel) rfl
theorem wt_480 : (.code yX4_fillFrom cX4_fillFrom 10 none : Cond) ∈ lw_Ts := am_mem 480 (by decide +kernel) rfl
theorem wt_487 : (.code yX4_fillWith cX4_fillWith 10 none : Cond) ∈ lw_Ts := am_mem 487 (by decide +kernel) rfl
theorem wt_491 : (.code yX4_joinEvening cX4_joinEvening 6 none : Cond) ∈ lw_Ts := am_mem 491 (by decide +kernel) rfl
theorem wt_495 : (.code yX4_carryOut cX4_carryOut 8 (some .int) : Cond) ∈ lw_Ts := am_mem 495 (by decide +kernel) rfl
theorem wt_140 : (.code yX5_begin cX5_begin 6 none : Cond) ∈ lw_Ts := am_mem 140 (by decide +kernel) rfl
theorem wt_47 : (.initialized "SeasonOfHours$Programme" : Cond) ∈ lw_Ts := am_mem 47 (by decide +kernel) rfl
theorem wt_405 : (.code yX5_hasSlot cX5_hasSlot 2 (some .boolean) : Cond) ∈ lw_Ts := am_mem 405 (by decide +kernel) rfl
theorem wt_385 : (.code yX5_isFilled cX5_isFilled 2 (some .boolean) : Cond) ∈ lw_Ts := am_mem 385 (by decide +kernel) rfl
theorem wt_393 : (.code yX5_artistAt cX5_artistAt 2 (some .int) : Cond) ∈ lw_Ts := am_mem 393 (by decide +kernel) rfl
theorem wt_397 : (.code yX5_modeAt cX5_modeAt 2 (some .int) : Cond) ∈ lw_Ts := am_mem 397 (by decide +kernel) rfl
theorem wt_381 : (.code yX5_filledSlots cX5_filledSlots 3 (some .int) : Cond) ∈ lw_Ts := am_mem 381 (by decide +kernel) rfl
theorem wt_389 : (.code yX5_worth cX5_worth 3 (some .int) : Cond) ∈ lw_Ts := am_mem 389 (by decide +kernel) rfl
theorem wt_414 : (.code yX5_firstFault cX5_firstFault 3 (some .int) : Cond) ∈ lw_Ts := am_mem 414 (by decide +kernel) rfl
theorem wt_418 : (.code yX5_isFault cX5_isFault 5 (some .boolean) : Cond) ∈ lw_Ts := am_mem 418 (by decide +kernel) rfl
theorem wt_425 : (.code yX5_isArtistAhead cX5_isArtistAhead 3 (some .boolean) : Cond) ∈ lw_Ts := am_mem 425 (by decide +kernel) rfl
theorem wt_438 : (.code yX5_clashesInEvening cX5_clashesInEvening 4 (some .boolean) : Cond) ∈ lw_Ts := am_mem 438 (by decide +kernel) rfl
theorem wt_442 : (.code yX5_clash cX5_clash 4 (some .boolean) : Cond) ∈ lw_Ts := am_mem 442 (by decide +kernel) rfl
theorem wt_429 : (.code yX5_isTooNearOneAhead cX5_isTooNearOneAhead 3 (some .boolean) : Cond) ∈ lw_Ts := am_mem 429 (by decide +kernel) rfl
theorem wt_310 : (.code yX6_mode cX6_mode 3 (some .int) : Cond) ∈ lw_Ts := am_mem 310 (by decide +kernel) rfl
theorem wt_44 : (.initialized "SeasonOfHours" : Cond) ∈ lw_Ts := am_mem 44 (by decide +kernel) rfl
theorem wt_321 : (.code yX6_artist cX6_artist 2 (some .int) : Cond) ∈ lw_Ts := am_mem 321 (by decide +kernel) rfl
theorem wt_329 : (.code yX6_like cX6_like 4 (some .boolean) : Cond) ∈ lw_Ts := am_mem 329 (by decide +kernel) rfl
theorem wt_343 : (.code yX6_rival cX6_rival 4 (some .boolean) : Cond) ∈ lw_Ts := am_mem 343 (by decide +kernel) rfl
theorem wt_350 : (.code yX6_ill cX6_ill 3 (some .boolean) : Cond) ∈ lw_Ts := am_mem 350 (by decide +kernel) rfl
theorem wt_354 : (.code yX6_set cX6_set 4 (some .int) : Cond) ∈ lw_Ts := am_mem 354 (by decide +kernel) rfl
theorem wt_358 : (.code yX6_season cX6_season 3 (some .boolean) : Cond) ∈ lw_Ts := am_mem 358 (by decide +kernel) rfl
theorem wt_363 : (.code yX6_near cX6_near 3 (some .int) : Cond) ∈ lw_Ts := am_mem 363 (by decide +kernel) rfl
theorem wt_377 : (.code yX6_count cX6_count 2 (some .int) : Cond) ∈ lw_Ts := am_mem 377 (by decide +kernel) rfl
theorem wt_401 : (.code yX6_put cX6_put 4 (some .boolean) : Cond) ∈ lw_Ts := am_mem 401 (by decide +kernel) rfl
theorem wt_410 : (.code yX6_wrong cX6_wrong 1 (some .int) : Cond) ∈ lw_Ts := am_mem 410 (by decide +kernel) rfl
theorem wt_446 : (.code yX6_best cX6_best 1 (some .int) : Cond) ∈ lw_Ts := am_mem 446 (by decide +kernel) rfl
theorem wt_503 : (.code yX6_mend cX6_mend 1 (some .int) : Cond) ∈ lw_Ts := am_mem 503 (by decide +kernel) rfl
theorem wt_507 : (.code yX6_piece cX6_piece 5 (some .int) : Cond) ∈ lw_Ts := am_mem 507 (by decide +kernel) rfl
theorem wt_516 : (.code yX6_played cX6_played 3 (some .boolean) : Cond) ∈ lw_Ts := am_mem 516 (by decide +kernel) rfl
theorem wt_525 : (.code yX6_row cX6_row 3 (some .int) : Cond) ∈ lw_Ts := am_mem 525 (by decide +kernel) rfl
theorem wt_576 : (.code yX6_told cX6_told 2 (some .int) : Cond) ∈ lw_Ts := am_mem 576 (by decide +kernel) rfl
theorem wt_580 : (.code yX6_vote cX6_vote 3 (some .int) : Cond) ∈ lw_Ts := am_mem 580 (by decide +kernel) rfl
theorem wt_588 : (.code yX6_kin cX6_kin 4 (some .boolean) : Cond) ∈ lw_Ts := am_mem 588 (by decide +kernel) rfl
theorem wt_592 : (.code yX6_points cX6_points 2 (some .int) : Cond) ∈ lw_Ts := am_mem 592 (by decide +kernel) rfl
theorem wt_608 : (.code yX6_prize cX6_prize 2 (some .int) : Cond) ∈ lw_Ts := am_mem 608 (by decide +kernel) rfl
theorem wt_313 : (.code yX6_isWithin cX6_isWithin 3 (some .boolean) : Cond) ∈ lw_Ts := am_mem 313 (by decide +kernel) rfl
theorem wt_421 : (.code yX6_hasBit cX6_hasBit 2 (some .boolean) : Cond) ∈ lw_Ts := am_mem 421 (by decide +kernel) rfl
theorem wt_346 : (.code yX6_withBit cX6_withBit 3 (some .int) : Cond) ∈ lw_Ts := am_mem 346 (by decide +kernel) rfl
theorem wt_825 : (.code yX7_thrown cX7_thrown 1 (some .int) : Cond) ∈ lw_Ts := am_mem 825 (by decide +kernel) rfl
theorem wt_52 : (.initialized "SeasonOfHoursModel" : Cond) ∈ lw_Ts := am_mem 52 (by decide +kernel) rfl
theorem wt_832 : (.code yX7_in cX7_in 3 (some .boolean) : Cond) ∈ lw_Ts := am_mem 832 (by decide +kernel) rfl
theorem wt_708 : (.code yX7_empty cX7_empty 2 none : Cond) ∈ lw_Ts := am_mem 708 (by decide +kernel) rfl
theorem wt_848 : (.code yX7_isMode cX7_isMode 2 (some .boolean) : Cond) ∈ lw_Ts := am_mem 848 (by decide +kernel) rfl
theorem wt_844 : (.code yX7_isArtist cX7_isArtist 2 (some .boolean) : Cond) ∈ lw_Ts := am_mem 844 (by decide +kernel) rfl
theorem wt_829 : (.code yX7_mode cX7_mode 3 (some .int) : Cond) ∈ lw_Ts := am_mem 829 (by decide +kernel) rfl
theorem wt_836 : (.code yX7_artist cX7_artist 2 (some .int) : Cond) ∈ lw_Ts := am_mem 836 (by decide +kernel) rfl
theorem wt_840 : (.code yX7_like cX7_like 4 (some .boolean) : Cond) ∈ lw_Ts := am_mem 840 (by decide +kernel) rfl
theorem wt_852 : (.code yX7_rival cX7_rival 4 (some .boolean) : Cond) ∈ lw_Ts := am_mem 852 (by decide +kernel) rfl
theorem wt_856 : (.code yX7_ill cX7_ill 3 (some .boolean) : Cond) ∈ lw_Ts := am_mem 856 (by decide +kernel) rfl
theorem wt_860 : (.code yX7_set cX7_set 4 (some .int) : Cond) ∈ lw_Ts := am_mem 860 (by decide +kernel) rfl
theorem wt_864 : (.code yX7_season cX7_season 3 (some .boolean) : Cond) ∈ lw_Ts := am_mem 864 (by decide +kernel) rfl
theorem wt_872 : (.code yX7_share cX7_share 3 (some .int) : Cond) ∈ lw_Ts := am_mem 872 (by decide +kernel) rfl
theorem wt_868 : (.code yX7_near cX7_near 3 (some .int) : Cond) ∈ lw_Ts := am_mem 868 (by decide +kernel) rfl
theorem wt_881 : (.code yX7_all cX7_all 1 (some .int) : Cond) ∈ lw_Ts := am_mem 881 (by decide +kernel) rfl
theorem wt_877 : (.code yX7_count cX7_count 4 (some .int) : Cond) ∈ lw_Ts := am_mem 877 (by decide +kernel) rfl
theorem wt_885 : (.code yX7_put cX7_put 4 (some .boolean) : Cond) ∈ lw_Ts := am_mem 885 (by decide +kernel) rfl
theorem wt_889 : (.code yX7_at cX7_at 3 (some .int) : Cond) ∈ lw_Ts := am_mem 889 (by decide +kernel) rfl
theorem wt_897 : (.code yX7_holds cX7_holds 7 (some .boolean) : Cond) ∈ lw_Ts := am_mem 897 (by decide +kernel) rfl
theorem wt_893 : (.code yX7_wrong cX7_wrong 3 (some .int) : Cond) ∈ lw_Ts := am_mem 893 (by decide +kernel) rfl
theorem wt_910 : (.code yX7_go cX7_go 11 none : Cond) ∈ lw_Ts := am_mem 910 (by decide +kernel) rfl
theorem wt_914 : (.code yX7_join cX7_join 6 none : Cond) ∈ lw_Ts := am_mem 914 (by decide +kernel) rfl
theorem wt_918 : (.code yX7_isAhead cX7_isAhead 5 (some .boolean) : Cond) ∈ lw_Ts := am_mem 918 (by decide +kernel) rfl
theorem wt_905 : (.code yX7_search cX7_search 4 none : Cond) ∈ lw_Ts := am_mem 905 (by decide +kernel) rfl
theorem wt_901 : (.code yX7_best cX7_best 1 (some .int) : Cond) ∈ lw_Ts := am_mem 901 (by decide +kernel) rfl
theorem wt_923 : (.code yX7_mend cX7_mend 3 (some .int) : Cond) ∈ lw_Ts := am_mem 923 (by decide +kernel) rfl
theorem wt_927 : (.code yX7_piece cX7_piece 5 (some .int) : Cond) ∈ lw_Ts := am_mem 927 (by decide +kernel) rfl
theorem wt_931 : (.code yX7_played cX7_played 3 (some .boolean) : Cond) ∈ lw_Ts := am_mem 931 (by decide +kernel) rfl
theorem wt_943 : (.code yX7_canFollow cX7_canFollow 3 (some .boolean) : Cond) ∈ lw_Ts := am_mem 943 (by decide +kernel) rfl
theorem wt_939 : (.code yX7_findFirsts cX7_findFirsts 6 none : Cond) ∈ lw_Ts := am_mem 939 (by decide +kernel) rfl
theorem wt_947 : (.code yX7_mayBe cX7_mayBe 7 (some .boolean) : Cond) ∈ lw_Ts := am_mem 947 (by decide +kernel) rfl
theorem wt_952 : (.code yX7_sum cX7_sum 4 (some .int) : Cond) ∈ lw_Ts := am_mem 952 (by decide +kernel) rfl
theorem wt_956 : (.code yX7_layRow cX7_layRow 5 none : Cond) ∈ lw_Ts := am_mem 956 (by decide +kernel) rfl
theorem wt_960 : (.code yX7_isRowAhead cX7_isRowAhead 4 (some .boolean) : Cond) ∈ lw_Ts := am_mem 960 (by decide +kernel) rfl
theorem wt_935 : (.code yX7_row cX7_row 7 (some .int) : Cond) ∈ lw_Ts := am_mem 935 (by decide +kernel) rfl
theorem wt_964 : (.code yX7_told cX7_told 2 (some .int) : Cond) ∈ lw_Ts := am_mem 964 (by decide +kernel) rfl
theorem wt_968 : (.code yX7_vote cX7_vote 4 (some .int) : Cond) ∈ lw_Ts := am_mem 968 (by decide +kernel) rfl
theorem wt_972 : (.code yX7_kin cX7_kin 4 (some .boolean) : Cond) ∈ lw_Ts := am_mem 972 (by decide +kernel) rfl
theorem wt_980 : (.code yX7_pointsOf cX7_pointsOf 8 (some .int) : Cond) ∈ lw_Ts := am_mem 980 (by decide +kernel) rfl
theorem wt_976 : (.code yX7_points cX7_points 2 (some .int) : Cond) ∈ lw_Ts := am_mem 976 (by decide +kernel) rfl
theorem wt_988 : (.code yX7_stands cX7_stands 3 (some .boolean) : Cond) ∈ lw_Ts := am_mem 988 (by decide +kernel) rfl
theorem wt_984 : (.code yX7_prize cX7_prize 5 (some .int) : Cond) ∈ lw_Ts := am_mem 984 (by decide +kernel) rfl
theorem wt_566 : (.code yJ6_numberOfTrailingZeros_0f7a4 cJ6_numberOfTrailingZeros_0f7a4 2 (some .int) : Cond) ∈ lw_Ts := am_mem 566 (by decide +kernel) rfl
theorem wt_53 : (.initialized "java/lang/Integer" : Cond) ∈ lw_Ts := am_mem 53 (by decide +kernel) rfl
theorem wt_370 : (.code yJ6_bitCount_0f7a4 cJ6_bitCount_0f7a4 1 (some .int) : Cond) ∈ lw_Ts := am_mem 370 (by decide +kernel) rfl
theorem wt_498 : (.code yJ9_floorMod_f86c9 cJ9_floorMod_f86c9 6 (some .long) : Cond) ∈ lw_Ts := am_mem 498 (by decide +kernel) rfl
theorem wt_58 : (.initialized "java/lang/Math" : Cond) ∈ lw_Ts := am_mem 58 (by decide +kernel) rfl
theorem wt_536 : (.code yJ9_abs_0f7a4 cJ9_abs_0f7a4 1 (some .int) : Cond) ∈ lw_Ts := am_mem 536 (by decide +kernel) rfl
theorem wt_604 : (.code yJ9_max_7cf53 cJ9_max_7cf53 2 (some .int) : Cond) ∈ lw_Ts := am_mem 604 (by decide +kernel) rfl
theorem wt_483 : (.code yJ9_max_f86c9 cJ9_max_f86c9 4 (some .long) : Cond) ∈ lw_Ts := am_mem 483 (by decide +kernel) rfl
theorem wt_475 : (.code yJ7_fill_d0a16 cJ7_fill_d0a16 5 none : Cond) ∈ lw_Ts := am_mem 475 (by decide +kernel) rfl
theorem wt_48 : (.initialized "java/util/Arrays" : Cond) ∈ lw_Ts := am_mem 48 (by decide +kernel) rfl
theorem wt_143 : (.code yJ7_fill_53178 cJ7_fill_53178 4 none : Cond) ∈ lw_Ts := am_mem 143 (by decide +kernel) rfl
set_option maxRecDepth 20000 in
theorem cl_X0 : am_cl lw_Ts 0 RX0 TX0 5 := ⟨rfl, fun w h => List.mem_filter.mpr ⟨(show ∀ w ∈ u_ws RX0 TX0 5, w ∈ lw_tbl by decide +kernel) w h, (show ∀ w ∈ u_ws RX0 TX0 5, goodWord w = true by decide +kernel) w h⟩⟩
set_option maxRecDepth 20000 in
theorem cl_X1 : am_cl lw_Ts 1 RX1 TX1 5 := ⟨rfl, fun w h => List.mem_filter.mpr ⟨(show ∀ w ∈ u_ws RX1 TX1 5, w ∈ lw_tbl by decide +kernel) w h, (show ∀ w ∈ u_ws RX1 TX1 5, goodWord w = true by decide +kernel) w h⟩⟩
set_option maxRecDepth 20000 in
theorem cl_X2 : am_cl lw_Ts 2 RX2 TX2 4 := ⟨rfl, fun w h => List.mem_filter.mpr ⟨(show ∀ w ∈ u_ws RX2 TX2 4, w ∈ lw_tbl by decide +kernel) w h, (show ∀ w ∈ u_ws RX2 TX2 4, goodWord w = true by decide +kernel) w h⟩⟩
set_option maxRecDepth 20000 in
theorem cl_X3 : am_cl lw_Ts 3 RX3 TX3 12 := ⟨rfl, fun w h => List.mem_filter.mpr ⟨(show ∀ w ∈ u_ws RX3 TX3 12, w ∈ lw_tbl by decide +kernel) w h, (show ∀ w ∈ u_ws RX3 TX3 12, goodWord w = true by decide +kernel) w h⟩⟩
set_option maxRecDepth 20000 in
theorem cl_X4 : am_cl lw_Ts 4 RX4 TX4 11 := ⟨rfl, fun w h => List.mem_filter.mpr ⟨(show ∀ w ∈ u_ws RX4 TX4 11, w ∈ lw_tbl by decide +kernel) w h, (show ∀ w ∈ u_ws RX4 TX4 11, goodWord w = true by decide +kernel) w h⟩⟩
set_option maxRecDepth 20000 in
theorem cl_X5 : am_cl lw_Ts 5 RX5 TX5 7 := ⟨rfl, fun w h => List.mem_filter.mpr ⟨(show ∀ w ∈ u_ws RX5 TX5 7, w ∈ lw_tbl by decide +kernel) w h, (show ∀ w ∈ u_ws RX5 TX5 7, goodWord w = true by decide +kernel) w h⟩⟩
set_option maxRecDepth 20000 in
theorem cl_X6 : am_cl lw_Ts 6 RX6 TX6 6 := ⟨rfl, fun w h => List.mem_filter.mpr ⟨(show ∀ w ∈ u_ws RX6 TX6 6, w ∈ lw_tbl by decide +kernel) w h, (show ∀ w ∈ u_ws RX6 TX6 6, goodWord w = true by decide +kernel) w h⟩⟩
set_option maxRecDepth 20000 in
theorem cl_X7 : am_cl lw_Ts 7 RX7 TX7 37 := ⟨rfl, fun w h => List.mem_filter.mpr ⟨(show ∀ w ∈ u_ws RX7 TX7 37, w ∈ lw_tbl by decide +kernel) w h, (show ∀ w ∈ u_ws RX7 TX7 37, goodWord w = true by decide +kernel) w h⟩⟩
def lw_Ns : NS := [("SeasonOfHours$Artists", 30, yX6_isWithin, "SeasonOfHours"), ("SeasonOfHours$Modes", 25, yX6_isWithin, "SeasonOfHours"), ("SeasonOfHours$Programme", 46, yX6_isWithin, "SeasonOfHours"), ("SeasonOfHours$Programme", 74, yX6_hasBit, "SeasonOfHours"), ("SeasonOfHours$Planner", 119, yX6_hasBit, "SeasonOfHours"), ("SeasonOfHours$Planner", 133, yX6_withBit, "SeasonOfHours"), ("SeasonOfHours$Pieces", 54, yX6_withBit, "SeasonOfHours"), ("SeasonOfHours$Pieces", 50, yX6_isWithin, "SeasonOfHours"), ("SeasonOfHours$Pieces", 93, yX6_hasBit, "SeasonOfHours"), ("SeasonOfHours$Jury", 30, yX6_hasBit, "SeasonOfHours")]
end
section
/-! the code of each method, as the small machine has it -/
def cd_0 : CD := [(0, .inl (o_il 1 1)), (1, .inl (o_k 2 (vI (0)))), (2, .inl (o_al 3 0)), (3, .inl (o_gf 6 0 4)), (6, .inl (o_k 7 (vI (1)))), (7, .inl (o_ib 8 f_sub)), (8, .inr (.inl (66, 3))), (11, .inr (.inr ()))]
def cd_1 : CD := [(0, .inl (o_al 1 0)), (1, .inl (o_gf 4 0 4)), (4, .inl (o_k 6 (vI (6)))), (6, .inl (o_ic 11 9 r_lt)), (9, .inl (o_k 10 (vI (-1)))), (10, .inr (.inr ())), (11, .inl (o_al 12 0)), (12, .inl (o_gf 15 0 0)), (15, .inl (o_al 16 0)), (16, .inl (o_gf 19 0 4)), (19, .inl (o_il 20 1)), (20, .inl (o_iw 21)), (21, .inl (o_al 22 0)), (22, .inl (o_dup 23)), (23, .inl (o_gf 26 0 4)), (26, .inl (o_k 27 (vI (1)))), (27, .inl (o_ib 28 f_add)), (28, .inl (o_pf 31 0 4)), (31, .inl (o_al 32 0)), (32, .inl (o_gf 35 0 4)), (35, .inl (o_k 36 (vI (1)))), (36, .inl (o_ib 37 f_sub)), (37, .inr (.inr ()))]
def cd_2 : CD := [(0, .inl (o_al 1 0)), (1, .inl (o_gf 4 1 2)), (4, .inl (o_il 5 1)), (5, .inl (o_ia 6)), (6, .inl (o_is 7 3)), (7, .inl (o_k 8 (vI (0)))), (8, .inl (o_is 10 4)), (10, .inl (o_il 12 4)), (12, .inl (o_il 13 3)), (13, .inl (o_ic 37 16 r_ge)), (16, .inl (o_al 17 0)), (17, .inl (o_gf 20 1 1)), (20, .inl (o_il 21 1)), (21, .inl (o_aa 22)), (22, .inl (o_il 24 4)), (24, .inl (o_ia 25)), (25, .inl (o_il 26 2)), (26, .inl (o_ic 31 29 r_ne)), (29, .inl (o_k 30 (vI (-1)))), (30, .inr (.inr ())), (31, .inl (o_ii 34 4 (1))), (34, .inl (o_go 10)), (37, .inl (o_il 38 3)), (38, .inl (o_k 40 (vI (6)))), (40, .inl (o_ic 45 43 r_lt)), (43, .inl (o_k 44 (vI (-1)))), (44, .inr (.inr ())), (45, .inl (o_al 46 0)), (46, .inl (o_gf 49 1 1)), (49, .inl (o_il 50 1)), (50, .inl (o_aa 51)), (51, .inl (o_il 52 3)), (52, .inl (o_il 53 2)), (53, .inl (o_iw 54)), (54, .inl (o_al 55 0)), (55, .inl (o_gf 58 1 2)), (58, .inl (o_il 59 1)), (59, .inl (o_il 60 3)), (60, .inl (o_k 61 (vI (1)))), (61, .inl (o_ib 62 f_add)), (62, .inl (o_iw 63)), (63, .inl (o_il 64 3)), (64, .inl (o_k 65 (vI (1)))), (65, .inl (o_ib 66 f_add)), (66, .inr (.inr ()))]
def cd_3 : CD := [(0, .inl (o_k 1 (vI (0)))), (1, .inl (o_is 2 2)), (2, .inl (o_k 3 (vI (0)))), (3, .inl (o_is 4 3)), (4, .inl (o_il 5 3)), (5, .inl (o_k 7 (vI (7)))), (7, .inl (o_ic 38 10 r_ge)), (10, .inl (o_al 11 0)), (11, .inl (o_gf 14 1 3)), (14, .inl (o_il 15 3)), (15, .inl (o_ia 16)), (16, .inl (o_il 17 1)), (17, .inr (.inl (67, 2))), (20, .inl (o_if 32 23 q_ne)), (23, .inl (o_il 24 2)), (24, .inl (o_al 25 0)), (25, .inl (o_il 26 3)), (26, .inl (o_il 27 1)), (27, .inr (.inl (4, 3))), (30, .inl (o_ib 31 f_add)), (31, .inl (o_is 32 2)), (32, .inl (o_ii 35 3 (1))), (35, .inl (o_go 4)), (38, .inl (o_il 39 2)), (39, .inr (.inr ()))]
def cd_4 : CD := [(0, .inl (o_k 1 (vI (0)))), (1, .inl (o_is 2 3)), (2, .inl (o_k 3 (vI (0)))), (3, .inl (o_is 5 4)), (5, .inl (o_il 7 4)), (7, .inl (o_al 8 0)), (8, .inl (o_gf 11 1 2)), (11, .inl (o_il 12 1)), (12, .inl (o_ia 13)), (13, .inl (o_ic 68 16 r_ge)), (16, .inl (o_al 17 0)), (17, .inl (o_gf 20 1 1)), (20, .inl (o_il 21 1)), (21, .inl (o_aa 22)), (22, .inl (o_il 24 4)), (24, .inl (o_ia 25)), (25, .inl (o_il 26 2)), (26, .inl (o_ic 38 29 r_ne)), (29, .inl (o_k 30 (vI (0)))), (30, .inl (o_k 32 (vI (6)))), (32, .inl (o_il 33 3)), (33, .inl (o_ib 34 f_sub)), (34, .inr (.inl (115, 2))), (37, .inr (.inr ())), (38, .inl (o_al 39 0)), (39, .inl (o_gf 42 1 3)), (42, .inl (o_il 43 1)), (43, .inl (o_ia 44)), (44, .inl (o_al 45 0)), (45, .inl (o_gf 48 1 1)), (48, .inl (o_il 49 1)), (49, .inl (o_aa 50)), (50, .inl (o_il 52 4)), (52, .inl (o_ia 53)), (53, .inr (.inl (67, 2))), (56, .inl (o_if 62 59 q_ne)), (59, .inl (o_ii 62 3 (1))), (62, .inl (o_ii 65 4 (1))), (65, .inl (o_go 5)), (68, .inl (o_k 69 (vI (0)))), (69, .inr (.inr ()))]
def cd_5 : CD := [(0, .inl (o_k 1 (vI (0)))), (1, .inl (o_is 2 2)), (2, .inl (o_il 3 2)), (3, .inl (o_al 4 0)), (4, .inl (o_gf 7 1 0)), (7, .inl (o_gf 10 0 4)), (10, .inl (o_ic 30 13 r_ge)), (13, .inl (o_al 14 0)), (14, .inl (o_gf 17 1 4)), (17, .inl (o_il 18 2)), (18, .inl (o_al 19 0)), (19, .inl (o_il 20 2)), (20, .inr (.inl (3, 2))), (23, .inl (o_iw 24)), (24, .inl (o_ii 27 2 (1))), (27, .inl (o_go 2)), (30, .inl (o_k 31 (vI (0)))), (31, .inl (o_is 32 2)), (32, .inl (o_il 33 2)), (33, .inl (o_al 34 0)), (34, .inl (o_gf 37 1 0)), (37, .inl (o_gf 40 0 4)), (40, .inl (o_ic 60 43 r_ge)), (43, .inl (o_al 44 0)), (44, .inl (o_il 45 2)), (45, .inr (.inl (6, 2))), (48, .inl (o_il 49 1)), (49, .inl (o_ic 54 52 r_ne)), (52, .inl (o_il 53 2)), (53, .inr (.inr ())), (54, .inl (o_ii 57 2 (1))), (57, .inl (o_go 32)), (60, .inl (o_k 61 (vI (-1)))), (61, .inr (.inr ()))]
def cd_6 : CD := [(0, .inl (o_k 1 (vI (0)))), (1, .inl (o_is 2 2)), (2, .inl (o_k 3 (vI (0)))), (3, .inl (o_is 4 3)), (4, .inl (o_il 5 3)), (5, .inl (o_al 6 0)), (6, .inl (o_gf 9 1 0)), (9, .inl (o_gf 12 0 4)), (12, .inl (o_ic 33 15 r_ge)), (15, .inl (o_al 16 0)), (16, .inl (o_il 17 3)), (17, .inl (o_il 18 1)), (18, .inr (.inl (7, 3))), (21, .inl (o_if 27 24 q_eq)), (24, .inl (o_ii 27 2 (1))), (27, .inl (o_ii 30 3 (1))), (30, .inl (o_go 4)), (33, .inl (o_il 34 2)), (34, .inr (.inr ()))]
def cd_7 : CD := [(0, .inl (o_al 1 0)), (1, .inl (o_gf 4 1 4)), (4, .inl (o_il 5 1)), (5, .inl (o_ia 6)), (6, .inl (o_al 7 0)), (7, .inl (o_gf 10 1 4)), (10, .inl (o_il 11 2)), (11, .inl (o_ia 12)), (12, .inl (o_ic 36 15 r_eq)), (15, .inl (o_al 16 0)), (16, .inl (o_gf 19 1 4)), (19, .inl (o_il 20 1)), (20, .inl (o_ia 21)), (21, .inl (o_al 22 0)), (22, .inl (o_gf 25 1 4)), (25, .inl (o_il 26 2)), (26, .inl (o_ia 27)), (27, .inl (o_ic 34 30 r_le)), (30, .inl (o_k 31 (vI (1)))), (31, .inl (o_go 35)), (34, .inl (o_k 35 (vI (0)))), (35, .inr (.inr ())), (36, .inl (o_al 37 0)), (37, .inl (o_gf 40 1 0)), (40, .inl (o_gf 43 0 0)), (43, .inl (o_il 44 1)), (44, .inl (o_ia 45)), (45, .inl (o_al 46 0)), (46, .inl (o_gf 49 1 0)), (49, .inl (o_gf 52 0 0)), (52, .inl (o_il 53 2)), (53, .inl (o_ia 54)), (54, .inl (o_ic 84 57 r_eq)), (57, .inl (o_al 58 0)), (58, .inl (o_gf 61 1 0)), (61, .inl (o_gf 64 0 0)), (64, .inl (o_il 65 1)), (65, .inl (o_ia 66)), (66, .inl (o_al 67 0)), (67, .inl (o_gf 70 1 0)), (70, .inl (o_gf 73 0 0)), (73, .inl (o_il 74 2)), (74, .inl (o_ia 75)), (75, .inl (o_ic 82 78 r_le)), (78, .inl (o_k 79 (vI (1)))), (79, .inl (o_go 83)), (82, .inl (o_k 83 (vI (0)))), (83, .inr (.inr ())), (84, .inl (o_il 85 1)), (85, .inl (o_il 86 2)), (86, .inl (o_ic 93 89 r_ge)), (89, .inl (o_k 90 (vI (1)))), (90, .inl (o_go 94)), (93, .inl (o_k 94 (vI (0)))), (94, .inr (.inr ()))]
def cd_8 : CD := [(0, .inl (o_il 1 1)), (1, .inl (o_k 2 (vI (0)))), (2, .inl (o_al 3 0)), (3, .inl (o_gf 6 2 2)), (6, .inl (o_k 7 (vI (1)))), (7, .inl (o_ib 8 f_sub)), (8, .inr (.inl (66, 3))), (11, .inr (.inr ()))]
def cd_9 : CD := [(0, .inl (o_al 1 0)), (1, .inl (o_gf 4 2 2)), (4, .inl (o_k 6 (vI (6)))), (6, .inl (o_ic 11 9 r_lt)), (9, .inl (o_k 10 (vI (-1)))), (10, .inr (.inr ())), (11, .inl (o_al 12 0)), (12, .inl (o_gf 15 2 0)), (15, .inl (o_al 16 0)), (16, .inl (o_gf 19 2 2)), (19, .inl (o_il 20 1)), (20, .inl (o_iw 21)), (21, .inl (o_al 22 0)), (22, .inl (o_gf 25 2 1)), (25, .inl (o_al 26 0)), (26, .inl (o_gf 29 2 2)), (29, .inl (o_il 30 2)), (30, .inl (o_iw 31)), (31, .inl (o_al 32 0)), (32, .inl (o_dup 33)), (33, .inl (o_gf 36 2 2)), (36, .inl (o_k 37 (vI (1)))), (37, .inl (o_ib 38 f_add)), (38, .inl (o_pf 41 2 2)), (41, .inl (o_al 42 0)), (42, .inl (o_gf 45 2 2)), (45, .inl (o_k 46 (vI (1)))), (46, .inl (o_ib 47 f_sub)), (47, .inr (.inr ()))]
def cd_10 : CD := [(0, .inl (o_al 1 0)), (1, .inl (o_gf 4 2 0)), (4, .inl (o_il 5 1)), (5, .inl (o_ia 6)), (6, .inl (o_al 7 0)), (7, .inl (o_gf 10 2 0)), (10, .inl (o_il 11 2)), (11, .inl (o_ia 12)), (12, .inl (o_ib 13 f_and)), (13, .inr (.inl (112, 1))), (16, .inr (.inr ()))]
def cd_11 : CD := [(0, .inl (o_al 1 0)), (1, .inl (o_il 2 1)), (2, .inl (o_il 3 2)), (3, .inr (.inl (10, 3))), (6, .inl (o_al 7 0)), (7, .inl (o_gf 10 2 3)), (10, .inl (o_ic 17 13 r_le)), (13, .inl (o_k 14 (vI (1)))), (14, .inl (o_go 18)), (17, .inl (o_k 18 (vI (0)))), (18, .inr (.inr ()))]
def cd_12 : CD := [(0, .inl (o_il 1 1)), (1, .inl (o_k 2 (vI (0)))), (2, .inl (o_al 3 0)), (3, .inl (o_gf 6 3 9)), (6, .inl (o_k 7 (vI (1)))), (7, .inl (o_ib 8 f_sub)), (8, .inr (.inl (66, 3))), (11, .inr (.inr ()))]
def cd_13 : CD := [(0, .inl (o_al 1 0)), (1, .inl (o_gf 4 3 9)), (4, .inl (o_k 6 (vI (10)))), (6, .inl (o_ic 11 9 r_lt)), (9, .inl (o_k 10 (vI (-1)))), (10, .inr (.inr ())), (11, .inl (o_al 12 0)), (12, .inl (o_gf 15 3 1)), (15, .inl (o_al 16 0)), (16, .inl (o_gf 19 3 9)), (19, .inl (o_il 20 1)), (20, .inl (o_iw 21)), (21, .inl (o_al 22 0)), (22, .inl (o_gf 25 3 2)), (25, .inl (o_al 26 0)), (26, .inl (o_gf 29 3 9)), (29, .inl (o_il 30 2)), (30, .inl (o_iw 31)), (31, .inl (o_al 32 0)), (32, .inl (o_gf 35 3 3)), (35, .inl (o_al 36 0)), (36, .inl (o_gf 39 3 9)), (39, .inl (o_il 40 3)), (40, .inl (o_iw 41)), (41, .inl (o_al 42 0)), (42, .inl (o_gf 45 3 4)), (45, .inl (o_al 46 0)), (46, .inl (o_gf 49 3 9)), (49, .inl (o_k 50 (vI (-1)))), (50, .inl (o_iw 51)), (51, .inl (o_al 52 0)), (52, .inl (o_al 53 0)), (53, .inl (o_gf 56 3 8)), (56, .inl (o_al 57 0)), (57, .inl (o_gf 60 3 9)), (60, .inl (o_il 62 4)), (62, .inr (.inl (68, 3))), (65, .inl (o_pf 68 3 8)), (68, .inl (o_al 69 0)), (69, .inl (o_dup 70)), (70, .inl (o_gf 73 3 9)), (73, .inl (o_k 74 (vI (1)))), (74, .inl (o_ib 75 f_add)), (75, .inl (o_pf 78 3 9)), (78, .inl (o_al 79 0)), (79, .inl (o_gf 82 3 9)), (82, .inl (o_k 83 (vI (1)))), (83, .inl (o_ib 84 f_sub)), (84, .inr (.inr ()))]
def cd_14 : CD := [(0, .inl (o_al 1 0)), (1, .inl (o_il 2 1)), (2, .inr (.inl (15, 2))), (5, .inl (o_is 6 3)), (6, .inl (o_al 7 0)), (7, .inr (.inl (16, 1))), (10, .inl (o_k 11 (vI (0)))), (11, .inl (o_is 13 4)), (13, .inl (o_k 14 (vI (1)))), (14, .inl (o_is 16 5)), (16, .inl (o_il 18 5)), (18, .inl (o_k 19 (vI (1)))), (19, .inl (o_al 20 0)), (20, .inl (o_gf 23 3 9)), (23, .inl (o_ib 24 f_shl)), (24, .inl (o_ic 80 27 r_ge)), (27, .inl (o_il 29 5)), (29, .inl (o_il 30 3)), (30, .inl (o_k 31 (vI (-1)))), (31, .inl (o_ib 32 f_xor)), (32, .inl (o_ib 33 f_and)), (33, .inl (o_if 74 36 q_ne)), (36, .inl (o_al 37 0)), (37, .inl (o_gf 40 3 7)), (40, .inl (o_il 42 5)), (42, .inl (o_al 43 0)), (43, .inl (o_il 45 5)), (45, .inr (.inl (17, 2))), (48, .inl (o_iw 49)), (49, .inl (o_al 50 0)), (50, .inl (o_il 52 5)), (52, .inl (o_il 53 2)), (53, .inr (.inl (18, 3))), (56, .inl (o_if 74 59 q_eq)), (59, .inl (o_al 60 0)), (60, .inl (o_il 62 5)), (62, .inl (o_il 64 4)), (64, .inr (.inl (19, 3))), (67, .inl (o_if 74 70 q_eq)), (70, .inl (o_il 72 5)), (72, .inl (o_is 74 4)), (74, .inl (o_ii 77 5 (1))), (77, .inl (o_go 16)), (80, .inl (o_il 82 4)), (82, .inl (o_if 87 85 q_ne)), (85, .inl (o_k 86 (vI (-1)))), (86, .inr (.inr ())), (87, .inl (o_al 88 0)), (88, .inl (o_il 90 4)), (90, .inr (.inl (22, 2))), (93, .inl (o_al 94 0)), (94, .inl (o_al 95 0)), (95, .inl (o_gf 98 3 3)), (98, .inl (o_il 100 4)), (100, .inr (.inl (20, 3))), (103, .inr (.inr ()))]
def cd_15 : CD := [(0, .inl (o_k 1 (vI (0)))), (1, .inl (o_is 2 2)), (2, .inl (o_k 3 (vI (0)))), (3, .inl (o_is 4 3)), (4, .inl (o_il 5 3)), (5, .inl (o_al 6 0)), (6, .inl (o_gf 9 3 9)), (9, .inl (o_ic 61 12 r_ge)), (12, .inl (o_al 13 0)), (13, .inl (o_gf 16 3 4)), (16, .inl (o_il 17 3)), (17, .inl (o_ia 18)), (18, .inl (o_k 19 (vI (-1)))), (19, .inl (o_ic 40 22 r_eq)), (22, .inl (o_il 23 1)), (23, .inl (o_al 24 0)), (24, .inl (o_gf 27 3 4)), (27, .inl (o_il 28 3)), (28, .inl (o_ia 29)), (29, .inl (o_ib 30 f_sub)), (30, .inr (.inl (114, 1))), (33, .inl (o_al 34 0)), (34, .inl (o_gf 37 3 10)), (37, .inl (o_ic 44 40 r_lt)), (40, .inl (o_k 41 (vI (1)))), (41, .inl (o_go 45)), (44, .inl (o_k 45 (vI (0)))), (45, .inl (o_is 47 4)), (47, .inl (o_il 48 2)), (48, .inl (o_il 49 3)), (49, .inl (o_il 51 4)), (51, .inr (.inl (68, 3))), (54, .inl (o_is 55 2)), (55, .inl (o_ii 58 3 (1))), (58, .inl (o_go 4)), (61, .inl (o_il 62 2)), (62, .inr (.inr ()))]
def cd_16 : CD := [(0, .inl (o_k 1 (vI (0)))), (1, .inl (o_is 2 1)), (2, .inl (o_il 3 1)), (3, .inl (o_al 4 0)), (4, .inl (o_gf 7 3 9)), (7, .inl (o_ic 84 10 r_ge)), (10, .inl (o_al 11 0)), (11, .inl (o_gf 14 3 5)), (14, .inl (o_il 15 1)), (15, .inl (o_k 16 (vI (0)))), (16, .inl (o_iw 17)), (17, .inl (o_k 18 (vI (0)))), (18, .inl (o_is 19 2)), (19, .inl (o_il 20 2)), (20, .inl (o_al 21 0)), (21, .inl (o_gf 24 3 9)), (24, .inl (o_ic 78 27 r_ge)), (27, .inl (o_al 28 0)), (28, .inl (o_gf 31 3 0)), (31, .inl (o_al 32 0)), (32, .inl (o_gf 35 3 1)), (35, .inl (o_il 36 1)), (36, .inl (o_ia 37)), (37, .inl (o_al 38 0)), (38, .inl (o_gf 41 3 1)), (41, .inl (o_il 42 2)), (42, .inl (o_ia 43)), (43, .inr (.inl (11, 3))), (46, .inl (o_if 53 49 q_ne)), (49, .inl (o_k 50 (vI (1)))), (50, .inl (o_go 54)), (53, .inl (o_k 54 (vI (0)))), (54, .inl (o_is 55 3)), (55, .inl (o_al 56 0)), (56, .inl (o_gf 59 3 5)), (59, .inl (o_il 60 1)), (60, .inl (o_al 61 0)), (61, .inl (o_gf 64 3 5)), (64, .inl (o_il 65 1)), (65, .inl (o_ia 66)), (66, .inl (o_il 67 2)), (67, .inl (o_il 68 3)), (68, .inr (.inl (68, 3))), (71, .inl (o_iw 72)), (72, .inl (o_ii 75 2 (1))), (75, .inl (o_go 19)), (78, .inl (o_ii 81 1 (1))), (81, .inl (o_go 2)), (84, .inr (.inr ()))]
def cd_17 : CD := [(0, .inl (o_k 1 (vI (0)))), (1, .inl (o_is 2 2)), (2, .inl (o_k 3 (vI (0)))), (3, .inl (o_is 4 3)), (4, .inl (o_il 5 3)), (5, .inl (o_al 6 0)), (6, .inl (o_gf 9 3 9)), (9, .inl (o_ic 71 12 r_ge)), (12, .inl (o_il 13 1)), (13, .inl (o_il 14 3)), (14, .inr (.inl (67, 2))), (17, .inl (o_if 65 20 q_eq)), (20, .inl (o_il 21 1)), (21, .inl (o_il 22 3)), (22, .inl (o_k 23 (vI (0)))), (23, .inr (.inl (68, 3))), (26, .inl (o_is 28 4)), (28, .inl (o_il 30 4)), (30, .inl (o_if 50 33 q_eq)), (33, .inl (o_al 34 0)), (34, .inl (o_gf 37 3 7)), (37, .inl (o_il 39 4)), (39, .inl (o_ia 40)), (40, .inl (o_al 41 0)), (41, .inl (o_gf 44 3 5)), (44, .inl (o_il 45 3)), (45, .inl (o_ia 46)), (46, .inl (o_ib 47 f_and)), (47, .inl (o_if 54 50 q_eq)), (50, .inl (o_k 51 (vI (1)))), (51, .inl (o_go 55)), (54, .inl (o_k 55 (vI (0)))), (55, .inl (o_is 57 5)), (57, .inl (o_il 58 2)), (58, .inl (o_il 59 3)), (59, .inl (o_il 61 5)), (61, .inr (.inl (68, 3))), (64, .inl (o_is 65 2)), (65, .inl (o_ii 68 3 (1))), (68, .inl (o_go 4)), (71, .inl (o_il 72 2)), (72, .inr (.inr ()))]
def cd_18 : CD := [(0, .inl (o_al 1 0)), (1, .inl (o_gf 4 3 7)), (4, .inl (o_il 5 1)), (5, .inl (o_ia 6)), (6, .inl (o_if 39 9 q_eq)), (9, .inl (o_il 10 1)), (10, .inl (o_al 11 0)), (11, .inl (o_gf 14 3 8)), (14, .inl (o_ib 15 f_and)), (15, .inr (.inl (112, 1))), (18, .inl (o_k 19 (vI (1)))), (19, .inl (o_ic 39 22 r_ne)), (22, .inl (o_al 23 0)), (23, .inl (o_al 24 0)), (24, .inl (o_gf 27 3 2)), (27, .inl (o_il 28 1)), (28, .inr (.inl (20, 3))), (31, .inl (o_il 32 2)), (32, .inl (o_ic 39 35 r_gt)), (35, .inl (o_k 36 (vI (1)))), (36, .inl (o_go 40)), (39, .inl (o_k 40 (vI (0)))), (40, .inr (.inr ()))]
def cd_19 : CD := [(0, .inl (o_il 1 2)), (1, .inl (o_if 6 4 q_ne)), (4, .inl (o_k 5 (vI (1)))), (5, .inr (.inr ())), (6, .inl (o_al 7 0)), (7, .inl (o_al 8 0)), (8, .inl (o_gf 11 3 3)), (11, .inl (o_il 12 1)), (12, .inr (.inl (20, 3))), (15, .inl (o_al 16 0)), (16, .inl (o_al 17 0)), (17, .inl (o_gf 20 3 3)), (20, .inl (o_il 21 2)), (21, .inr (.inl (20, 3))), (24, .inl (o_ib 25 f_sub)), (25, .inl (o_is 26 3)), (26, .inl (o_il 27 3)), (27, .inl (o_if 40 30 q_eq)), (30, .inl (o_il 31 3)), (31, .inl (o_if 38 34 q_le)), (34, .inl (o_k 35 (vI (1)))), (35, .inl (o_go 39)), (38, .inl (o_k 39 (vI (0)))), (39, .inr (.inr ())), (40, .inl (o_il 41 2)), (41, .inr (.inl (112, 1))), (44, .inl (o_il 45 1)), (45, .inr (.inl (112, 1))), (48, .inl (o_ib 49 f_sub)), (49, .inl (o_is 51 4)), (51, .inl (o_il 53 4)), (53, .inl (o_if 67 56 q_eq)), (56, .inl (o_il 58 4)), (58, .inl (o_if 65 61 q_le)), (61, .inl (o_k 62 (vI (1)))), (62, .inl (o_go 66)), (65, .inl (o_k 66 (vI (0)))), (66, .inr (.inr ())), (67, .inl (o_al 68 0)), (68, .inl (o_il 69 1)), (69, .inr (.inl (21, 2))), (72, .inl (o_al 73 0)), (73, .inl (o_il 74 2)), (74, .inr (.inl (21, 2))), (77, .inl (o_lcmp 78)), (78, .inl (o_if 85 81 q_ge)), (81, .inl (o_k 82 (vI (1)))), (82, .inl (o_go 86)), (85, .inl (o_k 86 (vI (0)))), (86, .inr (.inr ()))]
def cd_20 : CD := [(0, .inl (o_k 1 (vI (0)))), (1, .inl (o_is 2 3)), (2, .inl (o_k 3 (vI (0)))), (3, .inl (o_is 5 4)), (5, .inl (o_il 7 4)), (7, .inl (o_al 8 0)), (8, .inl (o_gf 11 3 9)), (11, .inl (o_ic 36 14 r_ge)), (14, .inl (o_il 15 2)), (15, .inl (o_il 17 4)), (17, .inr (.inl (67, 2))), (20, .inl (o_if 30 23 q_eq)), (23, .inl (o_il 24 3)), (24, .inl (o_al 25 1)), (25, .inl (o_il 27 4)), (27, .inl (o_ia 28)), (28, .inl (o_ib 29 f_add)), (29, .inl (o_is 30 3)), (30, .inl (o_ii 33 4 (1))), (33, .inl (o_go 5)), (36, .inl (o_il 37 3)), (37, .inr (.inr ()))]
def cd_21 : CD := [(0, .inl (o_k 1 (vL (0)))), (1, .inl (o_ls 2 2)), (2, .inl (o_il 3 1)), (3, .inl (o_is 5 4)), (5, .inl (o_al 6 0)), (6, .inl (o_gf 9 3 7)), (9, .inl (o_il 10 1)), (10, .inl (o_ia 11)), (11, .inl (o_is 13 5)), (13, .inl (o_k 14 (vI (0)))), (14, .inl (o_is 16 6)), (16, .inl (o_il 18 6)), (18, .inl (o_al 19 0)), (19, .inl (o_gf 22 3 9)), (22, .inl (o_ic 80 25 r_ge)), (25, .inl (o_il 27 5)), (27, .inl (o_if 80 30 q_eq)), (30, .inl (o_il 32 5)), (32, .inr (.inl (111, 1))), (35, .inl (o_is 37 7)), (37, .inl (o_ll 38 2)), (38, .inl (o_k 41 (vL (10)))), (41, .inl (o_lb 42 f_mul)), (42, .inl (o_il 44 7)), (44, .inl (o_i2l 45)), (45, .inl (o_lb 46 f_add)), (46, .inl (o_ls 47 2)), (47, .inl (o_il 49 4)), (49, .inl (o_il 51 7)), (51, .inl (o_k 52 (vI (0)))), (52, .inr (.inl (68, 3))), (55, .inl (o_is 57 4)), (57, .inl (o_al 58 0)), (58, .inl (o_gf 61 3 7)), (61, .inl (o_il 63 4)), (63, .inl (o_ia 64)), (64, .inl (o_al 65 0)), (65, .inl (o_gf 68 3 5)), (68, .inl (o_il 70 7)), (70, .inl (o_ia 71)), (71, .inl (o_ib 72 f_and)), (72, .inl (o_is 74 5)), (74, .inl (o_ii 77 6 (1))), (77, .inl (o_go 16)), (80, .inl (o_ll 81 2)), (81, .inr (.inr ()))]
def cd_22 : CD := [(0, .inl (o_al 1 0)), (1, .inl (o_il 2 1)), (2, .inr (.inl (112, 1))), (5, .inl (o_pf 8 3 11)), (8, .inl (o_al 9 0)), (9, .inl (o_il 10 1)), (10, .inr (.inl (21, 2))), (13, .inl (o_ls 14 2)), (14, .inl (o_al 15 0)), (15, .inl (o_gf 18 3 11)), (18, .inl (o_k 19 (vI (1)))), (19, .inl (o_ib 20 f_sub)), (20, .inl (o_is 22 4)), (22, .inl (o_il 24 4)), (24, .inl (o_if 52 27 q_lt)), (27, .inl (o_al 28 0)), (28, .inl (o_gf 31 3 6)), (31, .inl (o_il 33 4)), (33, .inl (o_ll 34 2)), (34, .inl (o_k 37 (vL (10)))), (37, .inl (o_ld 38 f_lrem)), (38, .inl (o_l2i 39)), (39, .inl (o_iw 40)), (40, .inl (o_ll 41 2)), (41, .inl (o_k 44 (vL (10)))), (44, .inl (o_ld 45 f_ldiv)), (45, .inl (o_ls 46 2)), (46, .inl (o_ii 49 4 (-1))), (49, .inl (o_go 22)), (52, .inr (.inr ()))]
def cd_23 : CD := [(0, .inl (o_k 1 (vI (0)))), (1, .inl (o_is 2 2)), (2, .inl (o_il 3 2)), (3, .inl (o_al 4 0)), (4, .inl (o_gf 7 4 2)), (7, .inl (o_gf 10 5 6)), (10, .inl (o_ic 25 13 r_ge)), (13, .inl (o_al 14 0)), (14, .inl (o_il 15 2)), (15, .inl (o_il 16 1)), (16, .inr (.inl (24, 3))), (19, .inl (o_ii 22 2 (1))), (22, .inl (o_go 2)), (25, .inl (o_k 26 (vI (0)))), (26, .inl (o_is 27 2)), (27, .inl (o_il 28 2)), (28, .inl (o_al 29 0)), (29, .inl (o_gf 32 4 2)), (32, .inl (o_gf 35 5 5)), (35, .inl (o_ic 49 38 r_ge)), (38, .inl (o_al 39 0)), (39, .inl (o_il 40 2)), (40, .inr (.inl (25, 2))), (43, .inl (o_ii 46 2 (1))), (46, .inl (o_go 27)), (49, .inl (o_al 50 0)), (50, .inr (.inl (26, 1))), (53, .inl (o_al 54 0)), (54, .inr (.inl (27, 1))), (57, .inl (o_al 58 0)), (58, .inl (o_gf 61 4 9)), (61, .inl (o_k 62 (vL (0)))), (62, .inr (.inl (117, 2))), (65, .inl (o_al 66 0)), (66, .inl (o_gf 69 4 2)), (69, .inl (o_gf 72 5 4)), (72, .inl (o_k 73 (vI (1)))), (73, .inl (o_ib 74 f_sub)), (74, .inl (o_is 75 2)), (75, .inl (o_il 76 2)), (76, .inl (o_if 134 79 q_lt)), (79, .inl (o_al 80 0)), (80, .inl (o_gf 83 4 8)), (83, .inl (o_k 86 (vL (-9223372036854775808)))), (86, .inr (.inl (117, 2))), (89, .inl (o_al 90 0)), (90, .inl (o_il 91 2)), (91, .inl (o_al 92 0)), (92, .inl (o_gf 95 4 2)), (95, .inl (o_gf 98 5 5)), (98, .inl (o_ib 99 f_mul)), (99, .inl (o_pf 102 4 10)), (102, .inl (o_al 103 0)), (103, .inl (o_k 104 (vI (0)))), (104, .inl (o_k 105 (vI (0)))), (105, .inl (o_k 106 (vI (1)))), (106, .inl (o_al 107 0)), (107, .inl (o_gf 110 4 1)), (110, .inl (o_gf 113 0 4)), (113, .inl (o_ib 114 f_shl)), (114, .inl (o_k 115 (vI (1)))), (115, .inl (o_ib 116 f_sub)), (116, .inl (o_k 118 (vI (63)))), (118, .inl (o_k 120 (vI (63)))), (120, .inl (o_k 121 (vL (0)))), (121, .inr (.inl (28, 7))), (124, .inl (o_al 125 0)), (125, .inr (.inl (30, 1))), (128, .inl (o_ii 131 2 (-1))), (131, .inl (o_go 75)), (134, .inl (o_al 135 0)), (135, .inl (o_al 136 0)), (136, .inl (o_gf 139 4 9)), (139, .inl (o_k 140 (vI (0)))), (140, .inl (o_la 141)), (141, .inr (.inl (31, 2))), (144, .inr (.inr ()))]
def cd_24 : CD := [(0, .inl (o_k 1 (vI (0)))), (1, .inl (o_is 2 3)), (2, .inl (o_il 3 3)), (3, .inl (o_k 5 (vI (37)))), (5, .inl (o_ic 86 8 r_ge)), (8, .inl (o_k 9 (vL (0)))), (9, .inl (o_ls 11 4)), (11, .inl (o_il 12 3)), (12, .inl (o_k 14 (vI (36)))), (14, .inl (o_ic 37 17 r_eq)), (17, .inl (o_al 18 0)), (18, .inl (o_gf 21 4 1)), (21, .inl (o_gf 24 0 2)), (24, .inl (o_il 25 3)), (25, .inl (o_k 27 (vI (6)))), (27, .inl (o_id 28 f_div)), (28, .inl (o_aa 29)), (29, .inl (o_il 30 3)), (30, .inl (o_k 32 (vI (6)))), (32, .inl (o_id 33 f_rem)), (33, .inl (o_ia 34)), (34, .inl (o_i2l 35)), (35, .inl (o_ls 37 4)), (37, .inl (o_il 38 3)), (38, .inl (o_al 39 0)), (39, .inl (o_gf 42 4 2)), (42, .inl (o_gf 45 5 2)), (45, .inl (o_il 46 1)), (46, .inl (o_ia 47)), (47, .inl (o_ic 57 50 r_eq)), (50, .inl (o_ll 52 4)), (52, .inl (o_il 53 2)), (53, .inl (o_i2l 54)), (54, .inl (o_lb 55 f_sub)), (55, .inl (o_ls 57 4)), (57, .inl (o_al 58 0)), (58, .inl (o_gf 61 4 3)), (61, .inl (o_il 62 1)), (62, .inl (o_aa 63)), (63, .inl (o_il 64 3)), (64, .inl (o_ll 66 4)), (66, .inl (o_k 69 (vL (2565726409)))), (69, .inl (o_lb 70 f_mul)), (70, .inl (o_il 71 3)), (71, .inl (o_i2l 72)), (72, .inl (o_k 75 (vR 1000))), (75, .inl (o_il 76 1)), (76, .inl (o_la 77)), (77, .inl (o_lb 78 f_mul)), (78, .inl (o_lb 79 f_sub)), (79, .inl (o_lw 80)), (80, .inl (o_ii 83 3 (1))), (83, .inl (o_go 2)), (86, .inr (.inr ()))]
def cd_25 : CD := [(0, .inl (o_k 1 (vI (0)))), (1, .inl (o_is 2 2)), (2, .inl (o_k 3 (vI (0)))), (3, .inl (o_is 4 3)), (4, .inl (o_il 5 3)), (5, .inl (o_k 7 (vI (36)))), (7, .inl (o_ic 88 10 r_ge)), (10, .inl (o_il 11 3)), (11, .inl (o_k 13 (vI (6)))), (13, .inl (o_id 14 f_div)), (14, .inl (o_is 16 4)), (16, .inl (o_il 17 3)), (17, .inl (o_k 19 (vI (6)))), (19, .inl (o_id 20 f_rem)), (20, .inl (o_is 22 5)), (22, .inl (o_al 23 0)), (23, .inl (o_gf 26 4 1)), (26, .inl (o_gf 29 0 2)), (29, .inl (o_il 31 4)), (31, .inl (o_aa 32)), (32, .inl (o_il 34 5)), (34, .inl (o_ia 35)), (35, .inl (o_if 82 38 q_le)), (38, .inl (o_al 39 0)), (39, .inl (o_gf 42 4 1)), (42, .inl (o_gf 45 0 3)), (45, .inl (o_il 47 4)), (47, .inr (.inl (67, 2))), (50, .inl (o_if 82 53 q_ne)), (53, .inl (o_al 54 0)), (54, .inl (o_gf 57 4 0)), (57, .inl (o_gf 60 2 1)), (60, .inl (o_il 62 5)), (62, .inl (o_ia 63)), (63, .inl (o_il 64 1)), (64, .inr (.inl (67, 2))), (67, .inl (o_if 82 70 q_eq)), (70, .inl (o_al 71 0)), (71, .inl (o_gf 74 4 4)), (74, .inl (o_il 75 1)), (75, .inl (o_aa 76)), (76, .inl (o_il 77 2)), (77, .inl (o_il 78 3)), (78, .inl (o_iw 79)), (79, .inl (o_ii 82 2 (1))), (82, .inl (o_ii 85 3 (1))), (85, .inl (o_go 4)), (88, .inl (o_al 89 0)), (89, .inl (o_gf 92 4 5)), (92, .inl (o_il 93 1)), (93, .inl (o_il 94 2)), (94, .inl (o_iw 95)), (95, .inr (.inr ()))]
def cd_26 : CD := [(0, .inl (o_k 1 (vI (0)))), (1, .inl (o_is 2 1)), (2, .inl (o_il 3 1)), (3, .inl (o_al 4 0)), (4, .inl (o_gf 7 4 1)), (7, .inl (o_gf 10 0 4)), (10, .inl (o_ic 110 13 r_ge)), (13, .inl (o_al 14 0)), (14, .inl (o_gf 17 4 6)), (17, .inl (o_il 18 1)), (18, .inl (o_k 19 (vI (0)))), (19, .inl (o_iw 20)), (20, .inl (o_k 21 (vI (0)))), (21, .inl (o_is 22 2)), (22, .inl (o_il 23 2)), (23, .inl (o_al 24 0)), (24, .inl (o_gf 27 4 1)), (27, .inl (o_gf 30 0 4)), (30, .inl (o_ic 104 33 r_ge)), (33, .inl (o_il 34 2)), (34, .inl (o_il 35 1)), (35, .inl (o_ic 79 38 r_eq)), (38, .inl (o_al 39 0)), (39, .inl (o_gf 42 4 1)), (42, .inl (o_gf 45 0 0)), (45, .inl (o_il 46 2)), (46, .inl (o_ia 47)), (47, .inl (o_al 48 0)), (48, .inl (o_gf 51 4 1)), (51, .inl (o_gf 54 0 0)), (54, .inl (o_il 55 1)), (55, .inl (o_ia 56)), (56, .inl (o_ic 79 59 r_lt)), (59, .inl (o_al 60 0)), (60, .inl (o_gf 63 4 1)), (63, .inl (o_gf 66 0 1)), (66, .inl (o_il 67 1)), (67, .inl (o_ia 68)), (68, .inl (o_il 69 2)), (69, .inr (.inl (67, 2))), (72, .inl (o_if 79 75 q_ne)), (75, .inl (o_k 76 (vI (1)))), (76, .inl (o_go 80)), (79, .inl (o_k 80 (vI (0)))), (80, .inl (o_is 81 3)), (81, .inl (o_al 82 0)), (82, .inl (o_gf 85 4 6)), (85, .inl (o_il 86 1)), (86, .inl (o_al 87 0)), (87, .inl (o_gf 90 4 6)), (90, .inl (o_il 91 1)), (91, .inl (o_ia 92)), (92, .inl (o_il 93 2)), (93, .inl (o_il 94 3)), (94, .inr (.inl (68, 3))), (97, .inl (o_iw 98)), (98, .inl (o_ii 101 2 (1))), (101, .inl (o_go 22)), (104, .inl (o_ii 107 1 (1))), (107, .inl (o_go 2)), (110, .inr (.inr ()))]
def cd_27 : CD := [(0, .inl (o_k 1 (vI (0)))), (1, .inl (o_is 2 1)), (2, .inl (o_il 3 1)), (3, .inl (o_al 4 0)), (4, .inl (o_gf 7 4 0)), (7, .inl (o_gf 10 2 2)), (10, .inl (o_ic 78 13 r_ge)), (13, .inl (o_al 14 0)), (14, .inl (o_gf 17 4 7)), (17, .inl (o_il 18 1)), (18, .inl (o_k 19 (vI (0)))), (19, .inl (o_iw 20)), (20, .inl (o_k 21 (vI (0)))), (21, .inl (o_is 22 2)), (22, .inl (o_il 23 2)), (23, .inl (o_al 24 0)), (24, .inl (o_gf 27 4 0)), (27, .inl (o_gf 30 2 2)), (30, .inl (o_ic 72 33 r_ge)), (33, .inl (o_al 34 0)), (34, .inl (o_gf 37 4 7)), (37, .inl (o_il 38 1)), (38, .inl (o_al 39 0)), (39, .inl (o_gf 42 4 7)), (42, .inl (o_il 43 1)), (43, .inl (o_ia 44)), (44, .inl (o_il 45 2)), (45, .inl (o_al 46 0)), (46, .inl (o_gf 49 4 0)), (49, .inl (o_il 50 1)), (50, .inl (o_il 51 2)), (51, .inr (.inl (11, 3))), (54, .inl (o_if 61 57 q_ne)), (57, .inl (o_k 58 (vI (1)))), (58, .inl (o_go 62)), (61, .inl (o_k 62 (vI (0)))), (62, .inr (.inl (68, 3))), (65, .inl (o_iw 66)), (66, .inl (o_ii 69 2 (1))), (69, .inl (o_go 22)), (72, .inl (o_ii 75 1 (1))), (75, .inl (o_go 2)), (78, .inr (.inr ()))]
def cd_28 : CD := [(0, .inl (o_il 1 1)), (1, .inl (o_al 2 0)), (2, .inl (o_gf 5 4 2)), (5, .inl (o_gf 8 5 5)), (8, .inl (o_ic 29 11 r_lt)), (11, .inl (o_al 12 0)), (12, .inl (o_gf 15 4 8)), (15, .inl (o_il 16 2)), (16, .inl (o_al 17 0)), (17, .inl (o_gf 20 4 8)), (20, .inl (o_il 21 2)), (21, .inl (o_la 22)), (22, .inl (o_ll 24 6)), (24, .inr (.inl (116, 2))), (27, .inl (o_lw 28)), (28, .inr (.inr ())), (29, .inl (o_k 30 (vI (0)))), (30, .inl (o_is 32 8)), (32, .inl (o_il 34 8)), (34, .inl (o_al 35 0)), (35, .inl (o_gf 38 4 5)), (38, .inl (o_il 39 1)), (39, .inl (o_ia 40)), (40, .inl (o_ic 101 43 r_ge)), (43, .inl (o_al 44 0)), (44, .inl (o_gf 47 4 4)), (47, .inl (o_il 48 1)), (48, .inl (o_aa 49)), (49, .inl (o_il 51 8)), (51, .inl (o_ia 52)), (52, .inl (o_is 54 9)), (54, .inl (o_il 55 3)), (55, .inl (o_il 57 9)), (57, .inl (o_k 59 (vI (6)))), (59, .inl (o_id 60 f_div)), (60, .inr (.inl (67, 2))), (63, .inl (o_if 95 66 q_eq)), (66, .inl (o_il 68 4)), (68, .inl (o_il 70 5)), (70, .inl (o_ib 71 f_and)), (71, .inl (o_il 73 9)), (73, .inl (o_k 75 (vI (6)))), (75, .inl (o_id 76 f_rem)), (76, .inr (.inl (67, 2))), (79, .inl (o_if 95 82 q_eq)), (82, .inl (o_al 83 0)), (83, .inl (o_il 85 9)), (85, .inl (o_il 86 1)), (86, .inl (o_il 87 2)), (87, .inl (o_il 88 3)), (88, .inl (o_il 90 4)), (90, .inl (o_ll 92 6)), (92, .inr (.inl (29, 7))), (95, .inl (o_ii 98 8 (1))), (98, .inl (o_go 32)), (101, .inl (o_al 102 0)), (102, .inl (o_il 103 1)), (103, .inl (o_k 104 (vI (1)))), (104, .inl (o_ib 105 f_add)), (105, .inl (o_il 106 2)), (106, .inl (o_il 107 3)), (107, .inl (o_il 109 4)), (109, .inl (o_il 111 5)), (111, .inl (o_ll 113 6)), (113, .inl (o_al 114 0)), (114, .inl (o_gf 117 4 3)), (117, .inl (o_al 118 0)), (118, .inl (o_gf 121 4 10)), (121, .inl (o_il 122 1)), (122, .inl (o_ib 123 f_add)), (123, .inl (o_aa 124)), (124, .inl (o_k 126 (vI (36)))), (126, .inl (o_la 127)), (127, .inl (o_lb 128 f_add)), (128, .inr (.inl (28, 7))), (131, .inr (.inr ()))]
def cd_29 : CD := [(0, .inl (o_il 1 1)), (1, .inl (o_k 3 (vI (6)))), (3, .inl (o_id 4 f_div)), (4, .inl (o_is 6 8)), (6, .inl (o_il 7 1)), (7, .inl (o_k 9 (vI (6)))), (9, .inl (o_id 10 f_rem)), (10, .inl (o_is 12 9)), (12, .inl (o_al 13 0)), (13, .inl (o_il 14 2)), (14, .inl (o_k 15 (vI (1)))), (15, .inl (o_ib 16 f_add)), (16, .inl (o_il 17 3)), (17, .inl (o_il 19 8)), (19, .inl (o_k 20 (vI (1)))), (20, .inr (.inl (68, 3))), (23, .inl (o_il 25 4)), (25, .inl (o_al 26 0)), (26, .inl (o_gf 29 4 6)), (29, .inl (o_il 31 8)), (31, .inl (o_ia 32)), (32, .inl (o_ib 33 f_and)), (33, .inl (o_il 35 5)), (35, .inl (o_il 37 9)), (37, .inl (o_k 38 (vI (0)))), (38, .inr (.inl (68, 3))), (41, .inl (o_al 42 0)), (42, .inl (o_gf 45 4 7)), (45, .inl (o_il 47 9)), (47, .inl (o_ia 48)), (48, .inl (o_ll 50 6)), (50, .inl (o_al 51 0)), (51, .inl (o_gf 54 4 3)), (54, .inl (o_al 55 0)), (55, .inl (o_gf 58 4 10)), (58, .inl (o_il 59 2)), (59, .inl (o_ib 60 f_add)), (60, .inl (o_aa 61)), (61, .inl (o_il 62 1)), (62, .inl (o_la 63)), (63, .inl (o_lb 64 f_add)), (64, .inr (.inl (28, 7))), (67, .inr (.inr ()))]
def cd_30 : CD := [(0, .inl (o_k 1 (vI (1)))), (1, .inl (o_al 2 0)), (2, .inl (o_gf 5 4 1)), (5, .inl (o_gf 8 0 4)), (8, .inl (o_ib 9 f_shl)), (9, .inl (o_is 10 1)), (10, .inl (o_k 11 (vI (0)))), (11, .inl (o_is 12 2)), (12, .inl (o_il 13 2)), (13, .inl (o_il 14 1)), (14, .inl (o_ic 92 17 r_ge)), (17, .inl (o_k 20 (vL (-9223372036854775808)))), (20, .inl (o_ls 21 3)), (21, .inl (o_k 22 (vI (0)))), (22, .inl (o_is 24 5)), (24, .inl (o_il 26 5)), (26, .inl (o_il 27 1)), (27, .inl (o_ic 79 30 r_ge)), (30, .inl (o_il 32 5)), (32, .inl (o_il 33 2)), (33, .inl (o_ib 34 f_and)), (34, .inl (o_if 73 37 q_ne)), (37, .inl (o_al 38 0)), (38, .inl (o_gf 41 4 8)), (41, .inl (o_il 43 5)), (43, .inl (o_la 44)), (44, .inl (o_k 47 (vL (-9223372036854775808)))), (47, .inl (o_lcmp 48)), (48, .inl (o_if 73 51 q_eq)), (51, .inl (o_ll 52 3)), (52, .inl (o_al 53 0)), (53, .inl (o_gf 56 4 8)), (56, .inl (o_il 58 5)), (58, .inl (o_la 59)), (59, .inl (o_al 60 0)), (60, .inl (o_gf 63 4 9)), (63, .inl (o_il 64 2)), (64, .inl (o_il 66 5)), (66, .inl (o_ib 67 f_or)), (67, .inl (o_la 68)), (68, .inl (o_lb 69 f_add)), (69, .inr (.inl (116, 2))), (72, .inl (o_ls 73 3)), (73, .inl (o_ii 76 5 (1))), (76, .inl (o_go 24)), (79, .inl (o_al 80 0)), (80, .inl (o_gf 83 4 9)), (83, .inl (o_il 84 2)), (84, .inl (o_ll 85 3)), (85, .inl (o_lw 86)), (86, .inl (o_ii 89 2 (1))), (89, .inl (o_go 12)), (92, .inr (.inr ()))]
def cd_31 : CD := [(0, .inl (o_ll 1 1)), (1, .inl (o_lu 2 f_neg)), (2, .inl (o_k 5 (vL (2565726409)))), (5, .inr (.inl (113, 2))), (8, .inl (o_ls 9 3)), (9, .inl (o_k 10 (vI (0)))), (10, .inl (o_is 12 5)), (12, .inl (o_k 13 (vI (0)))), (13, .inl (o_is 15 6)), (15, .inl (o_il 17 6)), (17, .inl (o_al 18 0)), (18, .inl (o_gf 21 4 2)), (21, .inl (o_gf 24 5 6)), (24, .inl (o_ic 78 27 r_ge)), (27, .inl (o_ll 28 3)), (28, .inl (o_k 31 (vR 1000))), (31, .inl (o_il 33 6)), (33, .inl (o_la 34)), (34, .inl (o_ld 35 f_ldiv)), (35, .inl (o_k 38 (vL (37)))), (38, .inl (o_ld 39 f_lrem)), (39, .inl (o_l2i 40)), (40, .inl (o_is 42 7)), (42, .inl (o_il 44 7)), (44, .inl (o_al 45 0)), (45, .inl (o_gf 48 4 2)), (48, .inl (o_gf 51 5 2)), (51, .inl (o_il 53 6)), (53, .inl (o_ia 54)), (54, .inl (o_ic 72 57 r_eq)), (57, .inl (o_al 58 0)), (58, .inl (o_gf 61 4 2)), (61, .inl (o_gf 64 5 2)), (64, .inl (o_il 66 6)), (66, .inl (o_il 68 7)), (68, .inl (o_iw 69)), (69, .inl (o_ii 72 5 (1))), (72, .inl (o_ii 75 6 (1))), (75, .inl (o_go 15)), (78, .inl (o_il 80 5)), (80, .inr (.inr ()))]
def cd_32 : CD := [(0, .inl (o_al 1 0)), (1, .inl (o_il 2 1)), (2, .inl (o_pf 5 5 4)), (5, .inl (o_al 6 0)), (6, .inl (o_il 7 2)), (7, .inl (o_pf 10 5 5)), (10, .inl (o_al 11 0)), (11, .inl (o_il 12 1)), (12, .inl (o_il 13 2)), (13, .inl (o_ib 14 f_mul)), (14, .inl (o_pf 17 5 6)), (17, .inl (o_al 18 0)), (18, .inl (o_gf 21 5 2)), (21, .inl (o_k 23 (vI (36)))), (23, .inr (.inl (118, 2))), (26, .inl (o_k 27 (vI (0)))), (27, .inl (o_is 28 3)), (28, .inl (o_k 29 (vI (0)))), (29, .inl (o_is 31 4)), (31, .inl (o_il 33 4)), (33, .inl (o_al 34 0)), (34, .inl (o_gf 37 5 4)), (37, .inl (o_ic 75 40 r_ge)), (40, .inl (o_k 41 (vI (0)))), (41, .inl (o_is 43 5)), (43, .inl (o_il 45 5)), (45, .inl (o_al 46 0)), (46, .inl (o_gf 49 5 5)), (49, .inl (o_ic 69 52 r_ge)), (52, .inl (o_al 53 0)), (53, .inl (o_gf 56 5 3)), (56, .inl (o_il 57 3)), (57, .inl (o_il 59 5)), (59, .inl (o_iw 60)), (60, .inl (o_ii 63 3 (1))), (63, .inl (o_ii 66 5 (1))), (66, .inl (o_go 43)), (69, .inl (o_ii 72 4 (1))), (72, .inl (o_go 31)), (75, .inr (.inr ()))]
def cd_33 : CD := [(0, .inl (o_il 1 1)), (1, .inl (o_k 2 (vI (0)))), (2, .inl (o_al 3 0)), (3, .inl (o_gf 6 5 6)), (6, .inl (o_k 7 (vI (1)))), (7, .inl (o_ib 8 f_sub)), (8, .inr (.inl (66, 3))), (11, .inr (.inr ()))]
def cd_34 : CD := [(0, .inl (o_al 1 0)), (1, .inl (o_gf 4 5 2)), (4, .inl (o_il 5 1)), (5, .inl (o_ia 6)), (6, .inl (o_k 8 (vI (36)))), (8, .inl (o_ic 15 11 r_eq)), (11, .inl (o_k 12 (vI (1)))), (12, .inl (o_go 16)), (15, .inl (o_k 16 (vI (0)))), (16, .inr (.inr ()))]
def cd_35 : CD := [(0, .inl (o_al 1 0)), (1, .inl (o_il 2 1)), (2, .inr (.inl (34, 2))), (5, .inl (o_if 20 8 q_eq)), (8, .inl (o_al 9 0)), (9, .inl (o_gf 12 5 2)), (12, .inl (o_il 13 1)), (13, .inl (o_ia 14)), (14, .inl (o_k 16 (vI (6)))), (16, .inl (o_id 17 f_div)), (17, .inl (o_go 21)), (20, .inl (o_k 21 (vI (-1)))), (21, .inr (.inr ()))]
def cd_36 : CD := [(0, .inl (o_al 1 0)), (1, .inl (o_il 2 1)), (2, .inr (.inl (34, 2))), (5, .inl (o_if 20 8 q_eq)), (8, .inl (o_al 9 0)), (9, .inl (o_gf 12 5 2)), (12, .inl (o_il 13 1)), (13, .inl (o_ia 14)), (14, .inl (o_k 16 (vI (6)))), (16, .inl (o_id 17 f_rem)), (17, .inl (o_go 21)), (20, .inl (o_k 21 (vI (-1)))), (21, .inr (.inr ()))]
def cd_37 : CD := [(0, .inl (o_k 1 (vI (0)))), (1, .inl (o_is 2 1)), (2, .inl (o_k 3 (vI (0)))), (3, .inl (o_is 4 2)), (4, .inl (o_il 5 2)), (5, .inl (o_al 6 0)), (6, .inl (o_gf 9 5 6)), (9, .inl (o_ic 29 12 r_ge)), (12, .inl (o_al 13 0)), (13, .inl (o_il 14 2)), (14, .inr (.inl (34, 2))), (17, .inl (o_if 23 20 q_eq)), (20, .inl (o_ii 23 1 (1))), (23, .inl (o_ii 26 2 (1))), (26, .inl (o_go 4)), (29, .inl (o_il 30 1)), (30, .inr (.inr ()))]
def cd_38 : CD := [(0, .inl (o_k 1 (vI (0)))), (1, .inl (o_is 2 1)), (2, .inl (o_k 3 (vI (0)))), (3, .inl (o_is 4 2)), (4, .inl (o_il 5 2)), (5, .inl (o_al 6 0)), (6, .inl (o_gf 9 5 6)), (9, .inl (o_ic 48 12 r_ge)), (12, .inl (o_al 13 0)), (13, .inl (o_il 14 2)), (14, .inr (.inl (34, 2))), (17, .inl (o_if 42 20 q_eq)), (20, .inl (o_il 21 1)), (21, .inl (o_al 22 0)), (22, .inl (o_gf 25 5 1)), (25, .inl (o_gf 28 0 2)), (28, .inl (o_al 29 0)), (29, .inl (o_il 30 2)), (30, .inr (.inl (35, 2))), (33, .inl (o_aa 34)), (34, .inl (o_al 35 0)), (35, .inl (o_il 36 2)), (36, .inr (.inl (36, 2))), (39, .inl (o_ia 40)), (40, .inl (o_ib 41 f_add)), (41, .inl (o_is 42 1)), (42, .inl (o_ii 45 2 (1))), (45, .inl (o_go 4)), (48, .inl (o_il 49 1)), (49, .inr (.inr ()))]
def cd_39 : CD := [(0, .inl (o_k 1 (vI (0)))), (1, .inl (o_is 2 1)), (2, .inl (o_il 3 1)), (3, .inl (o_k 5 (vI (8)))), (5, .inl (o_ic 56 8 r_ge)), (8, .inl (o_k 9 (vI (0)))), (9, .inl (o_is 10 2)), (10, .inl (o_il 11 2)), (11, .inl (o_al 12 0)), (12, .inl (o_gf 15 5 6)), (15, .inl (o_ic 50 18 r_ge)), (18, .inl (o_al 19 0)), (19, .inl (o_il 20 2)), (20, .inr (.inl (34, 2))), (23, .inl (o_if 44 26 q_eq)), (26, .inl (o_al 27 0)), (27, .inl (o_il 28 1)), (28, .inl (o_il 29 2)), (29, .inr (.inl (40, 3))), (32, .inl (o_if 44 35 q_eq)), (35, .inl (o_k 37 (vI (10)))), (37, .inl (o_il 38 1)), (38, .inl (o_k 39 (vI (1)))), (39, .inl (o_ib 40 f_add)), (40, .inl (o_ib 41 f_mul)), (41, .inl (o_il 42 2)), (42, .inl (o_ib 43 f_add)), (43, .inr (.inr ())), (44, .inl (o_ii 47 2 (1))), (47, .inl (o_go 10)), (50, .inl (o_ii 53 1 (1))), (53, .inl (o_go 2)), (56, .inl (o_k 57 (vI (0)))), (57, .inr (.inr ()))]
def cd_40 : CD := [(0, .inl (o_al 1 0)), (1, .inl (o_il 2 2)), (2, .inr (.inl (35, 2))), (5, .inl (o_is 6 3)), (6, .inl (o_al 7 0)), (7, .inl (o_il 8 2)), (8, .inr (.inl (36, 2))), (11, .inl (o_is 13 4)), (13, .inl (o_il 14 1)), (14, .inl (o_sw (f_sw 14 119 0 7 #[46, 58, 64, 85, 119, 119, 119, 113]))), (60, .inl (o_al 61 0)), (61, .inl (o_gf 64 5 1)), (64, .inl (o_gf 67 0 3)), (67, .inl (o_il 68 3)), (68, .inr (.inl (67, 2))), (71, .inr (.inr ())), (72, .inl (o_al 73 0)), (73, .inl (o_il 74 2)), (74, .inr (.inl (41, 2))), (77, .inr (.inr ())), (78, .inl (o_al 79 0)), (79, .inl (o_gf 82 5 1)), (82, .inl (o_gf 85 0 2)), (85, .inl (o_il 86 3)), (86, .inl (o_aa 87)), (87, .inl (o_il 89 4)), (89, .inl (o_ia 90)), (90, .inl (o_if 97 93 q_ne)), (93, .inl (o_k 94 (vI (1)))), (94, .inl (o_go 98)), (97, .inl (o_k 98 (vI (0)))), (98, .inr (.inr ())), (99, .inl (o_al 100 0)), (100, .inl (o_gf 103 5 0)), (103, .inl (o_gf 106 2 1)), (106, .inl (o_il 108 4)), (108, .inl (o_ia 109)), (109, .inl (o_al 110 0)), (110, .inl (o_gf 113 5 3)), (113, .inl (o_il 114 2)), (114, .inl (o_ia 115)), (115, .inr (.inl (67, 2))), (118, .inl (o_if 125 121 q_ne)), (121, .inl (o_k 122 (vI (1)))), (122, .inl (o_go 126)), (125, .inl (o_k 126 (vI (0)))), (126, .inr (.inr ())), (127, .inl (o_al 128 0)), (128, .inl (o_il 129 2)), (129, .inr (.inl (44, 2))), (132, .inr (.inr ())), (133, .inl (o_al 134 0)), (134, .inl (o_il 135 1)), (135, .inl (o_il 136 2)), (136, .inr (.inl (42, 3))), (139, .inr (.inr ()))]
def cd_41 : CD := [(0, .inl (o_k 1 (vI (0)))), (1, .inl (o_is 2 2)), (2, .inl (o_il 3 2)), (3, .inl (o_il 4 1)), (4, .inl (o_ic 28 7 r_ge)), (7, .inl (o_al 8 0)), (8, .inl (o_il 9 2)), (9, .inr (.inl (35, 2))), (12, .inl (o_al 13 0)), (13, .inl (o_il 14 1)), (14, .inr (.inl (35, 2))), (17, .inl (o_ic 22 20 r_ne)), (20, .inl (o_k 21 (vI (1)))), (21, .inr (.inr ())), (22, .inl (o_ii 25 2 (1))), (25, .inl (o_go 2)), (28, .inl (o_k 29 (vI (0)))), (29, .inr (.inr ()))]
def cd_42 : CD := [(0, .inl (o_il 1 2)), (1, .inl (o_al 2 0)), (2, .inl (o_gf 5 5 3)), (5, .inl (o_il 6 2)), (6, .inl (o_ia 7)), (7, .inl (o_ib 8 f_sub)), (8, .inl (o_is 9 3)), (9, .inl (o_il 10 3)), (10, .inl (o_il 11 2)), (11, .inl (o_ic 40 14 r_ge)), (14, .inl (o_al 15 0)), (15, .inl (o_il 16 3)), (16, .inr (.inl (34, 2))), (19, .inl (o_if 34 22 q_eq)), (22, .inl (o_al 23 0)), (23, .inl (o_il 24 1)), (24, .inl (o_il 25 3)), (25, .inl (o_il 26 2)), (26, .inr (.inl (43, 4))), (29, .inl (o_if 34 32 q_eq)), (32, .inl (o_k 33 (vI (1)))), (33, .inr (.inr ())), (34, .inl (o_ii 37 3 (1))), (37, .inl (o_go 9)), (40, .inl (o_k 41 (vI (0)))), (41, .inr (.inr ()))]
def cd_43 : CD := [(0, .inl (o_il 1 1)), (1, .inl (o_sw (f_lk 1 81 [(4, 27), (5, 46)]))), (28, .inl (o_al 29 0)), (29, .inl (o_il 30 2)), (30, .inr (.inl (36, 2))), (33, .inl (o_al 34 0)), (34, .inl (o_il 35 3)), (35, .inr (.inl (36, 2))), (38, .inl (o_ic 45 41 r_ne)), (41, .inl (o_k 42 (vI (1)))), (42, .inl (o_go 46)), (45, .inl (o_k 46 (vI (0)))), (46, .inr (.inr ())), (47, .inl (o_al 48 0)), (48, .inl (o_gf 51 5 1)), (51, .inl (o_gf 54 0 0)), (54, .inl (o_al 55 0)), (55, .inl (o_il 56 2)), (56, .inr (.inl (35, 2))), (59, .inl (o_ia 60)), (60, .inl (o_al 61 0)), (61, .inl (o_gf 64 5 1)), (64, .inl (o_gf 67 0 0)), (67, .inl (o_al 68 0)), (68, .inl (o_il 69 3)), (69, .inr (.inl (35, 2))), (72, .inl (o_ia 73)), (73, .inl (o_ic 80 76 r_le)), (76, .inl (o_k 77 (vI (1)))), (77, .inl (o_go 81)), (80, .inl (o_k 81 (vI (0)))), (81, .inr (.inr ())), (82, .inl (o_al 83 0)), (83, .inl (o_gf 86 5 1)), (86, .inl (o_gf 89 0 1)), (89, .inl (o_al 90 0)), (90, .inl (o_il 91 3)), (91, .inr (.inl (35, 2))), (94, .inl (o_ia 95)), (95, .inl (o_al 96 0)), (96, .inl (o_il 97 2)), (97, .inr (.inl (35, 2))), (100, .inr (.inl (67, 2))), (103, .inr (.inr ()))]
def cd_44 : CD := [(0, .inl (o_il 1 1)), (1, .inl (o_k 2 (vI (1)))), (2, .inl (o_ib 3 f_sub)), (3, .inl (o_is 4 2)), (4, .inl (o_il 5 2)), (5, .inl (o_il 6 1)), (6, .inl (o_al 7 0)), (7, .inl (o_gf 10 5 3)), (10, .inl (o_il 11 1)), (11, .inl (o_ia 12)), (12, .inl (o_ib 13 f_sub)), (13, .inl (o_ic 48 16 r_lt)), (16, .inl (o_al 17 0)), (17, .inl (o_il 18 2)), (18, .inr (.inl (34, 2))), (21, .inl (o_if 42 24 q_eq)), (24, .inl (o_al 25 0)), (25, .inl (o_gf 28 5 0)), (28, .inl (o_al 29 0)), (29, .inl (o_il 30 2)), (30, .inr (.inl (36, 2))), (33, .inl (o_al 34 0)), (34, .inl (o_il 35 1)), (35, .inr (.inl (36, 2))), (38, .inr (.inl (11, 3))), (41, .inr (.inr ())), (42, .inl (o_ii 45 2 (-1))), (45, .inl (o_go 4)), (48, .inl (o_k 49 (vI (0)))), (49, .inr (.inr ()))]
def cd_45 : CD := [(0, .inl (o_il 1 1)), (1, .inl (o_k 2 (vI (0)))), (2, .inl (o_k 5 (vI (4095)))), (5, .inr (.inl (66, 3))), (8, .inl (o_if 21 11 q_eq)), (11, .inl (o_il 12 2)), (12, .inl (o_k 13 (vI (0)))), (13, .inl (o_k 15 (vI (15)))), (15, .inr (.inl (66, 3))), (18, .inl (o_if 23 21 q_ne)), (21, .inl (o_k 22 (vI (-1)))), (22, .inr (.inr ())), (23, .inl (o_al 24 0)), (24, .inl (o_gf 27 6 0)), (27, .inl (o_il 28 1)), (28, .inl (o_il 29 2)), (29, .inr (.inl (9, 3))), (32, .inr (.inr ()))]
def cd_46 : CD := [(0, .inl (o_il 1 1)), (1, .inl (o_k 2 (vI (1)))), (2, .inl (o_k 4 (vI (9)))), (4, .inr (.inl (66, 3))), (7, .inl (o_if 21 10 q_eq)), (10, .inl (o_al 11 0)), (11, .inl (o_gf 14 6 1)), (14, .inl (o_il 15 1)), (15, .inr (.inl (1, 2))), (18, .inl (o_go 22)), (21, .inl (o_k 22 (vI (-1)))), (22, .inr (.inr ()))]
def cd_47 : CD := [(0, .inl (o_al 1 0)), (1, .inl (o_gf 4 6 1)), (4, .inl (o_il 5 1)), (5, .inr (.inl (0, 2))), (8, .inl (o_if 32 11 q_eq)), (11, .inl (o_al 12 0)), (12, .inl (o_gf 15 6 0)), (15, .inl (o_il 16 2)), (16, .inr (.inl (8, 2))), (19, .inl (o_if 32 22 q_eq)), (22, .inl (o_il 23 3)), (23, .inl (o_k 24 (vI (0)))), (24, .inl (o_k 26 (vI (100)))), (26, .inr (.inl (66, 3))), (29, .inl (o_if 34 32 q_ne)), (32, .inl (o_k 33 (vI (0)))), (33, .inr (.inr ())), (34, .inl (o_al 35 0)), (35, .inl (o_gf 38 6 1)), (38, .inl (o_gf 41 0 2)), (41, .inl (o_il 42 1)), (42, .inl (o_aa 43)), (43, .inl (o_il 44 2)), (44, .inl (o_il 45 3)), (45, .inl (o_iw 46)), (46, .inl (o_k 47 (vI (1)))), (47, .inr (.inr ()))]
def cd_48 : CD := [(0, .inl (o_al 1 0)), (1, .inl (o_gf 4 6 1)), (4, .inl (o_il 5 1)), (5, .inr (.inl (0, 2))), (8, .inl (o_if 27 11 q_eq)), (11, .inl (o_al 12 0)), (12, .inl (o_gf 15 6 1)), (15, .inl (o_il 16 2)), (16, .inr (.inl (0, 2))), (19, .inl (o_if 27 22 q_eq)), (22, .inl (o_il 23 1)), (23, .inl (o_il 24 2)), (24, .inl (o_ic 29 27 r_ne)), (27, .inl (o_k 28 (vI (0)))), (28, .inr (.inr ())), (29, .inl (o_al 30 0)), (30, .inl (o_gf 33 6 1)), (33, .inl (o_gf 36 0 1)), (36, .inl (o_il 37 1)), (37, .inl (o_al 38 0)), (38, .inl (o_gf 41 6 1)), (41, .inl (o_gf 44 0 1)), (44, .inl (o_il 45 1)), (45, .inl (o_ia 46)), (46, .inl (o_il 47 2)), (47, .inl (o_il 48 3)), (48, .inr (.inl (68, 3))), (51, .inl (o_iw 52)), (52, .inl (o_al 53 0)), (53, .inl (o_gf 56 6 1)), (56, .inl (o_gf 59 0 1)), (59, .inl (o_il 60 2)), (60, .inl (o_al 61 0)), (61, .inl (o_gf 64 6 1)), (64, .inl (o_gf 67 0 1)), (67, .inl (o_il 68 2)), (68, .inl (o_ia 69)), (69, .inl (o_il 70 1)), (70, .inl (o_il 71 3)), (71, .inr (.inl (68, 3))), (74, .inl (o_iw 75)), (75, .inl (o_k 76 (vI (1)))), (76, .inr (.inr ()))]
def cd_49 : CD := [(0, .inl (o_al 1 0)), (1, .inl (o_gf 4 6 1)), (4, .inl (o_il 5 1)), (5, .inr (.inl (0, 2))), (8, .inl (o_if 13 11 q_ne)), (11, .inl (o_k 12 (vI (0)))), (12, .inr (.inr ())), (13, .inl (o_al 14 0)), (14, .inl (o_gf 17 6 1)), (17, .inl (o_al 18 0)), (18, .inl (o_gf 21 6 1)), (21, .inl (o_gf 24 0 3)), (24, .inl (o_il 25 1)), (25, .inl (o_il 26 2)), (26, .inr (.inl (68, 3))), (29, .inl (o_pf 32 0 3)), (32, .inl (o_k 33 (vI (1)))), (33, .inr (.inr ()))]
def cd_50 : CD := [(0, .inl (o_k 1 (vI (-1)))), (1, .inl (o_is 2 3)), (2, .inl (o_il 3 1)), (3, .inl (o_if 35 6 q_ne)), (6, .inl (o_il 7 2)), (7, .inl (o_k 8 (vI (0)))), (8, .inl (o_k 10 (vI (12)))), (10, .inr (.inl (66, 3))), (13, .inl (o_if 35 16 q_eq)), (16, .inl (o_al 17 0)), (17, .inl (o_gf 20 6 0)), (20, .inl (o_gf 23 2 3)), (23, .inl (o_is 24 3)), (24, .inl (o_al 25 0)), (25, .inl (o_gf 28 6 0)), (28, .inl (o_il 29 2)), (29, .inl (o_pf 32 2 3)), (32, .inl (o_go 66)), (35, .inl (o_il 36 1)), (36, .inl (o_k 37 (vI (1)))), (37, .inl (o_ic 66 40 r_ne)), (40, .inl (o_il 41 2)), (41, .inl (o_k 42 (vI (0)))), (42, .inl (o_k 44 (vI (30)))), (44, .inr (.inl (66, 3))), (47, .inl (o_if 66 50 q_eq)), (50, .inl (o_al 51 0)), (51, .inl (o_gf 54 6 4)), (54, .inl (o_gf 57 3 10)), (57, .inl (o_is 58 3)), (58, .inl (o_al 59 0)), (59, .inl (o_gf 62 6 4)), (62, .inl (o_il 63 2)), (63, .inl (o_pf 66 3 10)), (66, .inl (o_il 67 3)), (67, .inr (.inr ()))]
def cd_51 : CD := [(0, .inl (o_il 1 1)), (1, .inl (o_k 2 (vI (1)))), (2, .inl (o_k 3 (vI (3)))), (3, .inr (.inl (66, 3))), (6, .inl (o_if 26 9 q_eq)), (9, .inl (o_il 10 2)), (10, .inl (o_k 11 (vI (1)))), (11, .inl (o_k 12 (vI (3)))), (12, .inr (.inl (66, 3))), (15, .inl (o_if 26 18 q_eq)), (18, .inl (o_il 19 1)), (19, .inl (o_il 20 2)), (20, .inl (o_ib 21 f_mul)), (21, .inl (o_k 23 (vI (6)))), (23, .inl (o_ic 28 26 r_le)), (26, .inl (o_k 27 (vI (0)))), (27, .inr (.inr ())), (28, .inl (o_al 29 0)), (29, .inl (o_gf 32 6 2)), (32, .inl (o_il 33 1)), (33, .inl (o_il 34 2)), (34, .inr (.inl (32, 3))), (37, .inl (o_k 38 (vI (1)))), (38, .inr (.inr ()))]
def cd_52 : CD := [(0, .inl (o_al 1 0)), (1, .inl (o_gf 4 6 0)), (4, .inl (o_il 5 1)), (5, .inr (.inl (8, 2))), (8, .inl (o_if 34 11 q_eq)), (11, .inl (o_al 12 0)), (12, .inl (o_gf 15 6 0)), (15, .inl (o_il 16 2)), (16, .inr (.inl (8, 2))), (19, .inl (o_if 34 22 q_eq)), (22, .inl (o_al 23 0)), (23, .inl (o_gf 26 6 0)), (26, .inl (o_il 27 1)), (27, .inl (o_il 28 2)), (28, .inr (.inl (10, 3))), (31, .inl (o_go 35)), (34, .inl (o_k 35 (vI (-1)))), (35, .inr (.inr ()))]
def cd_53 : CD := [(0, .inl (o_il 1 1)), (1, .inl (o_sw (f_sw 1 99 0 6 #[43, 51, 59, 67, 75, 83, 91]))), (44, .inl (o_al 45 0)), (45, .inl (o_gf 48 6 0)), (48, .inl (o_gf 51 2 2)), (51, .inr (.inr ())), (52, .inl (o_al 53 0)), (53, .inl (o_gf 56 6 1)), (56, .inl (o_gf 59 0 4)), (59, .inr (.inr ())), (60, .inl (o_al 61 0)), (61, .inl (o_gf 64 6 2)), (64, .inl (o_gf 67 5 6)), (67, .inr (.inr ())), (68, .inl (o_al 69 0)), (69, .inl (o_gf 72 6 2)), (72, .inr (.inl (37, 1))), (75, .inr (.inr ())), (76, .inl (o_al 77 0)), (77, .inl (o_gf 80 6 2)), (80, .inr (.inl (38, 1))), (83, .inr (.inr ())), (84, .inl (o_al 85 0)), (85, .inl (o_gf 88 6 4)), (88, .inl (o_gf 91 3 9)), (91, .inr (.inr ())), (92, .inl (o_al 93 0)), (93, .inl (o_gf 96 6 4)), (96, .inl (o_gf 99 3 11)), (99, .inr (.inr ())), (100, .inl (o_k 101 (vI (-1)))), (101, .inr (.inr ()))]
def cd_54 : CD := [(0, .inl (o_al 1 0)), (1, .inl (o_gf 4 6 2)), (4, .inl (o_il 5 1)), (5, .inr (.inl (33, 2))), (8, .inl (o_if 13 11 q_ne)), (11, .inl (o_k 12 (vI (0)))), (12, .inr (.inr ())), (13, .inl (o_il 14 2)), (14, .inl (o_k 15 (vI (-1)))), (15, .inl (o_ic 31 18 r_ne)), (18, .inl (o_al 19 0)), (19, .inl (o_gf 22 6 2)), (22, .inl (o_gf 25 5 2)), (25, .inl (o_il 26 1)), (26, .inl (o_k 28 (vI (36)))), (28, .inl (o_iw 29)), (29, .inl (o_k 30 (vI (1)))), (30, .inr (.inr ())), (31, .inl (o_al 32 0)), (32, .inl (o_gf 35 6 1)), (35, .inl (o_il 36 2)), (36, .inr (.inl (0, 2))), (39, .inl (o_if 53 42 q_eq)), (42, .inl (o_al 43 0)), (43, .inl (o_gf 46 6 0)), (46, .inl (o_il 47 3)), (47, .inr (.inl (8, 2))), (50, .inl (o_if 55 53 q_ne)), (53, .inl (o_k 54 (vI (0)))), (54, .inr (.inr ())), (55, .inl (o_al 56 0)), (56, .inl (o_gf 59 6 2)), (59, .inl (o_gf 62 5 2)), (62, .inl (o_il 63 1)), (63, .inl (o_il 64 2)), (64, .inl (o_k 66 (vI (6)))), (66, .inl (o_ib 67 f_mul)), (67, .inl (o_il 68 3)), (68, .inl (o_ib 69 f_add)), (69, .inl (o_iw 70)), (70, .inl (o_k 71 (vI (1)))), (71, .inr (.inr ()))]
def cd_55 : CD := [(0, .inl (o_al 1 0)), (1, .inl (o_gf 4 6 2)), (4, .inr (.inl (39, 1))), (7, .inr (.inr ()))]
def cd_56 : CD := [(0, .inl (o_al 1 0)), (1, .inl (o_gf 4 6 3)), (4, .inl (o_k 5 (vI (0)))), (5, .inr (.inl (23, 2))), (8, .inl (o_pop 9)), (9, .inl (o_al 10 0)), (10, .inl (o_gf 13 6 2)), (13, .inr (.inl (38, 1))), (16, .inr (.inr ()))]
def cd_57 : CD := [(0, .inl (o_al 1 0)), (1, .inl (o_gf 4 6 3)), (4, .inl (o_k 7 (vI (1000)))), (7, .inr (.inl (23, 2))), (10, .inr (.inr ()))]
def cd_58 : CD := [(0, .inl (o_al 1 0)), (1, .inl (o_gf 4 6 0)), (4, .inl (o_il 5 1)), (5, .inr (.inl (8, 2))), (8, .inl (o_if 31 11 q_eq)), (11, .inl (o_il 12 2)), (12, .inl (o_k 13 (vI (1)))), (13, .inl (o_k 15 (vI (90)))), (15, .inr (.inl (66, 3))), (18, .inl (o_if 31 21 q_eq)), (21, .inl (o_il 22 3)), (22, .inl (o_k 23 (vI (0)))), (23, .inl (o_k 25 (vI (100)))), (25, .inr (.inl (66, 3))), (28, .inl (o_if 33 31 q_ne)), (31, .inl (o_k 32 (vI (-1)))), (32, .inr (.inr ())), (33, .inl (o_al 34 0)), (34, .inl (o_gf 37 6 4)), (37, .inl (o_il 38 1)), (38, .inl (o_il 39 2)), (39, .inl (o_il 40 3)), (40, .inl (o_il 42 4)), (42, .inr (.inl (13, 5))), (45, .inr (.inr ()))]
def cd_59 : CD := [(0, .inl (o_al 1 0)), (1, .inl (o_gf 4 6 4)), (4, .inl (o_il 5 1)), (5, .inr (.inl (12, 2))), (8, .inl (o_if 22 11 q_eq)), (11, .inl (o_il 12 2)), (12, .inl (o_k 13 (vI (0)))), (13, .inl (o_k 16 (vI (400)))), (16, .inr (.inl (66, 3))), (19, .inl (o_if 24 22 q_ne)), (22, .inl (o_k 23 (vI (0)))), (23, .inr (.inr ())), (24, .inl (o_al 25 0)), (25, .inl (o_gf 28 6 4)), (28, .inl (o_gf 31 3 4)), (31, .inl (o_il 32 1)), (32, .inl (o_il 33 2)), (33, .inl (o_iw 34)), (34, .inl (o_k 35 (vI (1)))), (35, .inr (.inr ()))]
def cd_60 : CD := [(0, .inl (o_il 1 1)), (1, .inl (o_k 2 (vI (0)))), (2, .inl (o_k 5 (vI (400)))), (5, .inr (.inl (66, 3))), (8, .inl (o_if 22 11 q_eq)), (11, .inl (o_il 12 2)), (12, .inl (o_k 13 (vI (1)))), (13, .inl (o_k 16 (vI (300)))), (16, .inr (.inl (66, 3))), (19, .inl (o_if 24 22 q_ne)), (22, .inl (o_k 23 (vI (-1)))), (23, .inr (.inr ())), (24, .inl (o_al 25 0)), (25, .inl (o_gf 28 6 4)), (28, .inl (o_il 29 1)), (29, .inl (o_il 30 2)), (30, .inr (.inl (14, 3))), (33, .inr (.inr ()))]
def cd_61 : CD := [(0, .inl (o_il 1 1)), (1, .inl (o_k 2 (vI (0)))), (2, .inl (o_al 3 0)), (3, .inl (o_gf 6 6 4)), (6, .inl (o_gf 9 3 11)), (9, .inl (o_k 10 (vI (1)))), (10, .inl (o_ib 11 f_sub)), (11, .inr (.inl (66, 3))), (14, .inl (o_if 29 17 q_eq)), (17, .inl (o_al 18 0)), (18, .inl (o_gf 21 6 4)), (21, .inl (o_gf 24 3 6)), (24, .inl (o_il 25 1)), (25, .inl (o_ia 26)), (26, .inl (o_go 30)), (29, .inl (o_k 30 (vI (-1)))), (30, .inr (.inr ()))]
def cd_62 : CD := [(0, .inl (o_il 1 1)), (1, .inl (o_k 2 (vI (0)))), (2, .inl (o_k 4 (vI (6)))), (4, .inr (.inl (66, 3))), (7, .inl (o_if 21 10 q_eq)), (10, .inl (o_al 11 0)), (11, .inl (o_gf 14 6 1)), (14, .inl (o_il 15 2)), (15, .inr (.inl (0, 2))), (18, .inl (o_if 23 21 q_ne)), (21, .inl (o_k 22 (vI (-1)))), (22, .inr (.inr ())), (23, .inl (o_al 24 0)), (24, .inl (o_gf 27 6 5)), (27, .inl (o_il 28 1)), (28, .inl (o_il 29 2)), (29, .inr (.inl (2, 3))), (32, .inr (.inr ()))]
def cd_63 : CD := [(0, .inl (o_il 1 1)), (1, .inl (o_k 2 (vI (0)))), (2, .inl (o_k 4 (vI (6)))), (4, .inr (.inl (66, 3))), (7, .inl (o_if 21 10 q_eq)), (10, .inl (o_al 11 0)), (11, .inl (o_gf 14 6 1)), (14, .inl (o_il 15 2)), (15, .inr (.inl (0, 2))), (18, .inl (o_if 23 21 q_ne)), (21, .inl (o_k 22 (vI (0)))), (22, .inr (.inr ())), (23, .inl (o_al 24 0)), (24, .inl (o_gf 27 6 5)), (27, .inl (o_gf 30 1 3)), (30, .inl (o_il 31 1)), (31, .inl (o_al 32 0)), (32, .inl (o_gf 35 6 5)), (35, .inl (o_gf 38 1 3)), (38, .inl (o_il 39 1)), (39, .inl (o_ia 40)), (40, .inl (o_il 41 2)), (41, .inl (o_il 42 3)), (42, .inr (.inl (68, 3))), (45, .inl (o_iw 46)), (46, .inl (o_k 47 (vI (1)))), (47, .inr (.inr ()))]
def cd_64 : CD := [(0, .inl (o_al 1 0)), (1, .inl (o_gf 4 6 1)), (4, .inl (o_il 5 1)), (5, .inr (.inl (0, 2))), (8, .inl (o_if 22 11 q_eq)), (11, .inl (o_al 12 0)), (12, .inl (o_gf 15 6 5)), (15, .inl (o_il 16 1)), (16, .inr (.inl (3, 2))), (19, .inl (o_go 23)), (22, .inl (o_k 23 (vI (-1)))), (23, .inr (.inr ()))]
def cd_65 : CD := [(0, .inl (o_al 1 0)), (1, .inl (o_gf 4 6 1)), (4, .inl (o_il 5 1)), (5, .inr (.inl (0, 2))), (8, .inl (o_if 22 11 q_eq)), (11, .inl (o_al 12 0)), (12, .inl (o_gf 15 6 5)), (15, .inl (o_il 16 1)), (16, .inr (.inl (5, 2))), (19, .inl (o_go 23)), (22, .inl (o_k 23 (vI (-1)))), (23, .inr (.inr ()))]
def cd_66 : CD := [(0, .inl (o_il 1 0)), (1, .inl (o_il 2 1)), (2, .inl (o_ic 14 5 r_lt)), (5, .inl (o_il 6 0)), (6, .inl (o_il 7 2)), (7, .inl (o_ic 14 10 r_gt)), (10, .inl (o_k 11 (vI (1)))), (11, .inl (o_go 15)), (14, .inl (o_k 15 (vI (0)))), (15, .inr (.inr ()))]
def cd_67 : CD := [(0, .inl (o_il 1 0)), (1, .inl (o_il 2 1)), (2, .inl (o_ib 3 f_shr)), (3, .inl (o_k 4 (vI (1)))), (4, .inl (o_ib 5 f_and)), (5, .inl (o_if 12 8 q_eq)), (8, .inl (o_k 9 (vI (1)))), (9, .inl (o_go 13)), (12, .inl (o_k 13 (vI (0)))), (13, .inr (.inr ()))]
def cd_68 : CD := [(0, .inl (o_il 1 2)), (1, .inl (o_if 12 4 q_eq)), (4, .inl (o_il 5 0)), (5, .inl (o_k 6 (vI (1)))), (6, .inl (o_il 7 1)), (7, .inl (o_ib 8 f_shl)), (8, .inl (o_ib 9 f_or)), (9, .inl (o_go 19)), (12, .inl (o_il 13 0)), (13, .inl (o_k 14 (vI (1)))), (14, .inl (o_il 15 1)), (15, .inl (o_ib 16 f_shl)), (16, .inl (o_k 17 (vI (-1)))), (17, .inl (o_ib 18 f_xor)), (18, .inl (o_ib 19 f_and)), (19, .inr (.inr ()))]
def cd_69 : CD := [(0, .inl (o_al 1 0)), (1, .inl (o_gf 4 7 25)), (4, .inr (.inr ()))]
def cd_70 : CD := [(0, .inl (o_il 1 0)), (1, .inl (o_il 2 1)), (2, .inl (o_ic 14 5 r_lt)), (5, .inl (o_il 6 0)), (6, .inl (o_il 7 2)), (7, .inl (o_ic 14 10 r_gt)), (10, .inl (o_k 11 (vI (1)))), (11, .inl (o_go 15)), (14, .inl (o_k 15 (vI (0)))), (15, .inr (.inr ()))]
def cd_71 : CD := [(0, .inl (o_k 1 (vI (0)))), (1, .inl (o_is 2 1)), (2, .inl (o_il 3 1)), (3, .inl (o_k 5 (vI (6)))), (5, .inl (o_ic 28 8 r_ge)), (8, .inl (o_al 9 0)), (9, .inl (o_gf 12 7 12)), (12, .inl (o_il 13 1)), (13, .inl (o_k 14 (vI (-1)))), (14, .inl (o_iw 15)), (15, .inl (o_al 16 0)), (16, .inl (o_gf 19 7 13)), (19, .inl (o_il 20 1)), (20, .inl (o_k 21 (vI (-1)))), (21, .inl (o_iw 22)), (22, .inl (o_ii 25 1 (1))), (25, .inl (o_go 2)), (28, .inr (.inr ()))]
def cd_72 : CD := [(0, .inl (o_il 1 1)), (1, .inl (o_k 2 (vI (0)))), (2, .inl (o_al 3 0)), (3, .inl (o_gf 6 7 2)), (6, .inl (o_k 7 (vI (1)))), (7, .inl (o_ib 8 f_sub)), (8, .inr (.inl (70, 3))), (11, .inr (.inr ()))]
def cd_73 : CD := [(0, .inl (o_il 1 1)), (1, .inl (o_k 2 (vI (0)))), (2, .inl (o_al 3 0)), (3, .inl (o_gf 6 7 7)), (6, .inl (o_k 7 (vI (1)))), (7, .inl (o_ib 8 f_sub)), (8, .inr (.inl (70, 3))), (11, .inr (.inr ()))]
def cd_74 : CD := [(0, .inl (o_al 1 0)), (1, .inl (o_k 2 (vI (0)))), (2, .inl (o_pf 5 7 25)), (5, .inl (o_il 6 1)), (6, .inl (o_k 7 (vI (0)))), (7, .inl (o_k 10 (vI (4095)))), (10, .inr (.inl (70, 3))), (13, .inl (o_if 35 16 q_eq)), (16, .inl (o_il 17 2)), (17, .inl (o_k 18 (vI (0)))), (18, .inl (o_k 20 (vI (15)))), (20, .inr (.inl (70, 3))), (23, .inl (o_if 35 26 q_eq)), (26, .inl (o_al 27 0)), (27, .inl (o_gf 30 7 2)), (30, .inl (o_k 32 (vI (6)))), (32, .inl (o_ic 37 35 r_ne)), (35, .inl (o_k 36 (vI (-1)))), (36, .inr (.inr ())), (37, .inl (o_al 38 0)), (38, .inl (o_gf 41 7 0)), (41, .inl (o_al 42 0)), (42, .inl (o_gf 45 7 2)), (45, .inl (o_il 46 1)), (46, .inl (o_iw 47)), (47, .inl (o_al 48 0)), (48, .inl (o_gf 51 7 1)), (51, .inl (o_al 52 0)), (52, .inl (o_gf 55 7 2)), (55, .inl (o_il 56 2)), (56, .inl (o_iw 57)), (57, .inl (o_al 58 0)), (58, .inl (o_dup 59)), (59, .inl (o_gf 62 7 2)), (62, .inl (o_k 63 (vI (1)))), (63, .inl (o_ib 64 f_add)), (64, .inl (o_pf 67 7 2)), (67, .inl (o_al 68 0)), (68, .inl (o_gf 71 7 2)), (71, .inl (o_k 72 (vI (1)))), (72, .inl (o_ib 73 f_sub)), (73, .inr (.inr ()))]
def cd_75 : CD := [(0, .inl (o_al 1 0)), (1, .inl (o_k 2 (vI (0)))), (2, .inl (o_pf 5 7 25)), (5, .inl (o_il 6 1)), (6, .inl (o_k 7 (vI (1)))), (7, .inl (o_k 9 (vI (9)))), (9, .inr (.inl (70, 3))), (12, .inl (o_if 24 15 q_eq)), (15, .inl (o_al 16 0)), (16, .inl (o_gf 19 7 7)), (19, .inl (o_k 21 (vI (6)))), (21, .inl (o_ic 26 24 r_ne)), (24, .inl (o_k 25 (vI (-1)))), (25, .inr (.inr ())), (26, .inl (o_al 27 0)), (27, .inl (o_gf 30 7 3)), (30, .inl (o_al 31 0)), (31, .inl (o_gf 34 7 7)), (34, .inl (o_il 35 1)), (35, .inl (o_iw 36)), (36, .inl (o_al 37 0)), (37, .inl (o_dup 38)), (38, .inl (o_gf 41 7 7)), (41, .inl (o_k 42 (vI (1)))), (42, .inl (o_ib 43 f_add)), (43, .inl (o_pf 46 7 7)), (46, .inl (o_al 47 0)), (47, .inl (o_gf 50 7 7)), (50, .inl (o_k 51 (vI (1)))), (51, .inl (o_ib 52 f_sub)), (52, .inr (.inr ()))]
def cd_76 : CD := [(0, .inl (o_al 1 0)), (1, .inl (o_k 2 (vI (0)))), (2, .inl (o_pf 5 7 25)), (5, .inl (o_al 6 0)), (6, .inl (o_il 7 1)), (7, .inr (.inl (73, 2))), (10, .inl (o_if 31 13 q_eq)), (13, .inl (o_al 14 0)), (14, .inl (o_il 15 2)), (15, .inr (.inl (72, 2))), (18, .inl (o_if 31 21 q_eq)), (21, .inl (o_il 22 3)), (22, .inl (o_k 23 (vI (0)))), (23, .inl (o_k 25 (vI (100)))), (25, .inr (.inl (70, 3))), (28, .inl (o_if 33 31 q_ne)), (31, .inl (o_k 32 (vI (0)))), (32, .inr (.inr ())), (33, .inl (o_al 34 0)), (34, .inl (o_gf 37 7 5)), (37, .inl (o_k 39 (vI (6)))), (39, .inl (o_il 40 1)), (40, .inl (o_ib 41 f_mul)), (41, .inl (o_il 42 2)), (42, .inl (o_ib 43 f_add)), (43, .inl (o_il 44 3)), (44, .inl (o_iw 45)), (45, .inl (o_k 46 (vI (1)))), (46, .inr (.inr ()))]
def cd_77 : CD := [(0, .inl (o_al 1 0)), (1, .inl (o_k 2 (vI (0)))), (2, .inl (o_pf 5 7 25)), (5, .inl (o_al 6 0)), (6, .inl (o_il 7 1)), (7, .inr (.inl (73, 2))), (10, .inl (o_if 26 13 q_eq)), (13, .inl (o_al 14 0)), (14, .inl (o_il 15 2)), (15, .inr (.inl (73, 2))), (18, .inl (o_if 26 21 q_eq)), (21, .inl (o_il 22 1)), (22, .inl (o_il 23 2)), (23, .inl (o_ic 28 26 r_ne)), (26, .inl (o_k 27 (vI (0)))), (27, .inr (.inr ())), (28, .inl (o_al 29 0)), (29, .inl (o_gf 32 7 6)), (32, .inl (o_k 34 (vI (6)))), (34, .inl (o_il 35 1)), (35, .inl (o_ib 36 f_mul)), (36, .inl (o_il 37 2)), (37, .inl (o_ib 38 f_add)), (38, .inl (o_il 39 3)), (39, .inl (o_bw 40)), (40, .inl (o_al 41 0)), (41, .inl (o_gf 44 7 6)), (44, .inl (o_k 46 (vI (6)))), (46, .inl (o_il 47 2)), (47, .inl (o_ib 48 f_mul)), (48, .inl (o_il 49 1)), (49, .inl (o_ib 50 f_add)), (50, .inl (o_il 51 3)), (51, .inl (o_bw 52)), (52, .inl (o_k 53 (vI (1)))), (53, .inr (.inr ()))]
def cd_78 : CD := [(0, .inl (o_al 1 0)), (1, .inl (o_k 2 (vI (0)))), (2, .inl (o_pf 5 7 25)), (5, .inl (o_al 6 0)), (6, .inl (o_il 7 1)), (7, .inr (.inl (73, 2))), (10, .inl (o_if 15 13 q_ne)), (13, .inl (o_k 14 (vI (0)))), (14, .inr (.inr ())), (15, .inl (o_al 16 0)), (16, .inl (o_gf 19 7 4)), (19, .inl (o_il 20 1)), (20, .inl (o_il 21 2)), (21, .inl (o_bw 22)), (22, .inl (o_k 23 (vI (1)))), (23, .inr (.inr ()))]
def cd_79 : CD := [(0, .inl (o_al 1 0)), (1, .inl (o_k 2 (vI (0)))), (2, .inl (o_pf 5 7 25)), (5, .inl (o_il 6 1)), (6, .inl (o_k 7 (vI (0)))), (7, .inl (o_k 8 (vI (1)))), (8, .inr (.inl (70, 3))), (11, .inl (o_if 33 14 q_eq)), (14, .inl (o_il 15 2)), (15, .inl (o_k 16 (vI (0)))), (16, .inl (o_il 17 1)), (17, .inl (o_if 25 20 q_ne)), (20, .inl (o_k 22 (vI (12)))), (22, .inl (o_go 27)), (25, .inl (o_k 27 (vI (30)))), (27, .inr (.inl (70, 3))), (30, .inl (o_if 35 33 q_ne)), (33, .inl (o_k 34 (vI (-1)))), (34, .inr (.inr ())), (35, .inl (o_il 36 1)), (36, .inl (o_if 46 39 q_ne)), (39, .inl (o_al 40 0)), (40, .inl (o_gf 43 7 8)), (43, .inl (o_go 50)), (46, .inl (o_al 47 0)), (47, .inl (o_gf 50 7 9)), (50, .inl (o_is 51 3)), (51, .inl (o_il 52 1)), (52, .inl (o_if 63 55 q_ne)), (55, .inl (o_al 56 0)), (56, .inl (o_il 57 2)), (57, .inl (o_pf 60 7 8)), (60, .inl (o_go 68)), (63, .inl (o_al 64 0)), (64, .inl (o_il 65 2)), (65, .inl (o_pf 68 7 9)), (68, .inl (o_il 69 3)), (69, .inr (.inr ()))]
def cd_80 : CD := [(0, .inl (o_al 1 0)), (1, .inl (o_k 2 (vI (0)))), (2, .inl (o_pf 5 7 25)), (5, .inl (o_il 6 1)), (6, .inl (o_k 7 (vI (1)))), (7, .inl (o_k 8 (vI (3)))), (8, .inr (.inl (70, 3))), (11, .inl (o_if 31 14 q_eq)), (14, .inl (o_il 15 2)), (15, .inl (o_k 16 (vI (1)))), (16, .inl (o_k 17 (vI (3)))), (17, .inr (.inl (70, 3))), (20, .inl (o_if 31 23 q_eq)), (23, .inl (o_il 24 1)), (24, .inl (o_il 25 2)), (25, .inl (o_ib 26 f_mul)), (26, .inl (o_k 28 (vI (6)))), (28, .inl (o_ic 33 31 r_le)), (31, .inl (o_k 32 (vI (0)))), (32, .inr (.inr ())), (33, .inl (o_al 34 0)), (34, .inl (o_il 35 1)), (35, .inl (o_pf 38 7 10)), (38, .inl (o_al 39 0)), (39, .inl (o_il 40 2)), (40, .inl (o_pf 43 7 11)), (43, .inl (o_al 44 0)), (44, .inr (.inl (71, 1))), (47, .inl (o_k 48 (vI (1)))), (48, .inr (.inr ()))]
def cd_81 : CD := [(0, .inl (o_al 1 0)), (1, .inl (o_gf 4 7 0)), (4, .inl (o_il 5 1)), (5, .inl (o_ia 6)), (6, .inl (o_al 7 0)), (7, .inl (o_gf 10 7 0)), (10, .inl (o_il 11 2)), (11, .inl (o_ia 12)), (12, .inl (o_ib 13 f_and)), (13, .inr (.inl (112, 1))), (16, .inr (.inr ()))]
def cd_82 : CD := [(0, .inl (o_al 1 0)), (1, .inl (o_k 2 (vI (0)))), (2, .inl (o_pf 5 7 25)), (5, .inl (o_al 6 0)), (6, .inl (o_il 7 1)), (7, .inr (.inl (72, 2))), (10, .inl (o_if 30 13 q_eq)), (13, .inl (o_al 14 0)), (14, .inl (o_il 15 2)), (15, .inr (.inl (72, 2))), (18, .inl (o_if 30 21 q_eq)), (21, .inl (o_al 22 0)), (22, .inl (o_il 23 1)), (23, .inl (o_il 24 2)), (24, .inr (.inl (81, 3))), (27, .inl (o_go 31)), (30, .inl (o_k 31 (vI (-1)))), (31, .inr (.inr ()))]
def cd_83 : CD := [(0, .inl (o_al 1 0)), (1, .inl (o_gf 4 7 10)), (4, .inl (o_al 5 0)), (5, .inl (o_gf 8 7 11)), (8, .inl (o_ib 9 f_mul)), (9, .inr (.inr ()))]
def cd_84 : CD := [(0, .inl (o_al 1 0)), (1, .inl (o_k 2 (vI (0)))), (2, .inl (o_pf 5 7 25)), (5, .inl (o_k 6 (vI (0)))), (6, .inl (o_is 7 2)), (7, .inl (o_il 8 1)), (8, .inl (o_sw (f_sw 8 152 0 6 #[44, 49, 54, 59, 90, 142, 147]))), (52, .inl (o_al 53 0)), (53, .inl (o_gf 56 7 2)), (56, .inr (.inr ())), (57, .inl (o_al 58 0)), (58, .inl (o_gf 61 7 7)), (61, .inr (.inr ())), (62, .inl (o_al 63 0)), (63, .inr (.inl (83, 1))), (66, .inr (.inr ())), (67, .inl (o_k 68 (vI (0)))), (68, .inl (o_is 69 3)), (69, .inl (o_il 70 3)), (70, .inl (o_al 71 0)), (71, .inr (.inl (83, 1))), (74, .inl (o_ic 96 77 r_ge)), (77, .inl (o_al 78 0)), (78, .inl (o_gf 81 7 12)), (81, .inl (o_il 82 3)), (82, .inl (o_ia 83)), (83, .inl (o_k 84 (vI (-1)))), (84, .inl (o_ic 90 87 r_eq)), (87, .inl (o_ii 90 2 (1))), (90, .inl (o_ii 93 3 (1))), (93, .inl (o_go 69)), (96, .inl (o_il 97 2)), (97, .inr (.inr ())), (98, .inl (o_k 99 (vI (0)))), (99, .inl (o_is 100 3)), (100, .inl (o_il 101 3)), (101, .inl (o_al 102 0)), (102, .inr (.inl (83, 1))), (105, .inl (o_ic 148 108 r_ge)), (108, .inl (o_al 109 0)), (109, .inl (o_gf 112 7 12)), (112, .inl (o_il 113 3)), (113, .inl (o_ia 114)), (114, .inl (o_k 115 (vI (-1)))), (115, .inl (o_ic 142 118 r_eq)), (118, .inl (o_il 119 2)), (119, .inl (o_al 120 0)), (120, .inl (o_gf 123 7 5)), (123, .inl (o_k 125 (vI (6)))), (125, .inl (o_al 126 0)), (126, .inl (o_gf 129 7 12)), (129, .inl (o_il 130 3)), (130, .inl (o_ia 131)), (131, .inl (o_ib 132 f_mul)), (132, .inl (o_al 133 0)), (133, .inl (o_gf 136 7 13)), (136, .inl (o_il 137 3)), (137, .inl (o_ia 138)), (138, .inl (o_ib 139 f_add)), (139, .inl (o_ia 140)), (140, .inl (o_ib 141 f_add)), (141, .inl (o_is 142 2)), (142, .inl (o_ii 145 3 (1))), (145, .inl (o_go 100)), (148, .inl (o_il 149 2)), (149, .inr (.inr ())), (150, .inl (o_al 151 0)), (151, .inl (o_gf 154 7 19)), (154, .inr (.inr ())), (155, .inl (o_al 156 0)), (156, .inl (o_gf 159 7 21)), (159, .inr (.inr ())), (160, .inl (o_k 161 (vI (-1)))), (161, .inr (.inr ()))]
def cd_85 : CD := [(0, .inl (o_al 1 0)), (1, .inl (o_k 2 (vI (0)))), (2, .inl (o_pf 5 7 25)), (5, .inl (o_il 6 1)), (6, .inl (o_k 7 (vI (0)))), (7, .inl (o_al 8 0)), (8, .inr (.inl (83, 1))), (11, .inl (o_k 12 (vI (1)))), (12, .inl (o_ib 13 f_sub)), (13, .inr (.inl (70, 3))), (16, .inl (o_if 40 19 q_eq)), (19, .inl (o_il 20 2)), (20, .inl (o_k 21 (vI (-1)))), (21, .inl (o_ic 42 24 r_eq)), (24, .inl (o_al 25 0)), (25, .inl (o_il 26 2)), (26, .inr (.inl (73, 2))), (29, .inl (o_if 40 32 q_eq)), (32, .inl (o_al 33 0)), (33, .inl (o_il 34 3)), (34, .inr (.inl (72, 2))), (37, .inl (o_if 42 40 q_ne)), (40, .inl (o_k 41 (vI (0)))), (41, .inr (.inr ())), (42, .inl (o_al 43 0)), (43, .inl (o_gf 46 7 12)), (46, .inl (o_il 47 1)), (47, .inl (o_il 48 2)), (48, .inl (o_iw 49)), (49, .inl (o_al 50 0)), (50, .inl (o_gf 53 7 13)), (53, .inl (o_il 54 1)), (54, .inl (o_il 55 2)), (55, .inl (o_k 56 (vI (-1)))), (56, .inl (o_ic 63 59 r_ne)), (59, .inl (o_k 60 (vI (-1)))), (60, .inl (o_go 64)), (63, .inl (o_il 64 3)), (64, .inl (o_iw 65)), (65, .inl (o_k 66 (vI (1)))), (66, .inr (.inr ()))]
def cd_86 : CD := [(0, .inl (o_al 1 0)), (1, .inl (o_k 2 (vI (0)))), (2, .inl (o_pf 5 7 25)), (5, .inl (o_il 6 1)), (6, .inl (o_k 7 (vI (0)))), (7, .inl (o_al 8 0)), (8, .inr (.inl (83, 1))), (11, .inl (o_k 12 (vI (1)))), (12, .inl (o_ib 13 f_sub)), (13, .inr (.inl (70, 3))), (16, .inl (o_if 28 19 q_eq)), (19, .inl (o_il 20 2)), (20, .inl (o_k 21 (vI (0)))), (21, .inl (o_k 22 (vI (1)))), (22, .inr (.inl (70, 3))), (25, .inl (o_if 35 28 q_ne)), (28, .inl (o_al 29 0)), (29, .inl (o_k 30 (vI (1)))), (30, .inl (o_pf 33 7 25)), (33, .inl (o_k 34 (vI (0)))), (34, .inr (.inr ())), (35, .inl (o_il 36 2)), (36, .inl (o_if 48 39 q_ne)), (39, .inl (o_al 40 0)), (40, .inl (o_gf 43 7 12)), (43, .inl (o_il 44 1)), (44, .inl (o_ia 45)), (45, .inl (o_go 54)), (48, .inl (o_al 49 0)), (49, .inl (o_gf 52 7 13)), (52, .inl (o_il 53 1)), (53, .inl (o_ia 54)), (54, .inr (.inr ()))]
def cd_87 : CD := [(0, .inl (o_al 1 0)), (1, .inl (o_gf 4 7 12)), (4, .inl (o_il 5 2)), (5, .inl (o_ia 6)), (6, .inl (o_is 7 3)), (7, .inl (o_al 8 0)), (8, .inl (o_gf 11 7 13)), (11, .inl (o_il 12 2)), (12, .inl (o_ia 13)), (13, .inl (o_is 15 4)), (15, .inl (o_il 16 2)), (16, .inl (o_al 17 0)), (17, .inl (o_gf 20 7 11)), (20, .inl (o_id 21 f_div)), (21, .inl (o_al 22 0)), (22, .inl (o_gf 25 7 11)), (25, .inl (o_ib 26 f_mul)), (26, .inl (o_is 28 5)), (28, .inl (o_il 29 1)), (29, .inl (o_sw (f_sw 29 272 0 6 #[43, 50, 80, 101, 126, 169, 221]))), (72, .inl (o_al 73 0)), (73, .inl (o_gf 76 7 4)), (76, .inl (o_il 77 3)), (77, .inl (o_ba 78)), (78, .inr (.inr ())), (79, .inl (o_k 80 (vI (0)))), (80, .inl (o_is 82 6)), (82, .inl (o_il 84 6)), (84, .inl (o_il 85 2)), (85, .inl (o_ic 107 88 r_ge)), (88, .inl (o_al 89 0)), (89, .inl (o_gf 92 7 12)), (92, .inl (o_il 94 6)), (94, .inl (o_ia 95)), (95, .inl (o_il 96 3)), (96, .inl (o_ic 101 99 r_ne)), (99, .inl (o_k 100 (vI (1)))), (100, .inr (.inr ())), (101, .inl (o_ii 104 6 (1))), (104, .inl (o_go 82)), (107, .inl (o_k 108 (vI (0)))), (108, .inr (.inr ())), (109, .inl (o_al 110 0)), (110, .inl (o_gf 113 7 5)), (113, .inl (o_k 115 (vI (6)))), (115, .inl (o_il 116 3)), (116, .inl (o_ib 117 f_mul)), (117, .inl (o_il 119 4)), (119, .inl (o_ib 120 f_add)), (120, .inl (o_ia 121)), (121, .inl (o_if 128 124 q_ne)), (124, .inl (o_k 125 (vI (1)))), (125, .inl (o_go 129)), (128, .inl (o_k 129 (vI (0)))), (129, .inr (.inr ())), (130, .inl (o_al 131 0)), (131, .inl (o_gf 134 7 1)), (134, .inl (o_il 136 4)), (136, .inl (o_ia 137)), (137, .inl (o_il 138 2)), (138, .inl (o_al 139 0)), (139, .inl (o_gf 142 7 11)), (142, .inl (o_id 143 f_rem)), (143, .inl (o_ib 144 f_shr)), (144, .inl (o_k 145 (vI (1)))), (145, .inl (o_ib 146 f_and)), (146, .inl (o_if 153 149 q_ne)), (149, .inl (o_k 150 (vI (1)))), (150, .inl (o_go 154)), (153, .inl (o_k 154 (vI (0)))), (154, .inr (.inr ())), (155, .inl (o_il 157 5)), (157, .inl (o_is 159 6)), (159, .inl (o_il 161 6)), (161, .inl (o_il 162 2)), (162, .inl (o_ic 196 165 r_ge)), (165, .inl (o_al 166 0)), (166, .inl (o_gf 169 7 12)), (169, .inl (o_il 171 6)), (171, .inl (o_ia 172)), (172, .inl (o_k 173 (vI (-1)))), (173, .inl (o_ic 190 176 r_eq)), (176, .inl (o_al 177 0)), (177, .inl (o_gf 180 7 13)), (180, .inl (o_il 182 6)), (182, .inl (o_ia 183)), (183, .inl (o_il 185 4)), (185, .inl (o_ic 190 188 r_ne)), (188, .inl (o_k 189 (vI (1)))), (189, .inr (.inr ())), (190, .inl (o_ii 193 6 (1))), (193, .inl (o_go 159)), (196, .inl (o_k 197 (vI (0)))), (197, .inr (.inr ())), (198, .inl (o_il 200 5)), (200, .inl (o_is 202 6)), (202, .inl (o_il 204 6)), (204, .inl (o_il 205 2)), (205, .inl (o_ic 248 208 r_ge)), (208, .inl (o_al 209 0)), (209, .inl (o_gf 212 7 12)), (212, .inl (o_il 214 6)), (214, .inl (o_ia 215)), (215, .inl (o_k 216 (vI (-1)))), (216, .inl (o_ic 242 219 r_eq)), (219, .inl (o_al 220 0)), (220, .inl (o_gf 223 7 3)), (223, .inl (o_al 224 0)), (224, .inl (o_gf 227 7 12)), (227, .inl (o_il 229 6)), (229, .inl (o_ia 230)), (230, .inl (o_ia 231)), (231, .inl (o_al 232 0)), (232, .inl (o_gf 235 7 3)), (235, .inl (o_il 236 3)), (236, .inl (o_ia 237)), (237, .inl (o_ic 242 240 r_le)), (240, .inl (o_k 241 (vI (1)))), (241, .inr (.inr ())), (242, .inl (o_ii 245 6 (1))), (245, .inl (o_go 202)), (248, .inl (o_k 249 (vI (0)))), (249, .inr (.inr ())), (250, .inl (o_il 252 5)), (252, .inl (o_is 254 6)), (254, .inl (o_il 256 6)), (256, .inl (o_il 257 2)), (257, .inl (o_ic 299 260 r_ge)), (260, .inl (o_al 261 0)), (261, .inl (o_gf 264 7 12)), (264, .inl (o_il 266 6)), (266, .inl (o_ia 267)), (267, .inl (o_k 268 (vI (-1)))), (268, .inl (o_ic 293 271 r_eq)), (271, .inl (o_al 272 0)), (272, .inl (o_gf 275 7 6)), (275, .inl (o_k 277 (vI (6)))), (277, .inl (o_al 278 0)), (278, .inl (o_gf 281 7 12)), (281, .inl (o_il 283 6)), (283, .inl (o_ia 284)), (284, .inl (o_ib 285 f_mul)), (285, .inl (o_il 286 3)), (286, .inl (o_ib 287 f_add)), (287, .inl (o_ba 288)), (288, .inl (o_if 293 291 q_eq)), (291, .inl (o_k 292 (vI (1)))), (292, .inr (.inr ())), (293, .inl (o_ii 296 6 (1))), (296, .inl (o_go 254)), (299, .inl (o_k 300 (vI (0)))), (300, .inr (.inr ())), (301, .inl (o_il 302 2)), (302, .inl (o_k 303 (vI (1)))), (303, .inl (o_ib 304 f_sub)), (304, .inl (o_is 306 6)), (306, .inl (o_il 308 6)), (308, .inl (o_il 310 5)), (310, .inl (o_ic 356 313 r_lt)), (313, .inl (o_al 314 0)), (314, .inl (o_gf 317 7 12)), (317, .inl (o_il 319 6)), (319, .inl (o_ia 320)), (320, .inl (o_k 321 (vI (-1)))), (321, .inl (o_ic 350 324 r_eq)), (324, .inl (o_al 325 0)), (325, .inl (o_al 326 0)), (326, .inl (o_gf 329 7 13)), (329, .inl (o_il 331 6)), (331, .inl (o_ia 332)), (332, .inl (o_il 334 4)), (334, .inr (.inl (81, 3))), (337, .inl (o_al 338 0)), (338, .inl (o_gf 341 7 8)), (341, .inl (o_ic 348 344 r_le)), (344, .inl (o_k 345 (vI (1)))), (345, .inl (o_go 349)), (348, .inl (o_k 349 (vI (0)))), (349, .inr (.inr ())), (350, .inl (o_ii 353 6 (-1))), (353, .inl (o_go 306)), (356, .inl (o_k 357 (vI (0)))), (357, .inr (.inr ()))]
def cd_88 : CD := [(0, .inl (o_al 1 0)), (1, .inl (o_k 2 (vI (0)))), (2, .inl (o_pf 5 7 25)), (5, .inl (o_k 6 (vI (0)))), (6, .inl (o_is 7 1)), (7, .inl (o_il 8 1)), (8, .inl (o_k 10 (vI (8)))), (10, .inl (o_ic 63 13 r_ge)), (13, .inl (o_k 14 (vI (0)))), (14, .inl (o_is 15 2)), (15, .inl (o_il 16 2)), (16, .inl (o_al 17 0)), (17, .inr (.inl (83, 1))), (20, .inl (o_ic 57 23 r_ge)), (23, .inl (o_al 24 0)), (24, .inl (o_gf 27 7 12)), (27, .inl (o_il 28 2)), (28, .inl (o_ia 29)), (29, .inl (o_k 30 (vI (-1)))), (30, .inl (o_ic 51 33 r_eq)), (33, .inl (o_al 34 0)), (34, .inl (o_il 35 1)), (35, .inl (o_il 36 2)), (36, .inr (.inl (87, 3))), (39, .inl (o_if 51 42 q_eq)), (42, .inl (o_k 44 (vI (10)))), (44, .inl (o_il 45 1)), (45, .inl (o_k 46 (vI (1)))), (46, .inl (o_ib 47 f_add)), (47, .inl (o_ib 48 f_mul)), (48, .inl (o_il 49 2)), (49, .inl (o_ib 50 f_add)), (50, .inr (.inr ())), (51, .inl (o_ii 54 2 (1))), (54, .inl (o_go 15)), (57, .inl (o_ii 60 1 (1))), (60, .inl (o_go 7)), (63, .inl (o_k 64 (vI (0)))), (64, .inr (.inr ()))]
def cd_89 : CD := [(0, .inl (o_il 1 2)), (1, .inl (o_al 2 0)), (2, .inl (o_gf 5 7 11)), (5, .inl (o_ic 109 8 r_ne)), (8, .inl (o_k 10 (vI (64)))), (10, .inl (o_il 11 1)), (11, .inl (o_ib 12 f_mul)), (12, .inl (o_il 13 3)), (13, .inl (o_ib 14 f_add)), (14, .inl (o_is 16 6)), (16, .inl (o_il 18 4)), (18, .inl (o_al 19 0)), (19, .inl (o_gf 22 7 28)), (22, .inl (o_il 24 6)), (24, .inl (o_ia 25)), (25, .inl (o_ic 29 28 r_gt)), (28, .inr (.inr ())), (29, .inl (o_al 30 0)), (30, .inl (o_gf 33 7 28)), (33, .inl (o_il 35 6)), (35, .inl (o_il 37 4)), (37, .inl (o_iw 38)), (38, .inl (o_k 39 (vI (0)))), (39, .inl (o_is 41 7)), (41, .inl (o_il 43 7)), (43, .inl (o_al 44 0)), (44, .inl (o_gf 47 7 11)), (47, .inl (o_ic 108 50 r_ge)), (50, .inl (o_al 51 0)), (51, .inl (o_gf 54 7 29)), (54, .inl (o_k 55 (vI (3)))), (55, .inl (o_il 57 6)), (57, .inl (o_ib 58 f_mul)), (58, .inl (o_il 60 7)), (60, .inl (o_ib 61 f_add)), (61, .inl (o_al 62 0)), (62, .inl (o_gf 65 7 12)), (65, .inl (o_al 66 0)), (66, .inl (o_gf 69 7 11)), (69, .inl (o_il 70 1)), (70, .inl (o_ib 71 f_mul)), (71, .inl (o_il 73 7)), (73, .inl (o_ib 74 f_add)), (74, .inl (o_ia 75)), (75, .inl (o_iw 76)), (76, .inl (o_al 77 0)), (77, .inl (o_gf 80 7 30)), (80, .inl (o_k 81 (vI (3)))), (81, .inl (o_il 83 6)), (83, .inl (o_ib 84 f_mul)), (84, .inl (o_il 86 7)), (86, .inl (o_ib 87 f_add)), (87, .inl (o_al 88 0)), (88, .inl (o_gf 91 7 13)), (91, .inl (o_al 92 0)), (92, .inl (o_gf 95 7 11)), (95, .inl (o_il 96 1)), (96, .inl (o_ib 97 f_mul)), (97, .inl (o_il 99 7)), (99, .inl (o_ib 100 f_add)), (100, .inl (o_ia 101)), (101, .inl (o_iw 102)), (102, .inl (o_ii 105 7 (1))), (105, .inl (o_go 41)), (108, .inr (.inr ())), (109, .inl (o_al 110 0)), (110, .inl (o_gf 113 7 11)), (113, .inl (o_il 114 1)), (114, .inl (o_ib 115 f_mul)), (115, .inl (o_il 116 2)), (116, .inl (o_ib 117 f_add)), (117, .inl (o_is 119 6)), (119, .inl (o_k 120 (vI (0)))), (120, .inl (o_is 122 7)), (122, .inl (o_il 124 7)), (124, .inl (o_al 125 0)), (125, .inl (o_gf 128 7 7)), (128, .inl (o_ic 315 131 r_ge)), (131, .inl (o_il 132 3)), (132, .inl (o_il 134 7)), (134, .inl (o_ib 135 f_shr)), (135, .inl (o_k 136 (vI (1)))), (136, .inl (o_ib 137 f_and)), (137, .inl (o_k 138 (vI (1)))), (138, .inl (o_ic 144 141 r_ne)), (141, .inl (o_go 309)), (144, .inl (o_k 145 (vI (0)))), (145, .inl (o_is 147 8)), (147, .inl (o_il 149 8)), (149, .inl (o_al 150 0)), (150, .inl (o_gf 153 7 2)), (153, .inl (o_ic 309 156 r_ge)), (156, .inl (o_al 157 0)), (157, .inl (o_gf 160 7 12)), (160, .inl (o_il 162 6)), (162, .inl (o_il 164 7)), (164, .inl (o_iw 165)), (165, .inl (o_al 166 0)), (166, .inl (o_gf 169 7 13)), (169, .inl (o_il 171 6)), (171, .inl (o_il 173 8)), (173, .inl (o_iw 174)), (174, .inl (o_k 175 (vI (1)))), (175, .inl (o_is 177 9)), (177, .inl (o_k 178 (vI (0)))), (178, .inl (o_is 180 10)), (180, .inl (o_il 182 10)), (182, .inl (o_k 184 (vI (8)))), (184, .inl (o_ic 222 187 r_ge)), (187, .inl (o_il 189 9)), (189, .inl (o_if 222 192 q_eq)), (192, .inl (o_il 194 10)), (194, .inl (o_k 195 (vI (1)))), (195, .inl (o_ic 209 198 r_eq)), (198, .inl (o_al 199 0)), (199, .inl (o_il 201 10)), (201, .inl (o_il 203 6)), (203, .inr (.inl (87, 3))), (206, .inl (o_if 213 209 q_ne)), (209, .inl (o_k 210 (vI (1)))), (210, .inl (o_go 214)), (213, .inl (o_k 214 (vI (0)))), (214, .inl (o_is 216 9)), (216, .inl (o_ii 219 10 (1))), (219, .inl (o_go 180)), (222, .inl (o_il 224 9)), (224, .inl (o_if 230 227 q_ne)), (227, .inl (o_go 303)), (230, .inl (o_al 231 0)), (231, .inl (o_gf 234 7 5)), (234, .inl (o_k 236 (vI (6)))), (236, .inl (o_il 238 7)), (238, .inl (o_ib 239 f_mul)), (239, .inl (o_il 241 8)), (241, .inl (o_ib 242 f_add)), (242, .inl (o_ia 243)), (243, .inl (o_il 245 5)), (245, .inl (o_if 278 248 q_eq)), (248, .inl (o_al 249 0)), (249, .inl (o_gf 252 7 26)), (252, .inl (o_il 254 6)), (254, .inl (o_ia 255)), (255, .inl (o_il 257 7)), (257, .inl (o_ic 272 260 r_ne)), (260, .inl (o_al 261 0)), (261, .inl (o_gf 264 7 27)), (264, .inl (o_il 266 6)), (266, .inl (o_ia 267)), (267, .inl (o_il 269 8)), (269, .inl (o_ic 278 272 r_eq)), (272, .inl (o_k 275 (vI (1000)))), (275, .inl (o_go 279)), (278, .inl (o_k 279 (vI (0)))), (279, .inl (o_ib 280 f_sub)), (280, .inl (o_is 282 10)), (282, .inl (o_al 283 0)), (283, .inl (o_il 284 1)), (284, .inl (o_il 285 2)), (285, .inl (o_k 286 (vI (1)))), (286, .inl (o_ib 287 f_add)), (287, .inl (o_il 288 3)), (288, .inl (o_k 289 (vI (1)))), (289, .inl (o_il 291 7)), (291, .inl (o_ib 292 f_shl)), (292, .inl (o_ib 293 f_or)), (293, .inl (o_il 295 4)), (295, .inl (o_il 297 10)), (297, .inl (o_ib 298 f_add)), (298, .inl (o_il 300 5)), (300, .inr (.inl (89, 6))), (303, .inl (o_ii 306 8 (1))), (306, .inl (o_go 147)), (309, .inl (o_ii 312 7 (1))), (312, .inl (o_go 122)), (315, .inl (o_al 316 0)), (316, .inl (o_gf 319 7 12)), (319, .inl (o_il 321 6)), (321, .inl (o_k 322 (vI (-1)))), (322, .inl (o_iw 323)), (323, .inl (o_al 324 0)), (324, .inl (o_gf 327 7 13)), (327, .inl (o_il 329 6)), (329, .inl (o_k 330 (vI (-1)))), (330, .inl (o_iw 331)), (331, .inl (o_al 332 0)), (332, .inl (o_il 333 1)), (333, .inl (o_il 334 2)), (334, .inl (o_k 335 (vI (1)))), (335, .inl (o_ib 336 f_add)), (336, .inl (o_il 337 3)), (337, .inl (o_il 339 4)), (339, .inl (o_il 341 5)), (341, .inl (o_if 361 344 q_eq)), (344, .inl (o_al 345 0)), (345, .inl (o_gf 348 7 26)), (348, .inl (o_il 350 6)), (350, .inl (o_ia 351)), (351, .inl (o_k 352 (vI (-1)))), (352, .inl (o_ic 361 355 r_eq)), (355, .inl (o_k 358 (vI (1000)))), (358, .inl (o_go 362)), (361, .inl (o_k 362 (vI (0)))), (362, .inl (o_ib 363 f_sub)), (363, .inl (o_il 365 5)), (365, .inr (.inl (89, 6))), (368, .inr (.inr ()))]
def cd_90 : CD := [(0, .inl (o_il 1 1)), (1, .inl (o_al 2 0)), (2, .inl (o_gf 5 7 10)), (5, .inl (o_ic 70 8 r_ne)), (8, .inl (o_il 9 3)), (9, .inl (o_al 10 0)), (10, .inl (o_gf 13 7 33)), (13, .inl (o_ic 31 16 r_lt)), (16, .inl (o_il 17 3)), (17, .inl (o_al 18 0)), (18, .inl (o_gf 21 7 33)), (21, .inl (o_ic 32 24 r_ne)), (24, .inl (o_al 25 0)), (25, .inr (.inl (91, 1))), (28, .inl (o_if 32 31 q_ne)), (31, .inr (.inr ())), (32, .inl (o_al 33 0)), (33, .inl (o_il 34 3)), (34, .inl (o_pf 37 7 33)), (37, .inl (o_k 38 (vI (0)))), (38, .inl (o_is 40 4)), (40, .inl (o_il 42 4)), (42, .inl (o_al 43 0)), (43, .inl (o_gf 46 7 10)), (46, .inl (o_ic 69 49 r_ge)), (49, .inl (o_al 50 0)), (50, .inl (o_gf 53 7 32)), (53, .inl (o_il 55 4)), (55, .inl (o_al 56 0)), (56, .inl (o_gf 59 7 31)), (59, .inl (o_il 61 4)), (61, .inl (o_ia 62)), (62, .inl (o_iw 63)), (63, .inl (o_ii 66 4 (1))), (66, .inl (o_go 40)), (69, .inr (.inr ())), (70, .inl (o_k 71 (vI (0)))), (71, .inl (o_is 73 4)), (73, .inl (o_il 75 4)), (75, .inl (o_k 76 (vI (1)))), (76, .inl (o_al 77 0)), (77, .inl (o_gf 80 7 7)), (80, .inl (o_ib 81 f_shl)), (81, .inl (o_ic 144 84 r_ge)), (84, .inl (o_al 85 0)), (85, .inl (o_gf 88 7 28)), (88, .inl (o_k 90 (vI (64)))), (90, .inl (o_il 91 1)), (91, .inl (o_ib 92 f_mul)), (92, .inl (o_il 94 4)), (94, .inl (o_ib 95 f_add)), (95, .inl (o_ia 96)), (96, .inl (o_is 98 5)), (98, .inl (o_il 100 4)), (100, .inl (o_il 101 2)), (101, .inl (o_ib 102 f_and)), (102, .inl (o_if 138 105 q_ne)), (105, .inl (o_il 107 5)), (107, .inl (o_k 109 (vI (-1000000)))), (109, .inl (o_ic 115 112 r_gt)), (112, .inl (o_go 138)), (115, .inl (o_al 116 0)), (116, .inl (o_gf 119 7 31)), (119, .inl (o_il 120 1)), (120, .inl (o_il 122 4)), (122, .inl (o_iw 123)), (123, .inl (o_al 124 0)), (124, .inl (o_il 125 1)), (125, .inl (o_k 126 (vI (1)))), (126, .inl (o_ib 127 f_add)), (127, .inl (o_il 128 2)), (128, .inl (o_il 130 4)), (130, .inl (o_ib 131 f_or)), (131, .inl (o_il 132 3)), (132, .inl (o_il 134 5)), (134, .inl (o_ib 135 f_add)), (135, .inr (.inl (90, 4))), (138, .inl (o_ii 141 4 (1))), (141, .inl (o_go 73)), (144, .inr (.inr ()))]
def cd_91 : CD := [(0, .inl (o_k 1 (vI (0)))), (1, .inl (o_is 2 1)), (2, .inl (o_il 3 1)), (3, .inl (o_al 4 0)), (4, .inl (o_gf 7 7 10)), (7, .inl (o_ic 162 10 r_ge)), (10, .inl (o_k 11 (vI (0)))), (11, .inl (o_is 12 2)), (12, .inl (o_il 13 2)), (13, .inl (o_al 14 0)), (14, .inl (o_gf 17 7 11)), (17, .inl (o_ic 156 20 r_ge)), (20, .inl (o_k 21 (vI (3)))), (21, .inl (o_k 23 (vI (64)))), (23, .inl (o_il 24 1)), (24, .inl (o_ib 25 f_mul)), (25, .inl (o_al 26 0)), (26, .inl (o_gf 29 7 31)), (29, .inl (o_il 30 1)), (30, .inl (o_ia 31)), (31, .inl (o_ib 32 f_add)), (32, .inl (o_ib 33 f_mul)), (33, .inl (o_il 34 2)), (34, .inl (o_ib 35 f_add)), (35, .inl (o_is 36 3)), (36, .inl (o_k 37 (vI (3)))), (37, .inl (o_k 39 (vI (64)))), (39, .inl (o_il 40 1)), (40, .inl (o_ib 41 f_mul)), (41, .inl (o_al 42 0)), (42, .inl (o_gf 45 7 32)), (45, .inl (o_il 46 1)), (46, .inl (o_ia 47)), (47, .inl (o_ib 48 f_add)), (48, .inl (o_ib 49 f_mul)), (49, .inl (o_il 50 2)), (50, .inl (o_ib 51 f_add)), (51, .inl (o_is 53 4)), (53, .inl (o_al 54 0)), (54, .inl (o_gf 57 7 29)), (57, .inl (o_il 58 3)), (58, .inl (o_ia 59)), (59, .inl (o_al 60 0)), (60, .inl (o_gf 63 7 29)), (63, .inl (o_il 65 4)), (65, .inl (o_ia 66)), (66, .inl (o_ic 112 69 r_eq)), (69, .inl (o_al 70 0)), (70, .inl (o_gf 73 7 29)), (73, .inl (o_il 75 4)), (75, .inl (o_ia 76)), (76, .inl (o_k 77 (vI (-1)))), (77, .inl (o_ic 106 80 r_eq)), (80, .inl (o_al 81 0)), (81, .inl (o_gf 84 7 29)), (84, .inl (o_il 85 3)), (85, .inl (o_ia 86)), (86, .inl (o_k 87 (vI (-1)))), (87, .inl (o_ic 110 90 r_eq)), (90, .inl (o_al 91 0)), (91, .inl (o_gf 94 7 29)), (94, .inl (o_il 95 3)), (95, .inl (o_ia 96)), (96, .inl (o_al 97 0)), (97, .inl (o_gf 100 7 29)), (100, .inl (o_il 102 4)), (102, .inl (o_ia 103)), (103, .inl (o_ic 110 106 r_ge)), (106, .inl (o_k 107 (vI (1)))), (107, .inl (o_go 111)), (110, .inl (o_k 111 (vI (0)))), (111, .inr (.inr ())), (112, .inl (o_al 113 0)), (113, .inl (o_gf 116 7 30)), (116, .inl (o_il 117 3)), (117, .inl (o_ia 118)), (118, .inl (o_al 119 0)), (119, .inl (o_gf 122 7 30)), (122, .inl (o_il 124 4)), (124, .inl (o_ia 125)), (125, .inl (o_ic 150 128 r_eq)), (128, .inl (o_al 129 0)), (129, .inl (o_gf 132 7 30)), (132, .inl (o_il 133 3)), (133, .inl (o_ia 134)), (134, .inl (o_al 135 0)), (135, .inl (o_gf 138 7 30)), (138, .inl (o_il 140 4)), (140, .inl (o_ia 141)), (141, .inl (o_ic 148 144 r_ge)), (144, .inl (o_k 145 (vI (1)))), (145, .inl (o_go 149)), (148, .inl (o_k 149 (vI (0)))), (149, .inr (.inr ())), (150, .inl (o_ii 153 2 (1))), (153, .inl (o_go 12)), (156, .inl (o_ii 159 1 (1))), (159, .inl (o_go 2)), (162, .inl (o_k 163 (vI (0)))), (163, .inr (.inr ()))]
def cd_92 : CD := [(0, .inl (o_k 1 (vI (0)))), (1, .inl (o_is 2 2)), (2, .inl (o_il 3 2)), (3, .inl (o_k 5 (vI (6)))), (5, .inl (o_ic 38 8 r_ge)), (8, .inl (o_al 9 0)), (9, .inl (o_gf 12 7 26)), (12, .inl (o_il 13 2)), (13, .inl (o_al 14 0)), (14, .inl (o_gf 17 7 12)), (17, .inl (o_il 18 2)), (18, .inl (o_ia 19)), (19, .inl (o_iw 20)), (20, .inl (o_al 21 0)), (21, .inl (o_gf 24 7 27)), (24, .inl (o_il 25 2)), (25, .inl (o_al 26 0)), (26, .inl (o_gf 29 7 13)), (29, .inl (o_il 30 2)), (30, .inl (o_ia 31)), (31, .inl (o_iw 32)), (32, .inl (o_ii 35 2 (1))), (35, .inl (o_go 2)), (38, .inl (o_k 39 (vI (0)))), (39, .inl (o_is 40 2)), (40, .inl (o_il 41 2)), (41, .inl (o_k 44 (vI (192)))), (44, .inl (o_ic 61 47 r_ge)), (47, .inl (o_al 48 0)), (48, .inl (o_gf 51 7 28)), (51, .inl (o_il 52 2)), (52, .inl (o_k 54 (vI (-1000000)))), (54, .inl (o_iw 55)), (55, .inl (o_ii 58 2 (1))), (58, .inl (o_go 40)), (61, .inl (o_k 62 (vI (0)))), (62, .inl (o_is 63 2)), (63, .inl (o_il 64 2)), (64, .inl (o_al 65 0)), (65, .inl (o_gf 68 7 10)), (68, .inl (o_ic 86 71 r_ge)), (71, .inl (o_al 72 0)), (72, .inl (o_il 73 2)), (73, .inl (o_k 74 (vI (0)))), (74, .inl (o_k 75 (vI (0)))), (75, .inl (o_k 76 (vI (0)))), (76, .inl (o_il 77 1)), (77, .inr (.inl (89, 6))), (80, .inl (o_ii 83 2 (1))), (83, .inl (o_go 63)), (86, .inl (o_al 87 0)), (87, .inl (o_k 89 (vI (-1000000)))), (89, .inl (o_pf 92 7 33)), (92, .inl (o_al 93 0)), (93, .inl (o_k 94 (vI (0)))), (94, .inl (o_k 95 (vI (0)))), (95, .inl (o_k 96 (vI (0)))), (96, .inr (.inl (90, 4))), (99, .inl (o_k 100 (vI (0)))), (100, .inl (o_is 101 2)), (101, .inl (o_il 102 2)), (102, .inl (o_al 103 0)), (103, .inr (.inl (83, 1))), (106, .inl (o_ic 170 109 r_ge)), (109, .inl (o_k 110 (vI (3)))), (110, .inl (o_k 112 (vI (64)))), (112, .inl (o_il 113 2)), (113, .inl (o_al 114 0)), (114, .inl (o_gf 117 7 11)), (117, .inl (o_id 118 f_div)), (118, .inl (o_ib 119 f_mul)), (119, .inl (o_al 120 0)), (120, .inl (o_gf 123 7 32)), (123, .inl (o_il 124 2)), (124, .inl (o_al 125 0)), (125, .inl (o_gf 128 7 11)), (128, .inl (o_id 129 f_div)), (129, .inl (o_ia 130)), (130, .inl (o_ib 131 f_add)), (131, .inl (o_ib 132 f_mul)), (132, .inl (o_il 133 2)), (133, .inl (o_al 134 0)), (134, .inl (o_gf 137 7 11)), (137, .inl (o_id 138 f_rem)), (138, .inl (o_ib 139 f_add)), (139, .inl (o_is 140 3)), (140, .inl (o_al 141 0)), (141, .inl (o_gf 144 7 12)), (144, .inl (o_il 145 2)), (145, .inl (o_al 146 0)), (146, .inl (o_gf 149 7 29)), (149, .inl (o_il 150 3)), (150, .inl (o_ia 151)), (151, .inl (o_iw 152)), (152, .inl (o_al 153 0)), (153, .inl (o_gf 156 7 13)), (156, .inl (o_il 157 2)), (157, .inl (o_al 158 0)), (158, .inl (o_gf 161 7 30)), (161, .inl (o_il 162 3)), (162, .inl (o_ia 163)), (163, .inl (o_iw 164)), (164, .inl (o_ii 167 2 (1))), (167, .inl (o_go 101)), (170, .inr (.inr ()))]
def cd_93 : CD := [(0, .inl (o_al 1 0)), (1, .inl (o_k 2 (vI (0)))), (2, .inl (o_pf 5 7 25)), (5, .inl (o_al 6 0)), (6, .inl (o_k 7 (vI (0)))), (7, .inr (.inl (92, 2))), (10, .inl (o_al 11 0)), (11, .inl (o_k 12 (vI (4)))), (12, .inr (.inl (84, 2))), (15, .inr (.inr ()))]
def cd_94 : CD := [(0, .inl (o_al 1 0)), (1, .inl (o_k 2 (vI (0)))), (2, .inl (o_pf 5 7 25)), (5, .inl (o_al 6 0)), (6, .inl (o_k 7 (vI (1)))), (7, .inr (.inl (92, 2))), (10, .inl (o_k 11 (vI (0)))), (11, .inl (o_is 12 1)), (12, .inl (o_k 13 (vI (0)))), (13, .inl (o_is 14 2)), (14, .inl (o_il 15 2)), (15, .inl (o_al 16 0)), (16, .inr (.inl (83, 1))), (19, .inl (o_ic 61 22 r_ge)), (22, .inl (o_al 23 0)), (23, .inl (o_gf 26 7 12)), (26, .inl (o_il 27 2)), (27, .inl (o_ia 28)), (28, .inl (o_al 29 0)), (29, .inl (o_gf 32 7 26)), (32, .inl (o_il 33 2)), (33, .inl (o_ia 34)), (34, .inl (o_ic 52 37 r_ne)), (37, .inl (o_al 38 0)), (38, .inl (o_gf 41 7 13)), (41, .inl (o_il 42 2)), (42, .inl (o_ia 43)), (43, .inl (o_al 44 0)), (44, .inl (o_gf 47 7 27)), (47, .inl (o_il 48 2)), (48, .inl (o_ia 49)), (49, .inl (o_ic 55 52 r_eq)), (52, .inl (o_ii 55 1 (1))), (55, .inl (o_ii 58 2 (1))), (58, .inl (o_go 14)), (61, .inl (o_il 62 1)), (62, .inr (.inr ()))]
def cd_95 : CD := [(0, .inl (o_al 1 0)), (1, .inl (o_k 2 (vI (0)))), (2, .inl (o_pf 5 7 25)), (5, .inl (o_al 6 0)), (6, .inl (o_il 7 1)), (7, .inr (.inl (72, 2))), (10, .inl (o_if 42 13 q_eq)), (13, .inl (o_il 14 2)), (14, .inl (o_k 15 (vI (1)))), (15, .inl (o_k 17 (vI (90)))), (17, .inr (.inl (70, 3))), (20, .inl (o_if 42 23 q_eq)), (23, .inl (o_il 24 3)), (24, .inl (o_k 25 (vI (0)))), (25, .inl (o_k 27 (vI (100)))), (27, .inr (.inl (70, 3))), (30, .inl (o_if 42 33 q_eq)), (33, .inl (o_al 34 0)), (34, .inl (o_gf 37 7 19)), (37, .inl (o_k 39 (vI (10)))), (39, .inl (o_ic 44 42 r_ne)), (42, .inl (o_k 43 (vI (-1)))), (43, .inr (.inr ())), (44, .inl (o_al 45 0)), (45, .inl (o_gf 48 7 14)), (48, .inl (o_al 49 0)), (49, .inl (o_gf 52 7 19)), (52, .inl (o_il 53 1)), (53, .inl (o_iw 54)), (54, .inl (o_al 55 0)), (55, .inl (o_gf 58 7 15)), (58, .inl (o_al 59 0)), (59, .inl (o_gf 62 7 19)), (62, .inl (o_il 63 2)), (63, .inl (o_iw 64)), (64, .inl (o_al 65 0)), (65, .inl (o_gf 68 7 16)), (68, .inl (o_al 69 0)), (69, .inl (o_gf 72 7 19)), (72, .inl (o_il 73 3)), (73, .inl (o_iw 74)), (74, .inl (o_al 75 0)), (75, .inl (o_gf 78 7 17)), (78, .inl (o_al 79 0)), (79, .inl (o_gf 82 7 19)), (82, .inl (o_il 84 4)), (84, .inl (o_bw 85)), (85, .inl (o_al 86 0)), (86, .inl (o_gf 89 7 18)), (89, .inl (o_al 90 0)), (90, .inl (o_gf 93 7 19)), (93, .inl (o_k 94 (vI (-1)))), (94, .inl (o_iw 95)), (95, .inl (o_al 96 0)), (96, .inl (o_dup 97)), (97, .inl (o_gf 100 7 19)), (100, .inl (o_k 101 (vI (1)))), (101, .inl (o_ib 102 f_add)), (102, .inl (o_pf 105 7 19)), (105, .inl (o_al 106 0)), (106, .inl (o_gf 109 7 19)), (109, .inl (o_k 110 (vI (1)))), (110, .inl (o_ib 111 f_sub)), (111, .inr (.inr ()))]
def cd_96 : CD := [(0, .inl (o_al 1 0)), (1, .inl (o_k 2 (vI (0)))), (2, .inl (o_pf 5 7 25)), (5, .inl (o_il 6 1)), (6, .inl (o_k 7 (vI (0)))), (7, .inl (o_al 8 0)), (8, .inl (o_gf 11 7 19)), (11, .inl (o_k 12 (vI (1)))), (12, .inl (o_ib 13 f_sub)), (13, .inr (.inl (70, 3))), (16, .inl (o_if 30 19 q_eq)), (19, .inl (o_il 20 2)), (20, .inl (o_k 21 (vI (0)))), (21, .inl (o_k 24 (vI (400)))), (24, .inr (.inl (70, 3))), (27, .inl (o_if 32 30 q_ne)), (30, .inl (o_k 31 (vI (0)))), (31, .inr (.inr ())), (32, .inl (o_al 33 0)), (33, .inl (o_gf 36 7 18)), (36, .inl (o_il 37 1)), (37, .inl (o_il 38 2)), (38, .inl (o_iw 39)), (39, .inl (o_k 40 (vI (1)))), (40, .inr (.inr ()))]
def cd_97 : CD := [(0, .inl (o_al 1 0)), (1, .inl (o_al 2 0)), (2, .inl (o_gf 5 7 14)), (5, .inl (o_il 6 1)), (6, .inl (o_ia 7)), (7, .inl (o_al 8 0)), (8, .inl (o_gf 11 7 14)), (11, .inl (o_il 12 2)), (12, .inl (o_ia 13)), (13, .inr (.inl (81, 3))), (16, .inl (o_al 17 0)), (17, .inl (o_gf 20 7 8)), (20, .inl (o_ic 27 23 r_gt)), (23, .inl (o_k 24 (vI (1)))), (24, .inl (o_go 28)), (27, .inl (o_k 28 (vI (0)))), (28, .inr (.inr ()))]
def cd_98 : CD := [(0, .inl (o_al 1 0)), (1, .inl (o_gf 4 7 34)), (4, .inl (o_k 5 (vI (0)))), (5, .inl (o_k 6 (vI (0)))), (6, .inl (o_iw 7)), (7, .inl (o_k 8 (vI (1)))), (8, .inl (o_is 9 1)), (9, .inl (o_il 10 1)), (10, .inl (o_k 11 (vI (1)))), (11, .inl (o_al 12 0)), (12, .inl (o_gf 15 7 19)), (15, .inl (o_ib 16 f_shl)), (16, .inl (o_ic 148 19 r_ge)), (19, .inl (o_al 20 0)), (20, .inl (o_gf 23 7 34)), (23, .inl (o_il 24 1)), (24, .inl (o_k 25 (vI (0)))), (25, .inl (o_iw 26)), (26, .inl (o_k 27 (vI (0)))), (27, .inl (o_is 28 2)), (28, .inl (o_il 29 2)), (29, .inl (o_al 30 0)), (30, .inl (o_gf 33 7 19)), (33, .inl (o_ic 142 36 r_ge)), (36, .inl (o_il 37 1)), (37, .inl (o_il 38 2)), (38, .inl (o_ib 39 f_shr)), (39, .inl (o_k 40 (vI (1)))), (40, .inl (o_ib 41 f_and)), (41, .inl (o_if 47 44 q_ne)), (44, .inl (o_go 136)), (47, .inl (o_il 48 1)), (48, .inl (o_k 49 (vI (1)))), (49, .inl (o_il 50 2)), (50, .inl (o_ib 51 f_shl)), (51, .inl (o_ib 52 f_xor)), (52, .inl (o_is 53 3)), (53, .inl (o_il 54 3)), (54, .inl (o_if 61 57 q_ne)), (57, .inl (o_k 58 (vI (1)))), (58, .inl (o_go 62)), (61, .inl (o_k 62 (vI (0)))), (62, .inl (o_is 64 4)), (64, .inl (o_k 65 (vI (0)))), (65, .inl (o_is 67 5)), (67, .inl (o_il 69 5)), (69, .inl (o_al 70 0)), (70, .inl (o_gf 73 7 19)), (73, .inl (o_ic 119 76 r_ge)), (76, .inl (o_il 78 4)), (78, .inl (o_if 119 81 q_ne)), (81, .inl (o_al 82 0)), (82, .inl (o_gf 85 7 34)), (85, .inl (o_il 86 3)), (86, .inl (o_ia 87)), (87, .inl (o_il 89 5)), (89, .inl (o_ib 90 f_shr)), (90, .inl (o_k 91 (vI (1)))), (91, .inl (o_ib 92 f_and)), (92, .inl (o_k 93 (vI (1)))), (93, .inl (o_ic 110 96 r_ne)), (96, .inl (o_al 97 0)), (97, .inl (o_il 98 2)), (98, .inl (o_il 100 5)), (100, .inr (.inl (97, 3))), (103, .inl (o_if 110 106 q_eq)), (106, .inl (o_k 107 (vI (1)))), (107, .inl (o_go 111)), (110, .inl (o_k 111 (vI (0)))), (111, .inl (o_is 113 4)), (113, .inl (o_ii 116 5 (1))), (116, .inl (o_go 67)), (119, .inl (o_il 121 4)), (121, .inl (o_if 136 124 q_eq)), (124, .inl (o_al 125 0)), (125, .inl (o_gf 128 7 34)), (128, .inl (o_il 129 1)), (129, .inl (o_dup2 130)), (130, .inl (o_ia 131)), (131, .inl (o_k 132 (vI (1)))), (132, .inl (o_il 133 2)), (133, .inl (o_ib 134 f_shl)), (134, .inl (o_ib 135 f_or)), (135, .inl (o_iw 136)), (136, .inl (o_ii 139 2 (1))), (139, .inl (o_go 28)), (142, .inl (o_ii 145 1 (1))), (145, .inl (o_go 9)), (148, .inr (.inr ()))]
def cd_99 : CD := [(0, .inl (o_k 1 (vI (0)))), (1, .inl (o_is 3 4)), (3, .inl (o_k 4 (vI (0)))), (4, .inl (o_is 6 5)), (6, .inl (o_k 7 (vI (0)))), (7, .inl (o_is 9 6)), (9, .inl (o_il 11 6)), (11, .inl (o_al 12 0)), (12, .inl (o_gf 15 7 19)), (15, .inl (o_ic 93 18 r_ge)), (18, .inl (o_il 19 1)), (19, .inl (o_il 21 6)), (21, .inl (o_ib 22 f_shr)), (22, .inl (o_k 23 (vI (1)))), (23, .inl (o_ib 24 f_and)), (24, .inl (o_if 30 27 q_ne)), (27, .inl (o_go 87)), (30, .inl (o_il 32 4)), (32, .inl (o_al 33 0)), (33, .inl (o_gf 36 7 15)), (36, .inl (o_il 38 6)), (38, .inl (o_ia 39)), (39, .inl (o_ib 40 f_add)), (40, .inl (o_is 42 4)), (42, .inl (o_al 43 0)), (43, .inl (o_gf 46 7 17)), (46, .inl (o_il 48 6)), (48, .inl (o_ba 49)), (49, .inl (o_if 55 52 q_eq)), (52, .inl (o_ii 55 5 (1))), (55, .inl (o_al 56 0)), (56, .inl (o_gf 59 7 18)), (59, .inl (o_il 61 6)), (61, .inl (o_ia 62)), (62, .inl (o_k 63 (vI (-1)))), (63, .inl (o_ic 87 66 r_eq)), (66, .inl (o_al 67 0)), (67, .inl (o_gf 70 7 18)), (70, .inl (o_il 72 6)), (72, .inl (o_ia 73)), (73, .inl (o_il 74 2)), (74, .inl (o_ib 75 f_sub)), (75, .inr (.inl (114, 1))), (78, .inl (o_al 79 0)), (79, .inl (o_gf 82 7 9)), (82, .inl (o_ic 87 85 r_ge)), (85, .inl (o_k 86 (vI (0)))), (86, .inr (.inr ())), (87, .inl (o_ii 90 6 (1))), (90, .inl (o_go 9)), (93, .inl (o_il 95 4)), (95, .inl (o_il 96 3)), (96, .inl (o_ic 118 99 r_gt)), (99, .inl (o_il 101 5)), (101, .inl (o_k 102 (vI (1)))), (102, .inl (o_ic 118 105 r_ne)), (105, .inl (o_al 106 0)), (106, .inl (o_gf 109 7 34)), (109, .inl (o_il 110 1)), (110, .inl (o_ia 111)), (111, .inl (o_if 118 114 q_eq)), (114, .inl (o_k 115 (vI (1)))), (115, .inl (o_go 119)), (118, .inl (o_k 119 (vI (0)))), (119, .inr (.inr ()))]
def cd_100 : CD := [(0, .inl (o_k 1 (vI (0)))), (1, .inl (o_is 2 2)), (2, .inl (o_k 3 (vI (0)))), (3, .inl (o_is 4 3)), (4, .inl (o_il 5 3)), (5, .inl (o_al 6 0)), (6, .inl (o_gf 9 7 19)), (9, .inl (o_ic 36 12 r_ge)), (12, .inl (o_il 13 1)), (13, .inl (o_il 14 3)), (14, .inl (o_ib 15 f_shr)), (15, .inl (o_k 16 (vI (1)))), (16, .inl (o_ib 17 f_and)), (17, .inl (o_k 18 (vI (1)))), (18, .inl (o_ic 30 21 r_ne)), (21, .inl (o_il 22 2)), (22, .inl (o_al 23 0)), (23, .inl (o_gf 26 7 16)), (26, .inl (o_il 27 3)), (27, .inl (o_ia 28)), (28, .inl (o_ib 29 f_add)), (29, .inl (o_is 30 2)), (30, .inl (o_ii 33 3 (1))), (33, .inl (o_go 4)), (36, .inl (o_il 37 2)), (37, .inr (.inr ()))]
def cd_101 : CD := [(0, .inl (o_il 1 1)), (1, .inl (o_is 2 2)), (2, .inl (o_k 3 (vI (0)))), (3, .inl (o_is 4 3)), (4, .inl (o_il 5 2)), (5, .inl (o_if 73 8 q_eq)), (8, .inl (o_k 9 (vI (0)))), (9, .inl (o_is 11 4)), (11, .inl (o_al 12 0)), (12, .inl (o_gf 15 7 34)), (15, .inl (o_il 16 2)), (16, .inl (o_ia 17)), (17, .inl (o_il 19 4)), (19, .inl (o_ib 20 f_shr)), (20, .inl (o_k 21 (vI (1)))), (21, .inl (o_ib 22 f_and)), (22, .inl (o_if 46 25 q_eq)), (25, .inl (o_il 26 3)), (26, .inl (o_if 52 29 q_le)), (29, .inl (o_al 30 0)), (30, .inl (o_al 31 0)), (31, .inl (o_gf 34 7 35)), (34, .inl (o_il 35 3)), (35, .inl (o_k 36 (vI (1)))), (36, .inl (o_ib 37 f_sub)), (37, .inl (o_ia 38)), (38, .inl (o_il 40 4)), (40, .inr (.inl (97, 3))), (43, .inl (o_if 52 46 q_ne)), (46, .inl (o_ii 49 4 (1))), (49, .inl (o_go 11)), (52, .inl (o_al 53 0)), (53, .inl (o_gf 56 7 35)), (56, .inl (o_il 57 3)), (57, .inl (o_il 59 4)), (59, .inl (o_iw 60)), (60, .inl (o_ii 63 3 (1))), (63, .inl (o_il 64 2)), (64, .inl (o_k 65 (vI (1)))), (65, .inl (o_il 67 4)), (67, .inl (o_ib 68 f_shl)), (68, .inl (o_ib 69 f_xor)), (69, .inl (o_is 70 2)), (70, .inl (o_go 4)), (73, .inr (.inr ()))]
def cd_102 : CD := [(0, .inl (o_k 1 (vI (0)))), (1, .inl (o_is 2 3)), (2, .inl (o_il 3 3)), (3, .inl (o_il 4 1)), (4, .inl (o_ic 43 7 r_ge)), (7, .inl (o_al 8 0)), (8, .inl (o_gf 11 7 35)), (11, .inl (o_il 12 3)), (12, .inl (o_ia 13)), (13, .inl (o_al 14 2)), (14, .inl (o_il 15 3)), (15, .inl (o_ia 16)), (16, .inl (o_ic 37 19 r_eq)), (19, .inl (o_al 20 0)), (20, .inl (o_gf 23 7 35)), (23, .inl (o_il 24 3)), (24, .inl (o_ia 25)), (25, .inl (o_al 26 2)), (26, .inl (o_il 27 3)), (27, .inl (o_ia 28)), (28, .inl (o_ic 35 31 r_ge)), (31, .inl (o_k 32 (vI (1)))), (32, .inl (o_go 36)), (35, .inl (o_k 36 (vI (0)))), (36, .inr (.inr ())), (37, .inl (o_ii 40 3 (1))), (40, .inl (o_go 2)), (43, .inl (o_k 44 (vI (0)))), (44, .inr (.inr ()))]
def cd_103 : CD := [(0, .inl (o_al 1 0)), (1, .inl (o_k 2 (vI (0)))), (2, .inl (o_pf 5 7 25)), (5, .inl (o_il 6 1)), (6, .inl (o_k 7 (vI (0)))), (7, .inl (o_k 10 (vI (400)))), (10, .inr (.inl (70, 3))), (13, .inl (o_if 27 16 q_eq)), (16, .inl (o_il 17 2)), (17, .inl (o_k 18 (vI (1)))), (18, .inl (o_k 21 (vI (300)))), (21, .inr (.inl (70, 3))), (24, .inl (o_if 29 27 q_ne)), (27, .inl (o_k 28 (vI (-1)))), (28, .inr (.inr ())), (29, .inl (o_al 30 0)), (30, .inr (.inl (98, 1))), (33, .inl (o_k 34 (vI (0)))), (34, .inl (o_is 35 3)), (35, .inl (o_k 36 (vI (1)))), (36, .inl (o_is 38 4)), (38, .inl (o_il 40 4)), (40, .inl (o_k 41 (vI (1)))), (41, .inl (o_al 42 0)), (42, .inl (o_gf 45 7 19)), (45, .inl (o_ib 46 f_shl)), (46, .inl (o_ic 179 49 r_ge)), (49, .inl (o_al 50 0)), (50, .inl (o_il 52 4)), (52, .inl (o_il 53 1)), (53, .inl (o_il 54 2)), (54, .inr (.inl (99, 4))), (57, .inl (o_if 63 60 q_ne)), (60, .inl (o_go 173)), (63, .inl (o_il 64 3)), (64, .inl (o_if 71 67 q_ne)), (67, .inl (o_k 68 (vI (1)))), (68, .inl (o_go 83)), (71, .inl (o_al 72 0)), (72, .inl (o_il 74 4)), (74, .inr (.inl (100, 2))), (77, .inl (o_al 78 0)), (78, .inl (o_il 79 3)), (79, .inr (.inl (100, 2))), (82, .inl (o_ib 83 f_sub)), (83, .inl (o_is 85 5)), (85, .inl (o_il 87 5)), (87, .inl (o_if 102 90 q_ne)), (90, .inl (o_il 91 3)), (91, .inr (.inl (112, 1))), (94, .inl (o_il 96 4)), (96, .inr (.inl (112, 1))), (99, .inl (o_ib 100 f_sub)), (100, .inl (o_is 102 5)), (102, .inl (o_il 104 5)), (104, .inl (o_if 110 107 q_ge)), (107, .inl (o_go 173)), (110, .inl (o_al 111 0)), (111, .inl (o_il 113 4)), (113, .inr (.inl (101, 2))), (116, .inl (o_il 118 5)), (118, .inl (o_if 140 121 q_ne)), (121, .inl (o_al 122 0)), (122, .inl (o_il 124 4)), (124, .inr (.inl (112, 1))), (127, .inl (o_al 128 0)), (128, .inl (o_gf 131 7 36)), (131, .inr (.inl (102, 3))), (134, .inl (o_if 140 137 q_ne)), (137, .inl (o_go 173)), (140, .inl (o_il 142 4)), (142, .inl (o_is 143 3)), (143, .inl (o_k 144 (vI (0)))), (144, .inl (o_is 146 6)), (146, .inl (o_il 148 6)), (148, .inl (o_k 150 (vI (10)))), (150, .inl (o_ic 173 153 r_ge)), (153, .inl (o_al 154 0)), (154, .inl (o_gf 157 7 36)), (157, .inl (o_il 159 6)), (159, .inl (o_al 160 0)), (160, .inl (o_gf 163 7 35)), (163, .inl (o_il 165 6)), (165, .inl (o_ia 166)), (166, .inl (o_iw 167)), (167, .inl (o_ii 170 6 (1))), (170, .inl (o_go 146)), (173, .inl (o_ii 176 4 (1))), (176, .inl (o_go 38)), (179, .inl (o_il 180 3)), (180, .inl (o_if 185 183 q_ne)), (183, .inl (o_k 184 (vI (-1)))), (184, .inr (.inr ())), (185, .inl (o_al 186 0)), (186, .inl (o_il 187 3)), (187, .inr (.inl (112, 1))), (190, .inl (o_pf 193 7 21)), (193, .inl (o_k 194 (vI (0)))), (194, .inl (o_is 196 4)), (196, .inl (o_il 198 4)), (198, .inl (o_al 199 0)), (199, .inl (o_gf 202 7 21)), (202, .inl (o_ic 225 205 r_ge)), (205, .inl (o_al 206 0)), (206, .inl (o_gf 209 7 20)), (209, .inl (o_il 211 4)), (211, .inl (o_al 212 0)), (212, .inl (o_gf 215 7 36)), (215, .inl (o_il 217 4)), (217, .inl (o_ia 218)), (218, .inl (o_iw 219)), (219, .inl (o_ii 222 4 (1))), (222, .inl (o_go 196)), (225, .inl (o_al 226 0)), (226, .inl (o_il 227 3)), (227, .inr (.inl (100, 2))), (230, .inr (.inr ()))]
def cd_104 : CD := [(0, .inl (o_al 1 0)), (1, .inl (o_k 2 (vI (0)))), (2, .inl (o_pf 5 7 25)), (5, .inl (o_il 6 1)), (6, .inl (o_k 7 (vI (0)))), (7, .inl (o_al 8 0)), (8, .inl (o_gf 11 7 21)), (11, .inl (o_k 12 (vI (1)))), (12, .inl (o_ib 13 f_sub)), (13, .inr (.inl (70, 3))), (16, .inl (o_if 28 19 q_eq)), (19, .inl (o_al 20 0)), (20, .inl (o_gf 23 7 20)), (23, .inl (o_il 24 1)), (24, .inl (o_ia 25)), (25, .inl (o_go 29)), (28, .inl (o_k 29 (vI (-1)))), (29, .inr (.inr ()))]
def cd_105 : CD := [(0, .inl (o_al 1 0)), (1, .inl (o_k 2 (vI (0)))), (2, .inl (o_pf 5 7 25)), (5, .inl (o_il 6 1)), (6, .inl (o_k 7 (vI (0)))), (7, .inl (o_k 9 (vI (6)))), (9, .inr (.inl (70, 3))), (12, .inl (o_if 23 15 q_eq)), (15, .inl (o_al 16 0)), (16, .inl (o_il 17 2)), (17, .inr (.inl (73, 2))), (20, .inl (o_if 25 23 q_ne)), (23, .inl (o_k 24 (vI (-1)))), (24, .inr (.inr ())), (25, .inl (o_k 26 (vI (0)))), (26, .inl (o_is 27 3)), (27, .inl (o_il 28 3)), (28, .inl (o_al 29 0)), (29, .inl (o_gf 32 7 23)), (32, .inl (o_il 33 1)), (33, .inl (o_ia 34)), (34, .inl (o_ic 60 37 r_ge)), (37, .inl (o_al 38 0)), (38, .inl (o_gf 41 7 22)), (41, .inl (o_k 43 (vI (6)))), (43, .inl (o_il 44 1)), (44, .inl (o_ib 45 f_mul)), (45, .inl (o_il 46 3)), (46, .inl (o_ib 47 f_add)), (47, .inl (o_ia 48)), (48, .inl (o_il 49 2)), (49, .inl (o_ic 54 52 r_ne)), (52, .inl (o_k 53 (vI (-1)))), (53, .inr (.inr ())), (54, .inl (o_ii 57 3 (1))), (57, .inl (o_go 27)), (60, .inl (o_al 61 0)), (61, .inl (o_gf 64 7 22)), (64, .inl (o_k 66 (vI (6)))), (66, .inl (o_il 67 1)), (67, .inl (o_ib 68 f_mul)), (68, .inl (o_al 69 0)), (69, .inl (o_gf 72 7 23)), (72, .inl (o_il 73 1)), (73, .inl (o_ia 74)), (74, .inl (o_ib 75 f_add)), (75, .inl (o_il 76 2)), (76, .inl (o_iw 77)), (77, .inl (o_al 78 0)), (78, .inl (o_gf 81 7 23)), (81, .inl (o_il 82 1)), (82, .inl (o_dup2 83)), (83, .inl (o_ia 84)), (84, .inl (o_k 85 (vI (1)))), (85, .inl (o_ib 86 f_add)), (86, .inl (o_iw 87)), (87, .inl (o_al 88 0)), (88, .inl (o_gf 91 7 23)), (91, .inl (o_il 92 1)), (92, .inl (o_ia 93)), (93, .inr (.inr ()))]
def cd_106 : CD := [(0, .inl (o_al 1 0)), (1, .inl (o_k 2 (vI (0)))), (2, .inl (o_pf 5 7 25)), (5, .inl (o_il 6 1)), (6, .inl (o_k 7 (vI (0)))), (7, .inl (o_k 9 (vI (6)))), (9, .inr (.inl (70, 3))), (12, .inl (o_if 23 15 q_eq)), (15, .inl (o_al 16 0)), (16, .inl (o_il 17 2)), (17, .inr (.inl (73, 2))), (20, .inl (o_if 25 23 q_ne)), (23, .inl (o_k 24 (vI (0)))), (24, .inr (.inr ())), (25, .inl (o_al 26 0)), (26, .inl (o_gf 29 7 24)), (29, .inl (o_k 31 (vI (6)))), (31, .inl (o_il 32 1)), (32, .inl (o_ib 33 f_mul)), (33, .inl (o_il 34 2)), (34, .inl (o_ib 35 f_add)), (35, .inl (o_il 36 3)), (36, .inl (o_bw 37)), (37, .inl (o_k 38 (vI (1)))), (38, .inr (.inr ()))]
def cd_107 : CD := [(0, .inl (o_k 1 (vI (0)))), (1, .inl (o_is 2 2)), (2, .inl (o_k 3 (vI (0)))), (3, .inl (o_is 4 3)), (4, .inl (o_il 5 3)), (5, .inl (o_k 7 (vI (7)))), (7, .inl (o_ic 134 10 r_ge)), (10, .inl (o_al 11 0)), (11, .inl (o_gf 14 7 24)), (14, .inl (o_k 16 (vI (6)))), (16, .inl (o_il 17 3)), (17, .inl (o_ib 18 f_mul)), (18, .inl (o_il 19 1)), (19, .inl (o_ib 20 f_add)), (20, .inl (o_ba 21)), (21, .inl (o_if 27 24 q_eq)), (24, .inl (o_go 128)), (27, .inl (o_k 28 (vI (0)))), (28, .inl (o_is 30 4)), (30, .inl (o_k 31 (vI (0)))), (31, .inl (o_is 33 5)), (33, .inl (o_k 34 (vI (0)))), (34, .inl (o_is 36 6)), (36, .inl (o_il 38 6)), (38, .inl (o_al 39 0)), (39, .inl (o_gf 42 7 23)), (42, .inl (o_il 43 3)), (43, .inl (o_ia 44)), (44, .inl (o_ic 108 47 r_ge)), (47, .inl (o_il 49 5)), (49, .inl (o_if 108 52 q_ne)), (52, .inl (o_al 53 0)), (53, .inl (o_gf 56 7 22)), (56, .inl (o_k 58 (vI (6)))), (58, .inl (o_il 59 3)), (59, .inl (o_ib 60 f_mul)), (60, .inl (o_il 62 6)), (62, .inl (o_ib 63 f_add)), (63, .inl (o_ia 64)), (64, .inl (o_is 66 7)), (66, .inl (o_il 68 7)), (68, .inl (o_il 69 1)), (69, .inl (o_ic 76 72 r_ne)), (72, .inl (o_k 73 (vI (1)))), (73, .inl (o_go 77)), (76, .inl (o_k 77 (vI (0)))), (77, .inl (o_is 79 5)), (79, .inl (o_il 81 5)), (81, .inl (o_if 102 84 q_ne)), (84, .inl (o_al 85 0)), (85, .inl (o_gf 88 7 24)), (88, .inl (o_k 90 (vI (6)))), (90, .inl (o_il 91 3)), (91, .inl (o_ib 92 f_mul)), (92, .inl (o_il 94 7)), (94, .inl (o_ib 95 f_add)), (95, .inl (o_ba 96)), (96, .inl (o_if 102 99 q_ne)), (99, .inl (o_ii 102 4 (1))), (102, .inl (o_ii 105 6 (1))), (105, .inl (o_go 36)), (108, .inl (o_il 110 5)), (110, .inl (o_if 128 113 q_eq)), (113, .inl (o_il 115 4)), (115, .inl (o_k 117 (vI (6)))), (117, .inl (o_ic 128 120 r_ge)), (120, .inl (o_il 121 2)), (121, .inl (o_k 123 (vI (6)))), (123, .inl (o_il 125 4)), (125, .inl (o_ib 126 f_sub)), (126, .inl (o_ib 127 f_add)), (127, .inl (o_is 128 2)), (128, .inl (o_ii 131 3 (1))), (131, .inl (o_go 4)), (134, .inl (o_il 135 2)), (135, .inr (.inr ()))]
def cd_108 : CD := [(0, .inl (o_al 1 0)), (1, .inl (o_k 2 (vI (0)))), (2, .inl (o_pf 5 7 25)), (5, .inl (o_al 6 0)), (6, .inl (o_il 7 1)), (7, .inr (.inl (73, 2))), (10, .inl (o_if 21 13 q_eq)), (13, .inl (o_al 14 0)), (14, .inl (o_il 15 1)), (15, .inr (.inl (107, 2))), (18, .inl (o_go 22)), (21, .inl (o_k 22 (vI (-1)))), (22, .inr (.inr ()))]
def cd_109 : CD := [(0, .inl (o_al 1 0)), (1, .inl (o_il 2 1)), (2, .inr (.inl (107, 2))), (5, .inl (o_al 6 0)), (6, .inl (o_il 7 2)), (7, .inr (.inl (107, 2))), (10, .inl (o_ic 32 13 r_eq)), (13, .inl (o_al 14 0)), (14, .inl (o_il 15 1)), (15, .inr (.inl (107, 2))), (18, .inl (o_al 19 0)), (19, .inl (o_il 20 2)), (20, .inr (.inl (107, 2))), (23, .inl (o_ic 30 26 r_le)), (26, .inl (o_k 27 (vI (1)))), (27, .inl (o_go 31)), (30, .inl (o_k 31 (vI (0)))), (31, .inr (.inr ())), (32, .inl (o_al 33 0)), (33, .inl (o_gf 36 7 3)), (36, .inl (o_il 37 1)), (37, .inl (o_ia 38)), (38, .inl (o_al 39 0)), (39, .inl (o_gf 42 7 3)), (42, .inl (o_il 43 2)), (43, .inl (o_ia 44)), (44, .inl (o_ic 68 47 r_eq)), (47, .inl (o_al 48 0)), (48, .inl (o_gf 51 7 3)), (51, .inl (o_il 52 1)), (52, .inl (o_ia 53)), (53, .inl (o_al 54 0)), (54, .inl (o_gf 57 7 3)), (57, .inl (o_il 58 2)), (58, .inl (o_ia 59)), (59, .inl (o_ic 66 62 r_le)), (62, .inl (o_k 63 (vI (1)))), (63, .inl (o_go 67)), (66, .inl (o_k 67 (vI (0)))), (67, .inr (.inr ())), (68, .inl (o_il 69 1)), (69, .inl (o_il 70 2)), (70, .inl (o_ic 77 73 r_ge)), (73, .inl (o_k 74 (vI (1)))), (74, .inl (o_go 78)), (77, .inl (o_k 78 (vI (0)))), (78, .inr (.inr ()))]
def cd_110 : CD := [(0, .inl (o_al 1 0)), (1, .inl (o_k 2 (vI (0)))), (2, .inl (o_pf 5 7 25)), (5, .inl (o_k 6 (vI (0)))), (6, .inl (o_is 7 2)), (7, .inl (o_il 8 2)), (8, .inl (o_al 9 0)), (9, .inl (o_gf 12 7 7)), (12, .inl (o_ic 67 15 r_ge)), (15, .inl (o_k 16 (vI (0)))), (16, .inl (o_is 17 3)), (17, .inl (o_k 18 (vI (0)))), (18, .inl (o_is 20 4)), (20, .inl (o_il 22 4)), (22, .inl (o_al 23 0)), (23, .inl (o_gf 26 7 7)), (26, .inl (o_ic 54 29 r_ge)), (29, .inl (o_il 31 4)), (31, .inl (o_il 32 2)), (32, .inl (o_ic 48 35 r_eq)), (35, .inl (o_al 36 0)), (36, .inl (o_il 38 4)), (38, .inl (o_il 39 2)), (39, .inr (.inl (109, 3))), (42, .inl (o_if 48 45 q_eq)), (45, .inl (o_ii 48 3 (1))), (48, .inl (o_ii 51 4 (1))), (51, .inl (o_go 20)), (54, .inl (o_il 55 3)), (55, .inl (o_il 56 1)), (56, .inl (o_ic 61 59 r_ne)), (59, .inl (o_il 60 2)), (60, .inr (.inr ())), (61, .inl (o_ii 64 2 (1))), (64, .inl (o_go 7)), (67, .inl (o_k 68 (vI (-1)))), (68, .inr (.inr ()))]
def cd_111 : CD := [(0, .inl (o_il 1 0)), (1, .inl (o_k 2 (vI (-1)))), (2, .inl (o_ib 3 f_xor)), (3, .inl (o_il 4 0)), (4, .inl (o_k 5 (vI (1)))), (5, .inl (o_ib 6 f_sub)), (6, .inl (o_ib 7 f_and)), (7, .inl (o_is 8 0)), (8, .inl (o_il 9 0)), (9, .inl (o_if 17 12 q_gt)), (12, .inl (o_il 13 0)), (13, .inl (o_k 15 (vI (32)))), (15, .inl (o_ib 16 f_and)), (16, .inr (.inr ())), (17, .inl (o_k 18 (vI (1)))), (18, .inl (o_is 19 1)), (19, .inl (o_il 20 0)), (20, .inl (o_k 23 (vI (65536)))), (23, .inl (o_ic 34 26 r_le)), (26, .inl (o_ii 29 1 (16))), (29, .inl (o_il 30 0)), (30, .inl (o_k 32 (vI (16)))), (32, .inl (o_ib 33 f_ushr)), (33, .inl (o_is 34 0)), (34, .inl (o_il 35 0)), (35, .inl (o_k 38 (vI (256)))), (38, .inl (o_ic 49 41 r_le)), (41, .inl (o_ii 44 1 (8))), (44, .inl (o_il 45 0)), (45, .inl (o_k 47 (vI (8)))), (47, .inl (o_ib 48 f_ushr)), (48, .inl (o_is 49 0)), (49, .inl (o_il 50 0)), (50, .inl (o_k 52 (vI (16)))), (52, .inl (o_ic 62 55 r_le)), (55, .inl (o_ii 58 1 (4))), (58, .inl (o_il 59 0)), (59, .inl (o_k 60 (vI (4)))), (60, .inl (o_ib 61 f_ushr)), (61, .inl (o_is 62 0)), (62, .inl (o_il 63 0)), (63, .inl (o_k 64 (vI (4)))), (64, .inl (o_ic 74 67 r_le)), (67, .inl (o_ii 70 1 (2))), (70, .inl (o_il 71 0)), (71, .inl (o_k 72 (vI (2)))), (72, .inl (o_ib 73 f_ushr)), (73, .inl (o_is 74 0)), (74, .inl (o_il 75 1)), (75, .inl (o_il 76 0)), (76, .inl (o_k 77 (vI (1)))), (77, .inl (o_ib 78 f_ushr)), (78, .inl (o_ib 79 f_add)), (79, .inr (.inr ()))]
def cd_112 : CD := [(0, .inl (o_il 1 0)), (1, .inl (o_il 2 0)), (2, .inl (o_k 3 (vI (1)))), (3, .inl (o_ib 4 f_ushr)), (4, .inl (o_k 7 (vI (1431655765)))), (7, .inl (o_ib 8 f_and)), (8, .inl (o_ib 9 f_sub)), (9, .inl (o_is 10 0)), (10, .inl (o_il 11 0)), (11, .inl (o_k 14 (vI (858993459)))), (14, .inl (o_ib 15 f_and)), (15, .inl (o_il 16 0)), (16, .inl (o_k 17 (vI (2)))), (17, .inl (o_ib 18 f_ushr)), (18, .inl (o_k 21 (vI (858993459)))), (21, .inl (o_ib 22 f_and)), (22, .inl (o_ib 23 f_add)), (23, .inl (o_is 24 0)), (24, .inl (o_il 25 0)), (25, .inl (o_il 26 0)), (26, .inl (o_k 27 (vI (4)))), (27, .inl (o_ib 28 f_ushr)), (28, .inl (o_ib 29 f_add)), (29, .inl (o_k 32 (vI (252645135)))), (32, .inl (o_ib 33 f_and)), (33, .inl (o_is 34 0)), (34, .inl (o_il 35 0)), (35, .inl (o_il 36 0)), (36, .inl (o_k 38 (vI (8)))), (38, .inl (o_ib 39 f_ushr)), (39, .inl (o_ib 40 f_add)), (40, .inl (o_is 41 0)), (41, .inl (o_il 42 0)), (42, .inl (o_il 43 0)), (43, .inl (o_k 45 (vI (16)))), (45, .inl (o_ib 46 f_ushr)), (46, .inl (o_ib 47 f_add)), (47, .inl (o_is 48 0)), (48, .inl (o_il 49 0)), (49, .inl (o_k 51 (vI (63)))), (51, .inl (o_ib 52 f_and)), (52, .inr (.inr ()))]
def cd_113 : CD := [(0, .inl (o_ll 1 0)), (1, .inl (o_ll 2 2)), (2, .inl (o_ld 3 f_lrem)), (3, .inl (o_ls 5 4)), (5, .inl (o_ll 6 0)), (6, .inl (o_ll 7 2)), (7, .inl (o_lb 8 f_lxor)), (8, .inl (o_k 9 (vL (0)))), (9, .inl (o_lcmp 10)), (10, .inl (o_if 25 13 q_ge)), (13, .inl (o_ll 15 4)), (15, .inl (o_k 16 (vL (0)))), (16, .inl (o_lcmp 17)), (17, .inl (o_if 25 20 q_eq)), (20, .inl (o_ll 22 4)), (22, .inl (o_ll 23 2)), (23, .inl (o_lb 24 f_add)), (24, .inr (.inr ())), (25, .inl (o_ll 27 4)), (27, .inr (.inr ()))]
def cd_114 : CD := [(0, .inl (o_il 1 0)), (1, .inl (o_if 9 4 q_ge)), (4, .inl (o_il 5 0)), (5, .inl (o_iu 6 f_neg)), (6, .inl (o_go 10)), (9, .inl (o_il 10 0)), (10, .inr (.inr ()))]
def cd_115 : CD := [(0, .inl (o_il 1 0)), (1, .inl (o_il 2 1)), (2, .inl (o_ic 9 5 r_lt)), (5, .inl (o_il 6 0)), (6, .inl (o_go 10)), (9, .inl (o_il 10 1)), (10, .inr (.inr ()))]
def cd_116 : CD := [(0, .inl (o_ll 1 0)), (1, .inl (o_ll 2 2)), (2, .inl (o_lcmp 3)), (3, .inl (o_if 10 6 q_lt)), (6, .inl (o_ll 7 0)), (7, .inl (o_go 11)), (10, .inl (o_ll 11 2)), (11, .inr (.inr ()))]
def cd_117 : CD := [(0, .inl (o_k 1 (vI (0)))), (1, .inl (o_is 2 3)), (2, .inl (o_al 3 0)), (3, .inl (o_len 4)), (4, .inl (o_is 6 4)), (6, .inl (o_il 7 3)), (7, .inl (o_il 9 4)), (9, .inl (o_ic 22 12 r_ge)), (12, .inl (o_al 13 0)), (13, .inl (o_il 14 3)), (14, .inl (o_ll 15 1)), (15, .inl (o_lw 16)), (16, .inl (o_ii 19 3 (1))), (19, .inl (o_go 6)), (22, .inr (.inr ()))]
def cd_118 : CD := [(0, .inl (o_k 1 (vI (0)))), (1, .inl (o_is 2 2)), (2, .inl (o_al 3 0)), (3, .inl (o_len 4)), (4, .inl (o_is 5 3)), (5, .inl (o_il 6 2)), (6, .inl (o_il 7 3)), (7, .inl (o_ic 20 10 r_ge)), (10, .inl (o_al 11 0)), (11, .inl (o_il 12 2)), (12, .inl (o_il 13 1)), (13, .inl (o_iw 14)), (14, .inl (o_ii 17 2 (1))), (17, .inl (o_go 5)), (20, .inr (.inr ()))]
def gm_mi : MI := fun k => match k with
  | 0 => (yX0_has, cX0_has, 2, (some .boolean))
  | 1 => (yX0_add, cX0_add, 2, (some .int))
  | 2 => (yX1_append, cX1_append, 5, (some .int))
  | 3 => (yX1_sumFor, cX1_sumFor, 4, (some .int))
  | 4 => (yX1_fromJudge, cX1_fromJudge, 5, (some .int))
  | 5 => (yX1_artistAtPlace, cX1_artistAtPlace, 3, (some .int))
  | 6 => (yX1_placeOf, cX1_placeOf, 4, (some .int))
  | 7 => (yX1_isAhead, cX1_isAhead, 3, (some .boolean))
  | 8 => (yX2_has, cX2_has, 2, (some .boolean))
  | 9 => (yX2_add, cX2_add, 3, (some .int))
  | 10 => (yX2_shared, cX2_shared, 3, (some .int))
  | 11 => (yX2_areTooNear, cX2_areTooNear, 3, (some .boolean))
  | 12 => (yX3_has, cX3_has, 2, (some .boolean))
  | 13 => (yX3_add, cX3_add, 5, (some .int))
  | 14 => (yX3_findRow, cX3_findRow, 6, (some .int))
  | 15 => (yX3_readyOn, cX3_readyOn, 5, (some .int))
  | 16 => (yX3_listFollowers, cX3_listFollowers, 4, none)
  | 17 => (yX3_firstsOf, cX3_firstsOf, 6, (some .int))
  | 18 => (yX3_isGood, cX3_isGood, 3, (some .boolean))
  | 19 => (yX3_isBetter, cX3_isBetter, 5, (some .boolean))
  | 20 => (yX3_sum, cX3_sum, 5, (some .int))
  | 21 => (yX3_firstRow, cX3_firstRow, 8, (some .long))
  | 22 => (yX3_writeLatest, cX3_writeLatest, 5, none)
  | 23 => (yX4_plan, cX4_plan, 3, (some .int))
  | 24 => (yX4_weighOptions, cX4_weighOptions, 6, none)
  | 25 => (yX4_listChoices, cX4_listChoices, 6, none)
  | 26 => (yX4_listFollowers, cX4_listFollowers, 4, none)
  | 27 => (yX4_listFarModes, cX4_listFarModes, 3, none)
  | 28 => (yX4_fillFrom, cX4_fillFrom, 10, none)
  | 29 => (yX4_fillWith, cX4_fillWith, 10, none)
  | 30 => (yX4_joinEvening, cX4_joinEvening, 6, none)
  | 31 => (yX4_carryOut, cX4_carryOut, 8, (some .int))
  | 32 => (yX5_begin, cX5_begin, 6, none)
  | 33 => (yX5_hasSlot, cX5_hasSlot, 2, (some .boolean))
  | 34 => (yX5_isFilled, cX5_isFilled, 2, (some .boolean))
  | 35 => (yX5_artistAt, cX5_artistAt, 2, (some .int))
  | 36 => (yX5_modeAt, cX5_modeAt, 2, (some .int))
  | 37 => (yX5_filledSlots, cX5_filledSlots, 3, (some .int))
  | 38 => (yX5_worth, cX5_worth, 3, (some .int))
  | 39 => (yX5_firstFault, cX5_firstFault, 3, (some .int))
  | 40 => (yX5_isFault, cX5_isFault, 5, (some .boolean))
  | 41 => (yX5_isArtistAhead, cX5_isArtistAhead, 3, (some .boolean))
  | 42 => (yX5_clashesInEvening, cX5_clashesInEvening, 4, (some .boolean))
  | 43 => (yX5_clash, cX5_clash, 4, (some .boolean))
  | 44 => (yX5_isTooNearOneAhead, cX5_isTooNearOneAhead, 3, (some .boolean))
  | 45 => (yX6_mode, cX6_mode, 3, (some .int))
  | 46 => (yX6_artist, cX6_artist, 2, (some .int))
  | 47 => (yX6_like, cX6_like, 4, (some .boolean))
  | 48 => (yX6_rival, cX6_rival, 4, (some .boolean))
  | 49 => (yX6_ill, cX6_ill, 3, (some .boolean))
  | 50 => (yX6_set, cX6_set, 4, (some .int))
  | 51 => (yX6_season, cX6_season, 3, (some .boolean))
  | 52 => (yX6_near, cX6_near, 3, (some .int))
  | 53 => (yX6_count, cX6_count, 2, (some .int))
  | 54 => (yX6_put, cX6_put, 4, (some .boolean))
  | 55 => (yX6_wrong, cX6_wrong, 1, (some .int))
  | 56 => (yX6_best, cX6_best, 1, (some .int))
  | 57 => (yX6_mend, cX6_mend, 1, (some .int))
  | 58 => (yX6_piece, cX6_piece, 5, (some .int))
  | 59 => (yX6_played, cX6_played, 3, (some .boolean))
  | 60 => (yX6_row, cX6_row, 3, (some .int))
  | 61 => (yX6_told, cX6_told, 2, (some .int))
  | 62 => (yX6_vote, cX6_vote, 3, (some .int))
  | 63 => (yX6_kin, cX6_kin, 4, (some .boolean))
  | 64 => (yX6_points, cX6_points, 2, (some .int))
  | 65 => (yX6_prize, cX6_prize, 2, (some .int))
  | 66 => (yX6_isWithin, cX6_isWithin, 3, (some .boolean))
  | 67 => (yX6_hasBit, cX6_hasBit, 2, (some .boolean))
  | 68 => (yX6_withBit, cX6_withBit, 3, (some .int))
  | 69 => (yX7_thrown, cX7_thrown, 1, (some .int))
  | 70 => (yX7_in, cX7_in, 3, (some .boolean))
  | 71 => (yX7_empty, cX7_empty, 2, none)
  | 72 => (yX7_isMode, cX7_isMode, 2, (some .boolean))
  | 73 => (yX7_isArtist, cX7_isArtist, 2, (some .boolean))
  | 74 => (yX7_mode, cX7_mode, 3, (some .int))
  | 75 => (yX7_artist, cX7_artist, 2, (some .int))
  | 76 => (yX7_like, cX7_like, 4, (some .boolean))
  | 77 => (yX7_rival, cX7_rival, 4, (some .boolean))
  | 78 => (yX7_ill, cX7_ill, 3, (some .boolean))
  | 79 => (yX7_set, cX7_set, 4, (some .int))
  | 80 => (yX7_season, cX7_season, 3, (some .boolean))
  | 81 => (yX7_share, cX7_share, 3, (some .int))
  | 82 => (yX7_near, cX7_near, 3, (some .int))
  | 83 => (yX7_all, cX7_all, 1, (some .int))
  | 84 => (yX7_count, cX7_count, 4, (some .int))
  | 85 => (yX7_put, cX7_put, 4, (some .boolean))
  | 86 => (yX7_at, cX7_at, 3, (some .int))
  | 87 => (yX7_holds, cX7_holds, 7, (some .boolean))
  | 88 => (yX7_wrong, cX7_wrong, 3, (some .int))
  | 89 => (yX7_go, cX7_go, 11, none)
  | 90 => (yX7_join, cX7_join, 6, none)
  | 91 => (yX7_isAhead, cX7_isAhead, 5, (some .boolean))
  | 92 => (yX7_search, cX7_search, 4, none)
  | 93 => (yX7_best, cX7_best, 1, (some .int))
  | 94 => (yX7_mend, cX7_mend, 3, (some .int))
  | 95 => (yX7_piece, cX7_piece, 5, (some .int))
  | 96 => (yX7_played, cX7_played, 3, (some .boolean))
  | 97 => (yX7_canFollow, cX7_canFollow, 3, (some .boolean))
  | 98 => (yX7_findFirsts, cX7_findFirsts, 6, none)
  | 99 => (yX7_mayBe, cX7_mayBe, 7, (some .boolean))
  | 100 => (yX7_sum, cX7_sum, 4, (some .int))
  | 101 => (yX7_layRow, cX7_layRow, 5, none)
  | 102 => (yX7_isRowAhead, cX7_isRowAhead, 4, (some .boolean))
  | 103 => (yX7_row, cX7_row, 7, (some .int))
  | 104 => (yX7_told, cX7_told, 2, (some .int))
  | 105 => (yX7_vote, cX7_vote, 4, (some .int))
  | 106 => (yX7_kin, cX7_kin, 4, (some .boolean))
  | 107 => (yX7_pointsOf, cX7_pointsOf, 8, (some .int))
  | 108 => (yX7_points, cX7_points, 2, (some .int))
  | 109 => (yX7_stands, cX7_stands, 3, (some .boolean))
  | 110 => (yX7_prize, cX7_prize, 5, (some .int))
  | 111 => (yJ6_numberOfTrailingZeros_0f7a4, cJ6_numberOfTrailingZeros_0f7a4, 2, (some .int))
  | 112 => (yJ6_bitCount_0f7a4, cJ6_bitCount_0f7a4, 1, (some .int))
  | 113 => (yJ9_floorMod_f86c9, cJ9_floorMod_f86c9, 6, (some .long))
  | 114 => (yJ9_abs_0f7a4, cJ9_abs_0f7a4, 1, (some .int))
  | 115 => (yJ9_max_7cf53, cJ9_max_7cf53, 2, (some .int))
  | 116 => (yJ9_max_f86c9, cJ9_max_f86c9, 4, (some .long))
  | 117 => (yJ7_fill_d0a16, cJ7_fill_d0a16, 5, none)
  | 118 => (yJ7_fill_53178, cJ7_fill_53178, 4, none)
  | _ => (⟨"", "", ""⟩, .empty, 0, none)
def gm_mt : MT := fun k => match k with
  | 0 => (cd_0, 2, 2, 1)
  | 1 => (cd_1, 2, 1, 1)
  | 2 => (cd_2, 5, 1, 2)
  | 3 => (cd_3, 4, 1, 2)
  | 4 => (cd_4, 5, 1, 2)
  | 5 => (cd_5, 3, 1, 2)
  | 6 => (cd_6, 4, 1, 2)
  | 7 => (cd_7, 3, 2, 2)
  | 8 => (cd_8, 2, 2, 3)
  | 9 => (cd_9, 3, 1, 3)
  | 10 => (cd_10, 3, 1, 3)
  | 11 => (cd_11, 3, 2, 3)
  | 12 => (cd_12, 2, 2, 4)
  | 13 => (cd_13, 5, 1, 4)
  | 14 => (cd_14, 6, 1, 4)
  | 15 => (cd_15, 5, 1, 4)
  | 16 => (cd_16, 4, 0, 4)
  | 17 => (cd_17, 6, 1, 4)
  | 18 => (cd_18, 3, 2, 4)
  | 19 => (cd_19, 5, 2, 4)
  | 20 => (cd_20, 5, 1, 4)
  | 21 => (cd_21, 8, 3, 4)
  | 22 => (cd_22, 5, 0, 4)
  | 23 => (cd_23, 3, 1, 5)
  | 24 => (cd_24, 6, 0, 5)
  | 25 => (cd_25, 6, 0, 5)
  | 26 => (cd_26, 4, 0, 5)
  | 27 => (cd_27, 3, 0, 5)
  | 28 => (cd_28, 10, 0, 5)
  | 29 => (cd_29, 10, 0, 5)
  | 30 => (cd_30, 6, 0, 5)
  | 31 => (cd_31, 8, 1, 5)
  | 32 => (cd_32, 6, 0, 6)
  | 33 => (cd_33, 2, 2, 6)
  | 34 => (cd_34, 2, 2, 6)
  | 35 => (cd_35, 2, 1, 6)
  | 36 => (cd_36, 2, 1, 6)
  | 37 => (cd_37, 3, 1, 6)
  | 38 => (cd_38, 3, 1, 6)
  | 39 => (cd_39, 3, 1, 6)
  | 40 => (cd_40, 5, 2, 6)
  | 41 => (cd_41, 3, 2, 6)
  | 42 => (cd_42, 4, 2, 6)
  | 43 => (cd_43, 4, 2, 6)
  | 44 => (cd_44, 3, 2, 6)
  | 45 => (cd_45, 3, 1, 7)
  | 46 => (cd_46, 2, 1, 7)
  | 47 => (cd_47, 4, 2, 7)
  | 48 => (cd_48, 4, 2, 7)
  | 49 => (cd_49, 3, 2, 7)
  | 50 => (cd_50, 4, 1, 7)
  | 51 => (cd_51, 3, 2, 7)
  | 52 => (cd_52, 3, 1, 7)
  | 53 => (cd_53, 2, 1, 7)
  | 54 => (cd_54, 4, 2, 7)
  | 55 => (cd_55, 1, 1, 7)
  | 56 => (cd_56, 1, 1, 7)
  | 57 => (cd_57, 1, 1, 7)
  | 58 => (cd_58, 5, 1, 7)
  | 59 => (cd_59, 3, 2, 7)
  | 60 => (cd_60, 3, 1, 7)
  | 61 => (cd_61, 2, 1, 7)
  | 62 => (cd_62, 3, 1, 7)
  | 63 => (cd_63, 4, 2, 7)
  | 64 => (cd_64, 2, 1, 7)
  | 65 => (cd_65, 2, 1, 7)
  | 66 => (cd_66, 3, 2, 0)
  | 67 => (cd_67, 2, 2, 0)
  | 68 => (cd_68, 3, 1, 0)
  | 69 => (cd_69, 1, 1, 8)
  | 70 => (cd_70, 3, 2, 0)
  | 71 => (cd_71, 2, 0, 8)
  | 72 => (cd_72, 2, 2, 8)
  | 73 => (cd_73, 2, 2, 8)
  | 74 => (cd_74, 3, 1, 8)
  | 75 => (cd_75, 2, 1, 8)
  | 76 => (cd_76, 4, 2, 8)
  | 77 => (cd_77, 4, 2, 8)
  | 78 => (cd_78, 3, 2, 8)
  | 79 => (cd_79, 4, 1, 8)
  | 80 => (cd_80, 3, 2, 8)
  | 81 => (cd_81, 3, 1, 8)
  | 82 => (cd_82, 3, 1, 8)
  | 83 => (cd_83, 1, 1, 8)
  | 84 => (cd_84, 4, 1, 8)
  | 85 => (cd_85, 4, 2, 8)
  | 86 => (cd_86, 3, 1, 8)
  | 87 => (cd_87, 7, 2, 8)
  | 88 => (cd_88, 3, 1, 8)
  | 89 => (cd_89, 11, 0, 8)
  | 90 => (cd_90, 6, 0, 8)
  | 91 => (cd_91, 5, 2, 8)
  | 92 => (cd_92, 4, 0, 8)
  | 93 => (cd_93, 1, 1, 8)
  | 94 => (cd_94, 3, 1, 8)
  | 95 => (cd_95, 5, 1, 8)
  | 96 => (cd_96, 3, 2, 8)
  | 97 => (cd_97, 3, 2, 8)
  | 98 => (cd_98, 6, 0, 8)
  | 99 => (cd_99, 7, 2, 8)
  | 100 => (cd_100, 4, 1, 8)
  | 101 => (cd_101, 5, 0, 8)
  | 102 => (cd_102, 4, 2, 8)
  | 103 => (cd_103, 7, 1, 8)
  | 104 => (cd_104, 2, 1, 8)
  | 105 => (cd_105, 4, 1, 8)
  | 106 => (cd_106, 4, 2, 8)
  | 107 => (cd_107, 8, 1, 8)
  | 108 => (cd_108, 2, 1, 8)
  | 109 => (cd_109, 3, 2, 8)
  | 110 => (cd_110, 5, 1, 8)
  | 111 => (cd_111, 2, 1, 0)
  | 112 => (cd_112, 1, 1, 0)
  | 113 => (cd_113, 6, 3, 0)
  | 114 => (cd_114, 1, 1, 0)
  | 115 => (cd_115, 2, 1, 0)
  | 116 => (cd_116, 4, 3, 0)
  | 117 => (cd_117, 5, 0, 0)
  | 118 => (cd_118, 4, 0, 0)
  | _ => ([], 0, 0, 0)
def am_okL (mi : MI) (mt : MT) (Ts : List Cond) (Ns : NS) (k : Nat) : CD → Prop
  | [] => True
  | q :: r => am_okI mi mt Ts Ns k q.1 q.2 ∧ am_okL mi mt Ts Ns k r
theorem am_okL_at {mi : MI} {mt : MT} {Ts : List Cond} {Ns : NS} {k : Nat} : ∀ {c : CD} {pc : Nat} {i : IN}, am_okL mi mt Ts Ns k c → am_at c pc = some i → am_okI mi mt Ts Ns k pc i
  | [], pc, i, _, h => by simp [am_at] at h
  | q :: r, pc, i, h, ha => by
    unfold am_at at ha
    split at ha
    · rename_i e
      cases ha
      rw [← e]
      exact h.1
    · exact am_okL_at h.2 ha
theorem cf_0 : ((gm_mi 0).1.cls ≠ "java/lang/invoke/MethodHandle" ∧ (gm_mi 0).1.cls ≠ "java/lang/invoke/VarHandle" ∧ plainFor (gm_mi 0).1 = true) ∧ Cond.code (gm_mi 0).1 (gm_mi 0).2.1 (gm_mi 0).2.2.1 (gm_mi 0).2.2.2 ∈ lw_Ts ∧ Cond.initialized (gm_mi 0).1.cls ∈ lw_Ts ∧ (gm_mi 0).2.2.1 ≤ 40 := ⟨⟨by decide +kernel, by decide +kernel, by decide +kernel⟩, wt_333, wt_46, by decide +kernel⟩
theorem cf_1 : ((gm_mi 1).1.cls ≠ "java/lang/invoke/MethodHandle" ∧ (gm_mi 1).1.cls ≠ "java/lang/invoke/VarHandle" ∧ plainFor (gm_mi 1).1 = true) ∧ Cond.code (gm_mi 1).1 (gm_mi 1).2.1 (gm_mi 1).2.2.1 (gm_mi 1).2.2.2 ∈ lw_Ts ∧ Cond.initialized (gm_mi 1).1.cls ∈ lw_Ts ∧ (gm_mi 1).2.2.1 ≤ 40 := ⟨⟨by decide +kernel, by decide +kernel, by decide +kernel⟩, wt_325, wt_46, by decide +kernel⟩
theorem cf_2 : ((gm_mi 2).1.cls ≠ "java/lang/invoke/MethodHandle" ∧ (gm_mi 2).1.cls ≠ "java/lang/invoke/VarHandle" ∧ plainFor (gm_mi 2).1 = true) ∧ Cond.code (gm_mi 2).1 (gm_mi 2).2.1 (gm_mi 2).2.2.1 (gm_mi 2).2.2.2 ∈ lw_Ts ∧ Cond.initialized (gm_mi 2).1.cls ∈ lw_Ts ∧ (gm_mi 2).2.2.1 ≤ 40 := ⟨⟨by decide +kernel, by decide +kernel, by decide +kernel⟩, wt_584, wt_51, by decide +kernel⟩
theorem cf_3 : ((gm_mi 3).1.cls ≠ "java/lang/invoke/MethodHandle" ∧ (gm_mi 3).1.cls ≠ "java/lang/invoke/VarHandle" ∧ plainFor (gm_mi 3).1 = true) ∧ Cond.code (gm_mi 3).1 (gm_mi 3).2.1 (gm_mi 3).2.2.1 (gm_mi 3).2.2.2 ∈ lw_Ts ∧ Cond.initialized (gm_mi 3).1.cls ∈ lw_Ts ∧ (gm_mi 3).2.2.1 ≤ 40 := ⟨⟨by decide +kernel, by decide +kernel, by decide +kernel⟩, wt_596, wt_51, by decide +kernel⟩
theorem cf_4 : ((gm_mi 4).1.cls ≠ "java/lang/invoke/MethodHandle" ∧ (gm_mi 4).1.cls ≠ "java/lang/invoke/VarHandle" ∧ plainFor (gm_mi 4).1 = true) ∧ Cond.code (gm_mi 4).1 (gm_mi 4).2.1 (gm_mi 4).2.2.1 (gm_mi 4).2.2.2 ∈ lw_Ts ∧ Cond.initialized (gm_mi 4).1.cls ∈ lw_Ts ∧ (gm_mi 4).2.2.1 ≤ 40 := ⟨⟨by decide +kernel, by decide +kernel, by decide +kernel⟩, wt_601, wt_51, by decide +kernel⟩
theorem cf_5 : ((gm_mi 5).1.cls ≠ "java/lang/invoke/MethodHandle" ∧ (gm_mi 5).1.cls ≠ "java/lang/invoke/VarHandle" ∧ plainFor (gm_mi 5).1 = true) ∧ Cond.code (gm_mi 5).1 (gm_mi 5).2.1 (gm_mi 5).2.2.1 (gm_mi 5).2.2.2 ∈ lw_Ts ∧ Cond.initialized (gm_mi 5).1.cls ∈ lw_Ts ∧ (gm_mi 5).2.2.1 ≤ 40 := ⟨⟨by decide +kernel, by decide +kernel, by decide +kernel⟩, wt_612, wt_51, by decide +kernel⟩
theorem cf_6 : ((gm_mi 6).1.cls ≠ "java/lang/invoke/MethodHandle" ∧ (gm_mi 6).1.cls ≠ "java/lang/invoke/VarHandle" ∧ plainFor (gm_mi 6).1 = true) ∧ Cond.code (gm_mi 6).1 (gm_mi 6).2.1 (gm_mi 6).2.2.1 (gm_mi 6).2.2.2 ∈ lw_Ts ∧ Cond.initialized (gm_mi 6).1.cls ∈ lw_Ts ∧ (gm_mi 6).2.2.1 ≤ 40 := ⟨⟨by decide +kernel, by decide +kernel, by decide +kernel⟩, wt_617, wt_51, by decide +kernel⟩
theorem cf_7 : ((gm_mi 7).1.cls ≠ "java/lang/invoke/MethodHandle" ∧ (gm_mi 7).1.cls ≠ "java/lang/invoke/VarHandle" ∧ plainFor (gm_mi 7).1 = true) ∧ Cond.code (gm_mi 7).1 (gm_mi 7).2.1 (gm_mi 7).2.2.1 (gm_mi 7).2.2.2 ∈ lw_Ts ∧ Cond.initialized (gm_mi 7).1.cls ∈ lw_Ts ∧ (gm_mi 7).2.2.1 ≤ 40 := ⟨⟨by decide +kernel, by decide +kernel, by decide +kernel⟩, wt_621, wt_51, by decide +kernel⟩
theorem cf_8 : ((gm_mi 8).1.cls ≠ "java/lang/invoke/MethodHandle" ∧ (gm_mi 8).1.cls ≠ "java/lang/invoke/VarHandle" ∧ plainFor (gm_mi 8).1 = true) ∧ Cond.code (gm_mi 8).1 (gm_mi 8).2.1 (gm_mi 8).2.2.1 (gm_mi 8).2.2.2 ∈ lw_Ts ∧ Cond.initialized (gm_mi 8).1.cls ∈ lw_Ts ∧ (gm_mi 8).2.2.1 ≤ 40 := ⟨⟨by decide +kernel, by decide +kernel, by decide +kernel⟩, wt_338, wt_45, by decide +kernel⟩
theorem cf_9 : ((gm_mi 9).1.cls ≠ "java/lang/invoke/MethodHandle" ∧ (gm_mi 9).1.cls ≠ "java/lang/invoke/VarHandle" ∧ plainFor (gm_mi 9).1 = true) ∧ Cond.code (gm_mi 9).1 (gm_mi 9).2.1 (gm_mi 9).2.2.1 (gm_mi 9).2.2.2 ∈ lw_Ts ∧ Cond.initialized (gm_mi 9).1.cls ∈ lw_Ts ∧ (gm_mi 9).2.2.1 ≤ 40 := ⟨⟨by decide +kernel, by decide +kernel, by decide +kernel⟩, wt_317, wt_45, by decide +kernel⟩
theorem cf_10 : ((gm_mi 10).1.cls ≠ "java/lang/invoke/MethodHandle" ∧ (gm_mi 10).1.cls ≠ "java/lang/invoke/VarHandle" ∧ plainFor (gm_mi 10).1 = true) ∧ Cond.code (gm_mi 10).1 (gm_mi 10).2.1 (gm_mi 10).2.2.1 (gm_mi 10).2.2.2 ∈ lw_Ts ∧ Cond.initialized (gm_mi 10).1.cls ∈ lw_Ts ∧ (gm_mi 10).2.2.1 ≤ 40 := ⟨⟨by decide +kernel, by decide +kernel, by decide +kernel⟩, wt_367, wt_45, by decide +kernel⟩
theorem cf_11 : ((gm_mi 11).1.cls ≠ "java/lang/invoke/MethodHandle" ∧ (gm_mi 11).1.cls ≠ "java/lang/invoke/VarHandle" ∧ plainFor (gm_mi 11).1 = true) ∧ Cond.code (gm_mi 11).1 (gm_mi 11).2.1 (gm_mi 11).2.2.1 (gm_mi 11).2.2.2 ∈ lw_Ts ∧ Cond.initialized (gm_mi 11).1.cls ∈ lw_Ts ∧ (gm_mi 11).2.2.1 ≤ 40 := ⟨⟨by decide +kernel, by decide +kernel, by decide +kernel⟩, wt_433, wt_45, by decide +kernel⟩
theorem cf_12 : ((gm_mi 12).1.cls ≠ "java/lang/invoke/MethodHandle" ∧ (gm_mi 12).1.cls ≠ "java/lang/invoke/VarHandle" ∧ plainFor (gm_mi 12).1 = true) ∧ Cond.code (gm_mi 12).1 (gm_mi 12).2.1 (gm_mi 12).2.2.1 (gm_mi 12).2.2.2 ∈ lw_Ts ∧ Cond.initialized (gm_mi 12).1.cls ∈ lw_Ts ∧ (gm_mi 12).2.2.1 ≤ 40 := ⟨⟨by decide +kernel, by decide +kernel, by decide +kernel⟩, wt_520, wt_50, by decide +kernel⟩
theorem cf_13 : ((gm_mi 13).1.cls ≠ "java/lang/invoke/MethodHandle" ∧ (gm_mi 13).1.cls ≠ "java/lang/invoke/VarHandle" ∧ plainFor (gm_mi 13).1 = true) ∧ Cond.code (gm_mi 13).1 (gm_mi 13).2.1 (gm_mi 13).2.2.1 (gm_mi 13).2.2.2 ∈ lw_Ts ∧ Cond.initialized (gm_mi 13).1.cls ∈ lw_Ts ∧ (gm_mi 13).2.2.1 ≤ 40 := ⟨⟨by decide +kernel, by decide +kernel, by decide +kernel⟩, wt_511, wt_50, by decide +kernel⟩
theorem cf_14 : ((gm_mi 14).1.cls ≠ "java/lang/invoke/MethodHandle" ∧ (gm_mi 14).1.cls ≠ "java/lang/invoke/VarHandle" ∧ plainFor (gm_mi 14).1 = true) ∧ Cond.code (gm_mi 14).1 (gm_mi 14).2.1 (gm_mi 14).2.2.1 (gm_mi 14).2.2.2 ∈ lw_Ts ∧ Cond.initialized (gm_mi 14).1.cls ∈ lw_Ts ∧ (gm_mi 14).2.2.1 ≤ 40 := ⟨⟨by decide +kernel, by decide +kernel, by decide +kernel⟩, wt_529, wt_50, by decide +kernel⟩
theorem cf_15 : ((gm_mi 15).1.cls ≠ "java/lang/invoke/MethodHandle" ∧ (gm_mi 15).1.cls ≠ "java/lang/invoke/VarHandle" ∧ plainFor (gm_mi 15).1 = true) ∧ Cond.code (gm_mi 15).1 (gm_mi 15).2.1 (gm_mi 15).2.2.1 (gm_mi 15).2.2.2 ∈ lw_Ts ∧ Cond.initialized (gm_mi 15).1.cls ∈ lw_Ts ∧ (gm_mi 15).2.2.1 ≤ 40 := ⟨⟨by decide +kernel, by decide +kernel, by decide +kernel⟩, wt_533, wt_50, by decide +kernel⟩
theorem cf_16 : ((gm_mi 16).1.cls ≠ "java/lang/invoke/MethodHandle" ∧ (gm_mi 16).1.cls ≠ "java/lang/invoke/VarHandle" ∧ plainFor (gm_mi 16).1 = true) ∧ Cond.code (gm_mi 16).1 (gm_mi 16).2.1 (gm_mi 16).2.2.1 (gm_mi 16).2.2.2 ∈ lw_Ts ∧ Cond.initialized (gm_mi 16).1.cls ∈ lw_Ts ∧ (gm_mi 16).2.2.1 ≤ 40 := ⟨⟨by decide +kernel, by decide +kernel, by decide +kernel⟩, wt_540, wt_50, by decide +kernel⟩
theorem cf_17 : ((gm_mi 17).1.cls ≠ "java/lang/invoke/MethodHandle" ∧ (gm_mi 17).1.cls ≠ "java/lang/invoke/VarHandle" ∧ plainFor (gm_mi 17).1 = true) ∧ Cond.code (gm_mi 17).1 (gm_mi 17).2.1 (gm_mi 17).2.2.1 (gm_mi 17).2.2.2 ∈ lw_Ts ∧ Cond.initialized (gm_mi 17).1.cls ∈ lw_Ts ∧ (gm_mi 17).2.2.1 ≤ 40 := ⟨⟨by decide +kernel, by decide +kernel, by decide +kernel⟩, wt_545, wt_50, by decide +kernel⟩
theorem cf_18 : ((gm_mi 18).1.cls ≠ "java/lang/invoke/MethodHandle" ∧ (gm_mi 18).1.cls ≠ "java/lang/invoke/VarHandle" ∧ plainFor (gm_mi 18).1 = true) ∧ Cond.code (gm_mi 18).1 (gm_mi 18).2.1 (gm_mi 18).2.2.1 (gm_mi 18).2.2.2 ∈ lw_Ts ∧ Cond.initialized (gm_mi 18).1.cls ∈ lw_Ts ∧ (gm_mi 18).2.2.1 ≤ 40 := ⟨⟨by decide +kernel, by decide +kernel, by decide +kernel⟩, wt_550, wt_50, by decide +kernel⟩
theorem cf_19 : ((gm_mi 19).1.cls ≠ "java/lang/invoke/MethodHandle" ∧ (gm_mi 19).1.cls ≠ "java/lang/invoke/VarHandle" ∧ plainFor (gm_mi 19).1 = true) ∧ Cond.code (gm_mi 19).1 (gm_mi 19).2.1 (gm_mi 19).2.2.1 (gm_mi 19).2.2.2 ∈ lw_Ts ∧ Cond.initialized (gm_mi 19).1.cls ∈ lw_Ts ∧ (gm_mi 19).2.2.1 ≤ 40 := ⟨⟨by decide +kernel, by decide +kernel, by decide +kernel⟩, wt_559, wt_50, by decide +kernel⟩
theorem cf_20 : ((gm_mi 20).1.cls ≠ "java/lang/invoke/MethodHandle" ∧ (gm_mi 20).1.cls ≠ "java/lang/invoke/VarHandle" ∧ plainFor (gm_mi 20).1 = true) ∧ Cond.code (gm_mi 20).1 (gm_mi 20).2.1 (gm_mi 20).2.2.1 (gm_mi 20).2.2.2 ∈ lw_Ts ∧ Cond.initialized (gm_mi 20).1.cls ∈ lw_Ts ∧ (gm_mi 20).2.2.1 ≤ 40 := ⟨⟨by decide +kernel, by decide +kernel, by decide +kernel⟩, wt_555, wt_50, by decide +kernel⟩
theorem cf_21 : ((gm_mi 21).1.cls ≠ "java/lang/invoke/MethodHandle" ∧ (gm_mi 21).1.cls ≠ "java/lang/invoke/VarHandle" ∧ plainFor (gm_mi 21).1 = true) ∧ Cond.code (gm_mi 21).1 (gm_mi 21).2.1 (gm_mi 21).2.2.1 (gm_mi 21).2.2.2 ∈ lw_Ts ∧ Cond.initialized (gm_mi 21).1.cls ∈ lw_Ts ∧ (gm_mi 21).2.2.1 ≤ 40 := ⟨⟨by decide +kernel, by decide +kernel, by decide +kernel⟩, wt_563, wt_50, by decide +kernel⟩
theorem cf_22 : ((gm_mi 22).1.cls ≠ "java/lang/invoke/MethodHandle" ∧ (gm_mi 22).1.cls ≠ "java/lang/invoke/VarHandle" ∧ plainFor (gm_mi 22).1 = true) ∧ Cond.code (gm_mi 22).1 (gm_mi 22).2.1 (gm_mi 22).2.2.1 (gm_mi 22).2.2.2 ∈ lw_Ts ∧ Cond.initialized (gm_mi 22).1.cls ∈ lw_Ts ∧ (gm_mi 22).2.2.1 ≤ 40 := ⟨⟨by decide +kernel, by decide +kernel, by decide +kernel⟩, wt_572, wt_50, by decide +kernel⟩
theorem cf_23 : ((gm_mi 23).1.cls ≠ "java/lang/invoke/MethodHandle" ∧ (gm_mi 23).1.cls ≠ "java/lang/invoke/VarHandle" ∧ plainFor (gm_mi 23).1 = true) ∧ Cond.code (gm_mi 23).1 (gm_mi 23).2.1 (gm_mi 23).2.2.1 (gm_mi 23).2.2.2 ∈ lw_Ts ∧ Cond.initialized (gm_mi 23).1.cls ∈ lw_Ts ∧ (gm_mi 23).2.2.1 ≤ 40 := ⟨⟨by decide +kernel, by decide +kernel, by decide +kernel⟩, wt_450, wt_49, by decide +kernel⟩
theorem cf_24 : ((gm_mi 24).1.cls ≠ "java/lang/invoke/MethodHandle" ∧ (gm_mi 24).1.cls ≠ "java/lang/invoke/VarHandle" ∧ plainFor (gm_mi 24).1 = true) ∧ Cond.code (gm_mi 24).1 (gm_mi 24).2.1 (gm_mi 24).2.2.1 (gm_mi 24).2.2.2 ∈ lw_Ts ∧ Cond.initialized (gm_mi 24).1.cls ∈ lw_Ts ∧ (gm_mi 24).2.2.1 ≤ 40 := ⟨⟨by decide +kernel, by decide +kernel, by decide +kernel⟩, wt_454, wt_49, by decide +kernel⟩
theorem cf_25 : ((gm_mi 25).1.cls ≠ "java/lang/invoke/MethodHandle" ∧ (gm_mi 25).1.cls ≠ "java/lang/invoke/VarHandle" ∧ plainFor (gm_mi 25).1 = true) ∧ Cond.code (gm_mi 25).1 (gm_mi 25).2.1 (gm_mi 25).2.2.1 (gm_mi 25).2.2.2 ∈ lw_Ts ∧ Cond.initialized (gm_mi 25).1.cls ∈ lw_Ts ∧ (gm_mi 25).2.2.1 ≤ 40 := ⟨⟨by decide +kernel, by decide +kernel, by decide +kernel⟩, wt_461, wt_49, by decide +kernel⟩
theorem cf_26 : ((gm_mi 26).1.cls ≠ "java/lang/invoke/MethodHandle" ∧ (gm_mi 26).1.cls ≠ "java/lang/invoke/VarHandle" ∧ plainFor (gm_mi 26).1 = true) ∧ Cond.code (gm_mi 26).1 (gm_mi 26).2.1 (gm_mi 26).2.2.1 (gm_mi 26).2.2.2 ∈ lw_Ts ∧ Cond.initialized (gm_mi 26).1.cls ∈ lw_Ts ∧ (gm_mi 26).2.2.1 ≤ 40 := ⟨⟨by decide +kernel, by decide +kernel, by decide +kernel⟩, wt_466, wt_49, by decide +kernel⟩
theorem cf_27 : ((gm_mi 27).1.cls ≠ "java/lang/invoke/MethodHandle" ∧ (gm_mi 27).1.cls ≠ "java/lang/invoke/VarHandle" ∧ plainFor (gm_mi 27).1 = true) ∧ Cond.code (gm_mi 27).1 (gm_mi 27).2.1 (gm_mi 27).2.2.1 (gm_mi 27).2.2.2 ∈ lw_Ts ∧ Cond.initialized (gm_mi 27).1.cls ∈ lw_Ts ∧ (gm_mi 27).2.2.1 ≤ 40 := ⟨⟨by decide +kernel, by decide +kernel, by decide +kernel⟩, wt_471, wt_49, by decide +kernel⟩
theorem cf_28 : ((gm_mi 28).1.cls ≠ "java/lang/invoke/MethodHandle" ∧ (gm_mi 28).1.cls ≠ "java/lang/invoke/VarHandle" ∧ plainFor (gm_mi 28).1 = true) ∧ Cond.code (gm_mi 28).1 (gm_mi 28).2.1 (gm_mi 28).2.2.1 (gm_mi 28).2.2.2 ∈ lw_Ts ∧ Cond.initialized (gm_mi 28).1.cls ∈ lw_Ts ∧ (gm_mi 28).2.2.1 ≤ 40 := ⟨⟨by decide +kernel, by decide +kernel, by decide +kernel⟩, wt_480, wt_49, by decide +kernel⟩
theorem cf_29 : ((gm_mi 29).1.cls ≠ "java/lang/invoke/MethodHandle" ∧ (gm_mi 29).1.cls ≠ "java/lang/invoke/VarHandle" ∧ plainFor (gm_mi 29).1 = true) ∧ Cond.code (gm_mi 29).1 (gm_mi 29).2.1 (gm_mi 29).2.2.1 (gm_mi 29).2.2.2 ∈ lw_Ts ∧ Cond.initialized (gm_mi 29).1.cls ∈ lw_Ts ∧ (gm_mi 29).2.2.1 ≤ 40 := ⟨⟨by decide +kernel, by decide +kernel, by decide +kernel⟩, wt_487, wt_49, by decide +kernel⟩
theorem cf_30 : ((gm_mi 30).1.cls ≠ "java/lang/invoke/MethodHandle" ∧ (gm_mi 30).1.cls ≠ "java/lang/invoke/VarHandle" ∧ plainFor (gm_mi 30).1 = true) ∧ Cond.code (gm_mi 30).1 (gm_mi 30).2.1 (gm_mi 30).2.2.1 (gm_mi 30).2.2.2 ∈ lw_Ts ∧ Cond.initialized (gm_mi 30).1.cls ∈ lw_Ts ∧ (gm_mi 30).2.2.1 ≤ 40 := ⟨⟨by decide +kernel, by decide +kernel, by decide +kernel⟩, wt_491, wt_49, by decide +kernel⟩
theorem cf_31 : ((gm_mi 31).1.cls ≠ "java/lang/invoke/MethodHandle" ∧ (gm_mi 31).1.cls ≠ "java/lang/invoke/VarHandle" ∧ plainFor (gm_mi 31).1 = true) ∧ Cond.code (gm_mi 31).1 (gm_mi 31).2.1 (gm_mi 31).2.2.1 (gm_mi 31).2.2.2 ∈ lw_Ts ∧ Cond.initialized (gm_mi 31).1.cls ∈ lw_Ts ∧ (gm_mi 31).2.2.1 ≤ 40 := ⟨⟨by decide +kernel, by decide +kernel, by decide +kernel⟩, wt_495, wt_49, by decide +kernel⟩
theorem cf_32 : ((gm_mi 32).1.cls ≠ "java/lang/invoke/MethodHandle" ∧ (gm_mi 32).1.cls ≠ "java/lang/invoke/VarHandle" ∧ plainFor (gm_mi 32).1 = true) ∧ Cond.code (gm_mi 32).1 (gm_mi 32).2.1 (gm_mi 32).2.2.1 (gm_mi 32).2.2.2 ∈ lw_Ts ∧ Cond.initialized (gm_mi 32).1.cls ∈ lw_Ts ∧ (gm_mi 32).2.2.1 ≤ 40 := ⟨⟨by decide +kernel, by decide +kernel, by decide +kernel⟩, wt_140, wt_47, by decide +kernel⟩
theorem cf_33 : ((gm_mi 33).1.cls ≠ "java/lang/invoke/MethodHandle" ∧ (gm_mi 33).1.cls ≠ "java/lang/invoke/VarHandle" ∧ plainFor (gm_mi 33).1 = true) ∧ Cond.code (gm_mi 33).1 (gm_mi 33).2.1 (gm_mi 33).2.2.1 (gm_mi 33).2.2.2 ∈ lw_Ts ∧ Cond.initialized (gm_mi 33).1.cls ∈ lw_Ts ∧ (gm_mi 33).2.2.1 ≤ 40 := ⟨⟨by decide +kernel, by decide +kernel, by decide +kernel⟩, wt_405, wt_47, by decide +kernel⟩
theorem cf_34 : ((gm_mi 34).1.cls ≠ "java/lang/invoke/MethodHandle" ∧ (gm_mi 34).1.cls ≠ "java/lang/invoke/VarHandle" ∧ plainFor (gm_mi 34).1 = true) ∧ Cond.code (gm_mi 34).1 (gm_mi 34).2.1 (gm_mi 34).2.2.1 (gm_mi 34).2.2.2 ∈ lw_Ts ∧ Cond.initialized (gm_mi 34).1.cls ∈ lw_Ts ∧ (gm_mi 34).2.2.1 ≤ 40 := ⟨⟨by decide +kernel, by decide +kernel, by decide +kernel⟩, wt_385, wt_47, by decide +kernel⟩
theorem cf_35 : ((gm_mi 35).1.cls ≠ "java/lang/invoke/MethodHandle" ∧ (gm_mi 35).1.cls ≠ "java/lang/invoke/VarHandle" ∧ plainFor (gm_mi 35).1 = true) ∧ Cond.code (gm_mi 35).1 (gm_mi 35).2.1 (gm_mi 35).2.2.1 (gm_mi 35).2.2.2 ∈ lw_Ts ∧ Cond.initialized (gm_mi 35).1.cls ∈ lw_Ts ∧ (gm_mi 35).2.2.1 ≤ 40 := ⟨⟨by decide +kernel, by decide +kernel, by decide +kernel⟩, wt_393, wt_47, by decide +kernel⟩
theorem cf_36 : ((gm_mi 36).1.cls ≠ "java/lang/invoke/MethodHandle" ∧ (gm_mi 36).1.cls ≠ "java/lang/invoke/VarHandle" ∧ plainFor (gm_mi 36).1 = true) ∧ Cond.code (gm_mi 36).1 (gm_mi 36).2.1 (gm_mi 36).2.2.1 (gm_mi 36).2.2.2 ∈ lw_Ts ∧ Cond.initialized (gm_mi 36).1.cls ∈ lw_Ts ∧ (gm_mi 36).2.2.1 ≤ 40 := ⟨⟨by decide +kernel, by decide +kernel, by decide +kernel⟩, wt_397, wt_47, by decide +kernel⟩
theorem cf_37 : ((gm_mi 37).1.cls ≠ "java/lang/invoke/MethodHandle" ∧ (gm_mi 37).1.cls ≠ "java/lang/invoke/VarHandle" ∧ plainFor (gm_mi 37).1 = true) ∧ Cond.code (gm_mi 37).1 (gm_mi 37).2.1 (gm_mi 37).2.2.1 (gm_mi 37).2.2.2 ∈ lw_Ts ∧ Cond.initialized (gm_mi 37).1.cls ∈ lw_Ts ∧ (gm_mi 37).2.2.1 ≤ 40 := ⟨⟨by decide +kernel, by decide +kernel, by decide +kernel⟩, wt_381, wt_47, by decide +kernel⟩
theorem cf_38 : ((gm_mi 38).1.cls ≠ "java/lang/invoke/MethodHandle" ∧ (gm_mi 38).1.cls ≠ "java/lang/invoke/VarHandle" ∧ plainFor (gm_mi 38).1 = true) ∧ Cond.code (gm_mi 38).1 (gm_mi 38).2.1 (gm_mi 38).2.2.1 (gm_mi 38).2.2.2 ∈ lw_Ts ∧ Cond.initialized (gm_mi 38).1.cls ∈ lw_Ts ∧ (gm_mi 38).2.2.1 ≤ 40 := ⟨⟨by decide +kernel, by decide +kernel, by decide +kernel⟩, wt_389, wt_47, by decide +kernel⟩
theorem cf_39 : ((gm_mi 39).1.cls ≠ "java/lang/invoke/MethodHandle" ∧ (gm_mi 39).1.cls ≠ "java/lang/invoke/VarHandle" ∧ plainFor (gm_mi 39).1 = true) ∧ Cond.code (gm_mi 39).1 (gm_mi 39).2.1 (gm_mi 39).2.2.1 (gm_mi 39).2.2.2 ∈ lw_Ts ∧ Cond.initialized (gm_mi 39).1.cls ∈ lw_Ts ∧ (gm_mi 39).2.2.1 ≤ 40 := ⟨⟨by decide +kernel, by decide +kernel, by decide +kernel⟩, wt_414, wt_47, by decide +kernel⟩
theorem cf_40 : ((gm_mi 40).1.cls ≠ "java/lang/invoke/MethodHandle" ∧ (gm_mi 40).1.cls ≠ "java/lang/invoke/VarHandle" ∧ plainFor (gm_mi 40).1 = true) ∧ Cond.code (gm_mi 40).1 (gm_mi 40).2.1 (gm_mi 40).2.2.1 (gm_mi 40).2.2.2 ∈ lw_Ts ∧ Cond.initialized (gm_mi 40).1.cls ∈ lw_Ts ∧ (gm_mi 40).2.2.1 ≤ 40 := ⟨⟨by decide +kernel, by decide +kernel, by decide +kernel⟩, wt_418, wt_47, by decide +kernel⟩
theorem cf_41 : ((gm_mi 41).1.cls ≠ "java/lang/invoke/MethodHandle" ∧ (gm_mi 41).1.cls ≠ "java/lang/invoke/VarHandle" ∧ plainFor (gm_mi 41).1 = true) ∧ Cond.code (gm_mi 41).1 (gm_mi 41).2.1 (gm_mi 41).2.2.1 (gm_mi 41).2.2.2 ∈ lw_Ts ∧ Cond.initialized (gm_mi 41).1.cls ∈ lw_Ts ∧ (gm_mi 41).2.2.1 ≤ 40 := ⟨⟨by decide +kernel, by decide +kernel, by decide +kernel⟩, wt_425, wt_47, by decide +kernel⟩
theorem cf_42 : ((gm_mi 42).1.cls ≠ "java/lang/invoke/MethodHandle" ∧ (gm_mi 42).1.cls ≠ "java/lang/invoke/VarHandle" ∧ plainFor (gm_mi 42).1 = true) ∧ Cond.code (gm_mi 42).1 (gm_mi 42).2.1 (gm_mi 42).2.2.1 (gm_mi 42).2.2.2 ∈ lw_Ts ∧ Cond.initialized (gm_mi 42).1.cls ∈ lw_Ts ∧ (gm_mi 42).2.2.1 ≤ 40 := ⟨⟨by decide +kernel, by decide +kernel, by decide +kernel⟩, wt_438, wt_47, by decide +kernel⟩
theorem cf_43 : ((gm_mi 43).1.cls ≠ "java/lang/invoke/MethodHandle" ∧ (gm_mi 43).1.cls ≠ "java/lang/invoke/VarHandle" ∧ plainFor (gm_mi 43).1 = true) ∧ Cond.code (gm_mi 43).1 (gm_mi 43).2.1 (gm_mi 43).2.2.1 (gm_mi 43).2.2.2 ∈ lw_Ts ∧ Cond.initialized (gm_mi 43).1.cls ∈ lw_Ts ∧ (gm_mi 43).2.2.1 ≤ 40 := ⟨⟨by decide +kernel, by decide +kernel, by decide +kernel⟩, wt_442, wt_47, by decide +kernel⟩
theorem cf_44 : ((gm_mi 44).1.cls ≠ "java/lang/invoke/MethodHandle" ∧ (gm_mi 44).1.cls ≠ "java/lang/invoke/VarHandle" ∧ plainFor (gm_mi 44).1 = true) ∧ Cond.code (gm_mi 44).1 (gm_mi 44).2.1 (gm_mi 44).2.2.1 (gm_mi 44).2.2.2 ∈ lw_Ts ∧ Cond.initialized (gm_mi 44).1.cls ∈ lw_Ts ∧ (gm_mi 44).2.2.1 ≤ 40 := ⟨⟨by decide +kernel, by decide +kernel, by decide +kernel⟩, wt_429, wt_47, by decide +kernel⟩
theorem cf_45 : ((gm_mi 45).1.cls ≠ "java/lang/invoke/MethodHandle" ∧ (gm_mi 45).1.cls ≠ "java/lang/invoke/VarHandle" ∧ plainFor (gm_mi 45).1 = true) ∧ Cond.code (gm_mi 45).1 (gm_mi 45).2.1 (gm_mi 45).2.2.1 (gm_mi 45).2.2.2 ∈ lw_Ts ∧ Cond.initialized (gm_mi 45).1.cls ∈ lw_Ts ∧ (gm_mi 45).2.2.1 ≤ 40 := ⟨⟨by decide +kernel, by decide +kernel, by decide +kernel⟩, wt_310, wt_44, by decide +kernel⟩
theorem cf_46 : ((gm_mi 46).1.cls ≠ "java/lang/invoke/MethodHandle" ∧ (gm_mi 46).1.cls ≠ "java/lang/invoke/VarHandle" ∧ plainFor (gm_mi 46).1 = true) ∧ Cond.code (gm_mi 46).1 (gm_mi 46).2.1 (gm_mi 46).2.2.1 (gm_mi 46).2.2.2 ∈ lw_Ts ∧ Cond.initialized (gm_mi 46).1.cls ∈ lw_Ts ∧ (gm_mi 46).2.2.1 ≤ 40 := ⟨⟨by decide +kernel, by decide +kernel, by decide +kernel⟩, wt_321, wt_44, by decide +kernel⟩
theorem cf_47 : ((gm_mi 47).1.cls ≠ "java/lang/invoke/MethodHandle" ∧ (gm_mi 47).1.cls ≠ "java/lang/invoke/VarHandle" ∧ plainFor (gm_mi 47).1 = true) ∧ Cond.code (gm_mi 47).1 (gm_mi 47).2.1 (gm_mi 47).2.2.1 (gm_mi 47).2.2.2 ∈ lw_Ts ∧ Cond.initialized (gm_mi 47).1.cls ∈ lw_Ts ∧ (gm_mi 47).2.2.1 ≤ 40 := ⟨⟨by decide +kernel, by decide +kernel, by decide +kernel⟩, wt_329, wt_44, by decide +kernel⟩
theorem cf_48 : ((gm_mi 48).1.cls ≠ "java/lang/invoke/MethodHandle" ∧ (gm_mi 48).1.cls ≠ "java/lang/invoke/VarHandle" ∧ plainFor (gm_mi 48).1 = true) ∧ Cond.code (gm_mi 48).1 (gm_mi 48).2.1 (gm_mi 48).2.2.1 (gm_mi 48).2.2.2 ∈ lw_Ts ∧ Cond.initialized (gm_mi 48).1.cls ∈ lw_Ts ∧ (gm_mi 48).2.2.1 ≤ 40 := ⟨⟨by decide +kernel, by decide +kernel, by decide +kernel⟩, wt_343, wt_44, by decide +kernel⟩
theorem cf_49 : ((gm_mi 49).1.cls ≠ "java/lang/invoke/MethodHandle" ∧ (gm_mi 49).1.cls ≠ "java/lang/invoke/VarHandle" ∧ plainFor (gm_mi 49).1 = true) ∧ Cond.code (gm_mi 49).1 (gm_mi 49).2.1 (gm_mi 49).2.2.1 (gm_mi 49).2.2.2 ∈ lw_Ts ∧ Cond.initialized (gm_mi 49).1.cls ∈ lw_Ts ∧ (gm_mi 49).2.2.1 ≤ 40 := ⟨⟨by decide +kernel, by decide +kernel, by decide +kernel⟩, wt_350, wt_44, by decide +kernel⟩
theorem cf_50 : ((gm_mi 50).1.cls ≠ "java/lang/invoke/MethodHandle" ∧ (gm_mi 50).1.cls ≠ "java/lang/invoke/VarHandle" ∧ plainFor (gm_mi 50).1 = true) ∧ Cond.code (gm_mi 50).1 (gm_mi 50).2.1 (gm_mi 50).2.2.1 (gm_mi 50).2.2.2 ∈ lw_Ts ∧ Cond.initialized (gm_mi 50).1.cls ∈ lw_Ts ∧ (gm_mi 50).2.2.1 ≤ 40 := ⟨⟨by decide +kernel, by decide +kernel, by decide +kernel⟩, wt_354, wt_44, by decide +kernel⟩
theorem cf_51 : ((gm_mi 51).1.cls ≠ "java/lang/invoke/MethodHandle" ∧ (gm_mi 51).1.cls ≠ "java/lang/invoke/VarHandle" ∧ plainFor (gm_mi 51).1 = true) ∧ Cond.code (gm_mi 51).1 (gm_mi 51).2.1 (gm_mi 51).2.2.1 (gm_mi 51).2.2.2 ∈ lw_Ts ∧ Cond.initialized (gm_mi 51).1.cls ∈ lw_Ts ∧ (gm_mi 51).2.2.1 ≤ 40 := ⟨⟨by decide +kernel, by decide +kernel, by decide +kernel⟩, wt_358, wt_44, by decide +kernel⟩
theorem cf_52 : ((gm_mi 52).1.cls ≠ "java/lang/invoke/MethodHandle" ∧ (gm_mi 52).1.cls ≠ "java/lang/invoke/VarHandle" ∧ plainFor (gm_mi 52).1 = true) ∧ Cond.code (gm_mi 52).1 (gm_mi 52).2.1 (gm_mi 52).2.2.1 (gm_mi 52).2.2.2 ∈ lw_Ts ∧ Cond.initialized (gm_mi 52).1.cls ∈ lw_Ts ∧ (gm_mi 52).2.2.1 ≤ 40 := ⟨⟨by decide +kernel, by decide +kernel, by decide +kernel⟩, wt_363, wt_44, by decide +kernel⟩
theorem cf_53 : ((gm_mi 53).1.cls ≠ "java/lang/invoke/MethodHandle" ∧ (gm_mi 53).1.cls ≠ "java/lang/invoke/VarHandle" ∧ plainFor (gm_mi 53).1 = true) ∧ Cond.code (gm_mi 53).1 (gm_mi 53).2.1 (gm_mi 53).2.2.1 (gm_mi 53).2.2.2 ∈ lw_Ts ∧ Cond.initialized (gm_mi 53).1.cls ∈ lw_Ts ∧ (gm_mi 53).2.2.1 ≤ 40 := ⟨⟨by decide +kernel, by decide +kernel, by decide +kernel⟩, wt_377, wt_44, by decide +kernel⟩
theorem cf_54 : ((gm_mi 54).1.cls ≠ "java/lang/invoke/MethodHandle" ∧ (gm_mi 54).1.cls ≠ "java/lang/invoke/VarHandle" ∧ plainFor (gm_mi 54).1 = true) ∧ Cond.code (gm_mi 54).1 (gm_mi 54).2.1 (gm_mi 54).2.2.1 (gm_mi 54).2.2.2 ∈ lw_Ts ∧ Cond.initialized (gm_mi 54).1.cls ∈ lw_Ts ∧ (gm_mi 54).2.2.1 ≤ 40 := ⟨⟨by decide +kernel, by decide +kernel, by decide +kernel⟩, wt_401, wt_44, by decide +kernel⟩
theorem cf_55 : ((gm_mi 55).1.cls ≠ "java/lang/invoke/MethodHandle" ∧ (gm_mi 55).1.cls ≠ "java/lang/invoke/VarHandle" ∧ plainFor (gm_mi 55).1 = true) ∧ Cond.code (gm_mi 55).1 (gm_mi 55).2.1 (gm_mi 55).2.2.1 (gm_mi 55).2.2.2 ∈ lw_Ts ∧ Cond.initialized (gm_mi 55).1.cls ∈ lw_Ts ∧ (gm_mi 55).2.2.1 ≤ 40 := ⟨⟨by decide +kernel, by decide +kernel, by decide +kernel⟩, wt_410, wt_44, by decide +kernel⟩
theorem cf_56 : ((gm_mi 56).1.cls ≠ "java/lang/invoke/MethodHandle" ∧ (gm_mi 56).1.cls ≠ "java/lang/invoke/VarHandle" ∧ plainFor (gm_mi 56).1 = true) ∧ Cond.code (gm_mi 56).1 (gm_mi 56).2.1 (gm_mi 56).2.2.1 (gm_mi 56).2.2.2 ∈ lw_Ts ∧ Cond.initialized (gm_mi 56).1.cls ∈ lw_Ts ∧ (gm_mi 56).2.2.1 ≤ 40 := ⟨⟨by decide +kernel, by decide +kernel, by decide +kernel⟩, wt_446, wt_44, by decide +kernel⟩
theorem cf_57 : ((gm_mi 57).1.cls ≠ "java/lang/invoke/MethodHandle" ∧ (gm_mi 57).1.cls ≠ "java/lang/invoke/VarHandle" ∧ plainFor (gm_mi 57).1 = true) ∧ Cond.code (gm_mi 57).1 (gm_mi 57).2.1 (gm_mi 57).2.2.1 (gm_mi 57).2.2.2 ∈ lw_Ts ∧ Cond.initialized (gm_mi 57).1.cls ∈ lw_Ts ∧ (gm_mi 57).2.2.1 ≤ 40 := ⟨⟨by decide +kernel, by decide +kernel, by decide +kernel⟩, wt_503, wt_44, by decide +kernel⟩
theorem cf_58 : ((gm_mi 58).1.cls ≠ "java/lang/invoke/MethodHandle" ∧ (gm_mi 58).1.cls ≠ "java/lang/invoke/VarHandle" ∧ plainFor (gm_mi 58).1 = true) ∧ Cond.code (gm_mi 58).1 (gm_mi 58).2.1 (gm_mi 58).2.2.1 (gm_mi 58).2.2.2 ∈ lw_Ts ∧ Cond.initialized (gm_mi 58).1.cls ∈ lw_Ts ∧ (gm_mi 58).2.2.1 ≤ 40 := ⟨⟨by decide +kernel, by decide +kernel, by decide +kernel⟩, wt_507, wt_44, by decide +kernel⟩
theorem cf_59 : ((gm_mi 59).1.cls ≠ "java/lang/invoke/MethodHandle" ∧ (gm_mi 59).1.cls ≠ "java/lang/invoke/VarHandle" ∧ plainFor (gm_mi 59).1 = true) ∧ Cond.code (gm_mi 59).1 (gm_mi 59).2.1 (gm_mi 59).2.2.1 (gm_mi 59).2.2.2 ∈ lw_Ts ∧ Cond.initialized (gm_mi 59).1.cls ∈ lw_Ts ∧ (gm_mi 59).2.2.1 ≤ 40 := ⟨⟨by decide +kernel, by decide +kernel, by decide +kernel⟩, wt_516, wt_44, by decide +kernel⟩
theorem cf_60 : ((gm_mi 60).1.cls ≠ "java/lang/invoke/MethodHandle" ∧ (gm_mi 60).1.cls ≠ "java/lang/invoke/VarHandle" ∧ plainFor (gm_mi 60).1 = true) ∧ Cond.code (gm_mi 60).1 (gm_mi 60).2.1 (gm_mi 60).2.2.1 (gm_mi 60).2.2.2 ∈ lw_Ts ∧ Cond.initialized (gm_mi 60).1.cls ∈ lw_Ts ∧ (gm_mi 60).2.2.1 ≤ 40 := ⟨⟨by decide +kernel, by decide +kernel, by decide +kernel⟩, wt_525, wt_44, by decide +kernel⟩
theorem cf_61 : ((gm_mi 61).1.cls ≠ "java/lang/invoke/MethodHandle" ∧ (gm_mi 61).1.cls ≠ "java/lang/invoke/VarHandle" ∧ plainFor (gm_mi 61).1 = true) ∧ Cond.code (gm_mi 61).1 (gm_mi 61).2.1 (gm_mi 61).2.2.1 (gm_mi 61).2.2.2 ∈ lw_Ts ∧ Cond.initialized (gm_mi 61).1.cls ∈ lw_Ts ∧ (gm_mi 61).2.2.1 ≤ 40 := ⟨⟨by decide +kernel, by decide +kernel, by decide +kernel⟩, wt_576, wt_44, by decide +kernel⟩
theorem cf_62 : ((gm_mi 62).1.cls ≠ "java/lang/invoke/MethodHandle" ∧ (gm_mi 62).1.cls ≠ "java/lang/invoke/VarHandle" ∧ plainFor (gm_mi 62).1 = true) ∧ Cond.code (gm_mi 62).1 (gm_mi 62).2.1 (gm_mi 62).2.2.1 (gm_mi 62).2.2.2 ∈ lw_Ts ∧ Cond.initialized (gm_mi 62).1.cls ∈ lw_Ts ∧ (gm_mi 62).2.2.1 ≤ 40 := ⟨⟨by decide +kernel, by decide +kernel, by decide +kernel⟩, wt_580, wt_44, by decide +kernel⟩
theorem cf_63 : ((gm_mi 63).1.cls ≠ "java/lang/invoke/MethodHandle" ∧ (gm_mi 63).1.cls ≠ "java/lang/invoke/VarHandle" ∧ plainFor (gm_mi 63).1 = true) ∧ Cond.code (gm_mi 63).1 (gm_mi 63).2.1 (gm_mi 63).2.2.1 (gm_mi 63).2.2.2 ∈ lw_Ts ∧ Cond.initialized (gm_mi 63).1.cls ∈ lw_Ts ∧ (gm_mi 63).2.2.1 ≤ 40 := ⟨⟨by decide +kernel, by decide +kernel, by decide +kernel⟩, wt_588, wt_44, by decide +kernel⟩
theorem cf_64 : ((gm_mi 64).1.cls ≠ "java/lang/invoke/MethodHandle" ∧ (gm_mi 64).1.cls ≠ "java/lang/invoke/VarHandle" ∧ plainFor (gm_mi 64).1 = true) ∧ Cond.code (gm_mi 64).1 (gm_mi 64).2.1 (gm_mi 64).2.2.1 (gm_mi 64).2.2.2 ∈ lw_Ts ∧ Cond.initialized (gm_mi 64).1.cls ∈ lw_Ts ∧ (gm_mi 64).2.2.1 ≤ 40 := ⟨⟨by decide +kernel, by decide +kernel, by decide +kernel⟩, wt_592, wt_44, by decide +kernel⟩
theorem cf_65 : ((gm_mi 65).1.cls ≠ "java/lang/invoke/MethodHandle" ∧ (gm_mi 65).1.cls ≠ "java/lang/invoke/VarHandle" ∧ plainFor (gm_mi 65).1 = true) ∧ Cond.code (gm_mi 65).1 (gm_mi 65).2.1 (gm_mi 65).2.2.1 (gm_mi 65).2.2.2 ∈ lw_Ts ∧ Cond.initialized (gm_mi 65).1.cls ∈ lw_Ts ∧ (gm_mi 65).2.2.1 ≤ 40 := ⟨⟨by decide +kernel, by decide +kernel, by decide +kernel⟩, wt_608, wt_44, by decide +kernel⟩
theorem cf_66 : ((gm_mi 66).1.cls ≠ "java/lang/invoke/MethodHandle" ∧ (gm_mi 66).1.cls ≠ "java/lang/invoke/VarHandle" ∧ plainFor (gm_mi 66).1 = true) ∧ Cond.code (gm_mi 66).1 (gm_mi 66).2.1 (gm_mi 66).2.2.1 (gm_mi 66).2.2.2 ∈ lw_Ts ∧ Cond.initialized (gm_mi 66).1.cls ∈ lw_Ts ∧ (gm_mi 66).2.2.1 ≤ 40 := ⟨⟨by decide +kernel, by decide +kernel, by decide +kernel⟩, wt_313, wt_44, by decide +kernel⟩
theorem cf_67 : ((gm_mi 67).1.cls ≠ "java/lang/invoke/MethodHandle" ∧ (gm_mi 67).1.cls ≠ "java/lang/invoke/VarHandle" ∧ plainFor (gm_mi 67).1 = true) ∧ Cond.code (gm_mi 67).1 (gm_mi 67).2.1 (gm_mi 67).2.2.1 (gm_mi 67).2.2.2 ∈ lw_Ts ∧ Cond.initialized (gm_mi 67).1.cls ∈ lw_Ts ∧ (gm_mi 67).2.2.1 ≤ 40 := ⟨⟨by decide +kernel, by decide +kernel, by decide +kernel⟩, wt_421, wt_44, by decide +kernel⟩
theorem cf_68 : ((gm_mi 68).1.cls ≠ "java/lang/invoke/MethodHandle" ∧ (gm_mi 68).1.cls ≠ "java/lang/invoke/VarHandle" ∧ plainFor (gm_mi 68).1 = true) ∧ Cond.code (gm_mi 68).1 (gm_mi 68).2.1 (gm_mi 68).2.2.1 (gm_mi 68).2.2.2 ∈ lw_Ts ∧ Cond.initialized (gm_mi 68).1.cls ∈ lw_Ts ∧ (gm_mi 68).2.2.1 ≤ 40 := ⟨⟨by decide +kernel, by decide +kernel, by decide +kernel⟩, wt_346, wt_44, by decide +kernel⟩
theorem cf_69 : ((gm_mi 69).1.cls ≠ "java/lang/invoke/MethodHandle" ∧ (gm_mi 69).1.cls ≠ "java/lang/invoke/VarHandle" ∧ plainFor (gm_mi 69).1 = true) ∧ Cond.code (gm_mi 69).1 (gm_mi 69).2.1 (gm_mi 69).2.2.1 (gm_mi 69).2.2.2 ∈ lw_Ts ∧ Cond.initialized (gm_mi 69).1.cls ∈ lw_Ts ∧ (gm_mi 69).2.2.1 ≤ 40 := ⟨⟨by decide +kernel, by decide +kernel, by decide +kernel⟩, wt_825, wt_52, by decide +kernel⟩
theorem cf_70 : ((gm_mi 70).1.cls ≠ "java/lang/invoke/MethodHandle" ∧ (gm_mi 70).1.cls ≠ "java/lang/invoke/VarHandle" ∧ plainFor (gm_mi 70).1 = true) ∧ Cond.code (gm_mi 70).1 (gm_mi 70).2.1 (gm_mi 70).2.2.1 (gm_mi 70).2.2.2 ∈ lw_Ts ∧ Cond.initialized (gm_mi 70).1.cls ∈ lw_Ts ∧ (gm_mi 70).2.2.1 ≤ 40 := ⟨⟨by decide +kernel, by decide +kernel, by decide +kernel⟩, wt_832, wt_52, by decide +kernel⟩
theorem cf_71 : ((gm_mi 71).1.cls ≠ "java/lang/invoke/MethodHandle" ∧ (gm_mi 71).1.cls ≠ "java/lang/invoke/VarHandle" ∧ plainFor (gm_mi 71).1 = true) ∧ Cond.code (gm_mi 71).1 (gm_mi 71).2.1 (gm_mi 71).2.2.1 (gm_mi 71).2.2.2 ∈ lw_Ts ∧ Cond.initialized (gm_mi 71).1.cls ∈ lw_Ts ∧ (gm_mi 71).2.2.1 ≤ 40 := ⟨⟨by decide +kernel, by decide +kernel, by decide +kernel⟩, wt_708, wt_52, by decide +kernel⟩
theorem cf_72 : ((gm_mi 72).1.cls ≠ "java/lang/invoke/MethodHandle" ∧ (gm_mi 72).1.cls ≠ "java/lang/invoke/VarHandle" ∧ plainFor (gm_mi 72).1 = true) ∧ Cond.code (gm_mi 72).1 (gm_mi 72).2.1 (gm_mi 72).2.2.1 (gm_mi 72).2.2.2 ∈ lw_Ts ∧ Cond.initialized (gm_mi 72).1.cls ∈ lw_Ts ∧ (gm_mi 72).2.2.1 ≤ 40 := ⟨⟨by decide +kernel, by decide +kernel, by decide +kernel⟩, wt_848, wt_52, by decide +kernel⟩
theorem cf_73 : ((gm_mi 73).1.cls ≠ "java/lang/invoke/MethodHandle" ∧ (gm_mi 73).1.cls ≠ "java/lang/invoke/VarHandle" ∧ plainFor (gm_mi 73).1 = true) ∧ Cond.code (gm_mi 73).1 (gm_mi 73).2.1 (gm_mi 73).2.2.1 (gm_mi 73).2.2.2 ∈ lw_Ts ∧ Cond.initialized (gm_mi 73).1.cls ∈ lw_Ts ∧ (gm_mi 73).2.2.1 ≤ 40 := ⟨⟨by decide +kernel, by decide +kernel, by decide +kernel⟩, wt_844, wt_52, by decide +kernel⟩
theorem cf_74 : ((gm_mi 74).1.cls ≠ "java/lang/invoke/MethodHandle" ∧ (gm_mi 74).1.cls ≠ "java/lang/invoke/VarHandle" ∧ plainFor (gm_mi 74).1 = true) ∧ Cond.code (gm_mi 74).1 (gm_mi 74).2.1 (gm_mi 74).2.2.1 (gm_mi 74).2.2.2 ∈ lw_Ts ∧ Cond.initialized (gm_mi 74).1.cls ∈ lw_Ts ∧ (gm_mi 74).2.2.1 ≤ 40 := ⟨⟨by decide +kernel, by decide +kernel, by decide +kernel⟩, wt_829, wt_52, by decide +kernel⟩
theorem cf_75 : ((gm_mi 75).1.cls ≠ "java/lang/invoke/MethodHandle" ∧ (gm_mi 75).1.cls ≠ "java/lang/invoke/VarHandle" ∧ plainFor (gm_mi 75).1 = true) ∧ Cond.code (gm_mi 75).1 (gm_mi 75).2.1 (gm_mi 75).2.2.1 (gm_mi 75).2.2.2 ∈ lw_Ts ∧ Cond.initialized (gm_mi 75).1.cls ∈ lw_Ts ∧ (gm_mi 75).2.2.1 ≤ 40 := ⟨⟨by decide +kernel, by decide +kernel, by decide +kernel⟩, wt_836, wt_52, by decide +kernel⟩
theorem cf_76 : ((gm_mi 76).1.cls ≠ "java/lang/invoke/MethodHandle" ∧ (gm_mi 76).1.cls ≠ "java/lang/invoke/VarHandle" ∧ plainFor (gm_mi 76).1 = true) ∧ Cond.code (gm_mi 76).1 (gm_mi 76).2.1 (gm_mi 76).2.2.1 (gm_mi 76).2.2.2 ∈ lw_Ts ∧ Cond.initialized (gm_mi 76).1.cls ∈ lw_Ts ∧ (gm_mi 76).2.2.1 ≤ 40 := ⟨⟨by decide +kernel, by decide +kernel, by decide +kernel⟩, wt_840, wt_52, by decide +kernel⟩
theorem cf_77 : ((gm_mi 77).1.cls ≠ "java/lang/invoke/MethodHandle" ∧ (gm_mi 77).1.cls ≠ "java/lang/invoke/VarHandle" ∧ plainFor (gm_mi 77).1 = true) ∧ Cond.code (gm_mi 77).1 (gm_mi 77).2.1 (gm_mi 77).2.2.1 (gm_mi 77).2.2.2 ∈ lw_Ts ∧ Cond.initialized (gm_mi 77).1.cls ∈ lw_Ts ∧ (gm_mi 77).2.2.1 ≤ 40 := ⟨⟨by decide +kernel, by decide +kernel, by decide +kernel⟩, wt_852, wt_52, by decide +kernel⟩
theorem cf_78 : ((gm_mi 78).1.cls ≠ "java/lang/invoke/MethodHandle" ∧ (gm_mi 78).1.cls ≠ "java/lang/invoke/VarHandle" ∧ plainFor (gm_mi 78).1 = true) ∧ Cond.code (gm_mi 78).1 (gm_mi 78).2.1 (gm_mi 78).2.2.1 (gm_mi 78).2.2.2 ∈ lw_Ts ∧ Cond.initialized (gm_mi 78).1.cls ∈ lw_Ts ∧ (gm_mi 78).2.2.1 ≤ 40 := ⟨⟨by decide +kernel, by decide +kernel, by decide +kernel⟩, wt_856, wt_52, by decide +kernel⟩
theorem cf_79 : ((gm_mi 79).1.cls ≠ "java/lang/invoke/MethodHandle" ∧ (gm_mi 79).1.cls ≠ "java/lang/invoke/VarHandle" ∧ plainFor (gm_mi 79).1 = true) ∧ Cond.code (gm_mi 79).1 (gm_mi 79).2.1 (gm_mi 79).2.2.1 (gm_mi 79).2.2.2 ∈ lw_Ts ∧ Cond.initialized (gm_mi 79).1.cls ∈ lw_Ts ∧ (gm_mi 79).2.2.1 ≤ 40 := ⟨⟨by decide +kernel, by decide +kernel, by decide +kernel⟩, wt_860, wt_52, by decide +kernel⟩
theorem cf_80 : ((gm_mi 80).1.cls ≠ "java/lang/invoke/MethodHandle" ∧ (gm_mi 80).1.cls ≠ "java/lang/invoke/VarHandle" ∧ plainFor (gm_mi 80).1 = true) ∧ Cond.code (gm_mi 80).1 (gm_mi 80).2.1 (gm_mi 80).2.2.1 (gm_mi 80).2.2.2 ∈ lw_Ts ∧ Cond.initialized (gm_mi 80).1.cls ∈ lw_Ts ∧ (gm_mi 80).2.2.1 ≤ 40 := ⟨⟨by decide +kernel, by decide +kernel, by decide +kernel⟩, wt_864, wt_52, by decide +kernel⟩
theorem cf_81 : ((gm_mi 81).1.cls ≠ "java/lang/invoke/MethodHandle" ∧ (gm_mi 81).1.cls ≠ "java/lang/invoke/VarHandle" ∧ plainFor (gm_mi 81).1 = true) ∧ Cond.code (gm_mi 81).1 (gm_mi 81).2.1 (gm_mi 81).2.2.1 (gm_mi 81).2.2.2 ∈ lw_Ts ∧ Cond.initialized (gm_mi 81).1.cls ∈ lw_Ts ∧ (gm_mi 81).2.2.1 ≤ 40 := ⟨⟨by decide +kernel, by decide +kernel, by decide +kernel⟩, wt_872, wt_52, by decide +kernel⟩
theorem cf_82 : ((gm_mi 82).1.cls ≠ "java/lang/invoke/MethodHandle" ∧ (gm_mi 82).1.cls ≠ "java/lang/invoke/VarHandle" ∧ plainFor (gm_mi 82).1 = true) ∧ Cond.code (gm_mi 82).1 (gm_mi 82).2.1 (gm_mi 82).2.2.1 (gm_mi 82).2.2.2 ∈ lw_Ts ∧ Cond.initialized (gm_mi 82).1.cls ∈ lw_Ts ∧ (gm_mi 82).2.2.1 ≤ 40 := ⟨⟨by decide +kernel, by decide +kernel, by decide +kernel⟩, wt_868, wt_52, by decide +kernel⟩
theorem cf_83 : ((gm_mi 83).1.cls ≠ "java/lang/invoke/MethodHandle" ∧ (gm_mi 83).1.cls ≠ "java/lang/invoke/VarHandle" ∧ plainFor (gm_mi 83).1 = true) ∧ Cond.code (gm_mi 83).1 (gm_mi 83).2.1 (gm_mi 83).2.2.1 (gm_mi 83).2.2.2 ∈ lw_Ts ∧ Cond.initialized (gm_mi 83).1.cls ∈ lw_Ts ∧ (gm_mi 83).2.2.1 ≤ 40 := ⟨⟨by decide +kernel, by decide +kernel, by decide +kernel⟩, wt_881, wt_52, by decide +kernel⟩
theorem cf_84 : ((gm_mi 84).1.cls ≠ "java/lang/invoke/MethodHandle" ∧ (gm_mi 84).1.cls ≠ "java/lang/invoke/VarHandle" ∧ plainFor (gm_mi 84).1 = true) ∧ Cond.code (gm_mi 84).1 (gm_mi 84).2.1 (gm_mi 84).2.2.1 (gm_mi 84).2.2.2 ∈ lw_Ts ∧ Cond.initialized (gm_mi 84).1.cls ∈ lw_Ts ∧ (gm_mi 84).2.2.1 ≤ 40 := ⟨⟨by decide +kernel, by decide +kernel, by decide +kernel⟩, wt_877, wt_52, by decide +kernel⟩
theorem cf_85 : ((gm_mi 85).1.cls ≠ "java/lang/invoke/MethodHandle" ∧ (gm_mi 85).1.cls ≠ "java/lang/invoke/VarHandle" ∧ plainFor (gm_mi 85).1 = true) ∧ Cond.code (gm_mi 85).1 (gm_mi 85).2.1 (gm_mi 85).2.2.1 (gm_mi 85).2.2.2 ∈ lw_Ts ∧ Cond.initialized (gm_mi 85).1.cls ∈ lw_Ts ∧ (gm_mi 85).2.2.1 ≤ 40 := ⟨⟨by decide +kernel, by decide +kernel, by decide +kernel⟩, wt_885, wt_52, by decide +kernel⟩
theorem cf_86 : ((gm_mi 86).1.cls ≠ "java/lang/invoke/MethodHandle" ∧ (gm_mi 86).1.cls ≠ "java/lang/invoke/VarHandle" ∧ plainFor (gm_mi 86).1 = true) ∧ Cond.code (gm_mi 86).1 (gm_mi 86).2.1 (gm_mi 86).2.2.1 (gm_mi 86).2.2.2 ∈ lw_Ts ∧ Cond.initialized (gm_mi 86).1.cls ∈ lw_Ts ∧ (gm_mi 86).2.2.1 ≤ 40 := ⟨⟨by decide +kernel, by decide +kernel, by decide +kernel⟩, wt_889, wt_52, by decide +kernel⟩
theorem cf_87 : ((gm_mi 87).1.cls ≠ "java/lang/invoke/MethodHandle" ∧ (gm_mi 87).1.cls ≠ "java/lang/invoke/VarHandle" ∧ plainFor (gm_mi 87).1 = true) ∧ Cond.code (gm_mi 87).1 (gm_mi 87).2.1 (gm_mi 87).2.2.1 (gm_mi 87).2.2.2 ∈ lw_Ts ∧ Cond.initialized (gm_mi 87).1.cls ∈ lw_Ts ∧ (gm_mi 87).2.2.1 ≤ 40 := ⟨⟨by decide +kernel, by decide +kernel, by decide +kernel⟩, wt_897, wt_52, by decide +kernel⟩
theorem cf_88 : ((gm_mi 88).1.cls ≠ "java/lang/invoke/MethodHandle" ∧ (gm_mi 88).1.cls ≠ "java/lang/invoke/VarHandle" ∧ plainFor (gm_mi 88).1 = true) ∧ Cond.code (gm_mi 88).1 (gm_mi 88).2.1 (gm_mi 88).2.2.1 (gm_mi 88).2.2.2 ∈ lw_Ts ∧ Cond.initialized (gm_mi 88).1.cls ∈ lw_Ts ∧ (gm_mi 88).2.2.1 ≤ 40 := ⟨⟨by decide +kernel, by decide +kernel, by decide +kernel⟩, wt_893, wt_52, by decide +kernel⟩
theorem cf_89 : ((gm_mi 89).1.cls ≠ "java/lang/invoke/MethodHandle" ∧ (gm_mi 89).1.cls ≠ "java/lang/invoke/VarHandle" ∧ plainFor (gm_mi 89).1 = true) ∧ Cond.code (gm_mi 89).1 (gm_mi 89).2.1 (gm_mi 89).2.2.1 (gm_mi 89).2.2.2 ∈ lw_Ts ∧ Cond.initialized (gm_mi 89).1.cls ∈ lw_Ts ∧ (gm_mi 89).2.2.1 ≤ 40 := ⟨⟨by decide +kernel, by decide +kernel, by decide +kernel⟩, wt_910, wt_52, by decide +kernel⟩
theorem cf_90 : ((gm_mi 90).1.cls ≠ "java/lang/invoke/MethodHandle" ∧ (gm_mi 90).1.cls ≠ "java/lang/invoke/VarHandle" ∧ plainFor (gm_mi 90).1 = true) ∧ Cond.code (gm_mi 90).1 (gm_mi 90).2.1 (gm_mi 90).2.2.1 (gm_mi 90).2.2.2 ∈ lw_Ts ∧ Cond.initialized (gm_mi 90).1.cls ∈ lw_Ts ∧ (gm_mi 90).2.2.1 ≤ 40 := ⟨⟨by decide +kernel, by decide +kernel, by decide +kernel⟩, wt_914, wt_52, by decide +kernel⟩
theorem cf_91 : ((gm_mi 91).1.cls ≠ "java/lang/invoke/MethodHandle" ∧ (gm_mi 91).1.cls ≠ "java/lang/invoke/VarHandle" ∧ plainFor (gm_mi 91).1 = true) ∧ Cond.code (gm_mi 91).1 (gm_mi 91).2.1 (gm_mi 91).2.2.1 (gm_mi 91).2.2.2 ∈ lw_Ts ∧ Cond.initialized (gm_mi 91).1.cls ∈ lw_Ts ∧ (gm_mi 91).2.2.1 ≤ 40 := ⟨⟨by decide +kernel, by decide +kernel, by decide +kernel⟩, wt_918, wt_52, by decide +kernel⟩
theorem cf_92 : ((gm_mi 92).1.cls ≠ "java/lang/invoke/MethodHandle" ∧ (gm_mi 92).1.cls ≠ "java/lang/invoke/VarHandle" ∧ plainFor (gm_mi 92).1 = true) ∧ Cond.code (gm_mi 92).1 (gm_mi 92).2.1 (gm_mi 92).2.2.1 (gm_mi 92).2.2.2 ∈ lw_Ts ∧ Cond.initialized (gm_mi 92).1.cls ∈ lw_Ts ∧ (gm_mi 92).2.2.1 ≤ 40 := ⟨⟨by decide +kernel, by decide +kernel, by decide +kernel⟩, wt_905, wt_52, by decide +kernel⟩
theorem cf_93 : ((gm_mi 93).1.cls ≠ "java/lang/invoke/MethodHandle" ∧ (gm_mi 93).1.cls ≠ "java/lang/invoke/VarHandle" ∧ plainFor (gm_mi 93).1 = true) ∧ Cond.code (gm_mi 93).1 (gm_mi 93).2.1 (gm_mi 93).2.2.1 (gm_mi 93).2.2.2 ∈ lw_Ts ∧ Cond.initialized (gm_mi 93).1.cls ∈ lw_Ts ∧ (gm_mi 93).2.2.1 ≤ 40 := ⟨⟨by decide +kernel, by decide +kernel, by decide +kernel⟩, wt_901, wt_52, by decide +kernel⟩
theorem cf_94 : ((gm_mi 94).1.cls ≠ "java/lang/invoke/MethodHandle" ∧ (gm_mi 94).1.cls ≠ "java/lang/invoke/VarHandle" ∧ plainFor (gm_mi 94).1 = true) ∧ Cond.code (gm_mi 94).1 (gm_mi 94).2.1 (gm_mi 94).2.2.1 (gm_mi 94).2.2.2 ∈ lw_Ts ∧ Cond.initialized (gm_mi 94).1.cls ∈ lw_Ts ∧ (gm_mi 94).2.2.1 ≤ 40 := ⟨⟨by decide +kernel, by decide +kernel, by decide +kernel⟩, wt_923, wt_52, by decide +kernel⟩
theorem cf_95 : ((gm_mi 95).1.cls ≠ "java/lang/invoke/MethodHandle" ∧ (gm_mi 95).1.cls ≠ "java/lang/invoke/VarHandle" ∧ plainFor (gm_mi 95).1 = true) ∧ Cond.code (gm_mi 95).1 (gm_mi 95).2.1 (gm_mi 95).2.2.1 (gm_mi 95).2.2.2 ∈ lw_Ts ∧ Cond.initialized (gm_mi 95).1.cls ∈ lw_Ts ∧ (gm_mi 95).2.2.1 ≤ 40 := ⟨⟨by decide +kernel, by decide +kernel, by decide +kernel⟩, wt_927, wt_52, by decide +kernel⟩
theorem cf_96 : ((gm_mi 96).1.cls ≠ "java/lang/invoke/MethodHandle" ∧ (gm_mi 96).1.cls ≠ "java/lang/invoke/VarHandle" ∧ plainFor (gm_mi 96).1 = true) ∧ Cond.code (gm_mi 96).1 (gm_mi 96).2.1 (gm_mi 96).2.2.1 (gm_mi 96).2.2.2 ∈ lw_Ts ∧ Cond.initialized (gm_mi 96).1.cls ∈ lw_Ts ∧ (gm_mi 96).2.2.1 ≤ 40 := ⟨⟨by decide +kernel, by decide +kernel, by decide +kernel⟩, wt_931, wt_52, by decide +kernel⟩
theorem cf_97 : ((gm_mi 97).1.cls ≠ "java/lang/invoke/MethodHandle" ∧ (gm_mi 97).1.cls ≠ "java/lang/invoke/VarHandle" ∧ plainFor (gm_mi 97).1 = true) ∧ Cond.code (gm_mi 97).1 (gm_mi 97).2.1 (gm_mi 97).2.2.1 (gm_mi 97).2.2.2 ∈ lw_Ts ∧ Cond.initialized (gm_mi 97).1.cls ∈ lw_Ts ∧ (gm_mi 97).2.2.1 ≤ 40 := ⟨⟨by decide +kernel, by decide +kernel, by decide +kernel⟩, wt_943, wt_52, by decide +kernel⟩
theorem cf_98 : ((gm_mi 98).1.cls ≠ "java/lang/invoke/MethodHandle" ∧ (gm_mi 98).1.cls ≠ "java/lang/invoke/VarHandle" ∧ plainFor (gm_mi 98).1 = true) ∧ Cond.code (gm_mi 98).1 (gm_mi 98).2.1 (gm_mi 98).2.2.1 (gm_mi 98).2.2.2 ∈ lw_Ts ∧ Cond.initialized (gm_mi 98).1.cls ∈ lw_Ts ∧ (gm_mi 98).2.2.1 ≤ 40 := ⟨⟨by decide +kernel, by decide +kernel, by decide +kernel⟩, wt_939, wt_52, by decide +kernel⟩
theorem cf_99 : ((gm_mi 99).1.cls ≠ "java/lang/invoke/MethodHandle" ∧ (gm_mi 99).1.cls ≠ "java/lang/invoke/VarHandle" ∧ plainFor (gm_mi 99).1 = true) ∧ Cond.code (gm_mi 99).1 (gm_mi 99).2.1 (gm_mi 99).2.2.1 (gm_mi 99).2.2.2 ∈ lw_Ts ∧ Cond.initialized (gm_mi 99).1.cls ∈ lw_Ts ∧ (gm_mi 99).2.2.1 ≤ 40 := ⟨⟨by decide +kernel, by decide +kernel, by decide +kernel⟩, wt_947, wt_52, by decide +kernel⟩
theorem cf_100 : ((gm_mi 100).1.cls ≠ "java/lang/invoke/MethodHandle" ∧ (gm_mi 100).1.cls ≠ "java/lang/invoke/VarHandle" ∧ plainFor (gm_mi 100).1 = true) ∧ Cond.code (gm_mi 100).1 (gm_mi 100).2.1 (gm_mi 100).2.2.1 (gm_mi 100).2.2.2 ∈ lw_Ts ∧ Cond.initialized (gm_mi 100).1.cls ∈ lw_Ts ∧ (gm_mi 100).2.2.1 ≤ 40 := ⟨⟨by decide +kernel, by decide +kernel, by decide +kernel⟩, wt_952, wt_52, by decide +kernel⟩
theorem cf_101 : ((gm_mi 101).1.cls ≠ "java/lang/invoke/MethodHandle" ∧ (gm_mi 101).1.cls ≠ "java/lang/invoke/VarHandle" ∧ plainFor (gm_mi 101).1 = true) ∧ Cond.code (gm_mi 101).1 (gm_mi 101).2.1 (gm_mi 101).2.2.1 (gm_mi 101).2.2.2 ∈ lw_Ts ∧ Cond.initialized (gm_mi 101).1.cls ∈ lw_Ts ∧ (gm_mi 101).2.2.1 ≤ 40 := ⟨⟨by decide +kernel, by decide +kernel, by decide +kernel⟩, wt_956, wt_52, by decide +kernel⟩
theorem cf_102 : ((gm_mi 102).1.cls ≠ "java/lang/invoke/MethodHandle" ∧ (gm_mi 102).1.cls ≠ "java/lang/invoke/VarHandle" ∧ plainFor (gm_mi 102).1 = true) ∧ Cond.code (gm_mi 102).1 (gm_mi 102).2.1 (gm_mi 102).2.2.1 (gm_mi 102).2.2.2 ∈ lw_Ts ∧ Cond.initialized (gm_mi 102).1.cls ∈ lw_Ts ∧ (gm_mi 102).2.2.1 ≤ 40 := ⟨⟨by decide +kernel, by decide +kernel, by decide +kernel⟩, wt_960, wt_52, by decide +kernel⟩
theorem cf_103 : ((gm_mi 103).1.cls ≠ "java/lang/invoke/MethodHandle" ∧ (gm_mi 103).1.cls ≠ "java/lang/invoke/VarHandle" ∧ plainFor (gm_mi 103).1 = true) ∧ Cond.code (gm_mi 103).1 (gm_mi 103).2.1 (gm_mi 103).2.2.1 (gm_mi 103).2.2.2 ∈ lw_Ts ∧ Cond.initialized (gm_mi 103).1.cls ∈ lw_Ts ∧ (gm_mi 103).2.2.1 ≤ 40 := ⟨⟨by decide +kernel, by decide +kernel, by decide +kernel⟩, wt_935, wt_52, by decide +kernel⟩
theorem cf_104 : ((gm_mi 104).1.cls ≠ "java/lang/invoke/MethodHandle" ∧ (gm_mi 104).1.cls ≠ "java/lang/invoke/VarHandle" ∧ plainFor (gm_mi 104).1 = true) ∧ Cond.code (gm_mi 104).1 (gm_mi 104).2.1 (gm_mi 104).2.2.1 (gm_mi 104).2.2.2 ∈ lw_Ts ∧ Cond.initialized (gm_mi 104).1.cls ∈ lw_Ts ∧ (gm_mi 104).2.2.1 ≤ 40 := ⟨⟨by decide +kernel, by decide +kernel, by decide +kernel⟩, wt_964, wt_52, by decide +kernel⟩
theorem cf_105 : ((gm_mi 105).1.cls ≠ "java/lang/invoke/MethodHandle" ∧ (gm_mi 105).1.cls ≠ "java/lang/invoke/VarHandle" ∧ plainFor (gm_mi 105).1 = true) ∧ Cond.code (gm_mi 105).1 (gm_mi 105).2.1 (gm_mi 105).2.2.1 (gm_mi 105).2.2.2 ∈ lw_Ts ∧ Cond.initialized (gm_mi 105).1.cls ∈ lw_Ts ∧ (gm_mi 105).2.2.1 ≤ 40 := ⟨⟨by decide +kernel, by decide +kernel, by decide +kernel⟩, wt_968, wt_52, by decide +kernel⟩
theorem cf_106 : ((gm_mi 106).1.cls ≠ "java/lang/invoke/MethodHandle" ∧ (gm_mi 106).1.cls ≠ "java/lang/invoke/VarHandle" ∧ plainFor (gm_mi 106).1 = true) ∧ Cond.code (gm_mi 106).1 (gm_mi 106).2.1 (gm_mi 106).2.2.1 (gm_mi 106).2.2.2 ∈ lw_Ts ∧ Cond.initialized (gm_mi 106).1.cls ∈ lw_Ts ∧ (gm_mi 106).2.2.1 ≤ 40 := ⟨⟨by decide +kernel, by decide +kernel, by decide +kernel⟩, wt_972, wt_52, by decide +kernel⟩
theorem cf_107 : ((gm_mi 107).1.cls ≠ "java/lang/invoke/MethodHandle" ∧ (gm_mi 107).1.cls ≠ "java/lang/invoke/VarHandle" ∧ plainFor (gm_mi 107).1 = true) ∧ Cond.code (gm_mi 107).1 (gm_mi 107).2.1 (gm_mi 107).2.2.1 (gm_mi 107).2.2.2 ∈ lw_Ts ∧ Cond.initialized (gm_mi 107).1.cls ∈ lw_Ts ∧ (gm_mi 107).2.2.1 ≤ 40 := ⟨⟨by decide +kernel, by decide +kernel, by decide +kernel⟩, wt_980, wt_52, by decide +kernel⟩
theorem cf_108 : ((gm_mi 108).1.cls ≠ "java/lang/invoke/MethodHandle" ∧ (gm_mi 108).1.cls ≠ "java/lang/invoke/VarHandle" ∧ plainFor (gm_mi 108).1 = true) ∧ Cond.code (gm_mi 108).1 (gm_mi 108).2.1 (gm_mi 108).2.2.1 (gm_mi 108).2.2.2 ∈ lw_Ts ∧ Cond.initialized (gm_mi 108).1.cls ∈ lw_Ts ∧ (gm_mi 108).2.2.1 ≤ 40 := ⟨⟨by decide +kernel, by decide +kernel, by decide +kernel⟩, wt_976, wt_52, by decide +kernel⟩
theorem cf_109 : ((gm_mi 109).1.cls ≠ "java/lang/invoke/MethodHandle" ∧ (gm_mi 109).1.cls ≠ "java/lang/invoke/VarHandle" ∧ plainFor (gm_mi 109).1 = true) ∧ Cond.code (gm_mi 109).1 (gm_mi 109).2.1 (gm_mi 109).2.2.1 (gm_mi 109).2.2.2 ∈ lw_Ts ∧ Cond.initialized (gm_mi 109).1.cls ∈ lw_Ts ∧ (gm_mi 109).2.2.1 ≤ 40 := ⟨⟨by decide +kernel, by decide +kernel, by decide +kernel⟩, wt_988, wt_52, by decide +kernel⟩
theorem cf_110 : ((gm_mi 110).1.cls ≠ "java/lang/invoke/MethodHandle" ∧ (gm_mi 110).1.cls ≠ "java/lang/invoke/VarHandle" ∧ plainFor (gm_mi 110).1 = true) ∧ Cond.code (gm_mi 110).1 (gm_mi 110).2.1 (gm_mi 110).2.2.1 (gm_mi 110).2.2.2 ∈ lw_Ts ∧ Cond.initialized (gm_mi 110).1.cls ∈ lw_Ts ∧ (gm_mi 110).2.2.1 ≤ 40 := ⟨⟨by decide +kernel, by decide +kernel, by decide +kernel⟩, wt_984, wt_52, by decide +kernel⟩
theorem cf_111 : ((gm_mi 111).1.cls ≠ "java/lang/invoke/MethodHandle" ∧ (gm_mi 111).1.cls ≠ "java/lang/invoke/VarHandle" ∧ plainFor (gm_mi 111).1 = true) ∧ Cond.code (gm_mi 111).1 (gm_mi 111).2.1 (gm_mi 111).2.2.1 (gm_mi 111).2.2.2 ∈ lw_Ts ∧ Cond.initialized (gm_mi 111).1.cls ∈ lw_Ts ∧ (gm_mi 111).2.2.1 ≤ 40 := ⟨⟨by decide +kernel, by decide +kernel, by decide +kernel⟩, wt_566, wt_53, by decide +kernel⟩
theorem cf_112 : ((gm_mi 112).1.cls ≠ "java/lang/invoke/MethodHandle" ∧ (gm_mi 112).1.cls ≠ "java/lang/invoke/VarHandle" ∧ plainFor (gm_mi 112).1 = true) ∧ Cond.code (gm_mi 112).1 (gm_mi 112).2.1 (gm_mi 112).2.2.1 (gm_mi 112).2.2.2 ∈ lw_Ts ∧ Cond.initialized (gm_mi 112).1.cls ∈ lw_Ts ∧ (gm_mi 112).2.2.1 ≤ 40 := ⟨⟨by decide +kernel, by decide +kernel, by decide +kernel⟩, wt_370, wt_53, by decide +kernel⟩
theorem cf_113 : ((gm_mi 113).1.cls ≠ "java/lang/invoke/MethodHandle" ∧ (gm_mi 113).1.cls ≠ "java/lang/invoke/VarHandle" ∧ plainFor (gm_mi 113).1 = true) ∧ Cond.code (gm_mi 113).1 (gm_mi 113).2.1 (gm_mi 113).2.2.1 (gm_mi 113).2.2.2 ∈ lw_Ts ∧ Cond.initialized (gm_mi 113).1.cls ∈ lw_Ts ∧ (gm_mi 113).2.2.1 ≤ 40 := ⟨⟨by decide +kernel, by decide +kernel, by decide +kernel⟩, wt_498, wt_58, by decide +kernel⟩
theorem cf_114 : ((gm_mi 114).1.cls ≠ "java/lang/invoke/MethodHandle" ∧ (gm_mi 114).1.cls ≠ "java/lang/invoke/VarHandle" ∧ plainFor (gm_mi 114).1 = true) ∧ Cond.code (gm_mi 114).1 (gm_mi 114).2.1 (gm_mi 114).2.2.1 (gm_mi 114).2.2.2 ∈ lw_Ts ∧ Cond.initialized (gm_mi 114).1.cls ∈ lw_Ts ∧ (gm_mi 114).2.2.1 ≤ 40 := ⟨⟨by decide +kernel, by decide +kernel, by decide +kernel⟩, wt_536, wt_58, by decide +kernel⟩
theorem cf_115 : ((gm_mi 115).1.cls ≠ "java/lang/invoke/MethodHandle" ∧ (gm_mi 115).1.cls ≠ "java/lang/invoke/VarHandle" ∧ plainFor (gm_mi 115).1 = true) ∧ Cond.code (gm_mi 115).1 (gm_mi 115).2.1 (gm_mi 115).2.2.1 (gm_mi 115).2.2.2 ∈ lw_Ts ∧ Cond.initialized (gm_mi 115).1.cls ∈ lw_Ts ∧ (gm_mi 115).2.2.1 ≤ 40 := ⟨⟨by decide +kernel, by decide +kernel, by decide +kernel⟩, wt_604, wt_58, by decide +kernel⟩
theorem cf_116 : ((gm_mi 116).1.cls ≠ "java/lang/invoke/MethodHandle" ∧ (gm_mi 116).1.cls ≠ "java/lang/invoke/VarHandle" ∧ plainFor (gm_mi 116).1 = true) ∧ Cond.code (gm_mi 116).1 (gm_mi 116).2.1 (gm_mi 116).2.2.1 (gm_mi 116).2.2.2 ∈ lw_Ts ∧ Cond.initialized (gm_mi 116).1.cls ∈ lw_Ts ∧ (gm_mi 116).2.2.1 ≤ 40 := ⟨⟨by decide +kernel, by decide +kernel, by decide +kernel⟩, wt_483, wt_58, by decide +kernel⟩
theorem cf_117 : ((gm_mi 117).1.cls ≠ "java/lang/invoke/MethodHandle" ∧ (gm_mi 117).1.cls ≠ "java/lang/invoke/VarHandle" ∧ plainFor (gm_mi 117).1 = true) ∧ Cond.code (gm_mi 117).1 (gm_mi 117).2.1 (gm_mi 117).2.2.1 (gm_mi 117).2.2.2 ∈ lw_Ts ∧ Cond.initialized (gm_mi 117).1.cls ∈ lw_Ts ∧ (gm_mi 117).2.2.1 ≤ 40 := ⟨⟨by decide +kernel, by decide +kernel, by decide +kernel⟩, wt_475, wt_48, by decide +kernel⟩
theorem cf_118 : ((gm_mi 118).1.cls ≠ "java/lang/invoke/MethodHandle" ∧ (gm_mi 118).1.cls ≠ "java/lang/invoke/VarHandle" ∧ plainFor (gm_mi 118).1 = true) ∧ Cond.code (gm_mi 118).1 (gm_mi 118).2.1 (gm_mi 118).2.2.1 (gm_mi 118).2.2.2 ∈ lw_Ts ∧ Cond.initialized (gm_mi 118).1.cls ∈ lw_Ts ∧ (gm_mi 118).2.2.1 ≤ 40 := ⟨⟨by decide +kernel, by decide +kernel, by decide +kernel⟩, wt_143, wt_48, by decide +kernel⟩
end
section
theorem t_0_0 : am_ok lw_Ts cX0_has 2 RX0 0 (o_il 1 1) := so_il (Or.inl ⟨1, rfl, rfl, rfl⟩) (by decide +kernel)
theorem t_0_1 : am_ok lw_Ts cX0_has 2 RX0 1 (o_k 2 (vI (0))) := so_k (by decide +kernel)
theorem t_0_2 : am_ok lw_Ts cX0_has 2 RX0 2 (o_al 3 0) := so_al (Or.inl ⟨0, rfl, rfl, rfl⟩) (by decide +kernel)
theorem t_0_3 : am_ok lw_Ts cX0_has 2 RX0 3 (o_gf 6 0 4) := so_gf cl_X0 (by decide) wt_116 (by decide +kernel)
theorem t_0_6 : am_ok lw_Ts cX0_has 2 RX0 6 (o_k 7 (vI (1))) := so_k (by decide +kernel)
theorem t_0_7 : am_ok lw_Ts cX0_has 2 RX0 7 (o_ib 8 f_sub) := so_isub (by decide +kernel)
theorem t_0_8 : am_okc gm_mi gm_mt lw_Ts lw_Ns cX0_has RX0 8 66 3 := ⟨30, cf_66.1, cf_66.2.1, cf_66.2.2.1, cf_66.2.2.2, Or.inl ⟨rfl, (by decide +kernel), wt_312, by decide +kernel, (Or.inr ⟨"SeasonOfHours", by decide +kernel⟩)⟩⟩
theorem t_0_11 : am_okr cX0_has 11 2 := (show decode cX0_has 11 = .ok (.ireturn, 1) by decide +kernel)
set_option maxRecDepth 20000 in
theorem ok_0 : am_okL gm_mi gm_mt lw_Ts lw_Ns 0 cd_0 := ⟨t_0_0, t_0_1, t_0_2, t_0_3, t_0_6, t_0_7, t_0_8, t_0_11, trivial⟩
theorem t_1_0 : am_ok lw_Ts cX0_add 2 RX0 0 (o_al 1 0) := so_al (Or.inl ⟨0, rfl, rfl, rfl⟩) (by decide +kernel)
theorem t_1_1 : am_ok lw_Ts cX0_add 2 RX0 1 (o_gf 4 0 4) := so_gf cl_X0 (by decide) wt_116 (by decide +kernel)
theorem t_1_4 : am_ok lw_Ts cX0_add 2 RX0 4 (o_k 6 (vI (6))) := so_bp rfl (by decide +kernel)
theorem t_1_6 : am_ok lw_Ts cX0_add 2 RX0 6 (o_ic 11 9 r_lt) := so_ic_lt (off := 5) (by decide +kernel) rfl
theorem t_1_9 : am_ok lw_Ts cX0_add 2 RX0 9 (o_k 10 (vI (-1))) := so_k (by decide +kernel)
theorem t_1_10 : am_okr cX0_add 10 1 := (show decode cX0_add 10 = .ok (.ireturn, 1) by decide +kernel)
theorem t_1_11 : am_ok lw_Ts cX0_add 2 RX0 11 (o_al 12 0) := so_al (Or.inl ⟨0, rfl, rfl, rfl⟩) (by decide +kernel)
theorem t_1_12 : am_ok lw_Ts cX0_add 2 RX0 12 (o_gf 15 0 0) := so_gf cl_X0 (by decide) wt_100 (by decide +kernel)
theorem t_1_15 : am_ok lw_Ts cX0_add 2 RX0 15 (o_al 16 0) := so_al (Or.inl ⟨0, rfl, rfl, rfl⟩) (by decide +kernel)
theorem t_1_16 : am_ok lw_Ts cX0_add 2 RX0 16 (o_gf 19 0 4) := so_gf cl_X0 (by decide) wt_116 (by decide +kernel)
theorem t_1_19 : am_ok lw_Ts cX0_add 2 RX0 19 (o_il 20 1) := so_il (Or.inl ⟨1, rfl, rfl, rfl⟩) (by decide +kernel)
theorem t_1_20 : am_ok lw_Ts cX0_add 2 RX0 20 (o_iw 21) := so_iw (by decide +kernel)
theorem t_1_21 : am_ok lw_Ts cX0_add 2 RX0 21 (o_al 22 0) := so_al (Or.inl ⟨0, rfl, rfl, rfl⟩) (by decide +kernel)
theorem t_1_22 : am_ok lw_Ts cX0_add 2 RX0 22 (o_dup 23) := so_dup (by decide +kernel)
theorem t_1_23 : am_ok lw_Ts cX0_add 2 RX0 23 (o_gf 26 0 4) := so_gf cl_X0 (by decide) wt_116 (by decide +kernel)
theorem t_1_26 : am_ok lw_Ts cX0_add 2 RX0 26 (o_k 27 (vI (1))) := so_k (by decide +kernel)
theorem t_1_27 : am_ok lw_Ts cX0_add 2 RX0 27 (o_ib 28 f_add) := so_iadd (by decide +kernel)
theorem t_1_28 : am_ok lw_Ts cX0_add 2 RX0 28 (o_pf 31 0 4) := so_pf cl_X0 tyX0_ok nmX0 (by decide) rfl rfl wt_116 (by decide +kernel)
theorem t_1_31 : am_ok lw_Ts cX0_add 2 RX0 31 (o_al 32 0) := so_al (Or.inl ⟨0, rfl, rfl, rfl⟩) (by decide +kernel)
theorem t_1_32 : am_ok lw_Ts cX0_add 2 RX0 32 (o_gf 35 0 4) := so_gf cl_X0 (by decide) wt_116 (by decide +kernel)
theorem t_1_35 : am_ok lw_Ts cX0_add 2 RX0 35 (o_k 36 (vI (1))) := so_k (by decide +kernel)
theorem t_1_36 : am_ok lw_Ts cX0_add 2 RX0 36 (o_ib 37 f_sub) := so_isub (by decide +kernel)
theorem t_1_37 : am_okr cX0_add 37 1 := (show decode cX0_add 37 = .ok (.ireturn, 1) by decide +kernel)
set_option maxRecDepth 20000 in
theorem ok_1 : am_okL gm_mi gm_mt lw_Ts lw_Ns 1 cd_1 := ⟨t_1_0, t_1_1, t_1_4, t_1_6, t_1_9, t_1_10, t_1_11, t_1_12, t_1_15, t_1_16, t_1_19, t_1_20, t_1_21, t_1_22, t_1_23, t_1_26, t_1_27, t_1_28, t_1_31, t_1_32, t_1_35, t_1_36, t_1_37, trivial⟩
theorem t_2_0 : am_ok lw_Ts cX1_append 5 RX1 0 (o_al 1 0) := so_al (Or.inl ⟨0, rfl, rfl, rfl⟩) (by decide +kernel)
theorem t_2_1 : am_ok lw_Ts cX1_append 5 RX1 1 (o_gf 4 1 2) := so_gf cl_X1 (by decide) wt_273 (by decide +kernel)
theorem t_2_4 : am_ok lw_Ts cX1_append 5 RX1 4 (o_il 5 1) := so_il (Or.inl ⟨1, rfl, rfl, rfl⟩) (by decide +kernel)
theorem t_2_5 : am_ok lw_Ts cX1_append 5 RX1 5 (o_ia 6) := so_ia (by decide +kernel)
theorem t_2_6 : am_ok lw_Ts cX1_append 5 RX1 6 (o_is 7 3) := so_is (Or.inl ⟨3, rfl, rfl, rfl⟩) (by decide +kernel)
theorem t_2_7 : am_ok lw_Ts cX1_append 5 RX1 7 (o_k 8 (vI (0))) := so_k (by decide +kernel)
theorem t_2_8 : am_ok lw_Ts cX1_append 5 RX1 8 (o_is 10 4) := so_is (Or.inr ⟨rfl, rfl⟩) (by decide +kernel)
theorem t_2_10 : am_ok lw_Ts cX1_append 5 RX1 10 (o_il 12 4) := so_il (Or.inr ⟨rfl, rfl⟩) (by decide +kernel)
theorem t_2_12 : am_ok lw_Ts cX1_append 5 RX1 12 (o_il 13 3) := so_il (Or.inl ⟨3, rfl, rfl, rfl⟩) (by decide +kernel)
theorem t_2_13 : am_ok lw_Ts cX1_append 5 RX1 13 (o_ic 37 16 r_ge) := so_ic_ge (off := 24) (by decide +kernel) rfl
theorem t_2_16 : am_ok lw_Ts cX1_append 5 RX1 16 (o_al 17 0) := so_al (Or.inl ⟨0, rfl, rfl, rfl⟩) (by decide +kernel)
theorem t_2_17 : am_ok lw_Ts cX1_append 5 RX1 17 (o_gf 20 1 1) := so_gf cl_X1 (by decide) wt_272 (by decide +kernel)
theorem t_2_20 : am_ok lw_Ts cX1_append 5 RX1 20 (o_il 21 1) := so_il (Or.inl ⟨1, rfl, rfl, rfl⟩) (by decide +kernel)
theorem t_2_21 : am_ok lw_Ts cX1_append 5 RX1 21 (o_aa 22) := so_aa (by decide +kernel)
theorem t_2_22 : am_ok lw_Ts cX1_append 5 RX1 22 (o_il 24 4) := so_il (Or.inr ⟨rfl, rfl⟩) (by decide +kernel)
theorem t_2_24 : am_ok lw_Ts cX1_append 5 RX1 24 (o_ia 25) := so_ia (by decide +kernel)
theorem t_2_25 : am_ok lw_Ts cX1_append 5 RX1 25 (o_il 26 2) := so_il (Or.inl ⟨2, rfl, rfl, rfl⟩) (by decide +kernel)
theorem t_2_26 : am_ok lw_Ts cX1_append 5 RX1 26 (o_ic 31 29 r_ne) := so_ic_ne (off := 5) (by decide +kernel) rfl
theorem t_2_29 : am_ok lw_Ts cX1_append 5 RX1 29 (o_k 30 (vI (-1))) := so_k (by decide +kernel)
theorem t_2_30 : am_okr cX1_append 30 1 := (show decode cX1_append 30 = .ok (.ireturn, 1) by decide +kernel)
theorem t_2_31 : am_ok lw_Ts cX1_append 5 RX1 31 (o_ii 34 4 (1)) := so_ii (by decide +kernel)
theorem t_2_34 : am_ok lw_Ts cX1_append 5 RX1 34 (o_go 10) := so_go (off := (-24)) (by decide +kernel) rfl
theorem t_2_37 : am_ok lw_Ts cX1_append 5 RX1 37 (o_il 38 3) := so_il (Or.inl ⟨3, rfl, rfl, rfl⟩) (by decide +kernel)
theorem t_2_38 : am_ok lw_Ts cX1_append 5 RX1 38 (o_k 40 (vI (6))) := so_bp rfl (by decide +kernel)
theorem t_2_40 : am_ok lw_Ts cX1_append 5 RX1 40 (o_ic 45 43 r_lt) := so_ic_lt (off := 5) (by decide +kernel) rfl
theorem t_2_43 : am_ok lw_Ts cX1_append 5 RX1 43 (o_k 44 (vI (-1))) := so_k (by decide +kernel)
theorem t_2_44 : am_okr cX1_append 44 1 := (show decode cX1_append 44 = .ok (.ireturn, 1) by decide +kernel)
theorem t_2_45 : am_ok lw_Ts cX1_append 5 RX1 45 (o_al 46 0) := so_al (Or.inl ⟨0, rfl, rfl, rfl⟩) (by decide +kernel)
theorem t_2_46 : am_ok lw_Ts cX1_append 5 RX1 46 (o_gf 49 1 1) := so_gf cl_X1 (by decide) wt_272 (by decide +kernel)
theorem t_2_49 : am_ok lw_Ts cX1_append 5 RX1 49 (o_il 50 1) := so_il (Or.inl ⟨1, rfl, rfl, rfl⟩) (by decide +kernel)
theorem t_2_50 : am_ok lw_Ts cX1_append 5 RX1 50 (o_aa 51) := so_aa (by decide +kernel)
theorem t_2_51 : am_ok lw_Ts cX1_append 5 RX1 51 (o_il 52 3) := so_il (Or.inl ⟨3, rfl, rfl, rfl⟩) (by decide +kernel)
theorem t_2_52 : am_ok lw_Ts cX1_append 5 RX1 52 (o_il 53 2) := so_il (Or.inl ⟨2, rfl, rfl, rfl⟩) (by decide +kernel)
theorem t_2_53 : am_ok lw_Ts cX1_append 5 RX1 53 (o_iw 54) := so_iw (by decide +kernel)
theorem t_2_54 : am_ok lw_Ts cX1_append 5 RX1 54 (o_al 55 0) := so_al (Or.inl ⟨0, rfl, rfl, rfl⟩) (by decide +kernel)
theorem t_2_55 : am_ok lw_Ts cX1_append 5 RX1 55 (o_gf 58 1 2) := so_gf cl_X1 (by decide) wt_273 (by decide +kernel)
theorem t_2_58 : am_ok lw_Ts cX1_append 5 RX1 58 (o_il 59 1) := so_il (Or.inl ⟨1, rfl, rfl, rfl⟩) (by decide +kernel)
theorem t_2_59 : am_ok lw_Ts cX1_append 5 RX1 59 (o_il 60 3) := so_il (Or.inl ⟨3, rfl, rfl, rfl⟩) (by decide +kernel)
theorem t_2_60 : am_ok lw_Ts cX1_append 5 RX1 60 (o_k 61 (vI (1))) := so_k (by decide +kernel)
theorem t_2_61 : am_ok lw_Ts cX1_append 5 RX1 61 (o_ib 62 f_add) := so_iadd (by decide +kernel)
theorem t_2_62 : am_ok lw_Ts cX1_append 5 RX1 62 (o_iw 63) := so_iw (by decide +kernel)
theorem t_2_63 : am_ok lw_Ts cX1_append 5 RX1 63 (o_il 64 3) := so_il (Or.inl ⟨3, rfl, rfl, rfl⟩) (by decide +kernel)
theorem t_2_64 : am_ok lw_Ts cX1_append 5 RX1 64 (o_k 65 (vI (1))) := so_k (by decide +kernel)
theorem t_2_65 : am_ok lw_Ts cX1_append 5 RX1 65 (o_ib 66 f_add) := so_iadd (by decide +kernel)
theorem t_2_66 : am_okr cX1_append 66 1 := (show decode cX1_append 66 = .ok (.ireturn, 1) by decide +kernel)
set_option maxRecDepth 20000 in
theorem ok_2 : am_okL gm_mi gm_mt lw_Ts lw_Ns 2 cd_2 := ⟨t_2_0, t_2_1, t_2_4, t_2_5, t_2_6, t_2_7, t_2_8, t_2_10, t_2_12, t_2_13, t_2_16, t_2_17, t_2_20, t_2_21, t_2_22, t_2_24, t_2_25, t_2_26, t_2_29, t_2_30, t_2_31, t_2_34, t_2_37, t_2_38, t_2_40, t_2_43, t_2_44, t_2_45, t_2_46, t_2_49, t_2_50, t_2_51, t_2_52, t_2_53, t_2_54, t_2_55, t_2_58, t_2_59, t_2_60, t_2_61, t_2_62, t_2_63, t_2_64, t_2_65, t_2_66, trivial⟩
theorem t_3_0 : am_ok lw_Ts cX1_sumFor 4 RX1 0 (o_k 1 (vI (0))) := so_k (by decide +kernel)
theorem t_3_1 : am_ok lw_Ts cX1_sumFor 4 RX1 1 (o_is 2 2) := so_is (Or.inl ⟨2, rfl, rfl, rfl⟩) (by decide +kernel)
theorem t_3_2 : am_ok lw_Ts cX1_sumFor 4 RX1 2 (o_k 3 (vI (0))) := so_k (by decide +kernel)
theorem t_3_3 : am_ok lw_Ts cX1_sumFor 4 RX1 3 (o_is 4 3) := so_is (Or.inl ⟨3, rfl, rfl, rfl⟩) (by decide +kernel)
theorem t_3_4 : am_ok lw_Ts cX1_sumFor 4 RX1 4 (o_il 5 3) := so_il (Or.inl ⟨3, rfl, rfl, rfl⟩) (by decide +kernel)
theorem t_3_5 : am_ok lw_Ts cX1_sumFor 4 RX1 5 (o_k 7 (vI (7))) := so_bp rfl (by decide +kernel)
theorem t_3_7 : am_ok lw_Ts cX1_sumFor 4 RX1 7 (o_ic 38 10 r_ge) := so_ic_ge (off := 31) (by decide +kernel) rfl
theorem t_3_10 : am_ok lw_Ts cX1_sumFor 4 RX1 10 (o_al 11 0) := so_al (Or.inl ⟨0, rfl, rfl, rfl⟩) (by decide +kernel)
theorem t_3_11 : am_ok lw_Ts cX1_sumFor 4 RX1 11 (o_gf 14 1 3) := so_gf cl_X1 (by decide) wt_274 (by decide +kernel)
theorem t_3_14 : am_ok lw_Ts cX1_sumFor 4 RX1 14 (o_il 15 3) := so_il (Or.inl ⟨3, rfl, rfl, rfl⟩) (by decide +kernel)
theorem t_3_15 : am_ok lw_Ts cX1_sumFor 4 RX1 15 (o_ia 16) := so_ia (by decide +kernel)
theorem t_3_16 : am_ok lw_Ts cX1_sumFor 4 RX1 16 (o_il 17 1) := so_il (Or.inl ⟨1, rfl, rfl, rfl⟩) (by decide +kernel)
theorem t_3_17 : am_okc gm_mi gm_mt lw_Ts lw_Ns cX1_sumFor RX1 17 67 2 := ⟨30, cf_67.1, cf_67.2.1, cf_67.2.2.1, cf_67.2.2.2, Or.inl ⟨rfl, (by decide +kernel), wt_420, by decide +kernel, (Or.inr ⟨"SeasonOfHours", by decide +kernel⟩)⟩⟩
theorem t_3_20 : am_ok lw_Ts cX1_sumFor 4 RX1 20 (o_if 32 23 q_ne) := so_if_ne (off := 12) (by decide +kernel) rfl
theorem t_3_23 : am_ok lw_Ts cX1_sumFor 4 RX1 23 (o_il 24 2) := so_il (Or.inl ⟨2, rfl, rfl, rfl⟩) (by decide +kernel)
theorem t_3_24 : am_ok lw_Ts cX1_sumFor 4 RX1 24 (o_al 25 0) := so_al (Or.inl ⟨0, rfl, rfl, rfl⟩) (by decide +kernel)
theorem t_3_25 : am_ok lw_Ts cX1_sumFor 4 RX1 25 (o_il 26 3) := so_il (Or.inl ⟨3, rfl, rfl, rfl⟩) (by decide +kernel)
theorem t_3_26 : am_ok lw_Ts cX1_sumFor 4 RX1 26 (o_il 27 1) := so_il (Or.inl ⟨1, rfl, rfl, rfl⟩) (by decide +kernel)
theorem t_3_27 : am_okc gm_mi gm_mt lw_Ts lw_Ns cX1_sumFor RX1 27 4 3 := ⟨34, cf_4.1, cf_4.2.1, cf_4.2.2.1, cf_4.2.2.2, Or.inr ⟨1, 2, TX1, 5, rfl, rfl, rfl, (by decide +kernel), wt_600, wt_21, wt_598, by decide +kernel⟩⟩
theorem t_3_30 : am_ok lw_Ts cX1_sumFor 4 RX1 30 (o_ib 31 f_add) := so_iadd (by decide +kernel)
theorem t_3_31 : am_ok lw_Ts cX1_sumFor 4 RX1 31 (o_is 32 2) := so_is (Or.inl ⟨2, rfl, rfl, rfl⟩) (by decide +kernel)
theorem t_3_32 : am_ok lw_Ts cX1_sumFor 4 RX1 32 (o_ii 35 3 (1)) := so_ii (by decide +kernel)
theorem t_3_35 : am_ok lw_Ts cX1_sumFor 4 RX1 35 (o_go 4) := so_go (off := (-31)) (by decide +kernel) rfl
theorem t_3_38 : am_ok lw_Ts cX1_sumFor 4 RX1 38 (o_il 39 2) := so_il (Or.inl ⟨2, rfl, rfl, rfl⟩) (by decide +kernel)
theorem t_3_39 : am_okr cX1_sumFor 39 1 := (show decode cX1_sumFor 39 = .ok (.ireturn, 1) by decide +kernel)
set_option maxRecDepth 20000 in
theorem ok_3 : am_okL gm_mi gm_mt lw_Ts lw_Ns 3 cd_3 := ⟨t_3_0, t_3_1, t_3_2, t_3_3, t_3_4, t_3_5, t_3_7, t_3_10, t_3_11, t_3_14, t_3_15, t_3_16, t_3_17, t_3_20, t_3_23, t_3_24, t_3_25, t_3_26, t_3_27, t_3_30, t_3_31, t_3_32, t_3_35, t_3_38, t_3_39, trivial⟩
theorem t_4_0 : am_ok lw_Ts cX1_fromJudge 5 RX1 0 (o_k 1 (vI (0))) := so_k (by decide +kernel)
theorem t_4_1 : am_ok lw_Ts cX1_fromJudge 5 RX1 1 (o_is 2 3) := so_is (Or.inl ⟨3, rfl, rfl, rfl⟩) (by decide +kernel)
theorem t_4_2 : am_ok lw_Ts cX1_fromJudge 5 RX1 2 (o_k 3 (vI (0))) := so_k (by decide +kernel)
theorem t_4_3 : am_ok lw_Ts cX1_fromJudge 5 RX1 3 (o_is 5 4) := so_is (Or.inr ⟨rfl, rfl⟩) (by decide +kernel)
theorem t_4_5 : am_ok lw_Ts cX1_fromJudge 5 RX1 5 (o_il 7 4) := so_il (Or.inr ⟨rfl, rfl⟩) (by decide +kernel)
theorem t_4_7 : am_ok lw_Ts cX1_fromJudge 5 RX1 7 (o_al 8 0) := so_al (Or.inl ⟨0, rfl, rfl, rfl⟩) (by decide +kernel)
theorem t_4_8 : am_ok lw_Ts cX1_fromJudge 5 RX1 8 (o_gf 11 1 2) := so_gf cl_X1 (by decide) wt_273 (by decide +kernel)
theorem t_4_11 : am_ok lw_Ts cX1_fromJudge 5 RX1 11 (o_il 12 1) := so_il (Or.inl ⟨1, rfl, rfl, rfl⟩) (by decide +kernel)
theorem t_4_12 : am_ok lw_Ts cX1_fromJudge 5 RX1 12 (o_ia 13) := so_ia (by decide +kernel)
theorem t_4_13 : am_ok lw_Ts cX1_fromJudge 5 RX1 13 (o_ic 68 16 r_ge) := so_ic_ge (off := 55) (by decide +kernel) rfl
theorem t_4_16 : am_ok lw_Ts cX1_fromJudge 5 RX1 16 (o_al 17 0) := so_al (Or.inl ⟨0, rfl, rfl, rfl⟩) (by decide +kernel)
theorem t_4_17 : am_ok lw_Ts cX1_fromJudge 5 RX1 17 (o_gf 20 1 1) := so_gf cl_X1 (by decide) wt_272 (by decide +kernel)
theorem t_4_20 : am_ok lw_Ts cX1_fromJudge 5 RX1 20 (o_il 21 1) := so_il (Or.inl ⟨1, rfl, rfl, rfl⟩) (by decide +kernel)
theorem t_4_21 : am_ok lw_Ts cX1_fromJudge 5 RX1 21 (o_aa 22) := so_aa (by decide +kernel)
theorem t_4_22 : am_ok lw_Ts cX1_fromJudge 5 RX1 22 (o_il 24 4) := so_il (Or.inr ⟨rfl, rfl⟩) (by decide +kernel)
theorem t_4_24 : am_ok lw_Ts cX1_fromJudge 5 RX1 24 (o_ia 25) := so_ia (by decide +kernel)
theorem t_4_25 : am_ok lw_Ts cX1_fromJudge 5 RX1 25 (o_il 26 2) := so_il (Or.inl ⟨2, rfl, rfl, rfl⟩) (by decide +kernel)
theorem t_4_26 : am_ok lw_Ts cX1_fromJudge 5 RX1 26 (o_ic 38 29 r_ne) := so_ic_ne (off := 12) (by decide +kernel) rfl
theorem t_4_29 : am_ok lw_Ts cX1_fromJudge 5 RX1 29 (o_k 30 (vI (0))) := so_k (by decide +kernel)
theorem t_4_30 : am_ok lw_Ts cX1_fromJudge 5 RX1 30 (o_k 32 (vI (6))) := so_bp rfl (by decide +kernel)
theorem t_4_32 : am_ok lw_Ts cX1_fromJudge 5 RX1 32 (o_il 33 3) := so_il (Or.inl ⟨3, rfl, rfl, rfl⟩) (by decide +kernel)
theorem t_4_33 : am_ok lw_Ts cX1_fromJudge 5 RX1 33 (o_ib 34 f_sub) := so_isub (by decide +kernel)
theorem t_4_34 : am_okc gm_mi gm_mt lw_Ts lw_Ns cX1_fromJudge RX1 34 115 2 := ⟨38, cf_115.1, cf_115.2.1, cf_115.2.2.1, cf_115.2.2.2, Or.inl ⟨rfl, (by decide +kernel), wt_603, by decide +kernel, (Or.inl wt_602)⟩⟩
theorem t_4_37 : am_okr cX1_fromJudge 37 1 := (show decode cX1_fromJudge 37 = .ok (.ireturn, 1) by decide +kernel)
theorem t_4_38 : am_ok lw_Ts cX1_fromJudge 5 RX1 38 (o_al 39 0) := so_al (Or.inl ⟨0, rfl, rfl, rfl⟩) (by decide +kernel)
theorem t_4_39 : am_ok lw_Ts cX1_fromJudge 5 RX1 39 (o_gf 42 1 3) := so_gf cl_X1 (by decide) wt_274 (by decide +kernel)
theorem t_4_42 : am_ok lw_Ts cX1_fromJudge 5 RX1 42 (o_il 43 1) := so_il (Or.inl ⟨1, rfl, rfl, rfl⟩) (by decide +kernel)
theorem t_4_43 : am_ok lw_Ts cX1_fromJudge 5 RX1 43 (o_ia 44) := so_ia (by decide +kernel)
theorem t_4_44 : am_ok lw_Ts cX1_fromJudge 5 RX1 44 (o_al 45 0) := so_al (Or.inl ⟨0, rfl, rfl, rfl⟩) (by decide +kernel)
theorem t_4_45 : am_ok lw_Ts cX1_fromJudge 5 RX1 45 (o_gf 48 1 1) := so_gf cl_X1 (by decide) wt_272 (by decide +kernel)
theorem t_4_48 : am_ok lw_Ts cX1_fromJudge 5 RX1 48 (o_il 49 1) := so_il (Or.inl ⟨1, rfl, rfl, rfl⟩) (by decide +kernel)
theorem t_4_49 : am_ok lw_Ts cX1_fromJudge 5 RX1 49 (o_aa 50) := so_aa (by decide +kernel)
theorem t_4_50 : am_ok lw_Ts cX1_fromJudge 5 RX1 50 (o_il 52 4) := so_il (Or.inr ⟨rfl, rfl⟩) (by decide +kernel)
theorem t_4_52 : am_ok lw_Ts cX1_fromJudge 5 RX1 52 (o_ia 53) := so_ia (by decide +kernel)
theorem t_4_53 : am_okc gm_mi gm_mt lw_Ts lw_Ns cX1_fromJudge RX1 53 67 2 := ⟨30, cf_67.1, cf_67.2.1, cf_67.2.2.1, cf_67.2.2.2, Or.inl ⟨rfl, (by decide +kernel), wt_420, by decide +kernel, (Or.inr ⟨"SeasonOfHours", by decide +kernel⟩)⟩⟩
theorem t_4_56 : am_ok lw_Ts cX1_fromJudge 5 RX1 56 (o_if 62 59 q_ne) := so_if_ne (off := 6) (by decide +kernel) rfl
theorem t_4_59 : am_ok lw_Ts cX1_fromJudge 5 RX1 59 (o_ii 62 3 (1)) := so_ii (by decide +kernel)
theorem t_4_62 : am_ok lw_Ts cX1_fromJudge 5 RX1 62 (o_ii 65 4 (1)) := so_ii (by decide +kernel)
theorem t_4_65 : am_ok lw_Ts cX1_fromJudge 5 RX1 65 (o_go 5) := so_go (off := (-60)) (by decide +kernel) rfl
theorem t_4_68 : am_ok lw_Ts cX1_fromJudge 5 RX1 68 (o_k 69 (vI (0))) := so_k (by decide +kernel)
theorem t_4_69 : am_okr cX1_fromJudge 69 1 := (show decode cX1_fromJudge 69 = .ok (.ireturn, 1) by decide +kernel)
set_option maxRecDepth 20000 in
theorem ok_4 : am_okL gm_mi gm_mt lw_Ts lw_Ns 4 cd_4 := ⟨t_4_0, t_4_1, t_4_2, t_4_3, t_4_5, t_4_7, t_4_8, t_4_11, t_4_12, t_4_13, t_4_16, t_4_17, t_4_20, t_4_21, t_4_22, t_4_24, t_4_25, t_4_26, t_4_29, t_4_30, t_4_32, t_4_33, t_4_34, t_4_37, t_4_38, t_4_39, t_4_42, t_4_43, t_4_44, t_4_45, t_4_48, t_4_49, t_4_50, t_4_52, t_4_53, t_4_56, t_4_59, t_4_62, t_4_65, t_4_68, t_4_69, trivial⟩
theorem t_5_0 : am_ok lw_Ts cX1_artistAtPlace 3 RX1 0 (o_k 1 (vI (0))) := so_k (by decide +kernel)
theorem t_5_1 : am_ok lw_Ts cX1_artistAtPlace 3 RX1 1 (o_is 2 2) := so_is (Or.inl ⟨2, rfl, rfl, rfl⟩) (by decide +kernel)
theorem t_5_2 : am_ok lw_Ts cX1_artistAtPlace 3 RX1 2 (o_il 3 2) := so_il (Or.inl ⟨2, rfl, rfl, rfl⟩) (by decide +kernel)
theorem t_5_3 : am_ok lw_Ts cX1_artistAtPlace 3 RX1 3 (o_al 4 0) := so_al (Or.inl ⟨0, rfl, rfl, rfl⟩) (by decide +kernel)
theorem t_5_4 : am_ok lw_Ts cX1_artistAtPlace 3 RX1 4 (o_gf 7 1 0) := so_gf cl_X1 (by decide) wt_271 (by decide +kernel)
theorem t_5_7 : am_ok lw_Ts cX1_artistAtPlace 3 RX1 7 (o_gf 10 0 4) := so_gf cl_X0 (by decide) wt_118 (by decide +kernel)
theorem t_5_10 : am_ok lw_Ts cX1_artistAtPlace 3 RX1 10 (o_ic 30 13 r_ge) := so_ic_ge (off := 20) (by decide +kernel) rfl
theorem t_5_13 : am_ok lw_Ts cX1_artistAtPlace 3 RX1 13 (o_al 14 0) := so_al (Or.inl ⟨0, rfl, rfl, rfl⟩) (by decide +kernel)
theorem t_5_14 : am_ok lw_Ts cX1_artistAtPlace 3 RX1 14 (o_gf 17 1 4) := so_gf cl_X1 (by decide) wt_276 (by decide +kernel)
theorem t_5_17 : am_ok lw_Ts cX1_artistAtPlace 3 RX1 17 (o_il 18 2) := so_il (Or.inl ⟨2, rfl, rfl, rfl⟩) (by decide +kernel)
theorem t_5_18 : am_ok lw_Ts cX1_artistAtPlace 3 RX1 18 (o_al 19 0) := so_al (Or.inl ⟨0, rfl, rfl, rfl⟩) (by decide +kernel)
theorem t_5_19 : am_ok lw_Ts cX1_artistAtPlace 3 RX1 19 (o_il 20 2) := so_il (Or.inl ⟨2, rfl, rfl, rfl⟩) (by decide +kernel)
theorem t_5_20 : am_okc gm_mi gm_mt lw_Ts lw_Ns cX1_artistAtPlace RX1 20 3 2 := ⟨49, cf_3.1, cf_3.2.1, cf_3.2.2.1, cf_3.2.2.2, Or.inr ⟨1, 1, TX1, 5, rfl, rfl, rfl, (by decide +kernel), wt_594, wt_595, wt_613, by decide +kernel⟩⟩
theorem t_5_23 : am_ok lw_Ts cX1_artistAtPlace 3 RX1 23 (o_iw 24) := so_iw (by decide +kernel)
theorem t_5_24 : am_ok lw_Ts cX1_artistAtPlace 3 RX1 24 (o_ii 27 2 (1)) := so_ii (by decide +kernel)
theorem t_5_27 : am_ok lw_Ts cX1_artistAtPlace 3 RX1 27 (o_go 2) := so_go (off := (-25)) (by decide +kernel) rfl
theorem t_5_30 : am_ok lw_Ts cX1_artistAtPlace 3 RX1 30 (o_k 31 (vI (0))) := so_k (by decide +kernel)
theorem t_5_31 : am_ok lw_Ts cX1_artistAtPlace 3 RX1 31 (o_is 32 2) := so_is (Or.inl ⟨2, rfl, rfl, rfl⟩) (by decide +kernel)
theorem t_5_32 : am_ok lw_Ts cX1_artistAtPlace 3 RX1 32 (o_il 33 2) := so_il (Or.inl ⟨2, rfl, rfl, rfl⟩) (by decide +kernel)
theorem t_5_33 : am_ok lw_Ts cX1_artistAtPlace 3 RX1 33 (o_al 34 0) := so_al (Or.inl ⟨0, rfl, rfl, rfl⟩) (by decide +kernel)
theorem t_5_34 : am_ok lw_Ts cX1_artistAtPlace 3 RX1 34 (o_gf 37 1 0) := so_gf cl_X1 (by decide) wt_271 (by decide +kernel)
theorem t_5_37 : am_ok lw_Ts cX1_artistAtPlace 3 RX1 37 (o_gf 40 0 4) := so_gf cl_X0 (by decide) wt_118 (by decide +kernel)
theorem t_5_40 : am_ok lw_Ts cX1_artistAtPlace 3 RX1 40 (o_ic 60 43 r_ge) := so_ic_ge (off := 20) (by decide +kernel) rfl
theorem t_5_43 : am_ok lw_Ts cX1_artistAtPlace 3 RX1 43 (o_al 44 0) := so_al (Or.inl ⟨0, rfl, rfl, rfl⟩) (by decide +kernel)
theorem t_5_44 : am_ok lw_Ts cX1_artistAtPlace 3 RX1 44 (o_il 45 2) := so_il (Or.inl ⟨2, rfl, rfl, rfl⟩) (by decide +kernel)
theorem t_5_45 : am_okc gm_mi gm_mt lw_Ts lw_Ns cX1_artistAtPlace RX1 45 6 2 := ⟨53, cf_6.1, cf_6.2.1, cf_6.2.2.1, cf_6.2.2.2, Or.inr ⟨1, 1, TX1, 5, rfl, rfl, rfl, (by decide +kernel), wt_616, wt_22, wt_614, by decide +kernel⟩⟩
theorem t_5_48 : am_ok lw_Ts cX1_artistAtPlace 3 RX1 48 (o_il 49 1) := so_il (Or.inl ⟨1, rfl, rfl, rfl⟩) (by decide +kernel)
theorem t_5_49 : am_ok lw_Ts cX1_artistAtPlace 3 RX1 49 (o_ic 54 52 r_ne) := so_ic_ne (off := 5) (by decide +kernel) rfl
theorem t_5_52 : am_ok lw_Ts cX1_artistAtPlace 3 RX1 52 (o_il 53 2) := so_il (Or.inl ⟨2, rfl, rfl, rfl⟩) (by decide +kernel)
theorem t_5_53 : am_okr cX1_artistAtPlace 53 1 := (show decode cX1_artistAtPlace 53 = .ok (.ireturn, 1) by decide +kernel)
theorem t_5_54 : am_ok lw_Ts cX1_artistAtPlace 3 RX1 54 (o_ii 57 2 (1)) := so_ii (by decide +kernel)
theorem t_5_57 : am_ok lw_Ts cX1_artistAtPlace 3 RX1 57 (o_go 32) := so_go (off := (-25)) (by decide +kernel) rfl
theorem t_5_60 : am_ok lw_Ts cX1_artistAtPlace 3 RX1 60 (o_k 61 (vI (-1))) := so_k (by decide +kernel)
theorem t_5_61 : am_okr cX1_artistAtPlace 61 1 := (show decode cX1_artistAtPlace 61 = .ok (.ireturn, 1) by decide +kernel)
set_option maxRecDepth 20000 in
theorem ok_5 : am_okL gm_mi gm_mt lw_Ts lw_Ns 5 cd_5 := ⟨t_5_0, t_5_1, t_5_2, t_5_3, t_5_4, t_5_7, t_5_10, t_5_13, t_5_14, t_5_17, t_5_18, t_5_19, t_5_20, t_5_23, t_5_24, t_5_27, t_5_30, t_5_31, t_5_32, t_5_33, t_5_34, t_5_37, t_5_40, t_5_43, t_5_44, t_5_45, t_5_48, t_5_49, t_5_52, t_5_53, t_5_54, t_5_57, t_5_60, t_5_61, trivial⟩
theorem t_6_0 : am_ok lw_Ts cX1_placeOf 4 RX1 0 (o_k 1 (vI (0))) := so_k (by decide +kernel)
theorem t_6_1 : am_ok lw_Ts cX1_placeOf 4 RX1 1 (o_is 2 2) := so_is (Or.inl ⟨2, rfl, rfl, rfl⟩) (by decide +kernel)
theorem t_6_2 : am_ok lw_Ts cX1_placeOf 4 RX1 2 (o_k 3 (vI (0))) := so_k (by decide +kernel)
theorem t_6_3 : am_ok lw_Ts cX1_placeOf 4 RX1 3 (o_is 4 3) := so_is (Or.inl ⟨3, rfl, rfl, rfl⟩) (by decide +kernel)
theorem t_6_4 : am_ok lw_Ts cX1_placeOf 4 RX1 4 (o_il 5 3) := so_il (Or.inl ⟨3, rfl, rfl, rfl⟩) (by decide +kernel)
theorem t_6_5 : am_ok lw_Ts cX1_placeOf 4 RX1 5 (o_al 6 0) := so_al (Or.inl ⟨0, rfl, rfl, rfl⟩) (by decide +kernel)
theorem t_6_6 : am_ok lw_Ts cX1_placeOf 4 RX1 6 (o_gf 9 1 0) := so_gf cl_X1 (by decide) wt_271 (by decide +kernel)
theorem t_6_9 : am_ok lw_Ts cX1_placeOf 4 RX1 9 (o_gf 12 0 4) := so_gf cl_X0 (by decide) wt_118 (by decide +kernel)
theorem t_6_12 : am_ok lw_Ts cX1_placeOf 4 RX1 12 (o_ic 33 15 r_ge) := so_ic_ge (off := 21) (by decide +kernel) rfl
theorem t_6_15 : am_ok lw_Ts cX1_placeOf 4 RX1 15 (o_al 16 0) := so_al (Or.inl ⟨0, rfl, rfl, rfl⟩) (by decide +kernel)
theorem t_6_16 : am_ok lw_Ts cX1_placeOf 4 RX1 16 (o_il 17 3) := so_il (Or.inl ⟨3, rfl, rfl, rfl⟩) (by decide +kernel)
theorem t_6_17 : am_ok lw_Ts cX1_placeOf 4 RX1 17 (o_il 18 1) := so_il (Or.inl ⟨1, rfl, rfl, rfl⟩) (by decide +kernel)
theorem t_6_18 : am_okc gm_mi gm_mt lw_Ts lw_Ns cX1_placeOf RX1 18 7 3 := ⟨56, cf_7.1, cf_7.2.1, cf_7.2.2.1, cf_7.2.2.2, Or.inr ⟨1, 2, TX1, 5, rfl, rfl, rfl, (by decide +kernel), wt_620, wt_23, wt_618, by decide +kernel⟩⟩
theorem t_6_21 : am_ok lw_Ts cX1_placeOf 4 RX1 21 (o_if 27 24 q_eq) := so_if_eq (off := 6) (by decide +kernel) rfl
theorem t_6_24 : am_ok lw_Ts cX1_placeOf 4 RX1 24 (o_ii 27 2 (1)) := so_ii (by decide +kernel)
theorem t_6_27 : am_ok lw_Ts cX1_placeOf 4 RX1 27 (o_ii 30 3 (1)) := so_ii (by decide +kernel)
theorem t_6_30 : am_ok lw_Ts cX1_placeOf 4 RX1 30 (o_go 4) := so_go (off := (-26)) (by decide +kernel) rfl
theorem t_6_33 : am_ok lw_Ts cX1_placeOf 4 RX1 33 (o_il 34 2) := so_il (Or.inl ⟨2, rfl, rfl, rfl⟩) (by decide +kernel)
theorem t_6_34 : am_okr cX1_placeOf 34 1 := (show decode cX1_placeOf 34 = .ok (.ireturn, 1) by decide +kernel)
set_option maxRecDepth 20000 in
theorem ok_6 : am_okL gm_mi gm_mt lw_Ts lw_Ns 6 cd_6 := ⟨t_6_0, t_6_1, t_6_2, t_6_3, t_6_4, t_6_5, t_6_6, t_6_9, t_6_12, t_6_15, t_6_16, t_6_17, t_6_18, t_6_21, t_6_24, t_6_27, t_6_30, t_6_33, t_6_34, trivial⟩
theorem t_7_0 : am_ok lw_Ts cX1_isAhead 3 RX1 0 (o_al 1 0) := so_al (Or.inl ⟨0, rfl, rfl, rfl⟩) (by decide +kernel)
theorem t_7_1 : am_ok lw_Ts cX1_isAhead 3 RX1 1 (o_gf 4 1 4) := so_gf cl_X1 (by decide) wt_276 (by decide +kernel)
theorem t_7_4 : am_ok lw_Ts cX1_isAhead 3 RX1 4 (o_il 5 1) := so_il (Or.inl ⟨1, rfl, rfl, rfl⟩) (by decide +kernel)
theorem t_7_5 : am_ok lw_Ts cX1_isAhead 3 RX1 5 (o_ia 6) := so_ia (by decide +kernel)
theorem t_7_6 : am_ok lw_Ts cX1_isAhead 3 RX1 6 (o_al 7 0) := so_al (Or.inl ⟨0, rfl, rfl, rfl⟩) (by decide +kernel)
theorem t_7_7 : am_ok lw_Ts cX1_isAhead 3 RX1 7 (o_gf 10 1 4) := so_gf cl_X1 (by decide) wt_276 (by decide +kernel)
theorem t_7_10 : am_ok lw_Ts cX1_isAhead 3 RX1 10 (o_il 11 2) := so_il (Or.inl ⟨2, rfl, rfl, rfl⟩) (by decide +kernel)
theorem t_7_11 : am_ok lw_Ts cX1_isAhead 3 RX1 11 (o_ia 12) := so_ia (by decide +kernel)
theorem t_7_12 : am_ok lw_Ts cX1_isAhead 3 RX1 12 (o_ic 36 15 r_eq) := so_ic_eq (off := 24) (by decide +kernel) rfl
theorem t_7_15 : am_ok lw_Ts cX1_isAhead 3 RX1 15 (o_al 16 0) := so_al (Or.inl ⟨0, rfl, rfl, rfl⟩) (by decide +kernel)
theorem t_7_16 : am_ok lw_Ts cX1_isAhead 3 RX1 16 (o_gf 19 1 4) := so_gf cl_X1 (by decide) wt_276 (by decide +kernel)
theorem t_7_19 : am_ok lw_Ts cX1_isAhead 3 RX1 19 (o_il 20 1) := so_il (Or.inl ⟨1, rfl, rfl, rfl⟩) (by decide +kernel)
theorem t_7_20 : am_ok lw_Ts cX1_isAhead 3 RX1 20 (o_ia 21) := so_ia (by decide +kernel)
theorem t_7_21 : am_ok lw_Ts cX1_isAhead 3 RX1 21 (o_al 22 0) := so_al (Or.inl ⟨0, rfl, rfl, rfl⟩) (by decide +kernel)
theorem t_7_22 : am_ok lw_Ts cX1_isAhead 3 RX1 22 (o_gf 25 1 4) := so_gf cl_X1 (by decide) wt_276 (by decide +kernel)
theorem t_7_25 : am_ok lw_Ts cX1_isAhead 3 RX1 25 (o_il 26 2) := so_il (Or.inl ⟨2, rfl, rfl, rfl⟩) (by decide +kernel)
theorem t_7_26 : am_ok lw_Ts cX1_isAhead 3 RX1 26 (o_ia 27) := so_ia (by decide +kernel)
theorem t_7_27 : am_ok lw_Ts cX1_isAhead 3 RX1 27 (o_ic 34 30 r_le) := so_ic_le (off := 7) (by decide +kernel) rfl
theorem t_7_30 : am_ok lw_Ts cX1_isAhead 3 RX1 30 (o_k 31 (vI (1))) := so_k (by decide +kernel)
theorem t_7_31 : am_ok lw_Ts cX1_isAhead 3 RX1 31 (o_go 35) := so_go (off := 4) (by decide +kernel) rfl
theorem t_7_34 : am_ok lw_Ts cX1_isAhead 3 RX1 34 (o_k 35 (vI (0))) := so_k (by decide +kernel)
theorem t_7_35 : am_okr cX1_isAhead 35 2 := (show decode cX1_isAhead 35 = .ok (.ireturn, 1) by decide +kernel)
theorem t_7_36 : am_ok lw_Ts cX1_isAhead 3 RX1 36 (o_al 37 0) := so_al (Or.inl ⟨0, rfl, rfl, rfl⟩) (by decide +kernel)
theorem t_7_37 : am_ok lw_Ts cX1_isAhead 3 RX1 37 (o_gf 40 1 0) := so_gf cl_X1 (by decide) wt_271 (by decide +kernel)
theorem t_7_40 : am_ok lw_Ts cX1_isAhead 3 RX1 40 (o_gf 43 0 0) := so_gf cl_X0 (by decide) wt_102 (by decide +kernel)
theorem t_7_43 : am_ok lw_Ts cX1_isAhead 3 RX1 43 (o_il 44 1) := so_il (Or.inl ⟨1, rfl, rfl, rfl⟩) (by decide +kernel)
theorem t_7_44 : am_ok lw_Ts cX1_isAhead 3 RX1 44 (o_ia 45) := so_ia (by decide +kernel)
theorem t_7_45 : am_ok lw_Ts cX1_isAhead 3 RX1 45 (o_al 46 0) := so_al (Or.inl ⟨0, rfl, rfl, rfl⟩) (by decide +kernel)
theorem t_7_46 : am_ok lw_Ts cX1_isAhead 3 RX1 46 (o_gf 49 1 0) := so_gf cl_X1 (by decide) wt_271 (by decide +kernel)
theorem t_7_49 : am_ok lw_Ts cX1_isAhead 3 RX1 49 (o_gf 52 0 0) := so_gf cl_X0 (by decide) wt_102 (by decide +kernel)
theorem t_7_52 : am_ok lw_Ts cX1_isAhead 3 RX1 52 (o_il 53 2) := so_il (Or.inl ⟨2, rfl, rfl, rfl⟩) (by decide +kernel)
theorem t_7_53 : am_ok lw_Ts cX1_isAhead 3 RX1 53 (o_ia 54) := so_ia (by decide +kernel)
theorem t_7_54 : am_ok lw_Ts cX1_isAhead 3 RX1 54 (o_ic 84 57 r_eq) := so_ic_eq (off := 30) (by decide +kernel) rfl
theorem t_7_57 : am_ok lw_Ts cX1_isAhead 3 RX1 57 (o_al 58 0) := so_al (Or.inl ⟨0, rfl, rfl, rfl⟩) (by decide +kernel)
theorem t_7_58 : am_ok lw_Ts cX1_isAhead 3 RX1 58 (o_gf 61 1 0) := so_gf cl_X1 (by decide) wt_271 (by decide +kernel)
theorem t_7_61 : am_ok lw_Ts cX1_isAhead 3 RX1 61 (o_gf 64 0 0) := so_gf cl_X0 (by decide) wt_102 (by decide +kernel)
theorem t_7_64 : am_ok lw_Ts cX1_isAhead 3 RX1 64 (o_il 65 1) := so_il (Or.inl ⟨1, rfl, rfl, rfl⟩) (by decide +kernel)
theorem t_7_65 : am_ok lw_Ts cX1_isAhead 3 RX1 65 (o_ia 66) := so_ia (by decide +kernel)
theorem t_7_66 : am_ok lw_Ts cX1_isAhead 3 RX1 66 (o_al 67 0) := so_al (Or.inl ⟨0, rfl, rfl, rfl⟩) (by decide +kernel)
theorem t_7_67 : am_ok lw_Ts cX1_isAhead 3 RX1 67 (o_gf 70 1 0) := so_gf cl_X1 (by decide) wt_271 (by decide +kernel)
theorem t_7_70 : am_ok lw_Ts cX1_isAhead 3 RX1 70 (o_gf 73 0 0) := so_gf cl_X0 (by decide) wt_102 (by decide +kernel)
theorem t_7_73 : am_ok lw_Ts cX1_isAhead 3 RX1 73 (o_il 74 2) := so_il (Or.inl ⟨2, rfl, rfl, rfl⟩) (by decide +kernel)
theorem t_7_74 : am_ok lw_Ts cX1_isAhead 3 RX1 74 (o_ia 75) := so_ia (by decide +kernel)
theorem t_7_75 : am_ok lw_Ts cX1_isAhead 3 RX1 75 (o_ic 82 78 r_le) := so_ic_le (off := 7) (by decide +kernel) rfl
theorem t_7_78 : am_ok lw_Ts cX1_isAhead 3 RX1 78 (o_k 79 (vI (1))) := so_k (by decide +kernel)
theorem t_7_79 : am_ok lw_Ts cX1_isAhead 3 RX1 79 (o_go 83) := so_go (off := 4) (by decide +kernel) rfl
theorem t_7_82 : am_ok lw_Ts cX1_isAhead 3 RX1 82 (o_k 83 (vI (0))) := so_k (by decide +kernel)
theorem t_7_83 : am_okr cX1_isAhead 83 2 := (show decode cX1_isAhead 83 = .ok (.ireturn, 1) by decide +kernel)
theorem t_7_84 : am_ok lw_Ts cX1_isAhead 3 RX1 84 (o_il 85 1) := so_il (Or.inl ⟨1, rfl, rfl, rfl⟩) (by decide +kernel)
theorem t_7_85 : am_ok lw_Ts cX1_isAhead 3 RX1 85 (o_il 86 2) := so_il (Or.inl ⟨2, rfl, rfl, rfl⟩) (by decide +kernel)
theorem t_7_86 : am_ok lw_Ts cX1_isAhead 3 RX1 86 (o_ic 93 89 r_ge) := so_ic_ge (off := 7) (by decide +kernel) rfl
theorem t_7_89 : am_ok lw_Ts cX1_isAhead 3 RX1 89 (o_k 90 (vI (1))) := so_k (by decide +kernel)
theorem t_7_90 : am_ok lw_Ts cX1_isAhead 3 RX1 90 (o_go 94) := so_go (off := 4) (by decide +kernel) rfl
theorem t_7_93 : am_ok lw_Ts cX1_isAhead 3 RX1 93 (o_k 94 (vI (0))) := so_k (by decide +kernel)
theorem t_7_94 : am_okr cX1_isAhead 94 2 := (show decode cX1_isAhead 94 = .ok (.ireturn, 1) by decide +kernel)
set_option maxRecDepth 20000 in
theorem ok_7 : am_okL gm_mi gm_mt lw_Ts lw_Ns 7 cd_7 := ⟨t_7_0, t_7_1, t_7_4, t_7_5, t_7_6, t_7_7, t_7_10, t_7_11, t_7_12, t_7_15, t_7_16, t_7_19, t_7_20, t_7_21, t_7_22, t_7_25, t_7_26, t_7_27, t_7_30, t_7_31, t_7_34, t_7_35, t_7_36, t_7_37, t_7_40, t_7_43, t_7_44, t_7_45, t_7_46, t_7_49, t_7_52, t_7_53, t_7_54, t_7_57, t_7_58, t_7_61, t_7_64, t_7_65, t_7_66, t_7_67, t_7_70, t_7_73, t_7_74, t_7_75, t_7_78, t_7_79, t_7_82, t_7_83, t_7_84, t_7_85, t_7_86, t_7_89, t_7_90, t_7_93, t_7_94, trivial⟩
theorem t_8_0 : am_ok lw_Ts cX2_has 2 RX2 0 (o_il 1 1) := so_il (Or.inl ⟨1, rfl, rfl, rfl⟩) (by decide +kernel)
theorem t_8_1 : am_ok lw_Ts cX2_has 2 RX2 1 (o_k 2 (vI (0))) := so_k (by decide +kernel)
theorem t_8_2 : am_ok lw_Ts cX2_has 2 RX2 2 (o_al 3 0) := so_al (Or.inl ⟨0, rfl, rfl, rfl⟩) (by decide +kernel)
theorem t_8_3 : am_ok lw_Ts cX2_has 2 RX2 3 (o_gf 6 2 2) := so_gf cl_X2 (by decide) wt_77 (by decide +kernel)
theorem t_8_6 : am_ok lw_Ts cX2_has 2 RX2 6 (o_k 7 (vI (1))) := so_k (by decide +kernel)
theorem t_8_7 : am_ok lw_Ts cX2_has 2 RX2 7 (o_ib 8 f_sub) := so_isub (by decide +kernel)
theorem t_8_8 : am_okc gm_mi gm_mt lw_Ts lw_Ns cX2_has RX2 8 66 3 := ⟨25, cf_66.1, cf_66.2.1, cf_66.2.2.1, cf_66.2.2.2, Or.inl ⟨rfl, (by decide +kernel), wt_312, by decide +kernel, (Or.inr ⟨"SeasonOfHours", by decide +kernel⟩)⟩⟩
theorem t_8_11 : am_okr cX2_has 11 2 := (show decode cX2_has 11 = .ok (.ireturn, 1) by decide +kernel)
set_option maxRecDepth 20000 in
theorem ok_8 : am_okL gm_mi gm_mt lw_Ts lw_Ns 8 cd_8 := ⟨t_8_0, t_8_1, t_8_2, t_8_3, t_8_6, t_8_7, t_8_8, t_8_11, trivial⟩
theorem t_9_0 : am_ok lw_Ts cX2_add 3 RX2 0 (o_al 1 0) := so_al (Or.inl ⟨0, rfl, rfl, rfl⟩) (by decide +kernel)
theorem t_9_1 : am_ok lw_Ts cX2_add 3 RX2 1 (o_gf 4 2 2) := so_gf cl_X2 (by decide) wt_77 (by decide +kernel)
theorem t_9_4 : am_ok lw_Ts cX2_add 3 RX2 4 (o_k 6 (vI (6))) := so_bp rfl (by decide +kernel)
theorem t_9_6 : am_ok lw_Ts cX2_add 3 RX2 6 (o_ic 11 9 r_lt) := so_ic_lt (off := 5) (by decide +kernel) rfl
theorem t_9_9 : am_ok lw_Ts cX2_add 3 RX2 9 (o_k 10 (vI (-1))) := so_k (by decide +kernel)
theorem t_9_10 : am_okr cX2_add 10 1 := (show decode cX2_add 10 = .ok (.ireturn, 1) by decide +kernel)
theorem t_9_11 : am_ok lw_Ts cX2_add 3 RX2 11 (o_al 12 0) := so_al (Or.inl ⟨0, rfl, rfl, rfl⟩) (by decide +kernel)
theorem t_9_12 : am_ok lw_Ts cX2_add 3 RX2 12 (o_gf 15 2 0) := so_gf cl_X2 (by decide) wt_73 (by decide +kernel)
theorem t_9_15 : am_ok lw_Ts cX2_add 3 RX2 15 (o_al 16 0) := so_al (Or.inl ⟨0, rfl, rfl, rfl⟩) (by decide +kernel)
theorem t_9_16 : am_ok lw_Ts cX2_add 3 RX2 16 (o_gf 19 2 2) := so_gf cl_X2 (by decide) wt_77 (by decide +kernel)
theorem t_9_19 : am_ok lw_Ts cX2_add 3 RX2 19 (o_il 20 1) := so_il (Or.inl ⟨1, rfl, rfl, rfl⟩) (by decide +kernel)
theorem t_9_20 : am_ok lw_Ts cX2_add 3 RX2 20 (o_iw 21) := so_iw (by decide +kernel)
theorem t_9_21 : am_ok lw_Ts cX2_add 3 RX2 21 (o_al 22 0) := so_al (Or.inl ⟨0, rfl, rfl, rfl⟩) (by decide +kernel)
theorem t_9_22 : am_ok lw_Ts cX2_add 3 RX2 22 (o_gf 25 2 1) := so_gf cl_X2 (by decide) wt_74 (by decide +kernel)
theorem t_9_25 : am_ok lw_Ts cX2_add 3 RX2 25 (o_al 26 0) := so_al (Or.inl ⟨0, rfl, rfl, rfl⟩) (by decide +kernel)
theorem t_9_26 : am_ok lw_Ts cX2_add 3 RX2 26 (o_gf 29 2 2) := so_gf cl_X2 (by decide) wt_77 (by decide +kernel)
theorem t_9_29 : am_ok lw_Ts cX2_add 3 RX2 29 (o_il 30 2) := so_il (Or.inl ⟨2, rfl, rfl, rfl⟩) (by decide +kernel)
theorem t_9_30 : am_ok lw_Ts cX2_add 3 RX2 30 (o_iw 31) := so_iw (by decide +kernel)
theorem t_9_31 : am_ok lw_Ts cX2_add 3 RX2 31 (o_al 32 0) := so_al (Or.inl ⟨0, rfl, rfl, rfl⟩) (by decide +kernel)
theorem t_9_32 : am_ok lw_Ts cX2_add 3 RX2 32 (o_dup 33) := so_dup (by decide +kernel)
theorem t_9_33 : am_ok lw_Ts cX2_add 3 RX2 33 (o_gf 36 2 2) := so_gf cl_X2 (by decide) wt_77 (by decide +kernel)
theorem t_9_36 : am_ok lw_Ts cX2_add 3 RX2 36 (o_k 37 (vI (1))) := so_k (by decide +kernel)
theorem t_9_37 : am_ok lw_Ts cX2_add 3 RX2 37 (o_ib 38 f_add) := so_iadd (by decide +kernel)
theorem t_9_38 : am_ok lw_Ts cX2_add 3 RX2 38 (o_pf 41 2 2) := so_pf cl_X2 tyX2_ok nmX2 (by decide) rfl rfl wt_77 (by decide +kernel)
theorem t_9_41 : am_ok lw_Ts cX2_add 3 RX2 41 (o_al 42 0) := so_al (Or.inl ⟨0, rfl, rfl, rfl⟩) (by decide +kernel)
theorem t_9_42 : am_ok lw_Ts cX2_add 3 RX2 42 (o_gf 45 2 2) := so_gf cl_X2 (by decide) wt_77 (by decide +kernel)
theorem t_9_45 : am_ok lw_Ts cX2_add 3 RX2 45 (o_k 46 (vI (1))) := so_k (by decide +kernel)
theorem t_9_46 : am_ok lw_Ts cX2_add 3 RX2 46 (o_ib 47 f_sub) := so_isub (by decide +kernel)
theorem t_9_47 : am_okr cX2_add 47 1 := (show decode cX2_add 47 = .ok (.ireturn, 1) by decide +kernel)
set_option maxRecDepth 20000 in
theorem ok_9 : am_okL gm_mi gm_mt lw_Ts lw_Ns 9 cd_9 := ⟨t_9_0, t_9_1, t_9_4, t_9_6, t_9_9, t_9_10, t_9_11, t_9_12, t_9_15, t_9_16, t_9_19, t_9_20, t_9_21, t_9_22, t_9_25, t_9_26, t_9_29, t_9_30, t_9_31, t_9_32, t_9_33, t_9_36, t_9_37, t_9_38, t_9_41, t_9_42, t_9_45, t_9_46, t_9_47, trivial⟩
theorem t_10_0 : am_ok lw_Ts cX2_shared 3 RX2 0 (o_al 1 0) := so_al (Or.inl ⟨0, rfl, rfl, rfl⟩) (by decide +kernel)
theorem t_10_1 : am_ok lw_Ts cX2_shared 3 RX2 1 (o_gf 4 2 0) := so_gf cl_X2 (by decide) wt_73 (by decide +kernel)
theorem t_10_4 : am_ok lw_Ts cX2_shared 3 RX2 4 (o_il 5 1) := so_il (Or.inl ⟨1, rfl, rfl, rfl⟩) (by decide +kernel)
theorem t_10_5 : am_ok lw_Ts cX2_shared 3 RX2 5 (o_ia 6) := so_ia (by decide +kernel)
theorem t_10_6 : am_ok lw_Ts cX2_shared 3 RX2 6 (o_al 7 0) := so_al (Or.inl ⟨0, rfl, rfl, rfl⟩) (by decide +kernel)
theorem t_10_7 : am_ok lw_Ts cX2_shared 3 RX2 7 (o_gf 10 2 0) := so_gf cl_X2 (by decide) wt_73 (by decide +kernel)
theorem t_10_10 : am_ok lw_Ts cX2_shared 3 RX2 10 (o_il 11 2) := so_il (Or.inl ⟨2, rfl, rfl, rfl⟩) (by decide +kernel)
theorem t_10_11 : am_ok lw_Ts cX2_shared 3 RX2 11 (o_ia 12) := so_ia (by decide +kernel)
theorem t_10_12 : am_ok lw_Ts cX2_shared 3 RX2 12 (o_ib 13 f_and) := so_iand (by decide +kernel)
theorem t_10_13 : am_okc gm_mi gm_mt lw_Ts lw_Ns cX2_shared RX2 13 112 1 := ⟨29, cf_112.1, cf_112.2.1, cf_112.2.2.1, cf_112.2.2.2, Or.inl ⟨rfl, (by decide +kernel), wt_369, by decide +kernel, (Or.inl wt_368)⟩⟩
theorem t_10_16 : am_okr cX2_shared 16 1 := (show decode cX2_shared 16 = .ok (.ireturn, 1) by decide +kernel)
set_option maxRecDepth 20000 in
theorem ok_10 : am_okL gm_mi gm_mt lw_Ts lw_Ns 10 cd_10 := ⟨t_10_0, t_10_1, t_10_4, t_10_5, t_10_6, t_10_7, t_10_10, t_10_11, t_10_12, t_10_13, t_10_16, trivial⟩
theorem t_11_0 : am_ok lw_Ts cX2_areTooNear 3 RX2 0 (o_al 1 0) := so_al (Or.inl ⟨0, rfl, rfl, rfl⟩) (by decide +kernel)
theorem t_11_1 : am_ok lw_Ts cX2_areTooNear 3 RX2 1 (o_il 2 1) := so_il (Or.inl ⟨1, rfl, rfl, rfl⟩) (by decide +kernel)
theorem t_11_2 : am_ok lw_Ts cX2_areTooNear 3 RX2 2 (o_il 3 2) := so_il (Or.inl ⟨2, rfl, rfl, rfl⟩) (by decide +kernel)
theorem t_11_3 : am_okc gm_mi gm_mt lw_Ts lw_Ns cX2_areTooNear RX2 3 10 3 := ⟨35, cf_10.1, cf_10.2.1, cf_10.2.2.1, cf_10.2.2.2, Or.inr ⟨2, 2, TX2, 4, rfl, rfl, rfl, (by decide +kernel), wt_365, wt_366, wt_434, by decide +kernel⟩⟩
theorem t_11_6 : am_ok lw_Ts cX2_areTooNear 3 RX2 6 (o_al 7 0) := so_al (Or.inl ⟨0, rfl, rfl, rfl⟩) (by decide +kernel)
theorem t_11_7 : am_ok lw_Ts cX2_areTooNear 3 RX2 7 (o_gf 10 2 3) := so_gf cl_X2 (by decide) wt_80 (by decide +kernel)
theorem t_11_10 : am_ok lw_Ts cX2_areTooNear 3 RX2 10 (o_ic 17 13 r_le) := so_ic_le (off := 7) (by decide +kernel) rfl
theorem t_11_13 : am_ok lw_Ts cX2_areTooNear 3 RX2 13 (o_k 14 (vI (1))) := so_k (by decide +kernel)
theorem t_11_14 : am_ok lw_Ts cX2_areTooNear 3 RX2 14 (o_go 18) := so_go (off := 4) (by decide +kernel) rfl
theorem t_11_17 : am_ok lw_Ts cX2_areTooNear 3 RX2 17 (o_k 18 (vI (0))) := so_k (by decide +kernel)
theorem t_11_18 : am_okr cX2_areTooNear 18 2 := (show decode cX2_areTooNear 18 = .ok (.ireturn, 1) by decide +kernel)
set_option maxRecDepth 20000 in
theorem ok_11 : am_okL gm_mi gm_mt lw_Ts lw_Ns 11 cd_11 := ⟨t_11_0, t_11_1, t_11_2, t_11_3, t_11_6, t_11_7, t_11_10, t_11_13, t_11_14, t_11_17, t_11_18, trivial⟩
theorem t_12_0 : am_ok lw_Ts cX3_has 2 RX3 0 (o_il 1 1) := so_il (Or.inl ⟨1, rfl, rfl, rfl⟩) (by decide +kernel)
theorem t_12_1 : am_ok lw_Ts cX3_has 2 RX3 1 (o_k 2 (vI (0))) := so_k (by decide +kernel)
theorem t_12_2 : am_ok lw_Ts cX3_has 2 RX3 2 (o_al 3 0) := so_al (Or.inl ⟨0, rfl, rfl, rfl⟩) (by decide +kernel)
theorem t_12_3 : am_ok lw_Ts cX3_has 2 RX3 3 (o_gf 6 3 9) := so_gf cl_X3 (by decide) wt_233 (by decide +kernel)
theorem t_12_6 : am_ok lw_Ts cX3_has 2 RX3 6 (o_k 7 (vI (1))) := so_k (by decide +kernel)
theorem t_12_7 : am_ok lw_Ts cX3_has 2 RX3 7 (o_ib 8 f_sub) := so_isub (by decide +kernel)
theorem t_12_8 : am_okc gm_mi gm_mt lw_Ts lw_Ns cX3_has RX3 8 66 3 := ⟨50, cf_66.1, cf_66.2.1, cf_66.2.2.1, cf_66.2.2.2, Or.inl ⟨rfl, (by decide +kernel), wt_312, by decide +kernel, (Or.inr ⟨"SeasonOfHours", by decide +kernel⟩)⟩⟩
theorem t_12_11 : am_okr cX3_has 11 2 := (show decode cX3_has 11 = .ok (.ireturn, 1) by decide +kernel)
set_option maxRecDepth 20000 in
theorem ok_12 : am_okL gm_mi gm_mt lw_Ts lw_Ns 12 cd_12 := ⟨t_12_0, t_12_1, t_12_2, t_12_3, t_12_6, t_12_7, t_12_8, t_12_11, trivial⟩
theorem t_13_0 : am_ok lw_Ts cX3_add 5 RX3 0 (o_al 1 0) := so_al (Or.inl ⟨0, rfl, rfl, rfl⟩) (by decide +kernel)
theorem t_13_1 : am_ok lw_Ts cX3_add 5 RX3 1 (o_gf 4 3 9) := so_gf cl_X3 (by decide) wt_233 (by decide +kernel)
theorem t_13_4 : am_ok lw_Ts cX3_add 5 RX3 4 (o_k 6 (vI (10))) := so_bp rfl (by decide +kernel)
theorem t_13_6 : am_ok lw_Ts cX3_add 5 RX3 6 (o_ic 11 9 r_lt) := so_ic_lt (off := 5) (by decide +kernel) rfl
theorem t_13_9 : am_ok lw_Ts cX3_add 5 RX3 9 (o_k 10 (vI (-1))) := so_k (by decide +kernel)
theorem t_13_10 : am_okr cX3_add 10 1 := (show decode cX3_add 10 = .ok (.ireturn, 1) by decide +kernel)
theorem t_13_11 : am_ok lw_Ts cX3_add 5 RX3 11 (o_al 12 0) := so_al (Or.inl ⟨0, rfl, rfl, rfl⟩) (by decide +kernel)
theorem t_13_12 : am_ok lw_Ts cX3_add 5 RX3 12 (o_gf 15 3 1) := so_gf cl_X3 (by decide) wt_223 (by decide +kernel)
theorem t_13_15 : am_ok lw_Ts cX3_add 5 RX3 15 (o_al 16 0) := so_al (Or.inl ⟨0, rfl, rfl, rfl⟩) (by decide +kernel)
theorem t_13_16 : am_ok lw_Ts cX3_add 5 RX3 16 (o_gf 19 3 9) := so_gf cl_X3 (by decide) wt_233 (by decide +kernel)
theorem t_13_19 : am_ok lw_Ts cX3_add 5 RX3 19 (o_il 20 1) := so_il (Or.inl ⟨1, rfl, rfl, rfl⟩) (by decide +kernel)
theorem t_13_20 : am_ok lw_Ts cX3_add 5 RX3 20 (o_iw 21) := so_iw (by decide +kernel)
theorem t_13_21 : am_ok lw_Ts cX3_add 5 RX3 21 (o_al 22 0) := so_al (Or.inl ⟨0, rfl, rfl, rfl⟩) (by decide +kernel)
theorem t_13_22 : am_ok lw_Ts cX3_add 5 RX3 22 (o_gf 25 3 2) := so_gf cl_X3 (by decide) wt_224 (by decide +kernel)
theorem t_13_25 : am_ok lw_Ts cX3_add 5 RX3 25 (o_al 26 0) := so_al (Or.inl ⟨0, rfl, rfl, rfl⟩) (by decide +kernel)
theorem t_13_26 : am_ok lw_Ts cX3_add 5 RX3 26 (o_gf 29 3 9) := so_gf cl_X3 (by decide) wt_233 (by decide +kernel)
theorem t_13_29 : am_ok lw_Ts cX3_add 5 RX3 29 (o_il 30 2) := so_il (Or.inl ⟨2, rfl, rfl, rfl⟩) (by decide +kernel)
theorem t_13_30 : am_ok lw_Ts cX3_add 5 RX3 30 (o_iw 31) := so_iw (by decide +kernel)
theorem t_13_31 : am_ok lw_Ts cX3_add 5 RX3 31 (o_al 32 0) := so_al (Or.inl ⟨0, rfl, rfl, rfl⟩) (by decide +kernel)
theorem t_13_32 : am_ok lw_Ts cX3_add 5 RX3 32 (o_gf 35 3 3) := so_gf cl_X3 (by decide) wt_225 (by decide +kernel)
theorem t_13_35 : am_ok lw_Ts cX3_add 5 RX3 35 (o_al 36 0) := so_al (Or.inl ⟨0, rfl, rfl, rfl⟩) (by decide +kernel)
theorem t_13_36 : am_ok lw_Ts cX3_add 5 RX3 36 (o_gf 39 3 9) := so_gf cl_X3 (by decide) wt_233 (by decide +kernel)
theorem t_13_39 : am_ok lw_Ts cX3_add 5 RX3 39 (o_il 40 3) := so_il (Or.inl ⟨3, rfl, rfl, rfl⟩) (by decide +kernel)
theorem t_13_40 : am_ok lw_Ts cX3_add 5 RX3 40 (o_iw 41) := so_iw (by decide +kernel)
theorem t_13_41 : am_ok lw_Ts cX3_add 5 RX3 41 (o_al 42 0) := so_al (Or.inl ⟨0, rfl, rfl, rfl⟩) (by decide +kernel)
theorem t_13_42 : am_ok lw_Ts cX3_add 5 RX3 42 (o_gf 45 3 4) := so_gf cl_X3 (by decide) wt_226 (by decide +kernel)
theorem t_13_45 : am_ok lw_Ts cX3_add 5 RX3 45 (o_al 46 0) := so_al (Or.inl ⟨0, rfl, rfl, rfl⟩) (by decide +kernel)
theorem t_13_46 : am_ok lw_Ts cX3_add 5 RX3 46 (o_gf 49 3 9) := so_gf cl_X3 (by decide) wt_233 (by decide +kernel)
theorem t_13_49 : am_ok lw_Ts cX3_add 5 RX3 49 (o_k 50 (vI (-1))) := so_k (by decide +kernel)
theorem t_13_50 : am_ok lw_Ts cX3_add 5 RX3 50 (o_iw 51) := so_iw (by decide +kernel)
theorem t_13_51 : am_ok lw_Ts cX3_add 5 RX3 51 (o_al 52 0) := so_al (Or.inl ⟨0, rfl, rfl, rfl⟩) (by decide +kernel)
theorem t_13_52 : am_ok lw_Ts cX3_add 5 RX3 52 (o_al 53 0) := so_al (Or.inl ⟨0, rfl, rfl, rfl⟩) (by decide +kernel)
theorem t_13_53 : am_ok lw_Ts cX3_add 5 RX3 53 (o_gf 56 3 8) := so_gf cl_X3 (by decide) wt_232 (by decide +kernel)
theorem t_13_56 : am_ok lw_Ts cX3_add 5 RX3 56 (o_al 57 0) := so_al (Or.inl ⟨0, rfl, rfl, rfl⟩) (by decide +kernel)
theorem t_13_57 : am_ok lw_Ts cX3_add 5 RX3 57 (o_gf 60 3 9) := so_gf cl_X3 (by decide) wt_233 (by decide +kernel)
theorem t_13_60 : am_ok lw_Ts cX3_add 5 RX3 60 (o_il 62 4) := so_il (Or.inr ⟨rfl, rfl⟩) (by decide +kernel)
theorem t_13_62 : am_okc gm_mi gm_mt lw_Ts lw_Ns cX3_add RX3 62 68 3 := ⟨54, cf_68.1, cf_68.2.1, cf_68.2.2.1, cf_68.2.2.2, Or.inl ⟨rfl, (by decide +kernel), wt_345, by decide +kernel, (Or.inr ⟨"SeasonOfHours", by decide +kernel⟩)⟩⟩
theorem t_13_65 : am_ok lw_Ts cX3_add 5 RX3 65 (o_pf 68 3 8) := so_pf cl_X3 tyX3_ok nmX3 (by decide) rfl rfl wt_232 (by decide +kernel)
theorem t_13_68 : am_ok lw_Ts cX3_add 5 RX3 68 (o_al 69 0) := so_al (Or.inl ⟨0, rfl, rfl, rfl⟩) (by decide +kernel)
theorem t_13_69 : am_ok lw_Ts cX3_add 5 RX3 69 (o_dup 70) := so_dup (by decide +kernel)
theorem t_13_70 : am_ok lw_Ts cX3_add 5 RX3 70 (o_gf 73 3 9) := so_gf cl_X3 (by decide) wt_233 (by decide +kernel)
theorem t_13_73 : am_ok lw_Ts cX3_add 5 RX3 73 (o_k 74 (vI (1))) := so_k (by decide +kernel)
theorem t_13_74 : am_ok lw_Ts cX3_add 5 RX3 74 (o_ib 75 f_add) := so_iadd (by decide +kernel)
theorem t_13_75 : am_ok lw_Ts cX3_add 5 RX3 75 (o_pf 78 3 9) := so_pf cl_X3 tyX3_ok nmX3 (by decide) rfl rfl wt_233 (by decide +kernel)
theorem t_13_78 : am_ok lw_Ts cX3_add 5 RX3 78 (o_al 79 0) := so_al (Or.inl ⟨0, rfl, rfl, rfl⟩) (by decide +kernel)
theorem t_13_79 : am_ok lw_Ts cX3_add 5 RX3 79 (o_gf 82 3 9) := so_gf cl_X3 (by decide) wt_233 (by decide +kernel)
theorem t_13_82 : am_ok lw_Ts cX3_add 5 RX3 82 (o_k 83 (vI (1))) := so_k (by decide +kernel)
theorem t_13_83 : am_ok lw_Ts cX3_add 5 RX3 83 (o_ib 84 f_sub) := so_isub (by decide +kernel)
theorem t_13_84 : am_okr cX3_add 84 1 := (show decode cX3_add 84 = .ok (.ireturn, 1) by decide +kernel)
set_option maxRecDepth 20000 in
theorem ok_13 : am_okL gm_mi gm_mt lw_Ts lw_Ns 13 cd_13 := ⟨t_13_0, t_13_1, t_13_4, t_13_6, t_13_9, t_13_10, t_13_11, t_13_12, t_13_15, t_13_16, t_13_19, t_13_20, t_13_21, t_13_22, t_13_25, t_13_26, t_13_29, t_13_30, t_13_31, t_13_32, t_13_35, t_13_36, t_13_39, t_13_40, t_13_41, t_13_42, t_13_45, t_13_46, t_13_49, t_13_50, t_13_51, t_13_52, t_13_53, t_13_56, t_13_57, t_13_60, t_13_62, t_13_65, t_13_68, t_13_69, t_13_70, t_13_73, t_13_74, t_13_75, t_13_78, t_13_79, t_13_82, t_13_83, t_13_84, trivial⟩
theorem t_14_0 : am_ok lw_Ts cX3_findRow 6 RX3 0 (o_al 1 0) := so_al (Or.inl ⟨0, rfl, rfl, rfl⟩) (by decide +kernel)
theorem t_14_1 : am_ok lw_Ts cX3_findRow 6 RX3 1 (o_il 2 1) := so_il (Or.inl ⟨1, rfl, rfl, rfl⟩) (by decide +kernel)
theorem t_14_2 : am_okc gm_mi gm_mt lw_Ts lw_Ns cX3_findRow RX3 2 15 2 := ⟨58, cf_15.1, cf_15.2.1, cf_15.2.2.1, cf_15.2.2.2, Or.inr ⟨3, 1, TX3, 12, rfl, rfl, rfl, (by decide +kernel), wt_532, wt_13, wt_530, by decide +kernel⟩⟩
theorem t_14_5 : am_ok lw_Ts cX3_findRow 6 RX3 5 (o_is 6 3) := so_is (Or.inl ⟨3, rfl, rfl, rfl⟩) (by decide +kernel)
theorem t_14_6 : am_ok lw_Ts cX3_findRow 6 RX3 6 (o_al 7 0) := so_al (Or.inl ⟨0, rfl, rfl, rfl⟩) (by decide +kernel)
theorem t_14_7 : am_okc gm_mi gm_mt lw_Ts lw_Ns cX3_findRow RX3 7 16 1 := ⟨62, cf_16.1, cf_16.2.1, cf_16.2.2.1, cf_16.2.2.2, Or.inr ⟨3, 0, TX3, 12, rfl, rfl, rfl, (by decide +kernel), wt_539, wt_14, wt_537, by decide +kernel⟩⟩
theorem t_14_10 : am_ok lw_Ts cX3_findRow 6 RX3 10 (o_k 11 (vI (0))) := so_k (by decide +kernel)
theorem t_14_11 : am_ok lw_Ts cX3_findRow 6 RX3 11 (o_is 13 4) := so_is (Or.inr ⟨rfl, rfl⟩) (by decide +kernel)
theorem t_14_13 : am_ok lw_Ts cX3_findRow 6 RX3 13 (o_k 14 (vI (1))) := so_k (by decide +kernel)
theorem t_14_14 : am_ok lw_Ts cX3_findRow 6 RX3 14 (o_is 16 5) := so_is (Or.inr ⟨rfl, rfl⟩) (by decide +kernel)
theorem t_14_16 : am_ok lw_Ts cX3_findRow 6 RX3 16 (o_il 18 5) := so_il (Or.inr ⟨rfl, rfl⟩) (by decide +kernel)
theorem t_14_18 : am_ok lw_Ts cX3_findRow 6 RX3 18 (o_k 19 (vI (1))) := so_k (by decide +kernel)
theorem t_14_19 : am_ok lw_Ts cX3_findRow 6 RX3 19 (o_al 20 0) := so_al (Or.inl ⟨0, rfl, rfl, rfl⟩) (by decide +kernel)
theorem t_14_20 : am_ok lw_Ts cX3_findRow 6 RX3 20 (o_gf 23 3 9) := so_gf cl_X3 (by decide) wt_233 (by decide +kernel)
theorem t_14_23 : am_ok lw_Ts cX3_findRow 6 RX3 23 (o_ib 24 f_shl) := so_ishl (by decide +kernel)
theorem t_14_24 : am_ok lw_Ts cX3_findRow 6 RX3 24 (o_ic 80 27 r_ge) := so_ic_ge (off := 56) (by decide +kernel) rfl
theorem t_14_27 : am_ok lw_Ts cX3_findRow 6 RX3 27 (o_il 29 5) := so_il (Or.inr ⟨rfl, rfl⟩) (by decide +kernel)
theorem t_14_29 : am_ok lw_Ts cX3_findRow 6 RX3 29 (o_il 30 3) := so_il (Or.inl ⟨3, rfl, rfl, rfl⟩) (by decide +kernel)
theorem t_14_30 : am_ok lw_Ts cX3_findRow 6 RX3 30 (o_k 31 (vI (-1))) := so_k (by decide +kernel)
theorem t_14_31 : am_ok lw_Ts cX3_findRow 6 RX3 31 (o_ib 32 f_xor) := so_ixor (by decide +kernel)
theorem t_14_32 : am_ok lw_Ts cX3_findRow 6 RX3 32 (o_ib 33 f_and) := so_iand (by decide +kernel)
theorem t_14_33 : am_ok lw_Ts cX3_findRow 6 RX3 33 (o_if 74 36 q_ne) := so_if_ne (off := 41) (by decide +kernel) rfl
theorem t_14_36 : am_ok lw_Ts cX3_findRow 6 RX3 36 (o_al 37 0) := so_al (Or.inl ⟨0, rfl, rfl, rfl⟩) (by decide +kernel)
theorem t_14_37 : am_ok lw_Ts cX3_findRow 6 RX3 37 (o_gf 40 3 7) := so_gf cl_X3 (by decide) wt_231 (by decide +kernel)
theorem t_14_40 : am_ok lw_Ts cX3_findRow 6 RX3 40 (o_il 42 5) := so_il (Or.inr ⟨rfl, rfl⟩) (by decide +kernel)
theorem t_14_42 : am_ok lw_Ts cX3_findRow 6 RX3 42 (o_al 43 0) := so_al (Or.inl ⟨0, rfl, rfl, rfl⟩) (by decide +kernel)
theorem t_14_43 : am_ok lw_Ts cX3_findRow 6 RX3 43 (o_il 45 5) := so_il (Or.inr ⟨rfl, rfl⟩) (by decide +kernel)
theorem t_14_45 : am_okc gm_mi gm_mt lw_Ts lw_Ns cX3_findRow RX3 45 17 2 := ⟨65, cf_17.1, cf_17.2.1, cf_17.2.2.1, cf_17.2.2.2, Or.inr ⟨3, 1, TX3, 12, rfl, rfl, rfl, (by decide +kernel), wt_544, wt_15, wt_542, by decide +kernel⟩⟩
theorem t_14_48 : am_ok lw_Ts cX3_findRow 6 RX3 48 (o_iw 49) := so_iw (by decide +kernel)
theorem t_14_49 : am_ok lw_Ts cX3_findRow 6 RX3 49 (o_al 50 0) := so_al (Or.inl ⟨0, rfl, rfl, rfl⟩) (by decide +kernel)
theorem t_14_50 : am_ok lw_Ts cX3_findRow 6 RX3 50 (o_il 52 5) := so_il (Or.inr ⟨rfl, rfl⟩) (by decide +kernel)
theorem t_14_52 : am_ok lw_Ts cX3_findRow 6 RX3 52 (o_il 53 2) := so_il (Or.inl ⟨2, rfl, rfl, rfl⟩) (by decide +kernel)
theorem t_14_53 : am_okc gm_mi gm_mt lw_Ts lw_Ns cX3_findRow RX3 53 18 3 := ⟨68, cf_18.1, cf_18.2.1, cf_18.2.2.1, cf_18.2.2.2, Or.inr ⟨3, 2, TX3, 12, rfl, rfl, rfl, (by decide +kernel), wt_549, wt_16, wt_547, by decide +kernel⟩⟩
theorem t_14_56 : am_ok lw_Ts cX3_findRow 6 RX3 56 (o_if 74 59 q_eq) := so_if_eq (off := 18) (by decide +kernel) rfl
theorem t_14_59 : am_ok lw_Ts cX3_findRow 6 RX3 59 (o_al 60 0) := so_al (Or.inl ⟨0, rfl, rfl, rfl⟩) (by decide +kernel)
theorem t_14_60 : am_ok lw_Ts cX3_findRow 6 RX3 60 (o_il 62 5) := so_il (Or.inr ⟨rfl, rfl⟩) (by decide +kernel)
theorem t_14_62 : am_ok lw_Ts cX3_findRow 6 RX3 62 (o_il 64 4) := so_il (Or.inr ⟨rfl, rfl⟩) (by decide +kernel)
theorem t_14_64 : am_okc gm_mi gm_mt lw_Ts lw_Ns cX3_findRow RX3 64 19 3 := ⟨72, cf_19.1, cf_19.2.1, cf_19.2.2.1, cf_19.2.2.2, Or.inr ⟨3, 2, TX3, 12, rfl, rfl, rfl, (by decide +kernel), wt_558, wt_18, wt_556, by decide +kernel⟩⟩
theorem t_14_67 : am_ok lw_Ts cX3_findRow 6 RX3 67 (o_if 74 70 q_eq) := so_if_eq (off := 7) (by decide +kernel) rfl
theorem t_14_70 : am_ok lw_Ts cX3_findRow 6 RX3 70 (o_il 72 5) := so_il (Or.inr ⟨rfl, rfl⟩) (by decide +kernel)
theorem t_14_72 : am_ok lw_Ts cX3_findRow 6 RX3 72 (o_is 74 4) := so_is (Or.inr ⟨rfl, rfl⟩) (by decide +kernel)
theorem t_14_74 : am_ok lw_Ts cX3_findRow 6 RX3 74 (o_ii 77 5 (1)) := so_ii (by decide +kernel)
theorem t_14_77 : am_ok lw_Ts cX3_findRow 6 RX3 77 (o_go 16) := so_go (off := (-61)) (by decide +kernel) rfl
theorem t_14_80 : am_ok lw_Ts cX3_findRow 6 RX3 80 (o_il 82 4) := so_il (Or.inr ⟨rfl, rfl⟩) (by decide +kernel)
theorem t_14_82 : am_ok lw_Ts cX3_findRow 6 RX3 82 (o_if 87 85 q_ne) := so_if_ne (off := 5) (by decide +kernel) rfl
theorem t_14_85 : am_ok lw_Ts cX3_findRow 6 RX3 85 (o_k 86 (vI (-1))) := so_k (by decide +kernel)
theorem t_14_86 : am_okr cX3_findRow 86 1 := (show decode cX3_findRow 86 = .ok (.ireturn, 1) by decide +kernel)
theorem t_14_87 : am_ok lw_Ts cX3_findRow 6 RX3 87 (o_al 88 0) := so_al (Or.inl ⟨0, rfl, rfl, rfl⟩) (by decide +kernel)
theorem t_14_88 : am_ok lw_Ts cX3_findRow 6 RX3 88 (o_il 90 4) := so_il (Or.inr ⟨rfl, rfl⟩) (by decide +kernel)
theorem t_14_90 : am_okc gm_mi gm_mt lw_Ts lw_Ns cX3_findRow RX3 90 22 2 := ⟨75, cf_22.1, cf_22.2.1, cf_22.2.2.1, cf_22.2.2.2, Or.inr ⟨3, 1, TX3, 12, rfl, rfl, rfl, (by decide +kernel), wt_571, wt_20, wt_569, by decide +kernel⟩⟩
theorem t_14_93 : am_ok lw_Ts cX3_findRow 6 RX3 93 (o_al 94 0) := so_al (Or.inl ⟨0, rfl, rfl, rfl⟩) (by decide +kernel)
theorem t_14_94 : am_ok lw_Ts cX3_findRow 6 RX3 94 (o_al 95 0) := so_al (Or.inl ⟨0, rfl, rfl, rfl⟩) (by decide +kernel)
theorem t_14_95 : am_ok lw_Ts cX3_findRow 6 RX3 95 (o_gf 98 3 3) := so_gf cl_X3 (by decide) wt_225 (by decide +kernel)
theorem t_14_98 : am_ok lw_Ts cX3_findRow 6 RX3 98 (o_il 100 4) := so_il (Or.inr ⟨rfl, rfl⟩) (by decide +kernel)
theorem t_14_100 : am_okc gm_mi gm_mt lw_Ts lw_Ns cX3_findRow RX3 100 20 3 := ⟨79, cf_20.1, cf_20.2.1, cf_20.2.2.1, cf_20.2.2.2, Or.inr ⟨3, 2, TX3, 12, rfl, rfl, rfl, (by decide +kernel), wt_554, wt_17, wt_552, by decide +kernel⟩⟩
theorem t_14_103 : am_okr cX3_findRow 103 1 := (show decode cX3_findRow 103 = .ok (.ireturn, 1) by decide +kernel)
set_option maxRecDepth 20000 in
theorem ok_14 : am_okL gm_mi gm_mt lw_Ts lw_Ns 14 cd_14 := ⟨t_14_0, t_14_1, t_14_2, t_14_5, t_14_6, t_14_7, t_14_10, t_14_11, t_14_13, t_14_14, t_14_16, t_14_18, t_14_19, t_14_20, t_14_23, t_14_24, t_14_27, t_14_29, t_14_30, t_14_31, t_14_32, t_14_33, t_14_36, t_14_37, t_14_40, t_14_42, t_14_43, t_14_45, t_14_48, t_14_49, t_14_50, t_14_52, t_14_53, t_14_56, t_14_59, t_14_60, t_14_62, t_14_64, t_14_67, t_14_70, t_14_72, t_14_74, t_14_77, t_14_80, t_14_82, t_14_85, t_14_86, t_14_87, t_14_88, t_14_90, t_14_93, t_14_94, t_14_95, t_14_98, t_14_100, t_14_103, trivial⟩
theorem t_15_0 : am_ok lw_Ts cX3_readyOn 5 RX3 0 (o_k 1 (vI (0))) := so_k (by decide +kernel)
theorem t_15_1 : am_ok lw_Ts cX3_readyOn 5 RX3 1 (o_is 2 2) := so_is (Or.inl ⟨2, rfl, rfl, rfl⟩) (by decide +kernel)
theorem t_15_2 : am_ok lw_Ts cX3_readyOn 5 RX3 2 (o_k 3 (vI (0))) := so_k (by decide +kernel)
theorem t_15_3 : am_ok lw_Ts cX3_readyOn 5 RX3 3 (o_is 4 3) := so_is (Or.inl ⟨3, rfl, rfl, rfl⟩) (by decide +kernel)
theorem t_15_4 : am_ok lw_Ts cX3_readyOn 5 RX3 4 (o_il 5 3) := so_il (Or.inl ⟨3, rfl, rfl, rfl⟩) (by decide +kernel)
theorem t_15_5 : am_ok lw_Ts cX3_readyOn 5 RX3 5 (o_al 6 0) := so_al (Or.inl ⟨0, rfl, rfl, rfl⟩) (by decide +kernel)
theorem t_15_6 : am_ok lw_Ts cX3_readyOn 5 RX3 6 (o_gf 9 3 9) := so_gf cl_X3 (by decide) wt_233 (by decide +kernel)
theorem t_15_9 : am_ok lw_Ts cX3_readyOn 5 RX3 9 (o_ic 61 12 r_ge) := so_ic_ge (off := 52) (by decide +kernel) rfl
theorem t_15_12 : am_ok lw_Ts cX3_readyOn 5 RX3 12 (o_al 13 0) := so_al (Or.inl ⟨0, rfl, rfl, rfl⟩) (by decide +kernel)
theorem t_15_13 : am_ok lw_Ts cX3_readyOn 5 RX3 13 (o_gf 16 3 4) := so_gf cl_X3 (by decide) wt_226 (by decide +kernel)
theorem t_15_16 : am_ok lw_Ts cX3_readyOn 5 RX3 16 (o_il 17 3) := so_il (Or.inl ⟨3, rfl, rfl, rfl⟩) (by decide +kernel)
theorem t_15_17 : am_ok lw_Ts cX3_readyOn 5 RX3 17 (o_ia 18) := so_ia (by decide +kernel)
theorem t_15_18 : am_ok lw_Ts cX3_readyOn 5 RX3 18 (o_k 19 (vI (-1))) := so_k (by decide +kernel)
theorem t_15_19 : am_ok lw_Ts cX3_readyOn 5 RX3 19 (o_ic 40 22 r_eq) := so_ic_eq (off := 21) (by decide +kernel) rfl
theorem t_15_22 : am_ok lw_Ts cX3_readyOn 5 RX3 22 (o_il 23 1) := so_il (Or.inl ⟨1, rfl, rfl, rfl⟩) (by decide +kernel)
theorem t_15_23 : am_ok lw_Ts cX3_readyOn 5 RX3 23 (o_al 24 0) := so_al (Or.inl ⟨0, rfl, rfl, rfl⟩) (by decide +kernel)
theorem t_15_24 : am_ok lw_Ts cX3_readyOn 5 RX3 24 (o_gf 27 3 4) := so_gf cl_X3 (by decide) wt_226 (by decide +kernel)
theorem t_15_27 : am_ok lw_Ts cX3_readyOn 5 RX3 27 (o_il 28 3) := so_il (Or.inl ⟨3, rfl, rfl, rfl⟩) (by decide +kernel)
theorem t_15_28 : am_ok lw_Ts cX3_readyOn 5 RX3 28 (o_ia 29) := so_ia (by decide +kernel)
theorem t_15_29 : am_ok lw_Ts cX3_readyOn 5 RX3 29 (o_ib 30 f_sub) := so_isub (by decide +kernel)
theorem t_15_30 : am_okc gm_mi gm_mt lw_Ts lw_Ns cX3_readyOn RX3 30 114 1 := ⟨83, cf_114.1, cf_114.2.1, cf_114.2.2.1, cf_114.2.2.2, Or.inl ⟨rfl, (by decide +kernel), wt_535, by decide +kernel, (Or.inl wt_534)⟩⟩
theorem t_15_33 : am_ok lw_Ts cX3_readyOn 5 RX3 33 (o_al 34 0) := so_al (Or.inl ⟨0, rfl, rfl, rfl⟩) (by decide +kernel)
theorem t_15_34 : am_ok lw_Ts cX3_readyOn 5 RX3 34 (o_gf 37 3 10) := so_gf cl_X3 (by decide) wt_235 (by decide +kernel)
theorem t_15_37 : am_ok lw_Ts cX3_readyOn 5 RX3 37 (o_ic 44 40 r_lt) := so_ic_lt (off := 7) (by decide +kernel) rfl
theorem t_15_40 : am_ok lw_Ts cX3_readyOn 5 RX3 40 (o_k 41 (vI (1))) := so_k (by decide +kernel)
theorem t_15_41 : am_ok lw_Ts cX3_readyOn 5 RX3 41 (o_go 45) := so_go (off := 4) (by decide +kernel) rfl
theorem t_15_44 : am_ok lw_Ts cX3_readyOn 5 RX3 44 (o_k 45 (vI (0))) := so_k (by decide +kernel)
theorem t_15_45 : am_ok lw_Ts cX3_readyOn 5 RX3 45 (o_is 47 4) := so_is (Or.inr ⟨rfl, rfl⟩) (by decide +kernel)
theorem t_15_47 : am_ok lw_Ts cX3_readyOn 5 RX3 47 (o_il 48 2) := so_il (Or.inl ⟨2, rfl, rfl, rfl⟩) (by decide +kernel)
theorem t_15_48 : am_ok lw_Ts cX3_readyOn 5 RX3 48 (o_il 49 3) := so_il (Or.inl ⟨3, rfl, rfl, rfl⟩) (by decide +kernel)
theorem t_15_49 : am_ok lw_Ts cX3_readyOn 5 RX3 49 (o_il 51 4) := so_il (Or.inr ⟨rfl, rfl⟩) (by decide +kernel)
theorem t_15_51 : am_okc gm_mi gm_mt lw_Ts lw_Ns cX3_readyOn RX3 51 68 3 := ⟨54, cf_68.1, cf_68.2.1, cf_68.2.2.1, cf_68.2.2.2, Or.inl ⟨rfl, (by decide +kernel), wt_345, by decide +kernel, (Or.inr ⟨"SeasonOfHours", by decide +kernel⟩)⟩⟩
theorem t_15_54 : am_ok lw_Ts cX3_readyOn 5 RX3 54 (o_is 55 2) := so_is (Or.inl ⟨2, rfl, rfl, rfl⟩) (by decide +kernel)
theorem t_15_55 : am_ok lw_Ts cX3_readyOn 5 RX3 55 (o_ii 58 3 (1)) := so_ii (by decide +kernel)
theorem t_15_58 : am_ok lw_Ts cX3_readyOn 5 RX3 58 (o_go 4) := so_go (off := (-54)) (by decide +kernel) rfl
theorem t_15_61 : am_ok lw_Ts cX3_readyOn 5 RX3 61 (o_il 62 2) := so_il (Or.inl ⟨2, rfl, rfl, rfl⟩) (by decide +kernel)
theorem t_15_62 : am_okr cX3_readyOn 62 1 := (show decode cX3_readyOn 62 = .ok (.ireturn, 1) by decide +kernel)
set_option maxRecDepth 20000 in
theorem ok_15 : am_okL gm_mi gm_mt lw_Ts lw_Ns 15 cd_15 := ⟨t_15_0, t_15_1, t_15_2, t_15_3, t_15_4, t_15_5, t_15_6, t_15_9, t_15_12, t_15_13, t_15_16, t_15_17, t_15_18, t_15_19, t_15_22, t_15_23, t_15_24, t_15_27, t_15_28, t_15_29, t_15_30, t_15_33, t_15_34, t_15_37, t_15_40, t_15_41, t_15_44, t_15_45, t_15_47, t_15_48, t_15_49, t_15_51, t_15_54, t_15_55, t_15_58, t_15_61, t_15_62, trivial⟩
theorem t_16_0 : am_ok lw_Ts cX3_listFollowers 4 RX3 0 (o_k 1 (vI (0))) := so_k (by decide +kernel)
theorem t_16_1 : am_ok lw_Ts cX3_listFollowers 4 RX3 1 (o_is 2 1) := so_is (Or.inl ⟨1, rfl, rfl, rfl⟩) (by decide +kernel)
theorem t_16_2 : am_ok lw_Ts cX3_listFollowers 4 RX3 2 (o_il 3 1) := so_il (Or.inl ⟨1, rfl, rfl, rfl⟩) (by decide +kernel)
theorem t_16_3 : am_ok lw_Ts cX3_listFollowers 4 RX3 3 (o_al 4 0) := so_al (Or.inl ⟨0, rfl, rfl, rfl⟩) (by decide +kernel)
theorem t_16_4 : am_ok lw_Ts cX3_listFollowers 4 RX3 4 (o_gf 7 3 9) := so_gf cl_X3 (by decide) wt_233 (by decide +kernel)
theorem t_16_7 : am_ok lw_Ts cX3_listFollowers 4 RX3 7 (o_ic 84 10 r_ge) := so_ic_ge (off := 77) (by decide +kernel) rfl
theorem t_16_10 : am_ok lw_Ts cX3_listFollowers 4 RX3 10 (o_al 11 0) := so_al (Or.inl ⟨0, rfl, rfl, rfl⟩) (by decide +kernel)
theorem t_16_11 : am_ok lw_Ts cX3_listFollowers 4 RX3 11 (o_gf 14 3 5) := so_gf cl_X3 (by decide) wt_228 (by decide +kernel)
theorem t_16_14 : am_ok lw_Ts cX3_listFollowers 4 RX3 14 (o_il 15 1) := so_il (Or.inl ⟨1, rfl, rfl, rfl⟩) (by decide +kernel)
theorem t_16_15 : am_ok lw_Ts cX3_listFollowers 4 RX3 15 (o_k 16 (vI (0))) := so_k (by decide +kernel)
theorem t_16_16 : am_ok lw_Ts cX3_listFollowers 4 RX3 16 (o_iw 17) := so_iw (by decide +kernel)
theorem t_16_17 : am_ok lw_Ts cX3_listFollowers 4 RX3 17 (o_k 18 (vI (0))) := so_k (by decide +kernel)
theorem t_16_18 : am_ok lw_Ts cX3_listFollowers 4 RX3 18 (o_is 19 2) := so_is (Or.inl ⟨2, rfl, rfl, rfl⟩) (by decide +kernel)
theorem t_16_19 : am_ok lw_Ts cX3_listFollowers 4 RX3 19 (o_il 20 2) := so_il (Or.inl ⟨2, rfl, rfl, rfl⟩) (by decide +kernel)
theorem t_16_20 : am_ok lw_Ts cX3_listFollowers 4 RX3 20 (o_al 21 0) := so_al (Or.inl ⟨0, rfl, rfl, rfl⟩) (by decide +kernel)
theorem t_16_21 : am_ok lw_Ts cX3_listFollowers 4 RX3 21 (o_gf 24 3 9) := so_gf cl_X3 (by decide) wt_233 (by decide +kernel)
theorem t_16_24 : am_ok lw_Ts cX3_listFollowers 4 RX3 24 (o_ic 78 27 r_ge) := so_ic_ge (off := 54) (by decide +kernel) rfl
theorem t_16_27 : am_ok lw_Ts cX3_listFollowers 4 RX3 27 (o_al 28 0) := so_al (Or.inl ⟨0, rfl, rfl, rfl⟩) (by decide +kernel)
theorem t_16_28 : am_ok lw_Ts cX3_listFollowers 4 RX3 28 (o_gf 31 3 0) := so_gf cl_X3 (by decide) wt_222 (by decide +kernel)
theorem t_16_31 : am_ok lw_Ts cX3_listFollowers 4 RX3 31 (o_al 32 0) := so_al (Or.inl ⟨0, rfl, rfl, rfl⟩) (by decide +kernel)
theorem t_16_32 : am_ok lw_Ts cX3_listFollowers 4 RX3 32 (o_gf 35 3 1) := so_gf cl_X3 (by decide) wt_223 (by decide +kernel)
theorem t_16_35 : am_ok lw_Ts cX3_listFollowers 4 RX3 35 (o_il 36 1) := so_il (Or.inl ⟨1, rfl, rfl, rfl⟩) (by decide +kernel)
theorem t_16_36 : am_ok lw_Ts cX3_listFollowers 4 RX3 36 (o_ia 37) := so_ia (by decide +kernel)
theorem t_16_37 : am_ok lw_Ts cX3_listFollowers 4 RX3 37 (o_al 38 0) := so_al (Or.inl ⟨0, rfl, rfl, rfl⟩) (by decide +kernel)
theorem t_16_38 : am_ok lw_Ts cX3_listFollowers 4 RX3 38 (o_gf 41 3 1) := so_gf cl_X3 (by decide) wt_223 (by decide +kernel)
theorem t_16_41 : am_ok lw_Ts cX3_listFollowers 4 RX3 41 (o_il 42 2) := so_il (Or.inl ⟨2, rfl, rfl, rfl⟩) (by decide +kernel)
theorem t_16_42 : am_ok lw_Ts cX3_listFollowers 4 RX3 42 (o_ia 43) := so_ia (by decide +kernel)
theorem t_16_43 : am_okc gm_mi gm_mt lw_Ts lw_Ns cX3_listFollowers RX3 43 11 3 := ⟨88, cf_11.1, cf_11.2.1, cf_11.2.2.1, cf_11.2.2.2, Or.inr ⟨2, 2, TX2, 4, rfl, rfl, rfl, (by decide +kernel), wt_431, wt_432, wt_541, by decide +kernel⟩⟩
theorem t_16_46 : am_ok lw_Ts cX3_listFollowers 4 RX3 46 (o_if 53 49 q_ne) := so_if_ne (off := 7) (by decide +kernel) rfl
theorem t_16_49 : am_ok lw_Ts cX3_listFollowers 4 RX3 49 (o_k 50 (vI (1))) := so_k (by decide +kernel)
theorem t_16_50 : am_ok lw_Ts cX3_listFollowers 4 RX3 50 (o_go 54) := so_go (off := 4) (by decide +kernel) rfl
theorem t_16_53 : am_ok lw_Ts cX3_listFollowers 4 RX3 53 (o_k 54 (vI (0))) := so_k (by decide +kernel)
theorem t_16_54 : am_ok lw_Ts cX3_listFollowers 4 RX3 54 (o_is 55 3) := so_is (Or.inl ⟨3, rfl, rfl, rfl⟩) (by decide +kernel)
theorem t_16_55 : am_ok lw_Ts cX3_listFollowers 4 RX3 55 (o_al 56 0) := so_al (Or.inl ⟨0, rfl, rfl, rfl⟩) (by decide +kernel)
theorem t_16_56 : am_ok lw_Ts cX3_listFollowers 4 RX3 56 (o_gf 59 3 5) := so_gf cl_X3 (by decide) wt_228 (by decide +kernel)
theorem t_16_59 : am_ok lw_Ts cX3_listFollowers 4 RX3 59 (o_il 60 1) := so_il (Or.inl ⟨1, rfl, rfl, rfl⟩) (by decide +kernel)
theorem t_16_60 : am_ok lw_Ts cX3_listFollowers 4 RX3 60 (o_al 61 0) := so_al (Or.inl ⟨0, rfl, rfl, rfl⟩) (by decide +kernel)
theorem t_16_61 : am_ok lw_Ts cX3_listFollowers 4 RX3 61 (o_gf 64 3 5) := so_gf cl_X3 (by decide) wt_228 (by decide +kernel)
theorem t_16_64 : am_ok lw_Ts cX3_listFollowers 4 RX3 64 (o_il 65 1) := so_il (Or.inl ⟨1, rfl, rfl, rfl⟩) (by decide +kernel)
theorem t_16_65 : am_ok lw_Ts cX3_listFollowers 4 RX3 65 (o_ia 66) := so_ia (by decide +kernel)
theorem t_16_66 : am_ok lw_Ts cX3_listFollowers 4 RX3 66 (o_il 67 2) := so_il (Or.inl ⟨2, rfl, rfl, rfl⟩) (by decide +kernel)
theorem t_16_67 : am_ok lw_Ts cX3_listFollowers 4 RX3 67 (o_il 68 3) := so_il (Or.inl ⟨3, rfl, rfl, rfl⟩) (by decide +kernel)
theorem t_16_68 : am_okc gm_mi gm_mt lw_Ts lw_Ns cX3_listFollowers RX3 68 68 3 := ⟨54, cf_68.1, cf_68.2.1, cf_68.2.2.1, cf_68.2.2.2, Or.inl ⟨rfl, (by decide +kernel), wt_345, by decide +kernel, (Or.inr ⟨"SeasonOfHours", by decide +kernel⟩)⟩⟩
theorem t_16_71 : am_ok lw_Ts cX3_listFollowers 4 RX3 71 (o_iw 72) := so_iw (by decide +kernel)
theorem t_16_72 : am_ok lw_Ts cX3_listFollowers 4 RX3 72 (o_ii 75 2 (1)) := so_ii (by decide +kernel)
theorem t_16_75 : am_ok lw_Ts cX3_listFollowers 4 RX3 75 (o_go 19) := so_go (off := (-56)) (by decide +kernel) rfl
theorem t_16_78 : am_ok lw_Ts cX3_listFollowers 4 RX3 78 (o_ii 81 1 (1)) := so_ii (by decide +kernel)
theorem t_16_81 : am_ok lw_Ts cX3_listFollowers 4 RX3 81 (o_go 2) := so_go (off := (-79)) (by decide +kernel) rfl
theorem t_16_84 : am_okr cX3_listFollowers 84 0 := (show decode cX3_listFollowers 84 = .ok (.return_, 1) by decide +kernel)
set_option maxRecDepth 20000 in
theorem ok_16 : am_okL gm_mi gm_mt lw_Ts lw_Ns 16 cd_16 := ⟨t_16_0, t_16_1, t_16_2, t_16_3, t_16_4, t_16_7, t_16_10, t_16_11, t_16_14, t_16_15, t_16_16, t_16_17, t_16_18, t_16_19, t_16_20, t_16_21, t_16_24, t_16_27, t_16_28, t_16_31, t_16_32, t_16_35, t_16_36, t_16_37, t_16_38, t_16_41, t_16_42, t_16_43, t_16_46, t_16_49, t_16_50, t_16_53, t_16_54, t_16_55, t_16_56, t_16_59, t_16_60, t_16_61, t_16_64, t_16_65, t_16_66, t_16_67, t_16_68, t_16_71, t_16_72, t_16_75, t_16_78, t_16_81, t_16_84, trivial⟩
theorem t_17_0 : am_ok lw_Ts cX3_firstsOf 6 RX3 0 (o_k 1 (vI (0))) := so_k (by decide +kernel)
theorem t_17_1 : am_ok lw_Ts cX3_firstsOf 6 RX3 1 (o_is 2 2) := so_is (Or.inl ⟨2, rfl, rfl, rfl⟩) (by decide +kernel)
theorem t_17_2 : am_ok lw_Ts cX3_firstsOf 6 RX3 2 (o_k 3 (vI (0))) := so_k (by decide +kernel)
theorem t_17_3 : am_ok lw_Ts cX3_firstsOf 6 RX3 3 (o_is 4 3) := so_is (Or.inl ⟨3, rfl, rfl, rfl⟩) (by decide +kernel)
theorem t_17_4 : am_ok lw_Ts cX3_firstsOf 6 RX3 4 (o_il 5 3) := so_il (Or.inl ⟨3, rfl, rfl, rfl⟩) (by decide +kernel)
theorem t_17_5 : am_ok lw_Ts cX3_firstsOf 6 RX3 5 (o_al 6 0) := so_al (Or.inl ⟨0, rfl, rfl, rfl⟩) (by decide +kernel)
theorem t_17_6 : am_ok lw_Ts cX3_firstsOf 6 RX3 6 (o_gf 9 3 9) := so_gf cl_X3 (by decide) wt_233 (by decide +kernel)
theorem t_17_9 : am_ok lw_Ts cX3_firstsOf 6 RX3 9 (o_ic 71 12 r_ge) := so_ic_ge (off := 62) (by decide +kernel) rfl
theorem t_17_12 : am_ok lw_Ts cX3_firstsOf 6 RX3 12 (o_il 13 1) := so_il (Or.inl ⟨1, rfl, rfl, rfl⟩) (by decide +kernel)
theorem t_17_13 : am_ok lw_Ts cX3_firstsOf 6 RX3 13 (o_il 14 3) := so_il (Or.inl ⟨3, rfl, rfl, rfl⟩) (by decide +kernel)
theorem t_17_14 : am_okc gm_mi gm_mt lw_Ts lw_Ns cX3_firstsOf RX3 14 67 2 := ⟨93, cf_67.1, cf_67.2.1, cf_67.2.2.1, cf_67.2.2.2, Or.inl ⟨rfl, (by decide +kernel), wt_420, by decide +kernel, (Or.inr ⟨"SeasonOfHours", by decide +kernel⟩)⟩⟩
theorem t_17_17 : am_ok lw_Ts cX3_firstsOf 6 RX3 17 (o_if 65 20 q_eq) := so_if_eq (off := 48) (by decide +kernel) rfl
theorem t_17_20 : am_ok lw_Ts cX3_firstsOf 6 RX3 20 (o_il 21 1) := so_il (Or.inl ⟨1, rfl, rfl, rfl⟩) (by decide +kernel)
theorem t_17_21 : am_ok lw_Ts cX3_firstsOf 6 RX3 21 (o_il 22 3) := so_il (Or.inl ⟨3, rfl, rfl, rfl⟩) (by decide +kernel)
theorem t_17_22 : am_ok lw_Ts cX3_firstsOf 6 RX3 22 (o_k 23 (vI (0))) := so_k (by decide +kernel)
theorem t_17_23 : am_okc gm_mi gm_mt lw_Ts lw_Ns cX3_firstsOf RX3 23 68 3 := ⟨54, cf_68.1, cf_68.2.1, cf_68.2.2.1, cf_68.2.2.2, Or.inl ⟨rfl, (by decide +kernel), wt_345, by decide +kernel, (Or.inr ⟨"SeasonOfHours", by decide +kernel⟩)⟩⟩
theorem t_17_26 : am_ok lw_Ts cX3_firstsOf 6 RX3 26 (o_is 28 4) := so_is (Or.inr ⟨rfl, rfl⟩) (by decide +kernel)
theorem t_17_28 : am_ok lw_Ts cX3_firstsOf 6 RX3 28 (o_il 30 4) := so_il (Or.inr ⟨rfl, rfl⟩) (by decide +kernel)
theorem t_17_30 : am_ok lw_Ts cX3_firstsOf 6 RX3 30 (o_if 50 33 q_eq) := so_if_eq (off := 20) (by decide +kernel) rfl
theorem t_17_33 : am_ok lw_Ts cX3_firstsOf 6 RX3 33 (o_al 34 0) := so_al (Or.inl ⟨0, rfl, rfl, rfl⟩) (by decide +kernel)
theorem t_17_34 : am_ok lw_Ts cX3_firstsOf 6 RX3 34 (o_gf 37 3 7) := so_gf cl_X3 (by decide) wt_231 (by decide +kernel)
theorem t_17_37 : am_ok lw_Ts cX3_firstsOf 6 RX3 37 (o_il 39 4) := so_il (Or.inr ⟨rfl, rfl⟩) (by decide +kernel)
theorem t_17_39 : am_ok lw_Ts cX3_firstsOf 6 RX3 39 (o_ia 40) := so_ia (by decide +kernel)
theorem t_17_40 : am_ok lw_Ts cX3_firstsOf 6 RX3 40 (o_al 41 0) := so_al (Or.inl ⟨0, rfl, rfl, rfl⟩) (by decide +kernel)
theorem t_17_41 : am_ok lw_Ts cX3_firstsOf 6 RX3 41 (o_gf 44 3 5) := so_gf cl_X3 (by decide) wt_228 (by decide +kernel)
theorem t_17_44 : am_ok lw_Ts cX3_firstsOf 6 RX3 44 (o_il 45 3) := so_il (Or.inl ⟨3, rfl, rfl, rfl⟩) (by decide +kernel)
theorem t_17_45 : am_ok lw_Ts cX3_firstsOf 6 RX3 45 (o_ia 46) := so_ia (by decide +kernel)
theorem t_17_46 : am_ok lw_Ts cX3_firstsOf 6 RX3 46 (o_ib 47 f_and) := so_iand (by decide +kernel)
theorem t_17_47 : am_ok lw_Ts cX3_firstsOf 6 RX3 47 (o_if 54 50 q_eq) := so_if_eq (off := 7) (by decide +kernel) rfl
theorem t_17_50 : am_ok lw_Ts cX3_firstsOf 6 RX3 50 (o_k 51 (vI (1))) := so_k (by decide +kernel)
theorem t_17_51 : am_ok lw_Ts cX3_firstsOf 6 RX3 51 (o_go 55) := so_go (off := 4) (by decide +kernel) rfl
theorem t_17_54 : am_ok lw_Ts cX3_firstsOf 6 RX3 54 (o_k 55 (vI (0))) := so_k (by decide +kernel)
theorem t_17_55 : am_ok lw_Ts cX3_firstsOf 6 RX3 55 (o_is 57 5) := so_is (Or.inr ⟨rfl, rfl⟩) (by decide +kernel)
theorem t_17_57 : am_ok lw_Ts cX3_firstsOf 6 RX3 57 (o_il 58 2) := so_il (Or.inl ⟨2, rfl, rfl, rfl⟩) (by decide +kernel)
theorem t_17_58 : am_ok lw_Ts cX3_firstsOf 6 RX3 58 (o_il 59 3) := so_il (Or.inl ⟨3, rfl, rfl, rfl⟩) (by decide +kernel)
theorem t_17_59 : am_ok lw_Ts cX3_firstsOf 6 RX3 59 (o_il 61 5) := so_il (Or.inr ⟨rfl, rfl⟩) (by decide +kernel)
theorem t_17_61 : am_okc gm_mi gm_mt lw_Ts lw_Ns cX3_firstsOf RX3 61 68 3 := ⟨54, cf_68.1, cf_68.2.1, cf_68.2.2.1, cf_68.2.2.2, Or.inl ⟨rfl, (by decide +kernel), wt_345, by decide +kernel, (Or.inr ⟨"SeasonOfHours", by decide +kernel⟩)⟩⟩
theorem t_17_64 : am_ok lw_Ts cX3_firstsOf 6 RX3 64 (o_is 65 2) := so_is (Or.inl ⟨2, rfl, rfl, rfl⟩) (by decide +kernel)
theorem t_17_65 : am_ok lw_Ts cX3_firstsOf 6 RX3 65 (o_ii 68 3 (1)) := so_ii (by decide +kernel)
theorem t_17_68 : am_ok lw_Ts cX3_firstsOf 6 RX3 68 (o_go 4) := so_go (off := (-64)) (by decide +kernel) rfl
theorem t_17_71 : am_ok lw_Ts cX3_firstsOf 6 RX3 71 (o_il 72 2) := so_il (Or.inl ⟨2, rfl, rfl, rfl⟩) (by decide +kernel)
theorem t_17_72 : am_okr cX3_firstsOf 72 1 := (show decode cX3_firstsOf 72 = .ok (.ireturn, 1) by decide +kernel)
set_option maxRecDepth 20000 in
theorem ok_17 : am_okL gm_mi gm_mt lw_Ts lw_Ns 17 cd_17 := ⟨t_17_0, t_17_1, t_17_2, t_17_3, t_17_4, t_17_5, t_17_6, t_17_9, t_17_12, t_17_13, t_17_14, t_17_17, t_17_20, t_17_21, t_17_22, t_17_23, t_17_26, t_17_28, t_17_30, t_17_33, t_17_34, t_17_37, t_17_39, t_17_40, t_17_41, t_17_44, t_17_45, t_17_46, t_17_47, t_17_50, t_17_51, t_17_54, t_17_55, t_17_57, t_17_58, t_17_59, t_17_61, t_17_64, t_17_65, t_17_68, t_17_71, t_17_72, trivial⟩
theorem t_18_0 : am_ok lw_Ts cX3_isGood 3 RX3 0 (o_al 1 0) := so_al (Or.inl ⟨0, rfl, rfl, rfl⟩) (by decide +kernel)
theorem t_18_1 : am_ok lw_Ts cX3_isGood 3 RX3 1 (o_gf 4 3 7) := so_gf cl_X3 (by decide) wt_231 (by decide +kernel)
theorem t_18_4 : am_ok lw_Ts cX3_isGood 3 RX3 4 (o_il 5 1) := so_il (Or.inl ⟨1, rfl, rfl, rfl⟩) (by decide +kernel)
theorem t_18_5 : am_ok lw_Ts cX3_isGood 3 RX3 5 (o_ia 6) := so_ia (by decide +kernel)
theorem t_18_6 : am_ok lw_Ts cX3_isGood 3 RX3 6 (o_if 39 9 q_eq) := so_if_eq (off := 33) (by decide +kernel) rfl
theorem t_18_9 : am_ok lw_Ts cX3_isGood 3 RX3 9 (o_il 10 1) := so_il (Or.inl ⟨1, rfl, rfl, rfl⟩) (by decide +kernel)
theorem t_18_10 : am_ok lw_Ts cX3_isGood 3 RX3 10 (o_al 11 0) := so_al (Or.inl ⟨0, rfl, rfl, rfl⟩) (by decide +kernel)
theorem t_18_11 : am_ok lw_Ts cX3_isGood 3 RX3 11 (o_gf 14 3 8) := so_gf cl_X3 (by decide) wt_232 (by decide +kernel)
theorem t_18_14 : am_ok lw_Ts cX3_isGood 3 RX3 14 (o_ib 15 f_and) := so_iand (by decide +kernel)
theorem t_18_15 : am_okc gm_mi gm_mt lw_Ts lw_Ns cX3_isGood RX3 15 112 1 := ⟨96, cf_112.1, cf_112.2.1, cf_112.2.2.1, cf_112.2.2.2, Or.inl ⟨rfl, (by decide +kernel), wt_369, by decide +kernel, (Or.inl wt_551)⟩⟩
theorem t_18_18 : am_ok lw_Ts cX3_isGood 3 RX3 18 (o_k 19 (vI (1))) := so_k (by decide +kernel)
theorem t_18_19 : am_ok lw_Ts cX3_isGood 3 RX3 19 (o_ic 39 22 r_ne) := so_ic_ne (off := 20) (by decide +kernel) rfl
theorem t_18_22 : am_ok lw_Ts cX3_isGood 3 RX3 22 (o_al 23 0) := so_al (Or.inl ⟨0, rfl, rfl, rfl⟩) (by decide +kernel)
theorem t_18_23 : am_ok lw_Ts cX3_isGood 3 RX3 23 (o_al 24 0) := so_al (Or.inl ⟨0, rfl, rfl, rfl⟩) (by decide +kernel)
theorem t_18_24 : am_ok lw_Ts cX3_isGood 3 RX3 24 (o_gf 27 3 2) := so_gf cl_X3 (by decide) wt_224 (by decide +kernel)
theorem t_18_27 : am_ok lw_Ts cX3_isGood 3 RX3 27 (o_il 28 1) := so_il (Or.inl ⟨1, rfl, rfl, rfl⟩) (by decide +kernel)
theorem t_18_28 : am_okc gm_mi gm_mt lw_Ts lw_Ns cX3_isGood RX3 28 20 3 := ⟨79, cf_20.1, cf_20.2.1, cf_20.2.2.1, cf_20.2.2.2, Or.inr ⟨3, 2, TX3, 12, rfl, rfl, rfl, (by decide +kernel), wt_554, wt_17, wt_552, by decide +kernel⟩⟩
theorem t_18_31 : am_ok lw_Ts cX3_isGood 3 RX3 31 (o_il 32 2) := so_il (Or.inl ⟨2, rfl, rfl, rfl⟩) (by decide +kernel)
theorem t_18_32 : am_ok lw_Ts cX3_isGood 3 RX3 32 (o_ic 39 35 r_gt) := so_ic_gt (off := 7) (by decide +kernel) rfl
theorem t_18_35 : am_ok lw_Ts cX3_isGood 3 RX3 35 (o_k 36 (vI (1))) := so_k (by decide +kernel)
theorem t_18_36 : am_ok lw_Ts cX3_isGood 3 RX3 36 (o_go 40) := so_go (off := 4) (by decide +kernel) rfl
theorem t_18_39 : am_ok lw_Ts cX3_isGood 3 RX3 39 (o_k 40 (vI (0))) := so_k (by decide +kernel)
theorem t_18_40 : am_okr cX3_isGood 40 2 := (show decode cX3_isGood 40 = .ok (.ireturn, 1) by decide +kernel)
set_option maxRecDepth 20000 in
theorem ok_18 : am_okL gm_mi gm_mt lw_Ts lw_Ns 18 cd_18 := ⟨t_18_0, t_18_1, t_18_4, t_18_5, t_18_6, t_18_9, t_18_10, t_18_11, t_18_14, t_18_15, t_18_18, t_18_19, t_18_22, t_18_23, t_18_24, t_18_27, t_18_28, t_18_31, t_18_32, t_18_35, t_18_36, t_18_39, t_18_40, trivial⟩
theorem t_19_0 : am_ok lw_Ts cX3_isBetter 5 RX3 0 (o_il 1 2) := so_il (Or.inl ⟨2, rfl, rfl, rfl⟩) (by decide +kernel)
theorem t_19_1 : am_ok lw_Ts cX3_isBetter 5 RX3 1 (o_if 6 4 q_ne) := so_if_ne (off := 5) (by decide +kernel) rfl
theorem t_19_4 : am_ok lw_Ts cX3_isBetter 5 RX3 4 (o_k 5 (vI (1))) := so_k (by decide +kernel)
theorem t_19_5 : am_okr cX3_isBetter 5 2 := (show decode cX3_isBetter 5 = .ok (.ireturn, 1) by decide +kernel)
theorem t_19_6 : am_ok lw_Ts cX3_isBetter 5 RX3 6 (o_al 7 0) := so_al (Or.inl ⟨0, rfl, rfl, rfl⟩) (by decide +kernel)
theorem t_19_7 : am_ok lw_Ts cX3_isBetter 5 RX3 7 (o_al 8 0) := so_al (Or.inl ⟨0, rfl, rfl, rfl⟩) (by decide +kernel)
theorem t_19_8 : am_ok lw_Ts cX3_isBetter 5 RX3 8 (o_gf 11 3 3) := so_gf cl_X3 (by decide) wt_225 (by decide +kernel)
theorem t_19_11 : am_ok lw_Ts cX3_isBetter 5 RX3 11 (o_il 12 1) := so_il (Or.inl ⟨1, rfl, rfl, rfl⟩) (by decide +kernel)
theorem t_19_12 : am_okc gm_mi gm_mt lw_Ts lw_Ns cX3_isBetter RX3 12 20 3 := ⟨79, cf_20.1, cf_20.2.1, cf_20.2.2.1, cf_20.2.2.2, Or.inr ⟨3, 2, TX3, 12, rfl, rfl, rfl, (by decide +kernel), wt_554, wt_17, wt_552, by decide +kernel⟩⟩
theorem t_19_15 : am_ok lw_Ts cX3_isBetter 5 RX3 15 (o_al 16 0) := so_al (Or.inl ⟨0, rfl, rfl, rfl⟩) (by decide +kernel)
theorem t_19_16 : am_ok lw_Ts cX3_isBetter 5 RX3 16 (o_al 17 0) := so_al (Or.inl ⟨0, rfl, rfl, rfl⟩) (by decide +kernel)
theorem t_19_17 : am_ok lw_Ts cX3_isBetter 5 RX3 17 (o_gf 20 3 3) := so_gf cl_X3 (by decide) wt_225 (by decide +kernel)
theorem t_19_20 : am_ok lw_Ts cX3_isBetter 5 RX3 20 (o_il 21 2) := so_il (Or.inl ⟨2, rfl, rfl, rfl⟩) (by decide +kernel)
theorem t_19_21 : am_okc gm_mi gm_mt lw_Ts lw_Ns cX3_isBetter RX3 21 20 3 := ⟨79, cf_20.1, cf_20.2.1, cf_20.2.2.1, cf_20.2.2.2, Or.inr ⟨3, 2, TX3, 12, rfl, rfl, rfl, (by decide +kernel), wt_554, wt_17, wt_552, by decide +kernel⟩⟩
theorem t_19_24 : am_ok lw_Ts cX3_isBetter 5 RX3 24 (o_ib 25 f_sub) := so_isub (by decide +kernel)
theorem t_19_25 : am_ok lw_Ts cX3_isBetter 5 RX3 25 (o_is 26 3) := so_is (Or.inl ⟨3, rfl, rfl, rfl⟩) (by decide +kernel)
theorem t_19_26 : am_ok lw_Ts cX3_isBetter 5 RX3 26 (o_il 27 3) := so_il (Or.inl ⟨3, rfl, rfl, rfl⟩) (by decide +kernel)
theorem t_19_27 : am_ok lw_Ts cX3_isBetter 5 RX3 27 (o_if 40 30 q_eq) := so_if_eq (off := 13) (by decide +kernel) rfl
theorem t_19_30 : am_ok lw_Ts cX3_isBetter 5 RX3 30 (o_il 31 3) := so_il (Or.inl ⟨3, rfl, rfl, rfl⟩) (by decide +kernel)
theorem t_19_31 : am_ok lw_Ts cX3_isBetter 5 RX3 31 (o_if 38 34 q_le) := so_if_le (off := 7) (by decide +kernel) rfl
theorem t_19_34 : am_ok lw_Ts cX3_isBetter 5 RX3 34 (o_k 35 (vI (1))) := so_k (by decide +kernel)
theorem t_19_35 : am_ok lw_Ts cX3_isBetter 5 RX3 35 (o_go 39) := so_go (off := 4) (by decide +kernel) rfl
theorem t_19_38 : am_ok lw_Ts cX3_isBetter 5 RX3 38 (o_k 39 (vI (0))) := so_k (by decide +kernel)
theorem t_19_39 : am_okr cX3_isBetter 39 2 := (show decode cX3_isBetter 39 = .ok (.ireturn, 1) by decide +kernel)
theorem t_19_40 : am_ok lw_Ts cX3_isBetter 5 RX3 40 (o_il 41 2) := so_il (Or.inl ⟨2, rfl, rfl, rfl⟩) (by decide +kernel)
theorem t_19_41 : am_okc gm_mi gm_mt lw_Ts lw_Ns cX3_isBetter RX3 41 112 1 := ⟨96, cf_112.1, cf_112.2.1, cf_112.2.2.1, cf_112.2.2.2, Or.inl ⟨rfl, (by decide +kernel), wt_369, by decide +kernel, (Or.inl wt_551)⟩⟩
theorem t_19_44 : am_ok lw_Ts cX3_isBetter 5 RX3 44 (o_il 45 1) := so_il (Or.inl ⟨1, rfl, rfl, rfl⟩) (by decide +kernel)
theorem t_19_45 : am_okc gm_mi gm_mt lw_Ts lw_Ns cX3_isBetter RX3 45 112 1 := ⟨96, cf_112.1, cf_112.2.1, cf_112.2.2.1, cf_112.2.2.2, Or.inl ⟨rfl, (by decide +kernel), wt_369, by decide +kernel, (Or.inl wt_551)⟩⟩
theorem t_19_48 : am_ok lw_Ts cX3_isBetter 5 RX3 48 (o_ib 49 f_sub) := so_isub (by decide +kernel)
theorem t_19_49 : am_ok lw_Ts cX3_isBetter 5 RX3 49 (o_is 51 4) := so_is (Or.inr ⟨rfl, rfl⟩) (by decide +kernel)
theorem t_19_51 : am_ok lw_Ts cX3_isBetter 5 RX3 51 (o_il 53 4) := so_il (Or.inr ⟨rfl, rfl⟩) (by decide +kernel)
theorem t_19_53 : am_ok lw_Ts cX3_isBetter 5 RX3 53 (o_if 67 56 q_eq) := so_if_eq (off := 14) (by decide +kernel) rfl
theorem t_19_56 : am_ok lw_Ts cX3_isBetter 5 RX3 56 (o_il 58 4) := so_il (Or.inr ⟨rfl, rfl⟩) (by decide +kernel)
theorem t_19_58 : am_ok lw_Ts cX3_isBetter 5 RX3 58 (o_if 65 61 q_le) := so_if_le (off := 7) (by decide +kernel) rfl
theorem t_19_61 : am_ok lw_Ts cX3_isBetter 5 RX3 61 (o_k 62 (vI (1))) := so_k (by decide +kernel)
theorem t_19_62 : am_ok lw_Ts cX3_isBetter 5 RX3 62 (o_go 66) := so_go (off := 4) (by decide +kernel) rfl
theorem t_19_65 : am_ok lw_Ts cX3_isBetter 5 RX3 65 (o_k 66 (vI (0))) := so_k (by decide +kernel)
theorem t_19_66 : am_okr cX3_isBetter 66 2 := (show decode cX3_isBetter 66 = .ok (.ireturn, 1) by decide +kernel)
theorem t_19_67 : am_ok lw_Ts cX3_isBetter 5 RX3 67 (o_al 68 0) := so_al (Or.inl ⟨0, rfl, rfl, rfl⟩) (by decide +kernel)
theorem t_19_68 : am_ok lw_Ts cX3_isBetter 5 RX3 68 (o_il 69 1) := so_il (Or.inl ⟨1, rfl, rfl, rfl⟩) (by decide +kernel)
theorem t_19_69 : am_okc gm_mi gm_mt lw_Ts lw_Ns cX3_isBetter RX3 69 21 2 := ⟨101, cf_21.1, cf_21.2.1, cf_21.2.2.1, cf_21.2.2.2, Or.inr ⟨3, 1, TX3, 12, rfl, rfl, rfl, (by decide +kernel), wt_562, wt_19, wt_560, by decide +kernel⟩⟩
theorem t_19_72 : am_ok lw_Ts cX3_isBetter 5 RX3 72 (o_al 73 0) := so_al (Or.inl ⟨0, rfl, rfl, rfl⟩) (by decide +kernel)
theorem t_19_73 : am_ok lw_Ts cX3_isBetter 5 RX3 73 (o_il 74 2) := so_il (Or.inl ⟨2, rfl, rfl, rfl⟩) (by decide +kernel)
theorem t_19_74 : am_okc gm_mi gm_mt lw_Ts lw_Ns cX3_isBetter RX3 74 21 2 := ⟨101, cf_21.1, cf_21.2.1, cf_21.2.2.1, cf_21.2.2.2, Or.inr ⟨3, 1, TX3, 12, rfl, rfl, rfl, (by decide +kernel), wt_562, wt_19, wt_560, by decide +kernel⟩⟩
theorem t_19_77 : am_ok lw_Ts cX3_isBetter 5 RX3 77 (o_lcmp 78) := so_lcmp (by decide +kernel)
theorem t_19_78 : am_ok lw_Ts cX3_isBetter 5 RX3 78 (o_if 85 81 q_ge) := so_if_ge (off := 7) (by decide +kernel) rfl
theorem t_19_81 : am_ok lw_Ts cX3_isBetter 5 RX3 81 (o_k 82 (vI (1))) := so_k (by decide +kernel)
theorem t_19_82 : am_ok lw_Ts cX3_isBetter 5 RX3 82 (o_go 86) := so_go (off := 4) (by decide +kernel) rfl
theorem t_19_85 : am_ok lw_Ts cX3_isBetter 5 RX3 85 (o_k 86 (vI (0))) := so_k (by decide +kernel)
theorem t_19_86 : am_okr cX3_isBetter 86 2 := (show decode cX3_isBetter 86 = .ok (.ireturn, 1) by decide +kernel)
set_option maxRecDepth 20000 in
theorem ok_19 : am_okL gm_mi gm_mt lw_Ts lw_Ns 19 cd_19 := ⟨t_19_0, t_19_1, t_19_4, t_19_5, t_19_6, t_19_7, t_19_8, t_19_11, t_19_12, t_19_15, t_19_16, t_19_17, t_19_20, t_19_21, t_19_24, t_19_25, t_19_26, t_19_27, t_19_30, t_19_31, t_19_34, t_19_35, t_19_38, t_19_39, t_19_40, t_19_41, t_19_44, t_19_45, t_19_48, t_19_49, t_19_51, t_19_53, t_19_56, t_19_58, t_19_61, t_19_62, t_19_65, t_19_66, t_19_67, t_19_68, t_19_69, t_19_72, t_19_73, t_19_74, t_19_77, t_19_78, t_19_81, t_19_82, t_19_85, t_19_86, trivial⟩
theorem t_20_0 : am_ok lw_Ts cX3_sum 5 RX3 0 (o_k 1 (vI (0))) := so_k (by decide +kernel)
theorem t_20_1 : am_ok lw_Ts cX3_sum 5 RX3 1 (o_is 2 3) := so_is (Or.inl ⟨3, rfl, rfl, rfl⟩) (by decide +kernel)
theorem t_20_2 : am_ok lw_Ts cX3_sum 5 RX3 2 (o_k 3 (vI (0))) := so_k (by decide +kernel)
theorem t_20_3 : am_ok lw_Ts cX3_sum 5 RX3 3 (o_is 5 4) := so_is (Or.inr ⟨rfl, rfl⟩) (by decide +kernel)
theorem t_20_5 : am_ok lw_Ts cX3_sum 5 RX3 5 (o_il 7 4) := so_il (Or.inr ⟨rfl, rfl⟩) (by decide +kernel)
theorem t_20_7 : am_ok lw_Ts cX3_sum 5 RX3 7 (o_al 8 0) := so_al (Or.inl ⟨0, rfl, rfl, rfl⟩) (by decide +kernel)
theorem t_20_8 : am_ok lw_Ts cX3_sum 5 RX3 8 (o_gf 11 3 9) := so_gf cl_X3 (by decide) wt_233 (by decide +kernel)
theorem t_20_11 : am_ok lw_Ts cX3_sum 5 RX3 11 (o_ic 36 14 r_ge) := so_ic_ge (off := 25) (by decide +kernel) rfl
theorem t_20_14 : am_ok lw_Ts cX3_sum 5 RX3 14 (o_il 15 2) := so_il (Or.inl ⟨2, rfl, rfl, rfl⟩) (by decide +kernel)
theorem t_20_15 : am_ok lw_Ts cX3_sum 5 RX3 15 (o_il 17 4) := so_il (Or.inr ⟨rfl, rfl⟩) (by decide +kernel)
theorem t_20_17 : am_okc gm_mi gm_mt lw_Ts lw_Ns cX3_sum RX3 17 67 2 := ⟨93, cf_67.1, cf_67.2.1, cf_67.2.2.1, cf_67.2.2.2, Or.inl ⟨rfl, (by decide +kernel), wt_420, by decide +kernel, (Or.inr ⟨"SeasonOfHours", by decide +kernel⟩)⟩⟩
theorem t_20_20 : am_ok lw_Ts cX3_sum 5 RX3 20 (o_if 30 23 q_eq) := so_if_eq (off := 10) (by decide +kernel) rfl
theorem t_20_23 : am_ok lw_Ts cX3_sum 5 RX3 23 (o_il 24 3) := so_il (Or.inl ⟨3, rfl, rfl, rfl⟩) (by decide +kernel)
theorem t_20_24 : am_ok lw_Ts cX3_sum 5 RX3 24 (o_al 25 1) := so_al (Or.inl ⟨1, rfl, rfl, rfl⟩) (by decide +kernel)
theorem t_20_25 : am_ok lw_Ts cX3_sum 5 RX3 25 (o_il 27 4) := so_il (Or.inr ⟨rfl, rfl⟩) (by decide +kernel)
theorem t_20_27 : am_ok lw_Ts cX3_sum 5 RX3 27 (o_ia 28) := so_ia (by decide +kernel)
theorem t_20_28 : am_ok lw_Ts cX3_sum 5 RX3 28 (o_ib 29 f_add) := so_iadd (by decide +kernel)
theorem t_20_29 : am_ok lw_Ts cX3_sum 5 RX3 29 (o_is 30 3) := so_is (Or.inl ⟨3, rfl, rfl, rfl⟩) (by decide +kernel)
theorem t_20_30 : am_ok lw_Ts cX3_sum 5 RX3 30 (o_ii 33 4 (1)) := so_ii (by decide +kernel)
theorem t_20_33 : am_ok lw_Ts cX3_sum 5 RX3 33 (o_go 5) := so_go (off := (-28)) (by decide +kernel) rfl
theorem t_20_36 : am_ok lw_Ts cX3_sum 5 RX3 36 (o_il 37 3) := so_il (Or.inl ⟨3, rfl, rfl, rfl⟩) (by decide +kernel)
theorem t_20_37 : am_okr cX3_sum 37 1 := (show decode cX3_sum 37 = .ok (.ireturn, 1) by decide +kernel)
set_option maxRecDepth 20000 in
theorem ok_20 : am_okL gm_mi gm_mt lw_Ts lw_Ns 20 cd_20 := ⟨t_20_0, t_20_1, t_20_2, t_20_3, t_20_5, t_20_7, t_20_8, t_20_11, t_20_14, t_20_15, t_20_17, t_20_20, t_20_23, t_20_24, t_20_25, t_20_27, t_20_28, t_20_29, t_20_30, t_20_33, t_20_36, t_20_37, trivial⟩
theorem t_21_0 : am_ok lw_Ts cX3_firstRow 8 RX3 0 (o_k 1 (vL (0))) := so_lk (n := 0) rfl (by decide +kernel)
theorem t_21_1 : am_ok lw_Ts cX3_firstRow 8 RX3 1 (o_ls 2 2) := so_ls (Or.inl ⟨2, rfl, rfl, rfl⟩) (by decide +kernel)
theorem t_21_2 : am_ok lw_Ts cX3_firstRow 8 RX3 2 (o_il 3 1) := so_il (Or.inl ⟨1, rfl, rfl, rfl⟩) (by decide +kernel)
theorem t_21_3 : am_ok lw_Ts cX3_firstRow 8 RX3 3 (o_is 5 4) := so_is (Or.inr ⟨rfl, rfl⟩) (by decide +kernel)
theorem t_21_5 : am_ok lw_Ts cX3_firstRow 8 RX3 5 (o_al 6 0) := so_al (Or.inl ⟨0, rfl, rfl, rfl⟩) (by decide +kernel)
theorem t_21_6 : am_ok lw_Ts cX3_firstRow 8 RX3 6 (o_gf 9 3 7) := so_gf cl_X3 (by decide) wt_231 (by decide +kernel)
theorem t_21_9 : am_ok lw_Ts cX3_firstRow 8 RX3 9 (o_il 10 1) := so_il (Or.inl ⟨1, rfl, rfl, rfl⟩) (by decide +kernel)
theorem t_21_10 : am_ok lw_Ts cX3_firstRow 8 RX3 10 (o_ia 11) := so_ia (by decide +kernel)
theorem t_21_11 : am_ok lw_Ts cX3_firstRow 8 RX3 11 (o_is 13 5) := so_is (Or.inr ⟨rfl, rfl⟩) (by decide +kernel)
theorem t_21_13 : am_ok lw_Ts cX3_firstRow 8 RX3 13 (o_k 14 (vI (0))) := so_k (by decide +kernel)
theorem t_21_14 : am_ok lw_Ts cX3_firstRow 8 RX3 14 (o_is 16 6) := so_is (Or.inr ⟨rfl, rfl⟩) (by decide +kernel)
theorem t_21_16 : am_ok lw_Ts cX3_firstRow 8 RX3 16 (o_il 18 6) := so_il (Or.inr ⟨rfl, rfl⟩) (by decide +kernel)
theorem t_21_18 : am_ok lw_Ts cX3_firstRow 8 RX3 18 (o_al 19 0) := so_al (Or.inl ⟨0, rfl, rfl, rfl⟩) (by decide +kernel)
theorem t_21_19 : am_ok lw_Ts cX3_firstRow 8 RX3 19 (o_gf 22 3 9) := so_gf cl_X3 (by decide) wt_233 (by decide +kernel)
theorem t_21_22 : am_ok lw_Ts cX3_firstRow 8 RX3 22 (o_ic 80 25 r_ge) := so_ic_ge (off := 58) (by decide +kernel) rfl
theorem t_21_25 : am_ok lw_Ts cX3_firstRow 8 RX3 25 (o_il 27 5) := so_il (Or.inr ⟨rfl, rfl⟩) (by decide +kernel)
theorem t_21_27 : am_ok lw_Ts cX3_firstRow 8 RX3 27 (o_if 80 30 q_eq) := so_if_eq (off := 53) (by decide +kernel) rfl
theorem t_21_30 : am_ok lw_Ts cX3_firstRow 8 RX3 30 (o_il 32 5) := so_il (Or.inr ⟨rfl, rfl⟩) (by decide +kernel)
theorem t_21_32 : am_okc gm_mi gm_mt lw_Ts lw_Ns cX3_firstRow RX3 32 111 1 := ⟨105, cf_111.1, cf_111.2.1, cf_111.2.2.1, cf_111.2.2.2, Or.inl ⟨rfl, (by decide +kernel), wt_565, by decide +kernel, (Or.inl wt_564)⟩⟩
theorem t_21_35 : am_ok lw_Ts cX3_firstRow 8 RX3 35 (o_is 37 7) := so_is (Or.inr ⟨rfl, rfl⟩) (by decide +kernel)
theorem t_21_37 : am_ok lw_Ts cX3_firstRow 8 RX3 37 (o_ll 38 2) := so_ll (Or.inl ⟨2, rfl, rfl, rfl⟩) (by decide +kernel)
theorem t_21_38 : am_ok lw_Ts cX3_firstRow 8 RX3 38 (o_k 41 (vL (10))) := so_ldc2 wt_568 (by decide +kernel)
theorem t_21_41 : am_ok lw_Ts cX3_firstRow 8 RX3 41 (o_lb 42 f_mul) := so_lmul (by decide +kernel)
theorem t_21_42 : am_ok lw_Ts cX3_firstRow 8 RX3 42 (o_il 44 7) := so_il (Or.inr ⟨rfl, rfl⟩) (by decide +kernel)
theorem t_21_44 : am_ok lw_Ts cX3_firstRow 8 RX3 44 (o_i2l 45) := so_i2l (by decide +kernel)
theorem t_21_45 : am_ok lw_Ts cX3_firstRow 8 RX3 45 (o_lb 46 f_add) := so_ladd (by decide +kernel)
theorem t_21_46 : am_ok lw_Ts cX3_firstRow 8 RX3 46 (o_ls 47 2) := so_ls (Or.inl ⟨2, rfl, rfl, rfl⟩) (by decide +kernel)
theorem t_21_47 : am_ok lw_Ts cX3_firstRow 8 RX3 47 (o_il 49 4) := so_il (Or.inr ⟨rfl, rfl⟩) (by decide +kernel)
theorem t_21_49 : am_ok lw_Ts cX3_firstRow 8 RX3 49 (o_il 51 7) := so_il (Or.inr ⟨rfl, rfl⟩) (by decide +kernel)
theorem t_21_51 : am_ok lw_Ts cX3_firstRow 8 RX3 51 (o_k 52 (vI (0))) := so_k (by decide +kernel)
theorem t_21_52 : am_okc gm_mi gm_mt lw_Ts lw_Ns cX3_firstRow RX3 52 68 3 := ⟨54, cf_68.1, cf_68.2.1, cf_68.2.2.1, cf_68.2.2.2, Or.inl ⟨rfl, (by decide +kernel), wt_345, by decide +kernel, (Or.inr ⟨"SeasonOfHours", by decide +kernel⟩)⟩⟩
theorem t_21_55 : am_ok lw_Ts cX3_firstRow 8 RX3 55 (o_is 57 4) := so_is (Or.inr ⟨rfl, rfl⟩) (by decide +kernel)
theorem t_21_57 : am_ok lw_Ts cX3_firstRow 8 RX3 57 (o_al 58 0) := so_al (Or.inl ⟨0, rfl, rfl, rfl⟩) (by decide +kernel)
theorem t_21_58 : am_ok lw_Ts cX3_firstRow 8 RX3 58 (o_gf 61 3 7) := so_gf cl_X3 (by decide) wt_231 (by decide +kernel)
theorem t_21_61 : am_ok lw_Ts cX3_firstRow 8 RX3 61 (o_il 63 4) := so_il (Or.inr ⟨rfl, rfl⟩) (by decide +kernel)
theorem t_21_63 : am_ok lw_Ts cX3_firstRow 8 RX3 63 (o_ia 64) := so_ia (by decide +kernel)
theorem t_21_64 : am_ok lw_Ts cX3_firstRow 8 RX3 64 (o_al 65 0) := so_al (Or.inl ⟨0, rfl, rfl, rfl⟩) (by decide +kernel)
theorem t_21_65 : am_ok lw_Ts cX3_firstRow 8 RX3 65 (o_gf 68 3 5) := so_gf cl_X3 (by decide) wt_228 (by decide +kernel)
theorem t_21_68 : am_ok lw_Ts cX3_firstRow 8 RX3 68 (o_il 70 7) := so_il (Or.inr ⟨rfl, rfl⟩) (by decide +kernel)
theorem t_21_70 : am_ok lw_Ts cX3_firstRow 8 RX3 70 (o_ia 71) := so_ia (by decide +kernel)
theorem t_21_71 : am_ok lw_Ts cX3_firstRow 8 RX3 71 (o_ib 72 f_and) := so_iand (by decide +kernel)
theorem t_21_72 : am_ok lw_Ts cX3_firstRow 8 RX3 72 (o_is 74 5) := so_is (Or.inr ⟨rfl, rfl⟩) (by decide +kernel)
theorem t_21_74 : am_ok lw_Ts cX3_firstRow 8 RX3 74 (o_ii 77 6 (1)) := so_ii (by decide +kernel)
theorem t_21_77 : am_ok lw_Ts cX3_firstRow 8 RX3 77 (o_go 16) := so_go (off := (-61)) (by decide +kernel) rfl
theorem t_21_80 : am_ok lw_Ts cX3_firstRow 8 RX3 80 (o_ll 81 2) := so_ll (Or.inl ⟨2, rfl, rfl, rfl⟩) (by decide +kernel)
theorem t_21_81 : am_okr cX3_firstRow 81 3 := (show decode cX3_firstRow 81 = .ok (.lreturn, 1) by decide +kernel)
set_option maxRecDepth 20000 in
theorem ok_21 : am_okL gm_mi gm_mt lw_Ts lw_Ns 21 cd_21 := ⟨t_21_0, t_21_1, t_21_2, t_21_3, t_21_5, t_21_6, t_21_9, t_21_10, t_21_11, t_21_13, t_21_14, t_21_16, t_21_18, t_21_19, t_21_22, t_21_25, t_21_27, t_21_30, t_21_32, t_21_35, t_21_37, t_21_38, t_21_41, t_21_42, t_21_44, t_21_45, t_21_46, t_21_47, t_21_49, t_21_51, t_21_52, t_21_55, t_21_57, t_21_58, t_21_61, t_21_63, t_21_64, t_21_65, t_21_68, t_21_70, t_21_71, t_21_72, t_21_74, t_21_77, t_21_80, t_21_81, trivial⟩
end
section
theorem t_22_0 : am_ok lw_Ts cX3_writeLatest 5 RX3 0 (o_al 1 0) := so_al (Or.inl ⟨0, rfl, rfl, rfl⟩) (by decide +kernel)
theorem t_22_1 : am_ok lw_Ts cX3_writeLatest 5 RX3 1 (o_il 2 1) := so_il (Or.inl ⟨1, rfl, rfl, rfl⟩) (by decide +kernel)
theorem t_22_2 : am_okc gm_mi gm_mt lw_Ts lw_Ns cX3_writeLatest RX3 2 112 1 := ⟨96, cf_112.1, cf_112.2.1, cf_112.2.2.1, cf_112.2.2.2, Or.inl ⟨rfl, (by decide +kernel), wt_369, by decide +kernel, (Or.inl wt_551)⟩⟩
theorem t_22_5 : am_ok lw_Ts cX3_writeLatest 5 RX3 5 (o_pf 8 3 11) := so_pf cl_X3 tyX3_ok nmX3 (by decide) rfl rfl wt_237 (by decide +kernel)
theorem t_22_8 : am_ok lw_Ts cX3_writeLatest 5 RX3 8 (o_al 9 0) := so_al (Or.inl ⟨0, rfl, rfl, rfl⟩) (by decide +kernel)
theorem t_22_9 : am_ok lw_Ts cX3_writeLatest 5 RX3 9 (o_il 10 1) := so_il (Or.inl ⟨1, rfl, rfl, rfl⟩) (by decide +kernel)
theorem t_22_10 : am_okc gm_mi gm_mt lw_Ts lw_Ns cX3_writeLatest RX3 10 21 2 := ⟨101, cf_21.1, cf_21.2.1, cf_21.2.2.1, cf_21.2.2.2, Or.inr ⟨3, 1, TX3, 12, rfl, rfl, rfl, (by decide +kernel), wt_562, wt_19, wt_560, by decide +kernel⟩⟩
theorem t_22_13 : am_ok lw_Ts cX3_writeLatest 5 RX3 13 (o_ls 14 2) := so_ls (Or.inl ⟨2, rfl, rfl, rfl⟩) (by decide +kernel)
theorem t_22_14 : am_ok lw_Ts cX3_writeLatest 5 RX3 14 (o_al 15 0) := so_al (Or.inl ⟨0, rfl, rfl, rfl⟩) (by decide +kernel)
theorem t_22_15 : am_ok lw_Ts cX3_writeLatest 5 RX3 15 (o_gf 18 3 11) := so_gf cl_X3 (by decide) wt_237 (by decide +kernel)
theorem t_22_18 : am_ok lw_Ts cX3_writeLatest 5 RX3 18 (o_k 19 (vI (1))) := so_k (by decide +kernel)
theorem t_22_19 : am_ok lw_Ts cX3_writeLatest 5 RX3 19 (o_ib 20 f_sub) := so_isub (by decide +kernel)
theorem t_22_20 : am_ok lw_Ts cX3_writeLatest 5 RX3 20 (o_is 22 4) := so_is (Or.inr ⟨rfl, rfl⟩) (by decide +kernel)
theorem t_22_22 : am_ok lw_Ts cX3_writeLatest 5 RX3 22 (o_il 24 4) := so_il (Or.inr ⟨rfl, rfl⟩) (by decide +kernel)
theorem t_22_24 : am_ok lw_Ts cX3_writeLatest 5 RX3 24 (o_if 52 27 q_lt) := so_if_lt (off := 28) (by decide +kernel) rfl
theorem t_22_27 : am_ok lw_Ts cX3_writeLatest 5 RX3 27 (o_al 28 0) := so_al (Or.inl ⟨0, rfl, rfl, rfl⟩) (by decide +kernel)
theorem t_22_28 : am_ok lw_Ts cX3_writeLatest 5 RX3 28 (o_gf 31 3 6) := so_gf cl_X3 (by decide) wt_229 (by decide +kernel)
theorem t_22_31 : am_ok lw_Ts cX3_writeLatest 5 RX3 31 (o_il 33 4) := so_il (Or.inr ⟨rfl, rfl⟩) (by decide +kernel)
theorem t_22_33 : am_ok lw_Ts cX3_writeLatest 5 RX3 33 (o_ll 34 2) := so_ll (Or.inl ⟨2, rfl, rfl, rfl⟩) (by decide +kernel)
theorem t_22_34 : am_ok lw_Ts cX3_writeLatest 5 RX3 34 (o_k 37 (vL (10))) := so_ldc2 wt_568 (by decide +kernel)
theorem t_22_37 : am_ok lw_Ts cX3_writeLatest 5 RX3 37 (o_ld 38 f_lrem) := so_lrem (by decide +kernel)
theorem t_22_38 : am_ok lw_Ts cX3_writeLatest 5 RX3 38 (o_l2i 39) := so_l2i (by decide +kernel)
theorem t_22_39 : am_ok lw_Ts cX3_writeLatest 5 RX3 39 (o_iw 40) := so_iw (by decide +kernel)
theorem t_22_40 : am_ok lw_Ts cX3_writeLatest 5 RX3 40 (o_ll 41 2) := so_ll (Or.inl ⟨2, rfl, rfl, rfl⟩) (by decide +kernel)
theorem t_22_41 : am_ok lw_Ts cX3_writeLatest 5 RX3 41 (o_k 44 (vL (10))) := so_ldc2 wt_568 (by decide +kernel)
theorem t_22_44 : am_ok lw_Ts cX3_writeLatest 5 RX3 44 (o_ld 45 f_ldiv) := so_ldiv (by decide +kernel)
theorem t_22_45 : am_ok lw_Ts cX3_writeLatest 5 RX3 45 (o_ls 46 2) := so_ls (Or.inl ⟨2, rfl, rfl, rfl⟩) (by decide +kernel)
theorem t_22_46 : am_ok lw_Ts cX3_writeLatest 5 RX3 46 (o_ii 49 4 (-1)) := so_ii (by decide +kernel)
theorem t_22_49 : am_ok lw_Ts cX3_writeLatest 5 RX3 49 (o_go 22) := so_go (off := (-27)) (by decide +kernel) rfl
theorem t_22_52 : am_okr cX3_writeLatest 52 0 := (show decode cX3_writeLatest 52 = .ok (.return_, 1) by decide +kernel)
set_option maxRecDepth 20000 in
theorem ok_22 : am_okL gm_mi gm_mt lw_Ts lw_Ns 22 cd_22 := ⟨t_22_0, t_22_1, t_22_2, t_22_5, t_22_8, t_22_9, t_22_10, t_22_13, t_22_14, t_22_15, t_22_18, t_22_19, t_22_20, t_22_22, t_22_24, t_22_27, t_22_28, t_22_31, t_22_33, t_22_34, t_22_37, t_22_38, t_22_39, t_22_40, t_22_41, t_22_44, t_22_45, t_22_46, t_22_49, t_22_52, trivial⟩
theorem t_23_0 : am_ok lw_Ts cX4_plan 3 RX4 0 (o_k 1 (vI (0))) := so_k (by decide +kernel)
theorem t_23_1 : am_ok lw_Ts cX4_plan 3 RX4 1 (o_is 2 2) := so_is (Or.inl ⟨2, rfl, rfl, rfl⟩) (by decide +kernel)
theorem t_23_2 : am_ok lw_Ts cX4_plan 3 RX4 2 (o_il 3 2) := so_il (Or.inl ⟨2, rfl, rfl, rfl⟩) (by decide +kernel)
theorem t_23_3 : am_ok lw_Ts cX4_plan 3 RX4 3 (o_al 4 0) := so_al (Or.inl ⟨0, rfl, rfl, rfl⟩) (by decide +kernel)
theorem t_23_4 : am_ok lw_Ts cX4_plan 3 RX4 4 (o_gf 7 4 2) := so_gf cl_X4 (by decide) wt_183 (by decide +kernel)
theorem t_23_7 : am_ok lw_Ts cX4_plan 3 RX4 7 (o_gf 10 5 6) := so_gf cl_X5 (by decide) wt_154 (by decide +kernel)
theorem t_23_10 : am_ok lw_Ts cX4_plan 3 RX4 10 (o_ic 25 13 r_ge) := so_ic_ge (off := 15) (by decide +kernel) rfl
theorem t_23_13 : am_ok lw_Ts cX4_plan 3 RX4 13 (o_al 14 0) := so_al (Or.inl ⟨0, rfl, rfl, rfl⟩) (by decide +kernel)
theorem t_23_14 : am_ok lw_Ts cX4_plan 3 RX4 14 (o_il 15 2) := so_il (Or.inl ⟨2, rfl, rfl, rfl⟩) (by decide +kernel)
theorem t_23_15 : am_ok lw_Ts cX4_plan 3 RX4 15 (o_il 16 1) := so_il (Or.inl ⟨1, rfl, rfl, rfl⟩) (by decide +kernel)
theorem t_23_16 : am_okc gm_mi gm_mt lw_Ts lw_Ns cX4_plan RX4 16 24 3 := ⟨61, cf_24.1, cf_24.2.1, cf_24.2.2.1, cf_24.2.2.2, Or.inr ⟨4, 2, TX4, 11, rfl, rfl, rfl, (by decide +kernel), wt_453, wt_5, wt_451, by decide +kernel⟩⟩
theorem t_23_19 : am_ok lw_Ts cX4_plan 3 RX4 19 (o_ii 22 2 (1)) := so_ii (by decide +kernel)
theorem t_23_22 : am_ok lw_Ts cX4_plan 3 RX4 22 (o_go 2) := so_go (off := (-20)) (by decide +kernel) rfl
theorem t_23_25 : am_ok lw_Ts cX4_plan 3 RX4 25 (o_k 26 (vI (0))) := so_k (by decide +kernel)
theorem t_23_26 : am_ok lw_Ts cX4_plan 3 RX4 26 (o_is 27 2) := so_is (Or.inl ⟨2, rfl, rfl, rfl⟩) (by decide +kernel)
theorem t_23_27 : am_ok lw_Ts cX4_plan 3 RX4 27 (o_il 28 2) := so_il (Or.inl ⟨2, rfl, rfl, rfl⟩) (by decide +kernel)
theorem t_23_28 : am_ok lw_Ts cX4_plan 3 RX4 28 (o_al 29 0) := so_al (Or.inl ⟨0, rfl, rfl, rfl⟩) (by decide +kernel)
theorem t_23_29 : am_ok lw_Ts cX4_plan 3 RX4 29 (o_gf 32 4 2) := so_gf cl_X4 (by decide) wt_183 (by decide +kernel)
theorem t_23_32 : am_ok lw_Ts cX4_plan 3 RX4 32 (o_gf 35 5 5) := so_gf cl_X5 (by decide) wt_153 (by decide +kernel)
theorem t_23_35 : am_ok lw_Ts cX4_plan 3 RX4 35 (o_ic 49 38 r_ge) := so_ic_ge (off := 14) (by decide +kernel) rfl
theorem t_23_38 : am_ok lw_Ts cX4_plan 3 RX4 38 (o_al 39 0) := so_al (Or.inl ⟨0, rfl, rfl, rfl⟩) (by decide +kernel)
theorem t_23_39 : am_ok lw_Ts cX4_plan 3 RX4 39 (o_il 40 2) := so_il (Or.inl ⟨2, rfl, rfl, rfl⟩) (by decide +kernel)
theorem t_23_40 : am_okc gm_mi gm_mt lw_Ts lw_Ns cX4_plan RX4 40 25 2 := ⟨68, cf_25.1, cf_25.2.1, cf_25.2.2.1, cf_25.2.2.2, Or.inr ⟨4, 1, TX4, 11, rfl, rfl, rfl, (by decide +kernel), wt_460, wt_6, wt_458, by decide +kernel⟩⟩
theorem t_23_43 : am_ok lw_Ts cX4_plan 3 RX4 43 (o_ii 46 2 (1)) := so_ii (by decide +kernel)
theorem t_23_46 : am_ok lw_Ts cX4_plan 3 RX4 46 (o_go 27) := so_go (off := (-19)) (by decide +kernel) rfl
theorem t_23_49 : am_ok lw_Ts cX4_plan 3 RX4 49 (o_al 50 0) := so_al (Or.inl ⟨0, rfl, rfl, rfl⟩) (by decide +kernel)
theorem t_23_50 : am_okc gm_mi gm_mt lw_Ts lw_Ns cX4_plan RX4 50 26 1 := ⟨72, cf_26.1, cf_26.2.1, cf_26.2.2.1, cf_26.2.2.2, Or.inr ⟨4, 0, TX4, 11, rfl, rfl, rfl, (by decide +kernel), wt_465, wt_7, wt_463, by decide +kernel⟩⟩
theorem t_23_53 : am_ok lw_Ts cX4_plan 3 RX4 53 (o_al 54 0) := so_al (Or.inl ⟨0, rfl, rfl, rfl⟩) (by decide +kernel)
theorem t_23_54 : am_okc gm_mi gm_mt lw_Ts lw_Ns cX4_plan RX4 54 27 1 := ⟨75, cf_27.1, cf_27.2.1, cf_27.2.2.1, cf_27.2.2.2, Or.inr ⟨4, 0, TX4, 11, rfl, rfl, rfl, (by decide +kernel), wt_470, wt_8, wt_468, by decide +kernel⟩⟩
theorem t_23_57 : am_ok lw_Ts cX4_plan 3 RX4 57 (o_al 58 0) := so_al (Or.inl ⟨0, rfl, rfl, rfl⟩) (by decide +kernel)
theorem t_23_58 : am_ok lw_Ts cX4_plan 3 RX4 58 (o_gf 61 4 9) := so_gf cl_X4 (by decide) wt_190 (by decide +kernel)
theorem t_23_61 : am_ok lw_Ts cX4_plan 3 RX4 61 (o_k 62 (vL (0))) := so_lk (n := 0) rfl (by decide +kernel)
theorem t_23_62 : am_okc gm_mi gm_mt lw_Ts lw_Ns cX4_plan RX4 62 117 2 := ⟨78, cf_117.1, cf_117.2.1, cf_117.2.2.1, cf_117.2.2.2, Or.inl ⟨rfl, (by decide +kernel), wt_474, by decide +kernel, (Or.inl wt_473)⟩⟩
theorem t_23_65 : am_ok lw_Ts cX4_plan 3 RX4 65 (o_al 66 0) := so_al (Or.inl ⟨0, rfl, rfl, rfl⟩) (by decide +kernel)
theorem t_23_66 : am_ok lw_Ts cX4_plan 3 RX4 66 (o_gf 69 4 2) := so_gf cl_X4 (by decide) wt_183 (by decide +kernel)
theorem t_23_69 : am_ok lw_Ts cX4_plan 3 RX4 69 (o_gf 72 5 4) := so_gf cl_X5 (by decide) wt_151 (by decide +kernel)
theorem t_23_72 : am_ok lw_Ts cX4_plan 3 RX4 72 (o_k 73 (vI (1))) := so_k (by decide +kernel)
theorem t_23_73 : am_ok lw_Ts cX4_plan 3 RX4 73 (o_ib 74 f_sub) := so_isub (by decide +kernel)
theorem t_23_74 : am_ok lw_Ts cX4_plan 3 RX4 74 (o_is 75 2) := so_is (Or.inl ⟨2, rfl, rfl, rfl⟩) (by decide +kernel)
theorem t_23_75 : am_ok lw_Ts cX4_plan 3 RX4 75 (o_il 76 2) := so_il (Or.inl ⟨2, rfl, rfl, rfl⟩) (by decide +kernel)
theorem t_23_76 : am_ok lw_Ts cX4_plan 3 RX4 76 (o_if 134 79 q_lt) := so_if_lt (off := 58) (by decide +kernel) rfl
theorem t_23_79 : am_ok lw_Ts cX4_plan 3 RX4 79 (o_al 80 0) := so_al (Or.inl ⟨0, rfl, rfl, rfl⟩) (by decide +kernel)
theorem t_23_80 : am_ok lw_Ts cX4_plan 3 RX4 80 (o_gf 83 4 8) := so_gf cl_X4 (by decide) wt_189 (by decide +kernel)
theorem t_23_83 : am_ok lw_Ts cX4_plan 3 RX4 83 (o_k 86 (vL (-9223372036854775808))) := so_ldc2 wt_476 (by decide +kernel)
theorem t_23_86 : am_okc gm_mi gm_mt lw_Ts lw_Ns cX4_plan RX4 86 117 2 := ⟨78, cf_117.1, cf_117.2.1, cf_117.2.2.1, cf_117.2.2.2, Or.inl ⟨rfl, (by decide +kernel), wt_474, by decide +kernel, (Or.inl wt_473)⟩⟩
theorem t_23_89 : am_ok lw_Ts cX4_plan 3 RX4 89 (o_al 90 0) := so_al (Or.inl ⟨0, rfl, rfl, rfl⟩) (by decide +kernel)
theorem t_23_90 : am_ok lw_Ts cX4_plan 3 RX4 90 (o_il 91 2) := so_il (Or.inl ⟨2, rfl, rfl, rfl⟩) (by decide +kernel)
theorem t_23_91 : am_ok lw_Ts cX4_plan 3 RX4 91 (o_al 92 0) := so_al (Or.inl ⟨0, rfl, rfl, rfl⟩) (by decide +kernel)
theorem t_23_92 : am_ok lw_Ts cX4_plan 3 RX4 92 (o_gf 95 4 2) := so_gf cl_X4 (by decide) wt_183 (by decide +kernel)
theorem t_23_95 : am_ok lw_Ts cX4_plan 3 RX4 95 (o_gf 98 5 5) := so_gf cl_X5 (by decide) wt_153 (by decide +kernel)
theorem t_23_98 : am_ok lw_Ts cX4_plan 3 RX4 98 (o_ib 99 f_mul) := so_imul (by decide +kernel)
theorem t_23_99 : am_ok lw_Ts cX4_plan 3 RX4 99 (o_pf 102 4 10) := so_pf cl_X4 tyX4_ok nmX4 (by decide) rfl rfl wt_191 (by decide +kernel)
theorem t_23_102 : am_ok lw_Ts cX4_plan 3 RX4 102 (o_al 103 0) := so_al (Or.inl ⟨0, rfl, rfl, rfl⟩) (by decide +kernel)
theorem t_23_103 : am_ok lw_Ts cX4_plan 3 RX4 103 (o_k 104 (vI (0))) := so_k (by decide +kernel)
theorem t_23_104 : am_ok lw_Ts cX4_plan 3 RX4 104 (o_k 105 (vI (0))) := so_k (by decide +kernel)
theorem t_23_105 : am_ok lw_Ts cX4_plan 3 RX4 105 (o_k 106 (vI (1))) := so_k (by decide +kernel)
theorem t_23_106 : am_ok lw_Ts cX4_plan 3 RX4 106 (o_al 107 0) := so_al (Or.inl ⟨0, rfl, rfl, rfl⟩) (by decide +kernel)
theorem t_23_107 : am_ok lw_Ts cX4_plan 3 RX4 107 (o_gf 110 4 1) := so_gf cl_X4 (by decide) wt_182 (by decide +kernel)
theorem t_23_110 : am_ok lw_Ts cX4_plan 3 RX4 110 (o_gf 113 0 4) := so_gf cl_X0 (by decide) wt_117 (by decide +kernel)
theorem t_23_113 : am_ok lw_Ts cX4_plan 3 RX4 113 (o_ib 114 f_shl) := so_ishl (by decide +kernel)
theorem t_23_114 : am_ok lw_Ts cX4_plan 3 RX4 114 (o_k 115 (vI (1))) := so_k (by decide +kernel)
theorem t_23_115 : am_ok lw_Ts cX4_plan 3 RX4 115 (o_ib 116 f_sub) := so_isub (by decide +kernel)
theorem t_23_116 : am_ok lw_Ts cX4_plan 3 RX4 116 (o_k 118 (vI (63))) := so_bp rfl (by decide +kernel)
theorem t_23_118 : am_ok lw_Ts cX4_plan 3 RX4 118 (o_k 120 (vI (63))) := so_bp rfl (by decide +kernel)
theorem t_23_120 : am_ok lw_Ts cX4_plan 3 RX4 120 (o_k 121 (vL (0))) := so_lk (n := 0) rfl (by decide +kernel)
theorem t_23_121 : am_okc gm_mi gm_mt lw_Ts lw_Ns cX4_plan RX4 121 28 7 := ⟨94, cf_28.1, cf_28.2.1, cf_28.2.2.1, cf_28.2.2.2, Or.inr ⟨4, 6, TX4, 11, rfl, rfl, rfl, (by decide +kernel), wt_479, wt_9, wt_477, by decide +kernel⟩⟩
theorem t_23_124 : am_ok lw_Ts cX4_plan 3 RX4 124 (o_al 125 0) := so_al (Or.inl ⟨0, rfl, rfl, rfl⟩) (by decide +kernel)
theorem t_23_125 : am_okc gm_mi gm_mt lw_Ts lw_Ns cX4_plan RX4 125 30 1 := ⟨98, cf_30.1, cf_30.2.1, cf_30.2.2.1, cf_30.2.2.2, Or.inr ⟨4, 0, TX4, 11, rfl, rfl, rfl, (by decide +kernel), wt_490, wt_11, wt_488, by decide +kernel⟩⟩
theorem t_23_128 : am_ok lw_Ts cX4_plan 3 RX4 128 (o_ii 131 2 (-1)) := so_ii (by decide +kernel)
theorem t_23_131 : am_ok lw_Ts cX4_plan 3 RX4 131 (o_go 75) := so_go (off := (-56)) (by decide +kernel) rfl
theorem t_23_134 : am_ok lw_Ts cX4_plan 3 RX4 134 (o_al 135 0) := so_al (Or.inl ⟨0, rfl, rfl, rfl⟩) (by decide +kernel)
theorem t_23_135 : am_ok lw_Ts cX4_plan 3 RX4 135 (o_al 136 0) := so_al (Or.inl ⟨0, rfl, rfl, rfl⟩) (by decide +kernel)
theorem t_23_136 : am_ok lw_Ts cX4_plan 3 RX4 136 (o_gf 139 4 9) := so_gf cl_X4 (by decide) wt_190 (by decide +kernel)
theorem t_23_139 : am_ok lw_Ts cX4_plan 3 RX4 139 (o_k 140 (vI (0))) := so_k (by decide +kernel)
theorem t_23_140 : am_ok lw_Ts cX4_plan 3 RX4 140 (o_la 141) := so_la (by decide +kernel)
theorem t_23_141 : am_okc gm_mi gm_mt lw_Ts lw_Ns cX4_plan RX4 141 31 2 := ⟨101, cf_31.1, cf_31.2.1, cf_31.2.2.1, cf_31.2.2.2, Or.inr ⟨4, 1, TX4, 11, rfl, rfl, rfl, (by decide +kernel), wt_494, wt_12, wt_492, by decide +kernel⟩⟩
theorem t_23_144 : am_okr cX4_plan 144 1 := (show decode cX4_plan 144 = .ok (.ireturn, 1) by decide +kernel)
set_option maxRecDepth 20000 in
theorem ok_23 : am_okL gm_mi gm_mt lw_Ts lw_Ns 23 cd_23 := ⟨t_23_0, t_23_1, t_23_2, t_23_3, t_23_4, t_23_7, t_23_10, t_23_13, t_23_14, t_23_15, t_23_16, t_23_19, t_23_22, t_23_25, t_23_26, t_23_27, t_23_28, t_23_29, t_23_32, t_23_35, t_23_38, t_23_39, t_23_40, t_23_43, t_23_46, t_23_49, t_23_50, t_23_53, t_23_54, t_23_57, t_23_58, t_23_61, t_23_62, t_23_65, t_23_66, t_23_69, t_23_72, t_23_73, t_23_74, t_23_75, t_23_76, t_23_79, t_23_80, t_23_83, t_23_86, t_23_89, t_23_90, t_23_91, t_23_92, t_23_95, t_23_98, t_23_99, t_23_102, t_23_103, t_23_104, t_23_105, t_23_106, t_23_107, t_23_110, t_23_113, t_23_114, t_23_115, t_23_116, t_23_118, t_23_120, t_23_121, t_23_124, t_23_125, t_23_128, t_23_131, t_23_134, t_23_135, t_23_136, t_23_139, t_23_140, t_23_141, t_23_144, trivial⟩
theorem t_24_0 : am_ok lw_Ts cX4_weighOptions 6 RX4 0 (o_k 1 (vI (0))) := so_k (by decide +kernel)
theorem t_24_1 : am_ok lw_Ts cX4_weighOptions 6 RX4 1 (o_is 2 3) := so_is (Or.inl ⟨3, rfl, rfl, rfl⟩) (by decide +kernel)
theorem t_24_2 : am_ok lw_Ts cX4_weighOptions 6 RX4 2 (o_il 3 3) := so_il (Or.inl ⟨3, rfl, rfl, rfl⟩) (by decide +kernel)
theorem t_24_3 : am_ok lw_Ts cX4_weighOptions 6 RX4 3 (o_k 5 (vI (37))) := so_bp rfl (by decide +kernel)
theorem t_24_5 : am_ok lw_Ts cX4_weighOptions 6 RX4 5 (o_ic 86 8 r_ge) := so_ic_ge (off := 81) (by decide +kernel) rfl
theorem t_24_8 : am_ok lw_Ts cX4_weighOptions 6 RX4 8 (o_k 9 (vL (0))) := so_lk (n := 0) rfl (by decide +kernel)
theorem t_24_9 : am_ok lw_Ts cX4_weighOptions 6 RX4 9 (o_ls 11 4) := so_ls (Or.inr ⟨rfl, rfl⟩) (by decide +kernel)
theorem t_24_11 : am_ok lw_Ts cX4_weighOptions 6 RX4 11 (o_il 12 3) := so_il (Or.inl ⟨3, rfl, rfl, rfl⟩) (by decide +kernel)
theorem t_24_12 : am_ok lw_Ts cX4_weighOptions 6 RX4 12 (o_k 14 (vI (36))) := so_bp rfl (by decide +kernel)
theorem t_24_14 : am_ok lw_Ts cX4_weighOptions 6 RX4 14 (o_ic 37 17 r_eq) := so_ic_eq (off := 23) (by decide +kernel) rfl
theorem t_24_17 : am_ok lw_Ts cX4_weighOptions 6 RX4 17 (o_al 18 0) := so_al (Or.inl ⟨0, rfl, rfl, rfl⟩) (by decide +kernel)
theorem t_24_18 : am_ok lw_Ts cX4_weighOptions 6 RX4 18 (o_gf 21 4 1) := so_gf cl_X4 (by decide) wt_182 (by decide +kernel)
theorem t_24_21 : am_ok lw_Ts cX4_weighOptions 6 RX4 21 (o_gf 24 0 2) := so_gf cl_X0 (by decide) wt_109 (by decide +kernel)
theorem t_24_24 : am_ok lw_Ts cX4_weighOptions 6 RX4 24 (o_il 25 3) := so_il (Or.inl ⟨3, rfl, rfl, rfl⟩) (by decide +kernel)
theorem t_24_25 : am_ok lw_Ts cX4_weighOptions 6 RX4 25 (o_k 27 (vI (6))) := so_bp rfl (by decide +kernel)
theorem t_24_27 : am_ok lw_Ts cX4_weighOptions 6 RX4 27 (o_id 28 f_div) := so_idiv (by decide +kernel)
theorem t_24_28 : am_ok lw_Ts cX4_weighOptions 6 RX4 28 (o_aa 29) := so_aa (by decide +kernel)
theorem t_24_29 : am_ok lw_Ts cX4_weighOptions 6 RX4 29 (o_il 30 3) := so_il (Or.inl ⟨3, rfl, rfl, rfl⟩) (by decide +kernel)
theorem t_24_30 : am_ok lw_Ts cX4_weighOptions 6 RX4 30 (o_k 32 (vI (6))) := so_bp rfl (by decide +kernel)
theorem t_24_32 : am_ok lw_Ts cX4_weighOptions 6 RX4 32 (o_id 33 f_rem) := so_irem (by decide +kernel)
theorem t_24_33 : am_ok lw_Ts cX4_weighOptions 6 RX4 33 (o_ia 34) := so_ia (by decide +kernel)
theorem t_24_34 : am_ok lw_Ts cX4_weighOptions 6 RX4 34 (o_i2l 35) := so_i2l (by decide +kernel)
theorem t_24_35 : am_ok lw_Ts cX4_weighOptions 6 RX4 35 (o_ls 37 4) := so_ls (Or.inr ⟨rfl, rfl⟩) (by decide +kernel)
theorem t_24_37 : am_ok lw_Ts cX4_weighOptions 6 RX4 37 (o_il 38 3) := so_il (Or.inl ⟨3, rfl, rfl, rfl⟩) (by decide +kernel)
theorem t_24_38 : am_ok lw_Ts cX4_weighOptions 6 RX4 38 (o_al 39 0) := so_al (Or.inl ⟨0, rfl, rfl, rfl⟩) (by decide +kernel)
theorem t_24_39 : am_ok lw_Ts cX4_weighOptions 6 RX4 39 (o_gf 42 4 2) := so_gf cl_X4 (by decide) wt_183 (by decide +kernel)
theorem t_24_42 : am_ok lw_Ts cX4_weighOptions 6 RX4 42 (o_gf 45 5 2) := so_gf cl_X5 (by decide) wt_147 (by decide +kernel)
theorem t_24_45 : am_ok lw_Ts cX4_weighOptions 6 RX4 45 (o_il 46 1) := so_il (Or.inl ⟨1, rfl, rfl, rfl⟩) (by decide +kernel)
theorem t_24_46 : am_ok lw_Ts cX4_weighOptions 6 RX4 46 (o_ia 47) := so_ia (by decide +kernel)
theorem t_24_47 : am_ok lw_Ts cX4_weighOptions 6 RX4 47 (o_ic 57 50 r_eq) := so_ic_eq (off := 10) (by decide +kernel) rfl
theorem t_24_50 : am_ok lw_Ts cX4_weighOptions 6 RX4 50 (o_ll 52 4) := so_ll (Or.inr ⟨rfl, rfl⟩) (by decide +kernel)
theorem t_24_52 : am_ok lw_Ts cX4_weighOptions 6 RX4 52 (o_il 53 2) := so_il (Or.inl ⟨2, rfl, rfl, rfl⟩) (by decide +kernel)
theorem t_24_53 : am_ok lw_Ts cX4_weighOptions 6 RX4 53 (o_i2l 54) := so_i2l (by decide +kernel)
theorem t_24_54 : am_ok lw_Ts cX4_weighOptions 6 RX4 54 (o_lb 55 f_sub) := so_lsub (by decide +kernel)
theorem t_24_55 : am_ok lw_Ts cX4_weighOptions 6 RX4 55 (o_ls 57 4) := so_ls (Or.inr ⟨rfl, rfl⟩) (by decide +kernel)
theorem t_24_57 : am_ok lw_Ts cX4_weighOptions 6 RX4 57 (o_al 58 0) := so_al (Or.inl ⟨0, rfl, rfl, rfl⟩) (by decide +kernel)
theorem t_24_58 : am_ok lw_Ts cX4_weighOptions 6 RX4 58 (o_gf 61 4 3) := so_gf cl_X4 (by decide) wt_184 (by decide +kernel)
theorem t_24_61 : am_ok lw_Ts cX4_weighOptions 6 RX4 61 (o_il 62 1) := so_il (Or.inl ⟨1, rfl, rfl, rfl⟩) (by decide +kernel)
theorem t_24_62 : am_ok lw_Ts cX4_weighOptions 6 RX4 62 (o_aa 63) := so_aa (by decide +kernel)
theorem t_24_63 : am_ok lw_Ts cX4_weighOptions 6 RX4 63 (o_il 64 3) := so_il (Or.inl ⟨3, rfl, rfl, rfl⟩) (by decide +kernel)
theorem t_24_64 : am_ok lw_Ts cX4_weighOptions 6 RX4 64 (o_ll 66 4) := so_ll (Or.inr ⟨rfl, rfl⟩) (by decide +kernel)
theorem t_24_66 : am_ok lw_Ts cX4_weighOptions 6 RX4 66 (o_k 69 (vL (2565726409))) := so_ldc2 wt_455 (by decide +kernel)
theorem t_24_69 : am_ok lw_Ts cX4_weighOptions 6 RX4 69 (o_lb 70 f_mul) := so_lmul (by decide +kernel)
theorem t_24_70 : am_ok lw_Ts cX4_weighOptions 6 RX4 70 (o_il 71 3) := so_il (Or.inl ⟨3, rfl, rfl, rfl⟩) (by decide +kernel)
theorem t_24_71 : am_ok lw_Ts cX4_weighOptions 6 RX4 71 (o_i2l 72) := so_i2l (by decide +kernel)
theorem t_24_72 : am_ok lw_Ts cX4_weighOptions 6 RX4 72 (o_k 75 (vR 1000)) := so_gs wt_456 (by decide +kernel)
theorem t_24_75 : am_ok lw_Ts cX4_weighOptions 6 RX4 75 (o_il 76 1) := so_il (Or.inl ⟨1, rfl, rfl, rfl⟩) (by decide +kernel)
theorem t_24_76 : am_ok lw_Ts cX4_weighOptions 6 RX4 76 (o_la 77) := so_la (by decide +kernel)
theorem t_24_77 : am_ok lw_Ts cX4_weighOptions 6 RX4 77 (o_lb 78 f_mul) := so_lmul (by decide +kernel)
theorem t_24_78 : am_ok lw_Ts cX4_weighOptions 6 RX4 78 (o_lb 79 f_sub) := so_lsub (by decide +kernel)
theorem t_24_79 : am_ok lw_Ts cX4_weighOptions 6 RX4 79 (o_lw 80) := so_lw (by decide +kernel)
theorem t_24_80 : am_ok lw_Ts cX4_weighOptions 6 RX4 80 (o_ii 83 3 (1)) := so_ii (by decide +kernel)
theorem t_24_83 : am_ok lw_Ts cX4_weighOptions 6 RX4 83 (o_go 2) := so_go (off := (-81)) (by decide +kernel) rfl
theorem t_24_86 : am_okr cX4_weighOptions 86 0 := (show decode cX4_weighOptions 86 = .ok (.return_, 1) by decide +kernel)
set_option maxRecDepth 20000 in
theorem ok_24 : am_okL gm_mi gm_mt lw_Ts lw_Ns 24 cd_24 := ⟨t_24_0, t_24_1, t_24_2, t_24_3, t_24_5, t_24_8, t_24_9, t_24_11, t_24_12, t_24_14, t_24_17, t_24_18, t_24_21, t_24_24, t_24_25, t_24_27, t_24_28, t_24_29, t_24_30, t_24_32, t_24_33, t_24_34, t_24_35, t_24_37, t_24_38, t_24_39, t_24_42, t_24_45, t_24_46, t_24_47, t_24_50, t_24_52, t_24_53, t_24_54, t_24_55, t_24_57, t_24_58, t_24_61, t_24_62, t_24_63, t_24_64, t_24_66, t_24_69, t_24_70, t_24_71, t_24_72, t_24_75, t_24_76, t_24_77, t_24_78, t_24_79, t_24_80, t_24_83, t_24_86, trivial⟩
theorem t_25_0 : am_ok lw_Ts cX4_listChoices 6 RX4 0 (o_k 1 (vI (0))) := so_k (by decide +kernel)
theorem t_25_1 : am_ok lw_Ts cX4_listChoices 6 RX4 1 (o_is 2 2) := so_is (Or.inl ⟨2, rfl, rfl, rfl⟩) (by decide +kernel)
theorem t_25_2 : am_ok lw_Ts cX4_listChoices 6 RX4 2 (o_k 3 (vI (0))) := so_k (by decide +kernel)
theorem t_25_3 : am_ok lw_Ts cX4_listChoices 6 RX4 3 (o_is 4 3) := so_is (Or.inl ⟨3, rfl, rfl, rfl⟩) (by decide +kernel)
theorem t_25_4 : am_ok lw_Ts cX4_listChoices 6 RX4 4 (o_il 5 3) := so_il (Or.inl ⟨3, rfl, rfl, rfl⟩) (by decide +kernel)
theorem t_25_5 : am_ok lw_Ts cX4_listChoices 6 RX4 5 (o_k 7 (vI (36))) := so_bp rfl (by decide +kernel)
theorem t_25_7 : am_ok lw_Ts cX4_listChoices 6 RX4 7 (o_ic 88 10 r_ge) := so_ic_ge (off := 81) (by decide +kernel) rfl
theorem t_25_10 : am_ok lw_Ts cX4_listChoices 6 RX4 10 (o_il 11 3) := so_il (Or.inl ⟨3, rfl, rfl, rfl⟩) (by decide +kernel)
theorem t_25_11 : am_ok lw_Ts cX4_listChoices 6 RX4 11 (o_k 13 (vI (6))) := so_bp rfl (by decide +kernel)
theorem t_25_13 : am_ok lw_Ts cX4_listChoices 6 RX4 13 (o_id 14 f_div) := so_idiv (by decide +kernel)
theorem t_25_14 : am_ok lw_Ts cX4_listChoices 6 RX4 14 (o_is 16 4) := so_is (Or.inr ⟨rfl, rfl⟩) (by decide +kernel)
theorem t_25_16 : am_ok lw_Ts cX4_listChoices 6 RX4 16 (o_il 17 3) := so_il (Or.inl ⟨3, rfl, rfl, rfl⟩) (by decide +kernel)
theorem t_25_17 : am_ok lw_Ts cX4_listChoices 6 RX4 17 (o_k 19 (vI (6))) := so_bp rfl (by decide +kernel)
theorem t_25_19 : am_ok lw_Ts cX4_listChoices 6 RX4 19 (o_id 20 f_rem) := so_irem (by decide +kernel)
theorem t_25_20 : am_ok lw_Ts cX4_listChoices 6 RX4 20 (o_is 22 5) := so_is (Or.inr ⟨rfl, rfl⟩) (by decide +kernel)
theorem t_25_22 : am_ok lw_Ts cX4_listChoices 6 RX4 22 (o_al 23 0) := so_al (Or.inl ⟨0, rfl, rfl, rfl⟩) (by decide +kernel)
theorem t_25_23 : am_ok lw_Ts cX4_listChoices 6 RX4 23 (o_gf 26 4 1) := so_gf cl_X4 (by decide) wt_182 (by decide +kernel)
theorem t_25_26 : am_ok lw_Ts cX4_listChoices 6 RX4 26 (o_gf 29 0 2) := so_gf cl_X0 (by decide) wt_109 (by decide +kernel)
theorem t_25_29 : am_ok lw_Ts cX4_listChoices 6 RX4 29 (o_il 31 4) := so_il (Or.inr ⟨rfl, rfl⟩) (by decide +kernel)
theorem t_25_31 : am_ok lw_Ts cX4_listChoices 6 RX4 31 (o_aa 32) := so_aa (by decide +kernel)
theorem t_25_32 : am_ok lw_Ts cX4_listChoices 6 RX4 32 (o_il 34 5) := so_il (Or.inr ⟨rfl, rfl⟩) (by decide +kernel)
theorem t_25_34 : am_ok lw_Ts cX4_listChoices 6 RX4 34 (o_ia 35) := so_ia (by decide +kernel)
theorem t_25_35 : am_ok lw_Ts cX4_listChoices 6 RX4 35 (o_if 82 38 q_le) := so_if_le (off := 47) (by decide +kernel) rfl
theorem t_25_38 : am_ok lw_Ts cX4_listChoices 6 RX4 38 (o_al 39 0) := so_al (Or.inl ⟨0, rfl, rfl, rfl⟩) (by decide +kernel)
theorem t_25_39 : am_ok lw_Ts cX4_listChoices 6 RX4 39 (o_gf 42 4 1) := so_gf cl_X4 (by decide) wt_182 (by decide +kernel)
theorem t_25_42 : am_ok lw_Ts cX4_listChoices 6 RX4 42 (o_gf 45 0 3) := so_gf cl_X0 (by decide) wt_113 (by decide +kernel)
theorem t_25_45 : am_ok lw_Ts cX4_listChoices 6 RX4 45 (o_il 47 4) := so_il (Or.inr ⟨rfl, rfl⟩) (by decide +kernel)
theorem t_25_47 : am_okc gm_mi gm_mt lw_Ts lw_Ns cX4_listChoices RX4 47 67 2 := ⟨119, cf_67.1, cf_67.2.1, cf_67.2.2.1, cf_67.2.2.2, Or.inl ⟨rfl, (by decide +kernel), wt_420, by decide +kernel, (Or.inr ⟨"SeasonOfHours", by decide +kernel⟩)⟩⟩
theorem t_25_50 : am_ok lw_Ts cX4_listChoices 6 RX4 50 (o_if 82 53 q_ne) := so_if_ne (off := 32) (by decide +kernel) rfl
theorem t_25_53 : am_ok lw_Ts cX4_listChoices 6 RX4 53 (o_al 54 0) := so_al (Or.inl ⟨0, rfl, rfl, rfl⟩) (by decide +kernel)
theorem t_25_54 : am_ok lw_Ts cX4_listChoices 6 RX4 54 (o_gf 57 4 0) := so_gf cl_X4 (by decide) wt_181 (by decide +kernel)
theorem t_25_57 : am_ok lw_Ts cX4_listChoices 6 RX4 57 (o_gf 60 2 1) := so_gf cl_X2 (by decide) wt_75 (by decide +kernel)
theorem t_25_60 : am_ok lw_Ts cX4_listChoices 6 RX4 60 (o_il 62 5) := so_il (Or.inr ⟨rfl, rfl⟩) (by decide +kernel)
theorem t_25_62 : am_ok lw_Ts cX4_listChoices 6 RX4 62 (o_ia 63) := so_ia (by decide +kernel)
theorem t_25_63 : am_ok lw_Ts cX4_listChoices 6 RX4 63 (o_il 64 1) := so_il (Or.inl ⟨1, rfl, rfl, rfl⟩) (by decide +kernel)
theorem t_25_64 : am_okc gm_mi gm_mt lw_Ts lw_Ns cX4_listChoices RX4 64 67 2 := ⟨119, cf_67.1, cf_67.2.1, cf_67.2.2.1, cf_67.2.2.2, Or.inl ⟨rfl, (by decide +kernel), wt_420, by decide +kernel, (Or.inr ⟨"SeasonOfHours", by decide +kernel⟩)⟩⟩
theorem t_25_67 : am_ok lw_Ts cX4_listChoices 6 RX4 67 (o_if 82 70 q_eq) := so_if_eq (off := 15) (by decide +kernel) rfl
theorem t_25_70 : am_ok lw_Ts cX4_listChoices 6 RX4 70 (o_al 71 0) := so_al (Or.inl ⟨0, rfl, rfl, rfl⟩) (by decide +kernel)
theorem t_25_71 : am_ok lw_Ts cX4_listChoices 6 RX4 71 (o_gf 74 4 4) := so_gf cl_X4 (by decide) wt_185 (by decide +kernel)
theorem t_25_74 : am_ok lw_Ts cX4_listChoices 6 RX4 74 (o_il 75 1) := so_il (Or.inl ⟨1, rfl, rfl, rfl⟩) (by decide +kernel)
theorem t_25_75 : am_ok lw_Ts cX4_listChoices 6 RX4 75 (o_aa 76) := so_aa (by decide +kernel)
theorem t_25_76 : am_ok lw_Ts cX4_listChoices 6 RX4 76 (o_il 77 2) := so_il (Or.inl ⟨2, rfl, rfl, rfl⟩) (by decide +kernel)
theorem t_25_77 : am_ok lw_Ts cX4_listChoices 6 RX4 77 (o_il 78 3) := so_il (Or.inl ⟨3, rfl, rfl, rfl⟩) (by decide +kernel)
theorem t_25_78 : am_ok lw_Ts cX4_listChoices 6 RX4 78 (o_iw 79) := so_iw (by decide +kernel)
theorem t_25_79 : am_ok lw_Ts cX4_listChoices 6 RX4 79 (o_ii 82 2 (1)) := so_ii (by decide +kernel)
theorem t_25_82 : am_ok lw_Ts cX4_listChoices 6 RX4 82 (o_ii 85 3 (1)) := so_ii (by decide +kernel)
theorem t_25_85 : am_ok lw_Ts cX4_listChoices 6 RX4 85 (o_go 4) := so_go (off := (-81)) (by decide +kernel) rfl
theorem t_25_88 : am_ok lw_Ts cX4_listChoices 6 RX4 88 (o_al 89 0) := so_al (Or.inl ⟨0, rfl, rfl, rfl⟩) (by decide +kernel)
theorem t_25_89 : am_ok lw_Ts cX4_listChoices 6 RX4 89 (o_gf 92 4 5) := so_gf cl_X4 (by decide) wt_186 (by decide +kernel)
theorem t_25_92 : am_ok lw_Ts cX4_listChoices 6 RX4 92 (o_il 93 1) := so_il (Or.inl ⟨1, rfl, rfl, rfl⟩) (by decide +kernel)
theorem t_25_93 : am_ok lw_Ts cX4_listChoices 6 RX4 93 (o_il 94 2) := so_il (Or.inl ⟨2, rfl, rfl, rfl⟩) (by decide +kernel)
theorem t_25_94 : am_ok lw_Ts cX4_listChoices 6 RX4 94 (o_iw 95) := so_iw (by decide +kernel)
theorem t_25_95 : am_okr cX4_listChoices 95 0 := (show decode cX4_listChoices 95 = .ok (.return_, 1) by decide +kernel)
set_option maxRecDepth 20000 in
theorem ok_25 : am_okL gm_mi gm_mt lw_Ts lw_Ns 25 cd_25 := ⟨t_25_0, t_25_1, t_25_2, t_25_3, t_25_4, t_25_5, t_25_7, t_25_10, t_25_11, t_25_13, t_25_14, t_25_16, t_25_17, t_25_19, t_25_20, t_25_22, t_25_23, t_25_26, t_25_29, t_25_31, t_25_32, t_25_34, t_25_35, t_25_38, t_25_39, t_25_42, t_25_45, t_25_47, t_25_50, t_25_53, t_25_54, t_25_57, t_25_60, t_25_62, t_25_63, t_25_64, t_25_67, t_25_70, t_25_71, t_25_74, t_25_75, t_25_76, t_25_77, t_25_78, t_25_79, t_25_82, t_25_85, t_25_88, t_25_89, t_25_92, t_25_93, t_25_94, t_25_95, trivial⟩
theorem t_26_0 : am_ok lw_Ts cX4_listFollowers 4 RX4 0 (o_k 1 (vI (0))) := so_k (by decide +kernel)
theorem t_26_1 : am_ok lw_Ts cX4_listFollowers 4 RX4 1 (o_is 2 1) := so_is (Or.inl ⟨1, rfl, rfl, rfl⟩) (by decide +kernel)
theorem t_26_2 : am_ok lw_Ts cX4_listFollowers 4 RX4 2 (o_il 3 1) := so_il (Or.inl ⟨1, rfl, rfl, rfl⟩) (by decide +kernel)
theorem t_26_3 : am_ok lw_Ts cX4_listFollowers 4 RX4 3 (o_al 4 0) := so_al (Or.inl ⟨0, rfl, rfl, rfl⟩) (by decide +kernel)
theorem t_26_4 : am_ok lw_Ts cX4_listFollowers 4 RX4 4 (o_gf 7 4 1) := so_gf cl_X4 (by decide) wt_182 (by decide +kernel)
theorem t_26_7 : am_ok lw_Ts cX4_listFollowers 4 RX4 7 (o_gf 10 0 4) := so_gf cl_X0 (by decide) wt_117 (by decide +kernel)
theorem t_26_10 : am_ok lw_Ts cX4_listFollowers 4 RX4 10 (o_ic 110 13 r_ge) := so_ic_ge (off := 100) (by decide +kernel) rfl
theorem t_26_13 : am_ok lw_Ts cX4_listFollowers 4 RX4 13 (o_al 14 0) := so_al (Or.inl ⟨0, rfl, rfl, rfl⟩) (by decide +kernel)
theorem t_26_14 : am_ok lw_Ts cX4_listFollowers 4 RX4 14 (o_gf 17 4 6) := so_gf cl_X4 (by decide) wt_187 (by decide +kernel)
theorem t_26_17 : am_ok lw_Ts cX4_listFollowers 4 RX4 17 (o_il 18 1) := so_il (Or.inl ⟨1, rfl, rfl, rfl⟩) (by decide +kernel)
theorem t_26_18 : am_ok lw_Ts cX4_listFollowers 4 RX4 18 (o_k 19 (vI (0))) := so_k (by decide +kernel)
theorem t_26_19 : am_ok lw_Ts cX4_listFollowers 4 RX4 19 (o_iw 20) := so_iw (by decide +kernel)
theorem t_26_20 : am_ok lw_Ts cX4_listFollowers 4 RX4 20 (o_k 21 (vI (0))) := so_k (by decide +kernel)
theorem t_26_21 : am_ok lw_Ts cX4_listFollowers 4 RX4 21 (o_is 22 2) := so_is (Or.inl ⟨2, rfl, rfl, rfl⟩) (by decide +kernel)
theorem t_26_22 : am_ok lw_Ts cX4_listFollowers 4 RX4 22 (o_il 23 2) := so_il (Or.inl ⟨2, rfl, rfl, rfl⟩) (by decide +kernel)
theorem t_26_23 : am_ok lw_Ts cX4_listFollowers 4 RX4 23 (o_al 24 0) := so_al (Or.inl ⟨0, rfl, rfl, rfl⟩) (by decide +kernel)
theorem t_26_24 : am_ok lw_Ts cX4_listFollowers 4 RX4 24 (o_gf 27 4 1) := so_gf cl_X4 (by decide) wt_182 (by decide +kernel)
theorem t_26_27 : am_ok lw_Ts cX4_listFollowers 4 RX4 27 (o_gf 30 0 4) := so_gf cl_X0 (by decide) wt_117 (by decide +kernel)
theorem t_26_30 : am_ok lw_Ts cX4_listFollowers 4 RX4 30 (o_ic 104 33 r_ge) := so_ic_ge (off := 74) (by decide +kernel) rfl
theorem t_26_33 : am_ok lw_Ts cX4_listFollowers 4 RX4 33 (o_il 34 2) := so_il (Or.inl ⟨2, rfl, rfl, rfl⟩) (by decide +kernel)
theorem t_26_34 : am_ok lw_Ts cX4_listFollowers 4 RX4 34 (o_il 35 1) := so_il (Or.inl ⟨1, rfl, rfl, rfl⟩) (by decide +kernel)
theorem t_26_35 : am_ok lw_Ts cX4_listFollowers 4 RX4 35 (o_ic 79 38 r_eq) := so_ic_eq (off := 44) (by decide +kernel) rfl
theorem t_26_38 : am_ok lw_Ts cX4_listFollowers 4 RX4 38 (o_al 39 0) := so_al (Or.inl ⟨0, rfl, rfl, rfl⟩) (by decide +kernel)
theorem t_26_39 : am_ok lw_Ts cX4_listFollowers 4 RX4 39 (o_gf 42 4 1) := so_gf cl_X4 (by decide) wt_182 (by decide +kernel)
theorem t_26_42 : am_ok lw_Ts cX4_listFollowers 4 RX4 42 (o_gf 45 0 0) := so_gf cl_X0 (by decide) wt_101 (by decide +kernel)
theorem t_26_45 : am_ok lw_Ts cX4_listFollowers 4 RX4 45 (o_il 46 2) := so_il (Or.inl ⟨2, rfl, rfl, rfl⟩) (by decide +kernel)
theorem t_26_46 : am_ok lw_Ts cX4_listFollowers 4 RX4 46 (o_ia 47) := so_ia (by decide +kernel)
theorem t_26_47 : am_ok lw_Ts cX4_listFollowers 4 RX4 47 (o_al 48 0) := so_al (Or.inl ⟨0, rfl, rfl, rfl⟩) (by decide +kernel)
theorem t_26_48 : am_ok lw_Ts cX4_listFollowers 4 RX4 48 (o_gf 51 4 1) := so_gf cl_X4 (by decide) wt_182 (by decide +kernel)
theorem t_26_51 : am_ok lw_Ts cX4_listFollowers 4 RX4 51 (o_gf 54 0 0) := so_gf cl_X0 (by decide) wt_101 (by decide +kernel)
theorem t_26_54 : am_ok lw_Ts cX4_listFollowers 4 RX4 54 (o_il 55 1) := so_il (Or.inl ⟨1, rfl, rfl, rfl⟩) (by decide +kernel)
theorem t_26_55 : am_ok lw_Ts cX4_listFollowers 4 RX4 55 (o_ia 56) := so_ia (by decide +kernel)
theorem t_26_56 : am_ok lw_Ts cX4_listFollowers 4 RX4 56 (o_ic 79 59 r_lt) := so_ic_lt (off := 23) (by decide +kernel) rfl
theorem t_26_59 : am_ok lw_Ts cX4_listFollowers 4 RX4 59 (o_al 60 0) := so_al (Or.inl ⟨0, rfl, rfl, rfl⟩) (by decide +kernel)
theorem t_26_60 : am_ok lw_Ts cX4_listFollowers 4 RX4 60 (o_gf 63 4 1) := so_gf cl_X4 (by decide) wt_182 (by decide +kernel)
theorem t_26_63 : am_ok lw_Ts cX4_listFollowers 4 RX4 63 (o_gf 66 0 1) := so_gf cl_X0 (by decide) wt_106 (by decide +kernel)
theorem t_26_66 : am_ok lw_Ts cX4_listFollowers 4 RX4 66 (o_il 67 1) := so_il (Or.inl ⟨1, rfl, rfl, rfl⟩) (by decide +kernel)
theorem t_26_67 : am_ok lw_Ts cX4_listFollowers 4 RX4 67 (o_ia 68) := so_ia (by decide +kernel)
theorem t_26_68 : am_ok lw_Ts cX4_listFollowers 4 RX4 68 (o_il 69 2) := so_il (Or.inl ⟨2, rfl, rfl, rfl⟩) (by decide +kernel)
theorem t_26_69 : am_okc gm_mi gm_mt lw_Ts lw_Ns cX4_listFollowers RX4 69 67 2 := ⟨119, cf_67.1, cf_67.2.1, cf_67.2.2.1, cf_67.2.2.2, Or.inl ⟨rfl, (by decide +kernel), wt_420, by decide +kernel, (Or.inr ⟨"SeasonOfHours", by decide +kernel⟩)⟩⟩
theorem t_26_72 : am_ok lw_Ts cX4_listFollowers 4 RX4 72 (o_if 79 75 q_ne) := so_if_ne (off := 7) (by decide +kernel) rfl
theorem t_26_75 : am_ok lw_Ts cX4_listFollowers 4 RX4 75 (o_k 76 (vI (1))) := so_k (by decide +kernel)
theorem t_26_76 : am_ok lw_Ts cX4_listFollowers 4 RX4 76 (o_go 80) := so_go (off := 4) (by decide +kernel) rfl
theorem t_26_79 : am_ok lw_Ts cX4_listFollowers 4 RX4 79 (o_k 80 (vI (0))) := so_k (by decide +kernel)
theorem t_26_80 : am_ok lw_Ts cX4_listFollowers 4 RX4 80 (o_is 81 3) := so_is (Or.inl ⟨3, rfl, rfl, rfl⟩) (by decide +kernel)
theorem t_26_81 : am_ok lw_Ts cX4_listFollowers 4 RX4 81 (o_al 82 0) := so_al (Or.inl ⟨0, rfl, rfl, rfl⟩) (by decide +kernel)
theorem t_26_82 : am_ok lw_Ts cX4_listFollowers 4 RX4 82 (o_gf 85 4 6) := so_gf cl_X4 (by decide) wt_187 (by decide +kernel)
theorem t_26_85 : am_ok lw_Ts cX4_listFollowers 4 RX4 85 (o_il 86 1) := so_il (Or.inl ⟨1, rfl, rfl, rfl⟩) (by decide +kernel)
theorem t_26_86 : am_ok lw_Ts cX4_listFollowers 4 RX4 86 (o_al 87 0) := so_al (Or.inl ⟨0, rfl, rfl, rfl⟩) (by decide +kernel)
theorem t_26_87 : am_ok lw_Ts cX4_listFollowers 4 RX4 87 (o_gf 90 4 6) := so_gf cl_X4 (by decide) wt_187 (by decide +kernel)
theorem t_26_90 : am_ok lw_Ts cX4_listFollowers 4 RX4 90 (o_il 91 1) := so_il (Or.inl ⟨1, rfl, rfl, rfl⟩) (by decide +kernel)
theorem t_26_91 : am_ok lw_Ts cX4_listFollowers 4 RX4 91 (o_ia 92) := so_ia (by decide +kernel)
theorem t_26_92 : am_ok lw_Ts cX4_listFollowers 4 RX4 92 (o_il 93 2) := so_il (Or.inl ⟨2, rfl, rfl, rfl⟩) (by decide +kernel)
theorem t_26_93 : am_ok lw_Ts cX4_listFollowers 4 RX4 93 (o_il 94 3) := so_il (Or.inl ⟨3, rfl, rfl, rfl⟩) (by decide +kernel)
theorem t_26_94 : am_okc gm_mi gm_mt lw_Ts lw_Ns cX4_listFollowers RX4 94 68 3 := ⟨133, cf_68.1, cf_68.2.1, cf_68.2.2.1, cf_68.2.2.2, Or.inl ⟨rfl, (by decide +kernel), wt_345, by decide +kernel, (Or.inr ⟨"SeasonOfHours", by decide +kernel⟩)⟩⟩
theorem t_26_97 : am_ok lw_Ts cX4_listFollowers 4 RX4 97 (o_iw 98) := so_iw (by decide +kernel)
theorem t_26_98 : am_ok lw_Ts cX4_listFollowers 4 RX4 98 (o_ii 101 2 (1)) := so_ii (by decide +kernel)
theorem t_26_101 : am_ok lw_Ts cX4_listFollowers 4 RX4 101 (o_go 22) := so_go (off := (-79)) (by decide +kernel) rfl
theorem t_26_104 : am_ok lw_Ts cX4_listFollowers 4 RX4 104 (o_ii 107 1 (1)) := so_ii (by decide +kernel)
theorem t_26_107 : am_ok lw_Ts cX4_listFollowers 4 RX4 107 (o_go 2) := so_go (off := (-105)) (by decide +kernel) rfl
theorem t_26_110 : am_okr cX4_listFollowers 110 0 := (show decode cX4_listFollowers 110 = .ok (.return_, 1) by decide +kernel)
set_option maxRecDepth 20000 in
theorem ok_26 : am_okL gm_mi gm_mt lw_Ts lw_Ns 26 cd_26 := ⟨t_26_0, t_26_1, t_26_2, t_26_3, t_26_4, t_26_7, t_26_10, t_26_13, t_26_14, t_26_17, t_26_18, t_26_19, t_26_20, t_26_21, t_26_22, t_26_23, t_26_24, t_26_27, t_26_30, t_26_33, t_26_34, t_26_35, t_26_38, t_26_39, t_26_42, t_26_45, t_26_46, t_26_47, t_26_48, t_26_51, t_26_54, t_26_55, t_26_56, t_26_59, t_26_60, t_26_63, t_26_66, t_26_67, t_26_68, t_26_69, t_26_72, t_26_75, t_26_76, t_26_79, t_26_80, t_26_81, t_26_82, t_26_85, t_26_86, t_26_87, t_26_90, t_26_91, t_26_92, t_26_93, t_26_94, t_26_97, t_26_98, t_26_101, t_26_104, t_26_107, t_26_110, trivial⟩
theorem t_27_0 : am_ok lw_Ts cX4_listFarModes 3 RX4 0 (o_k 1 (vI (0))) := so_k (by decide +kernel)
theorem t_27_1 : am_ok lw_Ts cX4_listFarModes 3 RX4 1 (o_is 2 1) := so_is (Or.inl ⟨1, rfl, rfl, rfl⟩) (by decide +kernel)
theorem t_27_2 : am_ok lw_Ts cX4_listFarModes 3 RX4 2 (o_il 3 1) := so_il (Or.inl ⟨1, rfl, rfl, rfl⟩) (by decide +kernel)
theorem t_27_3 : am_ok lw_Ts cX4_listFarModes 3 RX4 3 (o_al 4 0) := so_al (Or.inl ⟨0, rfl, rfl, rfl⟩) (by decide +kernel)
theorem t_27_4 : am_ok lw_Ts cX4_listFarModes 3 RX4 4 (o_gf 7 4 0) := so_gf cl_X4 (by decide) wt_181 (by decide +kernel)
theorem t_27_7 : am_ok lw_Ts cX4_listFarModes 3 RX4 7 (o_gf 10 2 2) := so_gf cl_X2 (by decide) wt_78 (by decide +kernel)
theorem t_27_10 : am_ok lw_Ts cX4_listFarModes 3 RX4 10 (o_ic 78 13 r_ge) := so_ic_ge (off := 68) (by decide +kernel) rfl
theorem t_27_13 : am_ok lw_Ts cX4_listFarModes 3 RX4 13 (o_al 14 0) := so_al (Or.inl ⟨0, rfl, rfl, rfl⟩) (by decide +kernel)
theorem t_27_14 : am_ok lw_Ts cX4_listFarModes 3 RX4 14 (o_gf 17 4 7) := so_gf cl_X4 (by decide) wt_188 (by decide +kernel)
theorem t_27_17 : am_ok lw_Ts cX4_listFarModes 3 RX4 17 (o_il 18 1) := so_il (Or.inl ⟨1, rfl, rfl, rfl⟩) (by decide +kernel)
theorem t_27_18 : am_ok lw_Ts cX4_listFarModes 3 RX4 18 (o_k 19 (vI (0))) := so_k (by decide +kernel)
theorem t_27_19 : am_ok lw_Ts cX4_listFarModes 3 RX4 19 (o_iw 20) := so_iw (by decide +kernel)
theorem t_27_20 : am_ok lw_Ts cX4_listFarModes 3 RX4 20 (o_k 21 (vI (0))) := so_k (by decide +kernel)
theorem t_27_21 : am_ok lw_Ts cX4_listFarModes 3 RX4 21 (o_is 22 2) := so_is (Or.inl ⟨2, rfl, rfl, rfl⟩) (by decide +kernel)
theorem t_27_22 : am_ok lw_Ts cX4_listFarModes 3 RX4 22 (o_il 23 2) := so_il (Or.inl ⟨2, rfl, rfl, rfl⟩) (by decide +kernel)
theorem t_27_23 : am_ok lw_Ts cX4_listFarModes 3 RX4 23 (o_al 24 0) := so_al (Or.inl ⟨0, rfl, rfl, rfl⟩) (by decide +kernel)
theorem t_27_24 : am_ok lw_Ts cX4_listFarModes 3 RX4 24 (o_gf 27 4 0) := so_gf cl_X4 (by decide) wt_181 (by decide +kernel)
theorem t_27_27 : am_ok lw_Ts cX4_listFarModes 3 RX4 27 (o_gf 30 2 2) := so_gf cl_X2 (by decide) wt_78 (by decide +kernel)
theorem t_27_30 : am_ok lw_Ts cX4_listFarModes 3 RX4 30 (o_ic 72 33 r_ge) := so_ic_ge (off := 42) (by decide +kernel) rfl
theorem t_27_33 : am_ok lw_Ts cX4_listFarModes 3 RX4 33 (o_al 34 0) := so_al (Or.inl ⟨0, rfl, rfl, rfl⟩) (by decide +kernel)
theorem t_27_34 : am_ok lw_Ts cX4_listFarModes 3 RX4 34 (o_gf 37 4 7) := so_gf cl_X4 (by decide) wt_188 (by decide +kernel)
theorem t_27_37 : am_ok lw_Ts cX4_listFarModes 3 RX4 37 (o_il 38 1) := so_il (Or.inl ⟨1, rfl, rfl, rfl⟩) (by decide +kernel)
theorem t_27_38 : am_ok lw_Ts cX4_listFarModes 3 RX4 38 (o_al 39 0) := so_al (Or.inl ⟨0, rfl, rfl, rfl⟩) (by decide +kernel)
theorem t_27_39 : am_ok lw_Ts cX4_listFarModes 3 RX4 39 (o_gf 42 4 7) := so_gf cl_X4 (by decide) wt_188 (by decide +kernel)
theorem t_27_42 : am_ok lw_Ts cX4_listFarModes 3 RX4 42 (o_il 43 1) := so_il (Or.inl ⟨1, rfl, rfl, rfl⟩) (by decide +kernel)
theorem t_27_43 : am_ok lw_Ts cX4_listFarModes 3 RX4 43 (o_ia 44) := so_ia (by decide +kernel)
theorem t_27_44 : am_ok lw_Ts cX4_listFarModes 3 RX4 44 (o_il 45 2) := so_il (Or.inl ⟨2, rfl, rfl, rfl⟩) (by decide +kernel)
theorem t_27_45 : am_ok lw_Ts cX4_listFarModes 3 RX4 45 (o_al 46 0) := so_al (Or.inl ⟨0, rfl, rfl, rfl⟩) (by decide +kernel)
theorem t_27_46 : am_ok lw_Ts cX4_listFarModes 3 RX4 46 (o_gf 49 4 0) := so_gf cl_X4 (by decide) wt_181 (by decide +kernel)
theorem t_27_49 : am_ok lw_Ts cX4_listFarModes 3 RX4 49 (o_il 50 1) := so_il (Or.inl ⟨1, rfl, rfl, rfl⟩) (by decide +kernel)
theorem t_27_50 : am_ok lw_Ts cX4_listFarModes 3 RX4 50 (o_il 51 2) := so_il (Or.inl ⟨2, rfl, rfl, rfl⟩) (by decide +kernel)
theorem t_27_51 : am_okc gm_mi gm_mt lw_Ts lw_Ns cX4_listFarModes RX4 51 11 3 := ⟨138, cf_11.1, cf_11.2.1, cf_11.2.2.1, cf_11.2.2.2, Or.inr ⟨2, 2, TX2, 4, rfl, rfl, rfl, (by decide +kernel), wt_431, wt_432, wt_472, by decide +kernel⟩⟩
theorem t_27_54 : am_ok lw_Ts cX4_listFarModes 3 RX4 54 (o_if 61 57 q_ne) := so_if_ne (off := 7) (by decide +kernel) rfl
theorem t_27_57 : am_ok lw_Ts cX4_listFarModes 3 RX4 57 (o_k 58 (vI (1))) := so_k (by decide +kernel)
theorem t_27_58 : am_ok lw_Ts cX4_listFarModes 3 RX4 58 (o_go 62) := so_go (off := 4) (by decide +kernel) rfl
theorem t_27_61 : am_ok lw_Ts cX4_listFarModes 3 RX4 61 (o_k 62 (vI (0))) := so_k (by decide +kernel)
theorem t_27_62 : am_okc gm_mi gm_mt lw_Ts lw_Ns cX4_listFarModes RX4 62 68 3 := ⟨133, cf_68.1, cf_68.2.1, cf_68.2.2.1, cf_68.2.2.2, Or.inl ⟨rfl, (by decide +kernel), wt_345, by decide +kernel, (Or.inr ⟨"SeasonOfHours", by decide +kernel⟩)⟩⟩
theorem t_27_65 : am_ok lw_Ts cX4_listFarModes 3 RX4 65 (o_iw 66) := so_iw (by decide +kernel)
theorem t_27_66 : am_ok lw_Ts cX4_listFarModes 3 RX4 66 (o_ii 69 2 (1)) := so_ii (by decide +kernel)
theorem t_27_69 : am_ok lw_Ts cX4_listFarModes 3 RX4 69 (o_go 22) := so_go (off := (-47)) (by decide +kernel) rfl
theorem t_27_72 : am_ok lw_Ts cX4_listFarModes 3 RX4 72 (o_ii 75 1 (1)) := so_ii (by decide +kernel)
theorem t_27_75 : am_ok lw_Ts cX4_listFarModes 3 RX4 75 (o_go 2) := so_go (off := (-73)) (by decide +kernel) rfl
theorem t_27_78 : am_okr cX4_listFarModes 78 0 := (show decode cX4_listFarModes 78 = .ok (.return_, 1) by decide +kernel)
set_option maxRecDepth 20000 in
theorem ok_27 : am_okL gm_mi gm_mt lw_Ts lw_Ns 27 cd_27 := ⟨t_27_0, t_27_1, t_27_2, t_27_3, t_27_4, t_27_7, t_27_10, t_27_13, t_27_14, t_27_17, t_27_18, t_27_19, t_27_20, t_27_21, t_27_22, t_27_23, t_27_24, t_27_27, t_27_30, t_27_33, t_27_34, t_27_37, t_27_38, t_27_39, t_27_42, t_27_43, t_27_44, t_27_45, t_27_46, t_27_49, t_27_50, t_27_51, t_27_54, t_27_57, t_27_58, t_27_61, t_27_62, t_27_65, t_27_66, t_27_69, t_27_72, t_27_75, t_27_78, trivial⟩
theorem t_28_0 : am_ok lw_Ts cX4_fillFrom 10 RX4 0 (o_il 1 1) := so_il (Or.inl ⟨1, rfl, rfl, rfl⟩) (by decide +kernel)
theorem t_28_1 : am_ok lw_Ts cX4_fillFrom 10 RX4 1 (o_al 2 0) := so_al (Or.inl ⟨0, rfl, rfl, rfl⟩) (by decide +kernel)
theorem t_28_2 : am_ok lw_Ts cX4_fillFrom 10 RX4 2 (o_gf 5 4 2) := so_gf cl_X4 (by decide) wt_183 (by decide +kernel)
theorem t_28_5 : am_ok lw_Ts cX4_fillFrom 10 RX4 5 (o_gf 8 5 5) := so_gf cl_X5 (by decide) wt_153 (by decide +kernel)
theorem t_28_8 : am_ok lw_Ts cX4_fillFrom 10 RX4 8 (o_ic 29 11 r_lt) := so_ic_lt (off := 21) (by decide +kernel) rfl
theorem t_28_11 : am_ok lw_Ts cX4_fillFrom 10 RX4 11 (o_al 12 0) := so_al (Or.inl ⟨0, rfl, rfl, rfl⟩) (by decide +kernel)
theorem t_28_12 : am_ok lw_Ts cX4_fillFrom 10 RX4 12 (o_gf 15 4 8) := so_gf cl_X4 (by decide) wt_189 (by decide +kernel)
theorem t_28_15 : am_ok lw_Ts cX4_fillFrom 10 RX4 15 (o_il 16 2) := so_il (Or.inl ⟨2, rfl, rfl, rfl⟩) (by decide +kernel)
theorem t_28_16 : am_ok lw_Ts cX4_fillFrom 10 RX4 16 (o_al 17 0) := so_al (Or.inl ⟨0, rfl, rfl, rfl⟩) (by decide +kernel)
theorem t_28_17 : am_ok lw_Ts cX4_fillFrom 10 RX4 17 (o_gf 20 4 8) := so_gf cl_X4 (by decide) wt_189 (by decide +kernel)
theorem t_28_20 : am_ok lw_Ts cX4_fillFrom 10 RX4 20 (o_il 21 2) := so_il (Or.inl ⟨2, rfl, rfl, rfl⟩) (by decide +kernel)
theorem t_28_21 : am_ok lw_Ts cX4_fillFrom 10 RX4 21 (o_la 22) := so_la (by decide +kernel)
theorem t_28_22 : am_ok lw_Ts cX4_fillFrom 10 RX4 22 (o_ll 24 6) := so_ll (Or.inr ⟨rfl, rfl⟩) (by decide +kernel)
theorem t_28_24 : am_okc gm_mi gm_mt lw_Ts lw_Ns cX4_fillFrom RX4 24 116 2 := ⟨141, cf_116.1, cf_116.2.1, cf_116.2.2.1, cf_116.2.2.2, Or.inl ⟨rfl, (by decide +kernel), wt_482, by decide +kernel, (Or.inl wt_481)⟩⟩
theorem t_28_27 : am_ok lw_Ts cX4_fillFrom 10 RX4 27 (o_lw 28) := so_lw (by decide +kernel)
theorem t_28_28 : am_okr cX4_fillFrom 28 0 := (show decode cX4_fillFrom 28 = .ok (.return_, 1) by decide +kernel)
theorem t_28_29 : am_ok lw_Ts cX4_fillFrom 10 RX4 29 (o_k 30 (vI (0))) := so_k (by decide +kernel)
theorem t_28_30 : am_ok lw_Ts cX4_fillFrom 10 RX4 30 (o_is 32 8) := so_is (Or.inr ⟨rfl, rfl⟩) (by decide +kernel)
theorem t_28_32 : am_ok lw_Ts cX4_fillFrom 10 RX4 32 (o_il 34 8) := so_il (Or.inr ⟨rfl, rfl⟩) (by decide +kernel)
theorem t_28_34 : am_ok lw_Ts cX4_fillFrom 10 RX4 34 (o_al 35 0) := so_al (Or.inl ⟨0, rfl, rfl, rfl⟩) (by decide +kernel)
theorem t_28_35 : am_ok lw_Ts cX4_fillFrom 10 RX4 35 (o_gf 38 4 5) := so_gf cl_X4 (by decide) wt_186 (by decide +kernel)
theorem t_28_38 : am_ok lw_Ts cX4_fillFrom 10 RX4 38 (o_il 39 1) := so_il (Or.inl ⟨1, rfl, rfl, rfl⟩) (by decide +kernel)
theorem t_28_39 : am_ok lw_Ts cX4_fillFrom 10 RX4 39 (o_ia 40) := so_ia (by decide +kernel)
theorem t_28_40 : am_ok lw_Ts cX4_fillFrom 10 RX4 40 (o_ic 101 43 r_ge) := so_ic_ge (off := 61) (by decide +kernel) rfl
theorem t_28_43 : am_ok lw_Ts cX4_fillFrom 10 RX4 43 (o_al 44 0) := so_al (Or.inl ⟨0, rfl, rfl, rfl⟩) (by decide +kernel)
theorem t_28_44 : am_ok lw_Ts cX4_fillFrom 10 RX4 44 (o_gf 47 4 4) := so_gf cl_X4 (by decide) wt_185 (by decide +kernel)
theorem t_28_47 : am_ok lw_Ts cX4_fillFrom 10 RX4 47 (o_il 48 1) := so_il (Or.inl ⟨1, rfl, rfl, rfl⟩) (by decide +kernel)
theorem t_28_48 : am_ok lw_Ts cX4_fillFrom 10 RX4 48 (o_aa 49) := so_aa (by decide +kernel)
theorem t_28_49 : am_ok lw_Ts cX4_fillFrom 10 RX4 49 (o_il 51 8) := so_il (Or.inr ⟨rfl, rfl⟩) (by decide +kernel)
theorem t_28_51 : am_ok lw_Ts cX4_fillFrom 10 RX4 51 (o_ia 52) := so_ia (by decide +kernel)
theorem t_28_52 : am_ok lw_Ts cX4_fillFrom 10 RX4 52 (o_is 54 9) := so_is (Or.inr ⟨rfl, rfl⟩) (by decide +kernel)
theorem t_28_54 : am_ok lw_Ts cX4_fillFrom 10 RX4 54 (o_il 55 3) := so_il (Or.inl ⟨3, rfl, rfl, rfl⟩) (by decide +kernel)
theorem t_28_55 : am_ok lw_Ts cX4_fillFrom 10 RX4 55 (o_il 57 9) := so_il (Or.inr ⟨rfl, rfl⟩) (by decide +kernel)
theorem t_28_57 : am_ok lw_Ts cX4_fillFrom 10 RX4 57 (o_k 59 (vI (6))) := so_bp rfl (by decide +kernel)
theorem t_28_59 : am_ok lw_Ts cX4_fillFrom 10 RX4 59 (o_id 60 f_div) := so_idiv (by decide +kernel)
theorem t_28_60 : am_okc gm_mi gm_mt lw_Ts lw_Ns cX4_fillFrom RX4 60 67 2 := ⟨119, cf_67.1, cf_67.2.1, cf_67.2.2.1, cf_67.2.2.2, Or.inl ⟨rfl, (by decide +kernel), wt_420, by decide +kernel, (Or.inr ⟨"SeasonOfHours", by decide +kernel⟩)⟩⟩
theorem t_28_63 : am_ok lw_Ts cX4_fillFrom 10 RX4 63 (o_if 95 66 q_eq) := so_if_eq (off := 32) (by decide +kernel) rfl
theorem t_28_66 : am_ok lw_Ts cX4_fillFrom 10 RX4 66 (o_il 68 4) := so_il (Or.inr ⟨rfl, rfl⟩) (by decide +kernel)
theorem t_28_68 : am_ok lw_Ts cX4_fillFrom 10 RX4 68 (o_il 70 5) := so_il (Or.inr ⟨rfl, rfl⟩) (by decide +kernel)
theorem t_28_70 : am_ok lw_Ts cX4_fillFrom 10 RX4 70 (o_ib 71 f_and) := so_iand (by decide +kernel)
theorem t_28_71 : am_ok lw_Ts cX4_fillFrom 10 RX4 71 (o_il 73 9) := so_il (Or.inr ⟨rfl, rfl⟩) (by decide +kernel)
theorem t_28_73 : am_ok lw_Ts cX4_fillFrom 10 RX4 73 (o_k 75 (vI (6))) := so_bp rfl (by decide +kernel)
theorem t_28_75 : am_ok lw_Ts cX4_fillFrom 10 RX4 75 (o_id 76 f_rem) := so_irem (by decide +kernel)
theorem t_28_76 : am_okc gm_mi gm_mt lw_Ts lw_Ns cX4_fillFrom RX4 76 67 2 := ⟨119, cf_67.1, cf_67.2.1, cf_67.2.2.1, cf_67.2.2.2, Or.inl ⟨rfl, (by decide +kernel), wt_420, by decide +kernel, (Or.inr ⟨"SeasonOfHours", by decide +kernel⟩)⟩⟩
theorem t_28_79 : am_ok lw_Ts cX4_fillFrom 10 RX4 79 (o_if 95 82 q_eq) := so_if_eq (off := 16) (by decide +kernel) rfl
theorem t_28_82 : am_ok lw_Ts cX4_fillFrom 10 RX4 82 (o_al 83 0) := so_al (Or.inl ⟨0, rfl, rfl, rfl⟩) (by decide +kernel)
theorem t_28_83 : am_ok lw_Ts cX4_fillFrom 10 RX4 83 (o_il 85 9) := so_il (Or.inr ⟨rfl, rfl⟩) (by decide +kernel)
theorem t_28_85 : am_ok lw_Ts cX4_fillFrom 10 RX4 85 (o_il 86 1) := so_il (Or.inl ⟨1, rfl, rfl, rfl⟩) (by decide +kernel)
theorem t_28_86 : am_ok lw_Ts cX4_fillFrom 10 RX4 86 (o_il 87 2) := so_il (Or.inl ⟨2, rfl, rfl, rfl⟩) (by decide +kernel)
theorem t_28_87 : am_ok lw_Ts cX4_fillFrom 10 RX4 87 (o_il 88 3) := so_il (Or.inl ⟨3, rfl, rfl, rfl⟩) (by decide +kernel)
theorem t_28_88 : am_ok lw_Ts cX4_fillFrom 10 RX4 88 (o_il 90 4) := so_il (Or.inr ⟨rfl, rfl⟩) (by decide +kernel)
theorem t_28_90 : am_ok lw_Ts cX4_fillFrom 10 RX4 90 (o_ll 92 6) := so_ll (Or.inr ⟨rfl, rfl⟩) (by decide +kernel)
theorem t_28_92 : am_okc gm_mi gm_mt lw_Ts lw_Ns cX4_fillFrom RX4 92 29 7 := ⟨147, cf_29.1, cf_29.2.1, cf_29.2.2.1, cf_29.2.2.2, Or.inr ⟨4, 6, TX4, 11, rfl, rfl, rfl, (by decide +kernel), wt_486, wt_10, wt_484, by decide +kernel⟩⟩
theorem t_28_95 : am_ok lw_Ts cX4_fillFrom 10 RX4 95 (o_ii 98 8 (1)) := so_ii (by decide +kernel)
theorem t_28_98 : am_ok lw_Ts cX4_fillFrom 10 RX4 98 (o_go 32) := so_go (off := (-66)) (by decide +kernel) rfl
theorem t_28_101 : am_ok lw_Ts cX4_fillFrom 10 RX4 101 (o_al 102 0) := so_al (Or.inl ⟨0, rfl, rfl, rfl⟩) (by decide +kernel)
theorem t_28_102 : am_ok lw_Ts cX4_fillFrom 10 RX4 102 (o_il 103 1) := so_il (Or.inl ⟨1, rfl, rfl, rfl⟩) (by decide +kernel)
theorem t_28_103 : am_ok lw_Ts cX4_fillFrom 10 RX4 103 (o_k 104 (vI (1))) := so_k (by decide +kernel)
theorem t_28_104 : am_ok lw_Ts cX4_fillFrom 10 RX4 104 (o_ib 105 f_add) := so_iadd (by decide +kernel)
theorem t_28_105 : am_ok lw_Ts cX4_fillFrom 10 RX4 105 (o_il 106 2) := so_il (Or.inl ⟨2, rfl, rfl, rfl⟩) (by decide +kernel)
theorem t_28_106 : am_ok lw_Ts cX4_fillFrom 10 RX4 106 (o_il 107 3) := so_il (Or.inl ⟨3, rfl, rfl, rfl⟩) (by decide +kernel)
theorem t_28_107 : am_ok lw_Ts cX4_fillFrom 10 RX4 107 (o_il 109 4) := so_il (Or.inr ⟨rfl, rfl⟩) (by decide +kernel)
theorem t_28_109 : am_ok lw_Ts cX4_fillFrom 10 RX4 109 (o_il 111 5) := so_il (Or.inr ⟨rfl, rfl⟩) (by decide +kernel)
theorem t_28_111 : am_ok lw_Ts cX4_fillFrom 10 RX4 111 (o_ll 113 6) := so_ll (Or.inr ⟨rfl, rfl⟩) (by decide +kernel)
theorem t_28_113 : am_ok lw_Ts cX4_fillFrom 10 RX4 113 (o_al 114 0) := so_al (Or.inl ⟨0, rfl, rfl, rfl⟩) (by decide +kernel)
theorem t_28_114 : am_ok lw_Ts cX4_fillFrom 10 RX4 114 (o_gf 117 4 3) := so_gf cl_X4 (by decide) wt_184 (by decide +kernel)
theorem t_28_117 : am_ok lw_Ts cX4_fillFrom 10 RX4 117 (o_al 118 0) := so_al (Or.inl ⟨0, rfl, rfl, rfl⟩) (by decide +kernel)
theorem t_28_118 : am_ok lw_Ts cX4_fillFrom 10 RX4 118 (o_gf 121 4 10) := so_gf cl_X4 (by decide) wt_191 (by decide +kernel)
theorem t_28_121 : am_ok lw_Ts cX4_fillFrom 10 RX4 121 (o_il 122 1) := so_il (Or.inl ⟨1, rfl, rfl, rfl⟩) (by decide +kernel)
theorem t_28_122 : am_ok lw_Ts cX4_fillFrom 10 RX4 122 (o_ib 123 f_add) := so_iadd (by decide +kernel)
theorem t_28_123 : am_ok lw_Ts cX4_fillFrom 10 RX4 123 (o_aa 124) := so_aa (by decide +kernel)
theorem t_28_124 : am_ok lw_Ts cX4_fillFrom 10 RX4 124 (o_k 126 (vI (36))) := so_bp rfl (by decide +kernel)
theorem t_28_126 : am_ok lw_Ts cX4_fillFrom 10 RX4 126 (o_la 127) := so_la (by decide +kernel)
theorem t_28_127 : am_ok lw_Ts cX4_fillFrom 10 RX4 127 (o_lb 128 f_add) := so_ladd (by decide +kernel)
theorem t_28_128 : am_okc gm_mi gm_mt lw_Ts lw_Ns cX4_fillFrom RX4 128 28 7 := ⟨94, cf_28.1, cf_28.2.1, cf_28.2.2.1, cf_28.2.2.2, Or.inr ⟨4, 6, TX4, 11, rfl, rfl, rfl, (by decide +kernel), wt_479, wt_9, wt_477, by decide +kernel⟩⟩
theorem t_28_131 : am_okr cX4_fillFrom 131 0 := (show decode cX4_fillFrom 131 = .ok (.return_, 1) by decide +kernel)
set_option maxRecDepth 20000 in
theorem ok_28 : am_okL gm_mi gm_mt lw_Ts lw_Ns 28 cd_28 := ⟨t_28_0, t_28_1, t_28_2, t_28_5, t_28_8, t_28_11, t_28_12, t_28_15, t_28_16, t_28_17, t_28_20, t_28_21, t_28_22, t_28_24, t_28_27, t_28_28, t_28_29, t_28_30, t_28_32, t_28_34, t_28_35, t_28_38, t_28_39, t_28_40, t_28_43, t_28_44, t_28_47, t_28_48, t_28_49, t_28_51, t_28_52, t_28_54, t_28_55, t_28_57, t_28_59, t_28_60, t_28_63, t_28_66, t_28_68, t_28_70, t_28_71, t_28_73, t_28_75, t_28_76, t_28_79, t_28_82, t_28_83, t_28_85, t_28_86, t_28_87, t_28_88, t_28_90, t_28_92, t_28_95, t_28_98, t_28_101, t_28_102, t_28_103, t_28_104, t_28_105, t_28_106, t_28_107, t_28_109, t_28_111, t_28_113, t_28_114, t_28_117, t_28_118, t_28_121, t_28_122, t_28_123, t_28_124, t_28_126, t_28_127, t_28_128, t_28_131, trivial⟩
theorem t_29_0 : am_ok lw_Ts cX4_fillWith 10 RX4 0 (o_il 1 1) := so_il (Or.inl ⟨1, rfl, rfl, rfl⟩) (by decide +kernel)
theorem t_29_1 : am_ok lw_Ts cX4_fillWith 10 RX4 1 (o_k 3 (vI (6))) := so_bp rfl (by decide +kernel)
theorem t_29_3 : am_ok lw_Ts cX4_fillWith 10 RX4 3 (o_id 4 f_div) := so_idiv (by decide +kernel)
theorem t_29_4 : am_ok lw_Ts cX4_fillWith 10 RX4 4 (o_is 6 8) := so_is (Or.inr ⟨rfl, rfl⟩) (by decide +kernel)
theorem t_29_6 : am_ok lw_Ts cX4_fillWith 10 RX4 6 (o_il 7 1) := so_il (Or.inl ⟨1, rfl, rfl, rfl⟩) (by decide +kernel)
theorem t_29_7 : am_ok lw_Ts cX4_fillWith 10 RX4 7 (o_k 9 (vI (6))) := so_bp rfl (by decide +kernel)
theorem t_29_9 : am_ok lw_Ts cX4_fillWith 10 RX4 9 (o_id 10 f_rem) := so_irem (by decide +kernel)
theorem t_29_10 : am_ok lw_Ts cX4_fillWith 10 RX4 10 (o_is 12 9) := so_is (Or.inr ⟨rfl, rfl⟩) (by decide +kernel)
theorem t_29_12 : am_ok lw_Ts cX4_fillWith 10 RX4 12 (o_al 13 0) := so_al (Or.inl ⟨0, rfl, rfl, rfl⟩) (by decide +kernel)
theorem t_29_13 : am_ok lw_Ts cX4_fillWith 10 RX4 13 (o_il 14 2) := so_il (Or.inl ⟨2, rfl, rfl, rfl⟩) (by decide +kernel)
theorem t_29_14 : am_ok lw_Ts cX4_fillWith 10 RX4 14 (o_k 15 (vI (1))) := so_k (by decide +kernel)
theorem t_29_15 : am_ok lw_Ts cX4_fillWith 10 RX4 15 (o_ib 16 f_add) := so_iadd (by decide +kernel)
theorem t_29_16 : am_ok lw_Ts cX4_fillWith 10 RX4 16 (o_il 17 3) := so_il (Or.inl ⟨3, rfl, rfl, rfl⟩) (by decide +kernel)
theorem t_29_17 : am_ok lw_Ts cX4_fillWith 10 RX4 17 (o_il 19 8) := so_il (Or.inr ⟨rfl, rfl⟩) (by decide +kernel)
theorem t_29_19 : am_ok lw_Ts cX4_fillWith 10 RX4 19 (o_k 20 (vI (1))) := so_k (by decide +kernel)
theorem t_29_20 : am_okc gm_mi gm_mt lw_Ts lw_Ns cX4_fillWith RX4 20 68 3 := ⟨133, cf_68.1, cf_68.2.1, cf_68.2.2.1, cf_68.2.2.2, Or.inl ⟨rfl, (by decide +kernel), wt_345, by decide +kernel, (Or.inr ⟨"SeasonOfHours", by decide +kernel⟩)⟩⟩
theorem t_29_23 : am_ok lw_Ts cX4_fillWith 10 RX4 23 (o_il 25 4) := so_il (Or.inr ⟨rfl, rfl⟩) (by decide +kernel)
theorem t_29_25 : am_ok lw_Ts cX4_fillWith 10 RX4 25 (o_al 26 0) := so_al (Or.inl ⟨0, rfl, rfl, rfl⟩) (by decide +kernel)
theorem t_29_26 : am_ok lw_Ts cX4_fillWith 10 RX4 26 (o_gf 29 4 6) := so_gf cl_X4 (by decide) wt_187 (by decide +kernel)
theorem t_29_29 : am_ok lw_Ts cX4_fillWith 10 RX4 29 (o_il 31 8) := so_il (Or.inr ⟨rfl, rfl⟩) (by decide +kernel)
theorem t_29_31 : am_ok lw_Ts cX4_fillWith 10 RX4 31 (o_ia 32) := so_ia (by decide +kernel)
theorem t_29_32 : am_ok lw_Ts cX4_fillWith 10 RX4 32 (o_ib 33 f_and) := so_iand (by decide +kernel)
theorem t_29_33 : am_ok lw_Ts cX4_fillWith 10 RX4 33 (o_il 35 5) := so_il (Or.inr ⟨rfl, rfl⟩) (by decide +kernel)
theorem t_29_35 : am_ok lw_Ts cX4_fillWith 10 RX4 35 (o_il 37 9) := so_il (Or.inr ⟨rfl, rfl⟩) (by decide +kernel)
theorem t_29_37 : am_ok lw_Ts cX4_fillWith 10 RX4 37 (o_k 38 (vI (0))) := so_k (by decide +kernel)
theorem t_29_38 : am_okc gm_mi gm_mt lw_Ts lw_Ns cX4_fillWith RX4 38 68 3 := ⟨133, cf_68.1, cf_68.2.1, cf_68.2.2.1, cf_68.2.2.2, Or.inl ⟨rfl, (by decide +kernel), wt_345, by decide +kernel, (Or.inr ⟨"SeasonOfHours", by decide +kernel⟩)⟩⟩
theorem t_29_41 : am_ok lw_Ts cX4_fillWith 10 RX4 41 (o_al 42 0) := so_al (Or.inl ⟨0, rfl, rfl, rfl⟩) (by decide +kernel)
theorem t_29_42 : am_ok lw_Ts cX4_fillWith 10 RX4 42 (o_gf 45 4 7) := so_gf cl_X4 (by decide) wt_188 (by decide +kernel)
theorem t_29_45 : am_ok lw_Ts cX4_fillWith 10 RX4 45 (o_il 47 9) := so_il (Or.inr ⟨rfl, rfl⟩) (by decide +kernel)
theorem t_29_47 : am_ok lw_Ts cX4_fillWith 10 RX4 47 (o_ia 48) := so_ia (by decide +kernel)
theorem t_29_48 : am_ok lw_Ts cX4_fillWith 10 RX4 48 (o_ll 50 6) := so_ll (Or.inr ⟨rfl, rfl⟩) (by decide +kernel)
theorem t_29_50 : am_ok lw_Ts cX4_fillWith 10 RX4 50 (o_al 51 0) := so_al (Or.inl ⟨0, rfl, rfl, rfl⟩) (by decide +kernel)
theorem t_29_51 : am_ok lw_Ts cX4_fillWith 10 RX4 51 (o_gf 54 4 3) := so_gf cl_X4 (by decide) wt_184 (by decide +kernel)
theorem t_29_54 : am_ok lw_Ts cX4_fillWith 10 RX4 54 (o_al 55 0) := so_al (Or.inl ⟨0, rfl, rfl, rfl⟩) (by decide +kernel)
theorem t_29_55 : am_ok lw_Ts cX4_fillWith 10 RX4 55 (o_gf 58 4 10) := so_gf cl_X4 (by decide) wt_191 (by decide +kernel)
theorem t_29_58 : am_ok lw_Ts cX4_fillWith 10 RX4 58 (o_il 59 2) := so_il (Or.inl ⟨2, rfl, rfl, rfl⟩) (by decide +kernel)
theorem t_29_59 : am_ok lw_Ts cX4_fillWith 10 RX4 59 (o_ib 60 f_add) := so_iadd (by decide +kernel)
theorem t_29_60 : am_ok lw_Ts cX4_fillWith 10 RX4 60 (o_aa 61) := so_aa (by decide +kernel)
theorem t_29_61 : am_ok lw_Ts cX4_fillWith 10 RX4 61 (o_il 62 1) := so_il (Or.inl ⟨1, rfl, rfl, rfl⟩) (by decide +kernel)
theorem t_29_62 : am_ok lw_Ts cX4_fillWith 10 RX4 62 (o_la 63) := so_la (by decide +kernel)
theorem t_29_63 : am_ok lw_Ts cX4_fillWith 10 RX4 63 (o_lb 64 f_add) := so_ladd (by decide +kernel)
theorem t_29_64 : am_okc gm_mi gm_mt lw_Ts lw_Ns cX4_fillWith RX4 64 28 7 := ⟨94, cf_28.1, cf_28.2.1, cf_28.2.2.1, cf_28.2.2.2, Or.inr ⟨4, 6, TX4, 11, rfl, rfl, rfl, (by decide +kernel), wt_479, wt_9, wt_477, by decide +kernel⟩⟩
theorem t_29_67 : am_okr cX4_fillWith 67 0 := (show decode cX4_fillWith 67 = .ok (.return_, 1) by decide +kernel)
set_option maxRecDepth 20000 in
theorem ok_29 : am_okL gm_mi gm_mt lw_Ts lw_Ns 29 cd_29 := ⟨t_29_0, t_29_1, t_29_3, t_29_4, t_29_6, t_29_7, t_29_9, t_29_10, t_29_12, t_29_13, t_29_14, t_29_15, t_29_16, t_29_17, t_29_19, t_29_20, t_29_23, t_29_25, t_29_26, t_29_29, t_29_31, t_29_32, t_29_33, t_29_35, t_29_37, t_29_38, t_29_41, t_29_42, t_29_45, t_29_47, t_29_48, t_29_50, t_29_51, t_29_54, t_29_55, t_29_58, t_29_59, t_29_60, t_29_61, t_29_62, t_29_63, t_29_64, t_29_67, trivial⟩
theorem t_30_0 : am_ok lw_Ts cX4_joinEvening 6 RX4 0 (o_k 1 (vI (1))) := so_k (by decide +kernel)
theorem t_30_1 : am_ok lw_Ts cX4_joinEvening 6 RX4 1 (o_al 2 0) := so_al (Or.inl ⟨0, rfl, rfl, rfl⟩) (by decide +kernel)
theorem t_30_2 : am_ok lw_Ts cX4_joinEvening 6 RX4 2 (o_gf 5 4 1) := so_gf cl_X4 (by decide) wt_182 (by decide +kernel)
theorem t_30_5 : am_ok lw_Ts cX4_joinEvening 6 RX4 5 (o_gf 8 0 4) := so_gf cl_X0 (by decide) wt_117 (by decide +kernel)
theorem t_30_8 : am_ok lw_Ts cX4_joinEvening 6 RX4 8 (o_ib 9 f_shl) := so_ishl (by decide +kernel)
theorem t_30_9 : am_ok lw_Ts cX4_joinEvening 6 RX4 9 (o_is 10 1) := so_is (Or.inl ⟨1, rfl, rfl, rfl⟩) (by decide +kernel)
theorem t_30_10 : am_ok lw_Ts cX4_joinEvening 6 RX4 10 (o_k 11 (vI (0))) := so_k (by decide +kernel)
theorem t_30_11 : am_ok lw_Ts cX4_joinEvening 6 RX4 11 (o_is 12 2) := so_is (Or.inl ⟨2, rfl, rfl, rfl⟩) (by decide +kernel)
theorem t_30_12 : am_ok lw_Ts cX4_joinEvening 6 RX4 12 (o_il 13 2) := so_il (Or.inl ⟨2, rfl, rfl, rfl⟩) (by decide +kernel)
theorem t_30_13 : am_ok lw_Ts cX4_joinEvening 6 RX4 13 (o_il 14 1) := so_il (Or.inl ⟨1, rfl, rfl, rfl⟩) (by decide +kernel)
theorem t_30_14 : am_ok lw_Ts cX4_joinEvening 6 RX4 14 (o_ic 92 17 r_ge) := so_ic_ge (off := 78) (by decide +kernel) rfl
theorem t_30_17 : am_ok lw_Ts cX4_joinEvening 6 RX4 17 (o_k 20 (vL (-9223372036854775808))) := so_ldc2 wt_476 (by decide +kernel)
theorem t_30_20 : am_ok lw_Ts cX4_joinEvening 6 RX4 20 (o_ls 21 3) := so_ls (Or.inl ⟨3, rfl, rfl, rfl⟩) (by decide +kernel)
theorem t_30_21 : am_ok lw_Ts cX4_joinEvening 6 RX4 21 (o_k 22 (vI (0))) := so_k (by decide +kernel)
theorem t_30_22 : am_ok lw_Ts cX4_joinEvening 6 RX4 22 (o_is 24 5) := so_is (Or.inr ⟨rfl, rfl⟩) (by decide +kernel)
theorem t_30_24 : am_ok lw_Ts cX4_joinEvening 6 RX4 24 (o_il 26 5) := so_il (Or.inr ⟨rfl, rfl⟩) (by decide +kernel)
theorem t_30_26 : am_ok lw_Ts cX4_joinEvening 6 RX4 26 (o_il 27 1) := so_il (Or.inl ⟨1, rfl, rfl, rfl⟩) (by decide +kernel)
theorem t_30_27 : am_ok lw_Ts cX4_joinEvening 6 RX4 27 (o_ic 79 30 r_ge) := so_ic_ge (off := 52) (by decide +kernel) rfl
theorem t_30_30 : am_ok lw_Ts cX4_joinEvening 6 RX4 30 (o_il 32 5) := so_il (Or.inr ⟨rfl, rfl⟩) (by decide +kernel)
theorem t_30_32 : am_ok lw_Ts cX4_joinEvening 6 RX4 32 (o_il 33 2) := so_il (Or.inl ⟨2, rfl, rfl, rfl⟩) (by decide +kernel)
theorem t_30_33 : am_ok lw_Ts cX4_joinEvening 6 RX4 33 (o_ib 34 f_and) := so_iand (by decide +kernel)
theorem t_30_34 : am_ok lw_Ts cX4_joinEvening 6 RX4 34 (o_if 73 37 q_ne) := so_if_ne (off := 39) (by decide +kernel) rfl
theorem t_30_37 : am_ok lw_Ts cX4_joinEvening 6 RX4 37 (o_al 38 0) := so_al (Or.inl ⟨0, rfl, rfl, rfl⟩) (by decide +kernel)
theorem t_30_38 : am_ok lw_Ts cX4_joinEvening 6 RX4 38 (o_gf 41 4 8) := so_gf cl_X4 (by decide) wt_189 (by decide +kernel)
theorem t_30_41 : am_ok lw_Ts cX4_joinEvening 6 RX4 41 (o_il 43 5) := so_il (Or.inr ⟨rfl, rfl⟩) (by decide +kernel)
theorem t_30_43 : am_ok lw_Ts cX4_joinEvening 6 RX4 43 (o_la 44) := so_la (by decide +kernel)
theorem t_30_44 : am_ok lw_Ts cX4_joinEvening 6 RX4 44 (o_k 47 (vL (-9223372036854775808))) := so_ldc2 wt_476 (by decide +kernel)
theorem t_30_47 : am_ok lw_Ts cX4_joinEvening 6 RX4 47 (o_lcmp 48) := so_lcmp (by decide +kernel)
theorem t_30_48 : am_ok lw_Ts cX4_joinEvening 6 RX4 48 (o_if 73 51 q_eq) := so_if_eq (off := 25) (by decide +kernel) rfl
theorem t_30_51 : am_ok lw_Ts cX4_joinEvening 6 RX4 51 (o_ll 52 3) := so_ll (Or.inl ⟨3, rfl, rfl, rfl⟩) (by decide +kernel)
theorem t_30_52 : am_ok lw_Ts cX4_joinEvening 6 RX4 52 (o_al 53 0) := so_al (Or.inl ⟨0, rfl, rfl, rfl⟩) (by decide +kernel)
theorem t_30_53 : am_ok lw_Ts cX4_joinEvening 6 RX4 53 (o_gf 56 4 8) := so_gf cl_X4 (by decide) wt_189 (by decide +kernel)
theorem t_30_56 : am_ok lw_Ts cX4_joinEvening 6 RX4 56 (o_il 58 5) := so_il (Or.inr ⟨rfl, rfl⟩) (by decide +kernel)
theorem t_30_58 : am_ok lw_Ts cX4_joinEvening 6 RX4 58 (o_la 59) := so_la (by decide +kernel)
theorem t_30_59 : am_ok lw_Ts cX4_joinEvening 6 RX4 59 (o_al 60 0) := so_al (Or.inl ⟨0, rfl, rfl, rfl⟩) (by decide +kernel)
theorem t_30_60 : am_ok lw_Ts cX4_joinEvening 6 RX4 60 (o_gf 63 4 9) := so_gf cl_X4 (by decide) wt_190 (by decide +kernel)
theorem t_30_63 : am_ok lw_Ts cX4_joinEvening 6 RX4 63 (o_il 64 2) := so_il (Or.inl ⟨2, rfl, rfl, rfl⟩) (by decide +kernel)
theorem t_30_64 : am_ok lw_Ts cX4_joinEvening 6 RX4 64 (o_il 66 5) := so_il (Or.inr ⟨rfl, rfl⟩) (by decide +kernel)
theorem t_30_66 : am_ok lw_Ts cX4_joinEvening 6 RX4 66 (o_ib 67 f_or) := so_ior (by decide +kernel)
theorem t_30_67 : am_ok lw_Ts cX4_joinEvening 6 RX4 67 (o_la 68) := so_la (by decide +kernel)
theorem t_30_68 : am_ok lw_Ts cX4_joinEvening 6 RX4 68 (o_lb 69 f_add) := so_ladd (by decide +kernel)
theorem t_30_69 : am_okc gm_mi gm_mt lw_Ts lw_Ns cX4_joinEvening RX4 69 116 2 := ⟨141, cf_116.1, cf_116.2.1, cf_116.2.2.1, cf_116.2.2.2, Or.inl ⟨rfl, (by decide +kernel), wt_482, by decide +kernel, (Or.inl wt_481)⟩⟩
theorem t_30_72 : am_ok lw_Ts cX4_joinEvening 6 RX4 72 (o_ls 73 3) := so_ls (Or.inl ⟨3, rfl, rfl, rfl⟩) (by decide +kernel)
theorem t_30_73 : am_ok lw_Ts cX4_joinEvening 6 RX4 73 (o_ii 76 5 (1)) := so_ii (by decide +kernel)
theorem t_30_76 : am_ok lw_Ts cX4_joinEvening 6 RX4 76 (o_go 24) := so_go (off := (-52)) (by decide +kernel) rfl
theorem t_30_79 : am_ok lw_Ts cX4_joinEvening 6 RX4 79 (o_al 80 0) := so_al (Or.inl ⟨0, rfl, rfl, rfl⟩) (by decide +kernel)
theorem t_30_80 : am_ok lw_Ts cX4_joinEvening 6 RX4 80 (o_gf 83 4 9) := so_gf cl_X4 (by decide) wt_190 (by decide +kernel)
theorem t_30_83 : am_ok lw_Ts cX4_joinEvening 6 RX4 83 (o_il 84 2) := so_il (Or.inl ⟨2, rfl, rfl, rfl⟩) (by decide +kernel)
theorem t_30_84 : am_ok lw_Ts cX4_joinEvening 6 RX4 84 (o_ll 85 3) := so_ll (Or.inl ⟨3, rfl, rfl, rfl⟩) (by decide +kernel)
theorem t_30_85 : am_ok lw_Ts cX4_joinEvening 6 RX4 85 (o_lw 86) := so_lw (by decide +kernel)
theorem t_30_86 : am_ok lw_Ts cX4_joinEvening 6 RX4 86 (o_ii 89 2 (1)) := so_ii (by decide +kernel)
theorem t_30_89 : am_ok lw_Ts cX4_joinEvening 6 RX4 89 (o_go 12) := so_go (off := (-77)) (by decide +kernel) rfl
theorem t_30_92 : am_okr cX4_joinEvening 92 0 := (show decode cX4_joinEvening 92 = .ok (.return_, 1) by decide +kernel)
set_option maxRecDepth 20000 in
theorem ok_30 : am_okL gm_mi gm_mt lw_Ts lw_Ns 30 cd_30 := ⟨t_30_0, t_30_1, t_30_2, t_30_5, t_30_8, t_30_9, t_30_10, t_30_11, t_30_12, t_30_13, t_30_14, t_30_17, t_30_20, t_30_21, t_30_22, t_30_24, t_30_26, t_30_27, t_30_30, t_30_32, t_30_33, t_30_34, t_30_37, t_30_38, t_30_41, t_30_43, t_30_44, t_30_47, t_30_48, t_30_51, t_30_52, t_30_53, t_30_56, t_30_58, t_30_59, t_30_60, t_30_63, t_30_64, t_30_66, t_30_67, t_30_68, t_30_69, t_30_72, t_30_73, t_30_76, t_30_79, t_30_80, t_30_83, t_30_84, t_30_85, t_30_86, t_30_89, t_30_92, trivial⟩
theorem t_31_0 : am_ok lw_Ts cX4_carryOut 8 RX4 0 (o_ll 1 1) := so_ll (Or.inl ⟨1, rfl, rfl, rfl⟩) (by decide +kernel)
theorem t_31_1 : am_ok lw_Ts cX4_carryOut 8 RX4 1 (o_lu 2 f_neg) := so_lneg (by decide +kernel)
theorem t_31_2 : am_ok lw_Ts cX4_carryOut 8 RX4 2 (o_k 5 (vL (2565726409))) := so_ldc2 wt_455 (by decide +kernel)
theorem t_31_5 : am_okc gm_mi gm_mt lw_Ts lw_Ns cX4_carryOut RX4 5 113 2 := ⟨150, cf_113.1, cf_113.2.1, cf_113.2.2.1, cf_113.2.2.2, Or.inl ⟨rfl, (by decide +kernel), wt_497, by decide +kernel, (Or.inl wt_496)⟩⟩
theorem t_31_8 : am_ok lw_Ts cX4_carryOut 8 RX4 8 (o_ls 9 3) := so_ls (Or.inl ⟨3, rfl, rfl, rfl⟩) (by decide +kernel)
theorem t_31_9 : am_ok lw_Ts cX4_carryOut 8 RX4 9 (o_k 10 (vI (0))) := so_k (by decide +kernel)
theorem t_31_10 : am_ok lw_Ts cX4_carryOut 8 RX4 10 (o_is 12 5) := so_is (Or.inr ⟨rfl, rfl⟩) (by decide +kernel)
theorem t_31_12 : am_ok lw_Ts cX4_carryOut 8 RX4 12 (o_k 13 (vI (0))) := so_k (by decide +kernel)
theorem t_31_13 : am_ok lw_Ts cX4_carryOut 8 RX4 13 (o_is 15 6) := so_is (Or.inr ⟨rfl, rfl⟩) (by decide +kernel)
theorem t_31_15 : am_ok lw_Ts cX4_carryOut 8 RX4 15 (o_il 17 6) := so_il (Or.inr ⟨rfl, rfl⟩) (by decide +kernel)
theorem t_31_17 : am_ok lw_Ts cX4_carryOut 8 RX4 17 (o_al 18 0) := so_al (Or.inl ⟨0, rfl, rfl, rfl⟩) (by decide +kernel)
theorem t_31_18 : am_ok lw_Ts cX4_carryOut 8 RX4 18 (o_gf 21 4 2) := so_gf cl_X4 (by decide) wt_183 (by decide +kernel)
theorem t_31_21 : am_ok lw_Ts cX4_carryOut 8 RX4 21 (o_gf 24 5 6) := so_gf cl_X5 (by decide) wt_154 (by decide +kernel)
theorem t_31_24 : am_ok lw_Ts cX4_carryOut 8 RX4 24 (o_ic 78 27 r_ge) := so_ic_ge (off := 54) (by decide +kernel) rfl
theorem t_31_27 : am_ok lw_Ts cX4_carryOut 8 RX4 27 (o_ll 28 3) := so_ll (Or.inl ⟨3, rfl, rfl, rfl⟩) (by decide +kernel)
theorem t_31_28 : am_ok lw_Ts cX4_carryOut 8 RX4 28 (o_k 31 (vR 1000)) := so_gs wt_456 (by decide +kernel)
theorem t_31_31 : am_ok lw_Ts cX4_carryOut 8 RX4 31 (o_il 33 6) := so_il (Or.inr ⟨rfl, rfl⟩) (by decide +kernel)
theorem t_31_33 : am_ok lw_Ts cX4_carryOut 8 RX4 33 (o_la 34) := so_la (by decide +kernel)
theorem t_31_34 : am_ok lw_Ts cX4_carryOut 8 RX4 34 (o_ld 35 f_ldiv) := so_ldiv (by decide +kernel)
theorem t_31_35 : am_ok lw_Ts cX4_carryOut 8 RX4 35 (o_k 38 (vL (37))) := so_ldc2 wt_499 (by decide +kernel)
theorem t_31_38 : am_ok lw_Ts cX4_carryOut 8 RX4 38 (o_ld 39 f_lrem) := so_lrem (by decide +kernel)
theorem t_31_39 : am_ok lw_Ts cX4_carryOut 8 RX4 39 (o_l2i 40) := so_l2i (by decide +kernel)
theorem t_31_40 : am_ok lw_Ts cX4_carryOut 8 RX4 40 (o_is 42 7) := so_is (Or.inr ⟨rfl, rfl⟩) (by decide +kernel)
theorem t_31_42 : am_ok lw_Ts cX4_carryOut 8 RX4 42 (o_il 44 7) := so_il (Or.inr ⟨rfl, rfl⟩) (by decide +kernel)
theorem t_31_44 : am_ok lw_Ts cX4_carryOut 8 RX4 44 (o_al 45 0) := so_al (Or.inl ⟨0, rfl, rfl, rfl⟩) (by decide +kernel)
theorem t_31_45 : am_ok lw_Ts cX4_carryOut 8 RX4 45 (o_gf 48 4 2) := so_gf cl_X4 (by decide) wt_183 (by decide +kernel)
theorem t_31_48 : am_ok lw_Ts cX4_carryOut 8 RX4 48 (o_gf 51 5 2) := so_gf cl_X5 (by decide) wt_147 (by decide +kernel)
theorem t_31_51 : am_ok lw_Ts cX4_carryOut 8 RX4 51 (o_il 53 6) := so_il (Or.inr ⟨rfl, rfl⟩) (by decide +kernel)
theorem t_31_53 : am_ok lw_Ts cX4_carryOut 8 RX4 53 (o_ia 54) := so_ia (by decide +kernel)
theorem t_31_54 : am_ok lw_Ts cX4_carryOut 8 RX4 54 (o_ic 72 57 r_eq) := so_ic_eq (off := 18) (by decide +kernel) rfl
theorem t_31_57 : am_ok lw_Ts cX4_carryOut 8 RX4 57 (o_al 58 0) := so_al (Or.inl ⟨0, rfl, rfl, rfl⟩) (by decide +kernel)
theorem t_31_58 : am_ok lw_Ts cX4_carryOut 8 RX4 58 (o_gf 61 4 2) := so_gf cl_X4 (by decide) wt_183 (by decide +kernel)
theorem t_31_61 : am_ok lw_Ts cX4_carryOut 8 RX4 61 (o_gf 64 5 2) := so_gf cl_X5 (by decide) wt_147 (by decide +kernel)
theorem t_31_64 : am_ok lw_Ts cX4_carryOut 8 RX4 64 (o_il 66 6) := so_il (Or.inr ⟨rfl, rfl⟩) (by decide +kernel)
theorem t_31_66 : am_ok lw_Ts cX4_carryOut 8 RX4 66 (o_il 68 7) := so_il (Or.inr ⟨rfl, rfl⟩) (by decide +kernel)
theorem t_31_68 : am_ok lw_Ts cX4_carryOut 8 RX4 68 (o_iw 69) := so_iw (by decide +kernel)
theorem t_31_69 : am_ok lw_Ts cX4_carryOut 8 RX4 69 (o_ii 72 5 (1)) := so_ii (by decide +kernel)
theorem t_31_72 : am_ok lw_Ts cX4_carryOut 8 RX4 72 (o_ii 75 6 (1)) := so_ii (by decide +kernel)
theorem t_31_75 : am_ok lw_Ts cX4_carryOut 8 RX4 75 (o_go 15) := so_go (off := (-60)) (by decide +kernel) rfl
theorem t_31_78 : am_ok lw_Ts cX4_carryOut 8 RX4 78 (o_il 80 5) := so_il (Or.inr ⟨rfl, rfl⟩) (by decide +kernel)
theorem t_31_80 : am_okr cX4_carryOut 80 1 := (show decode cX4_carryOut 80 = .ok (.ireturn, 1) by decide +kernel)
set_option maxRecDepth 20000 in
theorem ok_31 : am_okL gm_mi gm_mt lw_Ts lw_Ns 31 cd_31 := ⟨t_31_0, t_31_1, t_31_2, t_31_5, t_31_8, t_31_9, t_31_10, t_31_12, t_31_13, t_31_15, t_31_17, t_31_18, t_31_21, t_31_24, t_31_27, t_31_28, t_31_31, t_31_33, t_31_34, t_31_35, t_31_38, t_31_39, t_31_40, t_31_42, t_31_44, t_31_45, t_31_48, t_31_51, t_31_53, t_31_54, t_31_57, t_31_58, t_31_61, t_31_64, t_31_66, t_31_68, t_31_69, t_31_72, t_31_75, t_31_78, t_31_80, trivial⟩
theorem t_32_0 : am_ok lw_Ts cX5_begin 6 RX5 0 (o_al 1 0) := so_al (Or.inl ⟨0, rfl, rfl, rfl⟩) (by decide +kernel)
theorem t_32_1 : am_ok lw_Ts cX5_begin 6 RX5 1 (o_il 2 1) := so_il (Or.inl ⟨1, rfl, rfl, rfl⟩) (by decide +kernel)
theorem t_32_2 : am_ok lw_Ts cX5_begin 6 RX5 2 (o_pf 5 5 4) := so_pf cl_X5 tyX5_ok nmX5 (by decide) rfl rfl wt_150 (by decide +kernel)
theorem t_32_5 : am_ok lw_Ts cX5_begin 6 RX5 5 (o_al 6 0) := so_al (Or.inl ⟨0, rfl, rfl, rfl⟩) (by decide +kernel)
theorem t_32_6 : am_ok lw_Ts cX5_begin 6 RX5 6 (o_il 7 2) := so_il (Or.inl ⟨2, rfl, rfl, rfl⟩) (by decide +kernel)
theorem t_32_7 : am_ok lw_Ts cX5_begin 6 RX5 7 (o_pf 10 5 5) := so_pf cl_X5 tyX5_ok nmX5 (by decide) rfl rfl wt_152 (by decide +kernel)
theorem t_32_10 : am_ok lw_Ts cX5_begin 6 RX5 10 (o_al 11 0) := so_al (Or.inl ⟨0, rfl, rfl, rfl⟩) (by decide +kernel)
theorem t_32_11 : am_ok lw_Ts cX5_begin 6 RX5 11 (o_il 12 1) := so_il (Or.inl ⟨1, rfl, rfl, rfl⟩) (by decide +kernel)
theorem t_32_12 : am_ok lw_Ts cX5_begin 6 RX5 12 (o_il 13 2) := so_il (Or.inl ⟨2, rfl, rfl, rfl⟩) (by decide +kernel)
theorem t_32_13 : am_ok lw_Ts cX5_begin 6 RX5 13 (o_ib 14 f_mul) := so_imul (by decide +kernel)
theorem t_32_14 : am_ok lw_Ts cX5_begin 6 RX5 14 (o_pf 17 5 6) := so_pf cl_X5 tyX5_ok nmX5 (by decide) rfl rfl wt_155 (by decide +kernel)
theorem t_32_17 : am_ok lw_Ts cX5_begin 6 RX5 17 (o_al 18 0) := so_al (Or.inl ⟨0, rfl, rfl, rfl⟩) (by decide +kernel)
theorem t_32_18 : am_ok lw_Ts cX5_begin 6 RX5 18 (o_gf 21 5 2) := so_gf cl_X5 (by decide) wt_146 (by decide +kernel)
theorem t_32_21 : am_ok lw_Ts cX5_begin 6 RX5 21 (o_k 23 (vI (36))) := so_bp rfl (by decide +kernel)
theorem t_32_23 : am_okc gm_mi gm_mt lw_Ts lw_Ns cX5_begin RX5 23 118 2 := ⟨40, cf_118.1, cf_118.2.1, cf_118.2.2.1, cf_118.2.2.2, Or.inl ⟨rfl, (by decide +kernel), wt_142, by decide +kernel, (Or.inl wt_141)⟩⟩
theorem t_32_26 : am_ok lw_Ts cX5_begin 6 RX5 26 (o_k 27 (vI (0))) := so_k (by decide +kernel)
theorem t_32_27 : am_ok lw_Ts cX5_begin 6 RX5 27 (o_is 28 3) := so_is (Or.inl ⟨3, rfl, rfl, rfl⟩) (by decide +kernel)
theorem t_32_28 : am_ok lw_Ts cX5_begin 6 RX5 28 (o_k 29 (vI (0))) := so_k (by decide +kernel)
theorem t_32_29 : am_ok lw_Ts cX5_begin 6 RX5 29 (o_is 31 4) := so_is (Or.inr ⟨rfl, rfl⟩) (by decide +kernel)
theorem t_32_31 : am_ok lw_Ts cX5_begin 6 RX5 31 (o_il 33 4) := so_il (Or.inr ⟨rfl, rfl⟩) (by decide +kernel)
theorem t_32_33 : am_ok lw_Ts cX5_begin 6 RX5 33 (o_al 34 0) := so_al (Or.inl ⟨0, rfl, rfl, rfl⟩) (by decide +kernel)
theorem t_32_34 : am_ok lw_Ts cX5_begin 6 RX5 34 (o_gf 37 5 4) := so_gf cl_X5 (by decide) wt_150 (by decide +kernel)
theorem t_32_37 : am_ok lw_Ts cX5_begin 6 RX5 37 (o_ic 75 40 r_ge) := so_ic_ge (off := 38) (by decide +kernel) rfl
theorem t_32_40 : am_ok lw_Ts cX5_begin 6 RX5 40 (o_k 41 (vI (0))) := so_k (by decide +kernel)
theorem t_32_41 : am_ok lw_Ts cX5_begin 6 RX5 41 (o_is 43 5) := so_is (Or.inr ⟨rfl, rfl⟩) (by decide +kernel)
theorem t_32_43 : am_ok lw_Ts cX5_begin 6 RX5 43 (o_il 45 5) := so_il (Or.inr ⟨rfl, rfl⟩) (by decide +kernel)
theorem t_32_45 : am_ok lw_Ts cX5_begin 6 RX5 45 (o_al 46 0) := so_al (Or.inl ⟨0, rfl, rfl, rfl⟩) (by decide +kernel)
theorem t_32_46 : am_ok lw_Ts cX5_begin 6 RX5 46 (o_gf 49 5 5) := so_gf cl_X5 (by decide) wt_152 (by decide +kernel)
theorem t_32_49 : am_ok lw_Ts cX5_begin 6 RX5 49 (o_ic 69 52 r_ge) := so_ic_ge (off := 20) (by decide +kernel) rfl
theorem t_32_52 : am_ok lw_Ts cX5_begin 6 RX5 52 (o_al 53 0) := so_al (Or.inl ⟨0, rfl, rfl, rfl⟩) (by decide +kernel)
theorem t_32_53 : am_ok lw_Ts cX5_begin 6 RX5 53 (o_gf 56 5 3) := so_gf cl_X5 (by decide) wt_149 (by decide +kernel)
theorem t_32_56 : am_ok lw_Ts cX5_begin 6 RX5 56 (o_il 57 3) := so_il (Or.inl ⟨3, rfl, rfl, rfl⟩) (by decide +kernel)
theorem t_32_57 : am_ok lw_Ts cX5_begin 6 RX5 57 (o_il 59 5) := so_il (Or.inr ⟨rfl, rfl⟩) (by decide +kernel)
theorem t_32_59 : am_ok lw_Ts cX5_begin 6 RX5 59 (o_iw 60) := so_iw (by decide +kernel)
theorem t_32_60 : am_ok lw_Ts cX5_begin 6 RX5 60 (o_ii 63 3 (1)) := so_ii (by decide +kernel)
theorem t_32_63 : am_ok lw_Ts cX5_begin 6 RX5 63 (o_ii 66 5 (1)) := so_ii (by decide +kernel)
theorem t_32_66 : am_ok lw_Ts cX5_begin 6 RX5 66 (o_go 43) := so_go (off := (-23)) (by decide +kernel) rfl
theorem t_32_69 : am_ok lw_Ts cX5_begin 6 RX5 69 (o_ii 72 4 (1)) := so_ii (by decide +kernel)
theorem t_32_72 : am_ok lw_Ts cX5_begin 6 RX5 72 (o_go 31) := so_go (off := (-41)) (by decide +kernel) rfl
theorem t_32_75 : am_okr cX5_begin 75 0 := (show decode cX5_begin 75 = .ok (.return_, 1) by decide +kernel)
set_option maxRecDepth 20000 in
theorem ok_32 : am_okL gm_mi gm_mt lw_Ts lw_Ns 32 cd_32 := ⟨t_32_0, t_32_1, t_32_2, t_32_5, t_32_6, t_32_7, t_32_10, t_32_11, t_32_12, t_32_13, t_32_14, t_32_17, t_32_18, t_32_21, t_32_23, t_32_26, t_32_27, t_32_28, t_32_29, t_32_31, t_32_33, t_32_34, t_32_37, t_32_40, t_32_41, t_32_43, t_32_45, t_32_46, t_32_49, t_32_52, t_32_53, t_32_56, t_32_57, t_32_59, t_32_60, t_32_63, t_32_66, t_32_69, t_32_72, t_32_75, trivial⟩
theorem t_33_0 : am_ok lw_Ts cX5_hasSlot 2 RX5 0 (o_il 1 1) := so_il (Or.inl ⟨1, rfl, rfl, rfl⟩) (by decide +kernel)
theorem t_33_1 : am_ok lw_Ts cX5_hasSlot 2 RX5 1 (o_k 2 (vI (0))) := so_k (by decide +kernel)
theorem t_33_2 : am_ok lw_Ts cX5_hasSlot 2 RX5 2 (o_al 3 0) := so_al (Or.inl ⟨0, rfl, rfl, rfl⟩) (by decide +kernel)
theorem t_33_3 : am_ok lw_Ts cX5_hasSlot 2 RX5 3 (o_gf 6 5 6) := so_gf cl_X5 (by decide) wt_155 (by decide +kernel)
theorem t_33_6 : am_ok lw_Ts cX5_hasSlot 2 RX5 6 (o_k 7 (vI (1))) := so_k (by decide +kernel)
theorem t_33_7 : am_ok lw_Ts cX5_hasSlot 2 RX5 7 (o_ib 8 f_sub) := so_isub (by decide +kernel)
theorem t_33_8 : am_okc gm_mi gm_mt lw_Ts lw_Ns cX5_hasSlot RX5 8 66 3 := ⟨46, cf_66.1, cf_66.2.1, cf_66.2.2.1, cf_66.2.2.2, Or.inl ⟨rfl, (by decide +kernel), wt_312, by decide +kernel, (Or.inr ⟨"SeasonOfHours", by decide +kernel⟩)⟩⟩
theorem t_33_11 : am_okr cX5_hasSlot 11 2 := (show decode cX5_hasSlot 11 = .ok (.ireturn, 1) by decide +kernel)
set_option maxRecDepth 20000 in
theorem ok_33 : am_okL gm_mi gm_mt lw_Ts lw_Ns 33 cd_33 := ⟨t_33_0, t_33_1, t_33_2, t_33_3, t_33_6, t_33_7, t_33_8, t_33_11, trivial⟩
theorem t_34_0 : am_ok lw_Ts cX5_isFilled 2 RX5 0 (o_al 1 0) := so_al (Or.inl ⟨0, rfl, rfl, rfl⟩) (by decide +kernel)
theorem t_34_1 : am_ok lw_Ts cX5_isFilled 2 RX5 1 (o_gf 4 5 2) := so_gf cl_X5 (by decide) wt_146 (by decide +kernel)
theorem t_34_4 : am_ok lw_Ts cX5_isFilled 2 RX5 4 (o_il 5 1) := so_il (Or.inl ⟨1, rfl, rfl, rfl⟩) (by decide +kernel)
theorem t_34_5 : am_ok lw_Ts cX5_isFilled 2 RX5 5 (o_ia 6) := so_ia (by decide +kernel)
theorem t_34_6 : am_ok lw_Ts cX5_isFilled 2 RX5 6 (o_k 8 (vI (36))) := so_bp rfl (by decide +kernel)
theorem t_34_8 : am_ok lw_Ts cX5_isFilled 2 RX5 8 (o_ic 15 11 r_eq) := so_ic_eq (off := 7) (by decide +kernel) rfl
theorem t_34_11 : am_ok lw_Ts cX5_isFilled 2 RX5 11 (o_k 12 (vI (1))) := so_k (by decide +kernel)
theorem t_34_12 : am_ok lw_Ts cX5_isFilled 2 RX5 12 (o_go 16) := so_go (off := 4) (by decide +kernel) rfl
theorem t_34_15 : am_ok lw_Ts cX5_isFilled 2 RX5 15 (o_k 16 (vI (0))) := so_k (by decide +kernel)
theorem t_34_16 : am_okr cX5_isFilled 16 2 := (show decode cX5_isFilled 16 = .ok (.ireturn, 1) by decide +kernel)
set_option maxRecDepth 20000 in
theorem ok_34 : am_okL gm_mi gm_mt lw_Ts lw_Ns 34 cd_34 := ⟨t_34_0, t_34_1, t_34_4, t_34_5, t_34_6, t_34_8, t_34_11, t_34_12, t_34_15, t_34_16, trivial⟩
theorem t_35_0 : am_ok lw_Ts cX5_artistAt 2 RX5 0 (o_al 1 0) := so_al (Or.inl ⟨0, rfl, rfl, rfl⟩) (by decide +kernel)
theorem t_35_1 : am_ok lw_Ts cX5_artistAt 2 RX5 1 (o_il 2 1) := so_il (Or.inl ⟨1, rfl, rfl, rfl⟩) (by decide +kernel)
theorem t_35_2 : am_okc gm_mi gm_mt lw_Ts lw_Ns cX5_artistAt RX5 2 34 2 := ⟨50, cf_34.1, cf_34.2.1, cf_34.2.2.1, cf_34.2.2.2, Or.inr ⟨5, 1, TX5, 7, rfl, rfl, rfl, (by decide +kernel), wt_383, wt_384, wt_382, by decide +kernel⟩⟩
theorem t_35_5 : am_ok lw_Ts cX5_artistAt 2 RX5 5 (o_if 20 8 q_eq) := so_if_eq (off := 15) (by decide +kernel) rfl
theorem t_35_8 : am_ok lw_Ts cX5_artistAt 2 RX5 8 (o_al 9 0) := so_al (Or.inl ⟨0, rfl, rfl, rfl⟩) (by decide +kernel)
theorem t_35_9 : am_ok lw_Ts cX5_artistAt 2 RX5 9 (o_gf 12 5 2) := so_gf cl_X5 (by decide) wt_146 (by decide +kernel)
theorem t_35_12 : am_ok lw_Ts cX5_artistAt 2 RX5 12 (o_il 13 1) := so_il (Or.inl ⟨1, rfl, rfl, rfl⟩) (by decide +kernel)
theorem t_35_13 : am_ok lw_Ts cX5_artistAt 2 RX5 13 (o_ia 14) := so_ia (by decide +kernel)
theorem t_35_14 : am_ok lw_Ts cX5_artistAt 2 RX5 14 (o_k 16 (vI (6))) := so_bp rfl (by decide +kernel)
theorem t_35_16 : am_ok lw_Ts cX5_artistAt 2 RX5 16 (o_id 17 f_div) := so_idiv (by decide +kernel)
theorem t_35_17 : am_ok lw_Ts cX5_artistAt 2 RX5 17 (o_go 21) := so_go (off := 4) (by decide +kernel) rfl
theorem t_35_20 : am_ok lw_Ts cX5_artistAt 2 RX5 20 (o_k 21 (vI (-1))) := so_k (by decide +kernel)
theorem t_35_21 : am_okr cX5_artistAt 21 1 := (show decode cX5_artistAt 21 = .ok (.ireturn, 1) by decide +kernel)
set_option maxRecDepth 20000 in
theorem ok_35 : am_okL gm_mi gm_mt lw_Ts lw_Ns 35 cd_35 := ⟨t_35_0, t_35_1, t_35_2, t_35_5, t_35_8, t_35_9, t_35_12, t_35_13, t_35_14, t_35_16, t_35_17, t_35_20, t_35_21, trivial⟩
theorem t_36_0 : am_ok lw_Ts cX5_modeAt 2 RX5 0 (o_al 1 0) := so_al (Or.inl ⟨0, rfl, rfl, rfl⟩) (by decide +kernel)
theorem t_36_1 : am_ok lw_Ts cX5_modeAt 2 RX5 1 (o_il 2 1) := so_il (Or.inl ⟨1, rfl, rfl, rfl⟩) (by decide +kernel)
theorem t_36_2 : am_okc gm_mi gm_mt lw_Ts lw_Ns cX5_modeAt RX5 2 34 2 := ⟨50, cf_34.1, cf_34.2.1, cf_34.2.2.1, cf_34.2.2.2, Or.inr ⟨5, 1, TX5, 7, rfl, rfl, rfl, (by decide +kernel), wt_383, wt_384, wt_382, by decide +kernel⟩⟩
theorem t_36_5 : am_ok lw_Ts cX5_modeAt 2 RX5 5 (o_if 20 8 q_eq) := so_if_eq (off := 15) (by decide +kernel) rfl
theorem t_36_8 : am_ok lw_Ts cX5_modeAt 2 RX5 8 (o_al 9 0) := so_al (Or.inl ⟨0, rfl, rfl, rfl⟩) (by decide +kernel)
theorem t_36_9 : am_ok lw_Ts cX5_modeAt 2 RX5 9 (o_gf 12 5 2) := so_gf cl_X5 (by decide) wt_146 (by decide +kernel)
theorem t_36_12 : am_ok lw_Ts cX5_modeAt 2 RX5 12 (o_il 13 1) := so_il (Or.inl ⟨1, rfl, rfl, rfl⟩) (by decide +kernel)
theorem t_36_13 : am_ok lw_Ts cX5_modeAt 2 RX5 13 (o_ia 14) := so_ia (by decide +kernel)
theorem t_36_14 : am_ok lw_Ts cX5_modeAt 2 RX5 14 (o_k 16 (vI (6))) := so_bp rfl (by decide +kernel)
theorem t_36_16 : am_ok lw_Ts cX5_modeAt 2 RX5 16 (o_id 17 f_rem) := so_irem (by decide +kernel)
theorem t_36_17 : am_ok lw_Ts cX5_modeAt 2 RX5 17 (o_go 21) := so_go (off := 4) (by decide +kernel) rfl
theorem t_36_20 : am_ok lw_Ts cX5_modeAt 2 RX5 20 (o_k 21 (vI (-1))) := so_k (by decide +kernel)
theorem t_36_21 : am_okr cX5_modeAt 21 1 := (show decode cX5_modeAt 21 = .ok (.ireturn, 1) by decide +kernel)
set_option maxRecDepth 20000 in
theorem ok_36 : am_okL gm_mi gm_mt lw_Ts lw_Ns 36 cd_36 := ⟨t_36_0, t_36_1, t_36_2, t_36_5, t_36_8, t_36_9, t_36_12, t_36_13, t_36_14, t_36_16, t_36_17, t_36_20, t_36_21, trivial⟩
theorem t_37_0 : am_ok lw_Ts cX5_filledSlots 3 RX5 0 (o_k 1 (vI (0))) := so_k (by decide +kernel)
theorem t_37_1 : am_ok lw_Ts cX5_filledSlots 3 RX5 1 (o_is 2 1) := so_is (Or.inl ⟨1, rfl, rfl, rfl⟩) (by decide +kernel)
theorem t_37_2 : am_ok lw_Ts cX5_filledSlots 3 RX5 2 (o_k 3 (vI (0))) := so_k (by decide +kernel)
theorem t_37_3 : am_ok lw_Ts cX5_filledSlots 3 RX5 3 (o_is 4 2) := so_is (Or.inl ⟨2, rfl, rfl, rfl⟩) (by decide +kernel)
theorem t_37_4 : am_ok lw_Ts cX5_filledSlots 3 RX5 4 (o_il 5 2) := so_il (Or.inl ⟨2, rfl, rfl, rfl⟩) (by decide +kernel)
theorem t_37_5 : am_ok lw_Ts cX5_filledSlots 3 RX5 5 (o_al 6 0) := so_al (Or.inl ⟨0, rfl, rfl, rfl⟩) (by decide +kernel)
theorem t_37_6 : am_ok lw_Ts cX5_filledSlots 3 RX5 6 (o_gf 9 5 6) := so_gf cl_X5 (by decide) wt_155 (by decide +kernel)
theorem t_37_9 : am_ok lw_Ts cX5_filledSlots 3 RX5 9 (o_ic 29 12 r_ge) := so_ic_ge (off := 20) (by decide +kernel) rfl
theorem t_37_12 : am_ok lw_Ts cX5_filledSlots 3 RX5 12 (o_al 13 0) := so_al (Or.inl ⟨0, rfl, rfl, rfl⟩) (by decide +kernel)
theorem t_37_13 : am_ok lw_Ts cX5_filledSlots 3 RX5 13 (o_il 14 2) := so_il (Or.inl ⟨2, rfl, rfl, rfl⟩) (by decide +kernel)
theorem t_37_14 : am_okc gm_mi gm_mt lw_Ts lw_Ns cX5_filledSlots RX5 14 34 2 := ⟨50, cf_34.1, cf_34.2.1, cf_34.2.2.1, cf_34.2.2.2, Or.inr ⟨5, 1, TX5, 7, rfl, rfl, rfl, (by decide +kernel), wt_383, wt_384, wt_382, by decide +kernel⟩⟩
theorem t_37_17 : am_ok lw_Ts cX5_filledSlots 3 RX5 17 (o_if 23 20 q_eq) := so_if_eq (off := 6) (by decide +kernel) rfl
theorem t_37_20 : am_ok lw_Ts cX5_filledSlots 3 RX5 20 (o_ii 23 1 (1)) := so_ii (by decide +kernel)
theorem t_37_23 : am_ok lw_Ts cX5_filledSlots 3 RX5 23 (o_ii 26 2 (1)) := so_ii (by decide +kernel)
theorem t_37_26 : am_ok lw_Ts cX5_filledSlots 3 RX5 26 (o_go 4) := so_go (off := (-22)) (by decide +kernel) rfl
theorem t_37_29 : am_ok lw_Ts cX5_filledSlots 3 RX5 29 (o_il 30 1) := so_il (Or.inl ⟨1, rfl, rfl, rfl⟩) (by decide +kernel)
theorem t_37_30 : am_okr cX5_filledSlots 30 1 := (show decode cX5_filledSlots 30 = .ok (.ireturn, 1) by decide +kernel)
set_option maxRecDepth 20000 in
theorem ok_37 : am_okL gm_mi gm_mt lw_Ts lw_Ns 37 cd_37 := ⟨t_37_0, t_37_1, t_37_2, t_37_3, t_37_4, t_37_5, t_37_6, t_37_9, t_37_12, t_37_13, t_37_14, t_37_17, t_37_20, t_37_23, t_37_26, t_37_29, t_37_30, trivial⟩
theorem t_38_0 : am_ok lw_Ts cX5_worth 3 RX5 0 (o_k 1 (vI (0))) := so_k (by decide +kernel)
theorem t_38_1 : am_ok lw_Ts cX5_worth 3 RX5 1 (o_is 2 1) := so_is (Or.inl ⟨1, rfl, rfl, rfl⟩) (by decide +kernel)
theorem t_38_2 : am_ok lw_Ts cX5_worth 3 RX5 2 (o_k 3 (vI (0))) := so_k (by decide +kernel)
theorem t_38_3 : am_ok lw_Ts cX5_worth 3 RX5 3 (o_is 4 2) := so_is (Or.inl ⟨2, rfl, rfl, rfl⟩) (by decide +kernel)
theorem t_38_4 : am_ok lw_Ts cX5_worth 3 RX5 4 (o_il 5 2) := so_il (Or.inl ⟨2, rfl, rfl, rfl⟩) (by decide +kernel)
theorem t_38_5 : am_ok lw_Ts cX5_worth 3 RX5 5 (o_al 6 0) := so_al (Or.inl ⟨0, rfl, rfl, rfl⟩) (by decide +kernel)
theorem t_38_6 : am_ok lw_Ts cX5_worth 3 RX5 6 (o_gf 9 5 6) := so_gf cl_X5 (by decide) wt_155 (by decide +kernel)
theorem t_38_9 : am_ok lw_Ts cX5_worth 3 RX5 9 (o_ic 48 12 r_ge) := so_ic_ge (off := 39) (by decide +kernel) rfl
theorem t_38_12 : am_ok lw_Ts cX5_worth 3 RX5 12 (o_al 13 0) := so_al (Or.inl ⟨0, rfl, rfl, rfl⟩) (by decide +kernel)
theorem t_38_13 : am_ok lw_Ts cX5_worth 3 RX5 13 (o_il 14 2) := so_il (Or.inl ⟨2, rfl, rfl, rfl⟩) (by decide +kernel)
theorem t_38_14 : am_okc gm_mi gm_mt lw_Ts lw_Ns cX5_worth RX5 14 34 2 := ⟨50, cf_34.1, cf_34.2.1, cf_34.2.2.1, cf_34.2.2.2, Or.inr ⟨5, 1, TX5, 7, rfl, rfl, rfl, (by decide +kernel), wt_383, wt_384, wt_382, by decide +kernel⟩⟩
theorem t_38_17 : am_ok lw_Ts cX5_worth 3 RX5 17 (o_if 42 20 q_eq) := so_if_eq (off := 25) (by decide +kernel) rfl
theorem t_38_20 : am_ok lw_Ts cX5_worth 3 RX5 20 (o_il 21 1) := so_il (Or.inl ⟨1, rfl, rfl, rfl⟩) (by decide +kernel)
theorem t_38_21 : am_ok lw_Ts cX5_worth 3 RX5 21 (o_al 22 0) := so_al (Or.inl ⟨0, rfl, rfl, rfl⟩) (by decide +kernel)
theorem t_38_22 : am_ok lw_Ts cX5_worth 3 RX5 22 (o_gf 25 5 1) := so_gf cl_X5 (by decide) wt_145 (by decide +kernel)
theorem t_38_25 : am_ok lw_Ts cX5_worth 3 RX5 25 (o_gf 28 0 2) := so_gf cl_X0 (by decide) wt_111 (by decide +kernel)
theorem t_38_28 : am_ok lw_Ts cX5_worth 3 RX5 28 (o_al 29 0) := so_al (Or.inl ⟨0, rfl, rfl, rfl⟩) (by decide +kernel)
theorem t_38_29 : am_ok lw_Ts cX5_worth 3 RX5 29 (o_il 30 2) := so_il (Or.inl ⟨2, rfl, rfl, rfl⟩) (by decide +kernel)
theorem t_38_30 : am_okc gm_mi gm_mt lw_Ts lw_Ns cX5_worth RX5 30 35 2 := ⟨60, cf_35.1, cf_35.2.1, cf_35.2.2.1, cf_35.2.2.2, Or.inr ⟨5, 1, TX5, 7, rfl, rfl, rfl, (by decide +kernel), wt_391, wt_392, wt_390, by decide +kernel⟩⟩
theorem t_38_33 : am_ok lw_Ts cX5_worth 3 RX5 33 (o_aa 34) := so_aa (by decide +kernel)
theorem t_38_34 : am_ok lw_Ts cX5_worth 3 RX5 34 (o_al 35 0) := so_al (Or.inl ⟨0, rfl, rfl, rfl⟩) (by decide +kernel)
theorem t_38_35 : am_ok lw_Ts cX5_worth 3 RX5 35 (o_il 36 2) := so_il (Or.inl ⟨2, rfl, rfl, rfl⟩) (by decide +kernel)
theorem t_38_36 : am_okc gm_mi gm_mt lw_Ts lw_Ns cX5_worth RX5 36 36 2 := ⟨64, cf_36.1, cf_36.2.1, cf_36.2.2.1, cf_36.2.2.2, Or.inr ⟨5, 1, TX5, 7, rfl, rfl, rfl, (by decide +kernel), wt_395, wt_396, wt_394, by decide +kernel⟩⟩
theorem t_38_39 : am_ok lw_Ts cX5_worth 3 RX5 39 (o_ia 40) := so_ia (by decide +kernel)
theorem t_38_40 : am_ok lw_Ts cX5_worth 3 RX5 40 (o_ib 41 f_add) := so_iadd (by decide +kernel)
theorem t_38_41 : am_ok lw_Ts cX5_worth 3 RX5 41 (o_is 42 1) := so_is (Or.inl ⟨1, rfl, rfl, rfl⟩) (by decide +kernel)
theorem t_38_42 : am_ok lw_Ts cX5_worth 3 RX5 42 (o_ii 45 2 (1)) := so_ii (by decide +kernel)
theorem t_38_45 : am_ok lw_Ts cX5_worth 3 RX5 45 (o_go 4) := so_go (off := (-41)) (by decide +kernel) rfl
theorem t_38_48 : am_ok lw_Ts cX5_worth 3 RX5 48 (o_il 49 1) := so_il (Or.inl ⟨1, rfl, rfl, rfl⟩) (by decide +kernel)
theorem t_38_49 : am_okr cX5_worth 49 1 := (show decode cX5_worth 49 = .ok (.ireturn, 1) by decide +kernel)
set_option maxRecDepth 20000 in
theorem ok_38 : am_okL gm_mi gm_mt lw_Ts lw_Ns 38 cd_38 := ⟨t_38_0, t_38_1, t_38_2, t_38_3, t_38_4, t_38_5, t_38_6, t_38_9, t_38_12, t_38_13, t_38_14, t_38_17, t_38_20, t_38_21, t_38_22, t_38_25, t_38_28, t_38_29, t_38_30, t_38_33, t_38_34, t_38_35, t_38_36, t_38_39, t_38_40, t_38_41, t_38_42, t_38_45, t_38_48, t_38_49, trivial⟩
theorem t_39_0 : am_ok lw_Ts cX5_firstFault 3 RX5 0 (o_k 1 (vI (0))) := so_k (by decide +kernel)
theorem t_39_1 : am_ok lw_Ts cX5_firstFault 3 RX5 1 (o_is 2 1) := so_is (Or.inl ⟨1, rfl, rfl, rfl⟩) (by decide +kernel)
theorem t_39_2 : am_ok lw_Ts cX5_firstFault 3 RX5 2 (o_il 3 1) := so_il (Or.inl ⟨1, rfl, rfl, rfl⟩) (by decide +kernel)
theorem t_39_3 : am_ok lw_Ts cX5_firstFault 3 RX5 3 (o_k 5 (vI (8))) := so_bp rfl (by decide +kernel)
theorem t_39_5 : am_ok lw_Ts cX5_firstFault 3 RX5 5 (o_ic 56 8 r_ge) := so_ic_ge (off := 51) (by decide +kernel) rfl
theorem t_39_8 : am_ok lw_Ts cX5_firstFault 3 RX5 8 (o_k 9 (vI (0))) := so_k (by decide +kernel)
theorem t_39_9 : am_ok lw_Ts cX5_firstFault 3 RX5 9 (o_is 10 2) := so_is (Or.inl ⟨2, rfl, rfl, rfl⟩) (by decide +kernel)
theorem t_39_10 : am_ok lw_Ts cX5_firstFault 3 RX5 10 (o_il 11 2) := so_il (Or.inl ⟨2, rfl, rfl, rfl⟩) (by decide +kernel)
theorem t_39_11 : am_ok lw_Ts cX5_firstFault 3 RX5 11 (o_al 12 0) := so_al (Or.inl ⟨0, rfl, rfl, rfl⟩) (by decide +kernel)
theorem t_39_12 : am_ok lw_Ts cX5_firstFault 3 RX5 12 (o_gf 15 5 6) := so_gf cl_X5 (by decide) wt_155 (by decide +kernel)
theorem t_39_15 : am_ok lw_Ts cX5_firstFault 3 RX5 15 (o_ic 50 18 r_ge) := so_ic_ge (off := 35) (by decide +kernel) rfl
theorem t_39_18 : am_ok lw_Ts cX5_firstFault 3 RX5 18 (o_al 19 0) := so_al (Or.inl ⟨0, rfl, rfl, rfl⟩) (by decide +kernel)
theorem t_39_19 : am_ok lw_Ts cX5_firstFault 3 RX5 19 (o_il 20 2) := so_il (Or.inl ⟨2, rfl, rfl, rfl⟩) (by decide +kernel)
theorem t_39_20 : am_okc gm_mi gm_mt lw_Ts lw_Ns cX5_firstFault RX5 20 34 2 := ⟨50, cf_34.1, cf_34.2.1, cf_34.2.2.1, cf_34.2.2.2, Or.inr ⟨5, 1, TX5, 7, rfl, rfl, rfl, (by decide +kernel), wt_383, wt_384, wt_382, by decide +kernel⟩⟩
theorem t_39_23 : am_ok lw_Ts cX5_firstFault 3 RX5 23 (o_if 44 26 q_eq) := so_if_eq (off := 21) (by decide +kernel) rfl
theorem t_39_26 : am_ok lw_Ts cX5_firstFault 3 RX5 26 (o_al 27 0) := so_al (Or.inl ⟨0, rfl, rfl, rfl⟩) (by decide +kernel)
theorem t_39_27 : am_ok lw_Ts cX5_firstFault 3 RX5 27 (o_il 28 1) := so_il (Or.inl ⟨1, rfl, rfl, rfl⟩) (by decide +kernel)
theorem t_39_28 : am_ok lw_Ts cX5_firstFault 3 RX5 28 (o_il 29 2) := so_il (Or.inl ⟨2, rfl, rfl, rfl⟩) (by decide +kernel)
theorem t_39_29 : am_okc gm_mi gm_mt lw_Ts lw_Ns cX5_firstFault RX5 29 40 3 := ⟨67, cf_40.1, cf_40.2.1, cf_40.2.2.1, cf_40.2.2.2, Or.inr ⟨5, 2, TX5, 7, rfl, rfl, rfl, (by decide +kernel), wt_417, wt_0, wt_415, by decide +kernel⟩⟩
theorem t_39_32 : am_ok lw_Ts cX5_firstFault 3 RX5 32 (o_if 44 35 q_eq) := so_if_eq (off := 12) (by decide +kernel) rfl
theorem t_39_35 : am_ok lw_Ts cX5_firstFault 3 RX5 35 (o_k 37 (vI (10))) := so_bp rfl (by decide +kernel)
theorem t_39_37 : am_ok lw_Ts cX5_firstFault 3 RX5 37 (o_il 38 1) := so_il (Or.inl ⟨1, rfl, rfl, rfl⟩) (by decide +kernel)
theorem t_39_38 : am_ok lw_Ts cX5_firstFault 3 RX5 38 (o_k 39 (vI (1))) := so_k (by decide +kernel)
theorem t_39_39 : am_ok lw_Ts cX5_firstFault 3 RX5 39 (o_ib 40 f_add) := so_iadd (by decide +kernel)
theorem t_39_40 : am_ok lw_Ts cX5_firstFault 3 RX5 40 (o_ib 41 f_mul) := so_imul (by decide +kernel)
theorem t_39_41 : am_ok lw_Ts cX5_firstFault 3 RX5 41 (o_il 42 2) := so_il (Or.inl ⟨2, rfl, rfl, rfl⟩) (by decide +kernel)
theorem t_39_42 : am_ok lw_Ts cX5_firstFault 3 RX5 42 (o_ib 43 f_add) := so_iadd (by decide +kernel)
theorem t_39_43 : am_okr cX5_firstFault 43 1 := (show decode cX5_firstFault 43 = .ok (.ireturn, 1) by decide +kernel)
theorem t_39_44 : am_ok lw_Ts cX5_firstFault 3 RX5 44 (o_ii 47 2 (1)) := so_ii (by decide +kernel)
theorem t_39_47 : am_ok lw_Ts cX5_firstFault 3 RX5 47 (o_go 10) := so_go (off := (-37)) (by decide +kernel) rfl
theorem t_39_50 : am_ok lw_Ts cX5_firstFault 3 RX5 50 (o_ii 53 1 (1)) := so_ii (by decide +kernel)
theorem t_39_53 : am_ok lw_Ts cX5_firstFault 3 RX5 53 (o_go 2) := so_go (off := (-51)) (by decide +kernel) rfl
theorem t_39_56 : am_ok lw_Ts cX5_firstFault 3 RX5 56 (o_k 57 (vI (0))) := so_k (by decide +kernel)
theorem t_39_57 : am_okr cX5_firstFault 57 1 := (show decode cX5_firstFault 57 = .ok (.ireturn, 1) by decide +kernel)
set_option maxRecDepth 20000 in
theorem ok_39 : am_okL gm_mi gm_mt lw_Ts lw_Ns 39 cd_39 := ⟨t_39_0, t_39_1, t_39_2, t_39_3, t_39_5, t_39_8, t_39_9, t_39_10, t_39_11, t_39_12, t_39_15, t_39_18, t_39_19, t_39_20, t_39_23, t_39_26, t_39_27, t_39_28, t_39_29, t_39_32, t_39_35, t_39_37, t_39_38, t_39_39, t_39_40, t_39_41, t_39_42, t_39_43, t_39_44, t_39_47, t_39_50, t_39_53, t_39_56, t_39_57, trivial⟩
end
section
theorem t_40_0 : am_ok lw_Ts cX5_isFault 5 RX5 0 (o_al 1 0) := so_al (Or.inl ⟨0, rfl, rfl, rfl⟩) (by decide +kernel)
theorem t_40_1 : am_ok lw_Ts cX5_isFault 5 RX5 1 (o_il 2 2) := so_il (Or.inl ⟨2, rfl, rfl, rfl⟩) (by decide +kernel)
theorem t_40_2 : am_okc gm_mi gm_mt lw_Ts lw_Ns cX5_isFault RX5 2 35 2 := ⟨60, cf_35.1, cf_35.2.1, cf_35.2.2.1, cf_35.2.2.2, Or.inr ⟨5, 1, TX5, 7, rfl, rfl, rfl, (by decide +kernel), wt_391, wt_392, wt_390, by decide +kernel⟩⟩
theorem t_40_5 : am_ok lw_Ts cX5_isFault 5 RX5 5 (o_is 6 3) := so_is (Or.inl ⟨3, rfl, rfl, rfl⟩) (by decide +kernel)
theorem t_40_6 : am_ok lw_Ts cX5_isFault 5 RX5 6 (o_al 7 0) := so_al (Or.inl ⟨0, rfl, rfl, rfl⟩) (by decide +kernel)
theorem t_40_7 : am_ok lw_Ts cX5_isFault 5 RX5 7 (o_il 8 2) := so_il (Or.inl ⟨2, rfl, rfl, rfl⟩) (by decide +kernel)
theorem t_40_8 : am_okc gm_mi gm_mt lw_Ts lw_Ns cX5_isFault RX5 8 36 2 := ⟨64, cf_36.1, cf_36.2.1, cf_36.2.2.1, cf_36.2.2.2, Or.inr ⟨5, 1, TX5, 7, rfl, rfl, rfl, (by decide +kernel), wt_395, wt_396, wt_394, by decide +kernel⟩⟩
theorem t_40_11 : am_ok lw_Ts cX5_isFault 5 RX5 11 (o_is 13 4) := so_is (Or.inr ⟨rfl, rfl⟩) (by decide +kernel)
theorem t_40_13 : am_ok lw_Ts cX5_isFault 5 RX5 13 (o_il 14 1) := so_il (Or.inl ⟨1, rfl, rfl, rfl⟩) (by decide +kernel)
theorem t_40_14 : am_ok lw_Ts cX5_isFault 5 RX5 14 (o_sw (f_sw 14 119 0 7 #[46, 58, 64, 85, 119, 119, 119, 113])) := so_sw (len := 46) (by decide +kernel) (by decide) (by decide) (by decide)
theorem t_40_60 : am_ok lw_Ts cX5_isFault 5 RX5 60 (o_al 61 0) := so_al (Or.inl ⟨0, rfl, rfl, rfl⟩) (by decide +kernel)
theorem t_40_61 : am_ok lw_Ts cX5_isFault 5 RX5 61 (o_gf 64 5 1) := so_gf cl_X5 (by decide) wt_145 (by decide +kernel)
theorem t_40_64 : am_ok lw_Ts cX5_isFault 5 RX5 64 (o_gf 67 0 3) := so_gf cl_X0 (by decide) wt_115 (by decide +kernel)
theorem t_40_67 : am_ok lw_Ts cX5_isFault 5 RX5 67 (o_il 68 3) := so_il (Or.inl ⟨3, rfl, rfl, rfl⟩) (by decide +kernel)
theorem t_40_68 : am_okc gm_mi gm_mt lw_Ts lw_Ns cX5_isFault RX5 68 67 2 := ⟨74, cf_67.1, cf_67.2.1, cf_67.2.2.1, cf_67.2.2.2, Or.inl ⟨rfl, (by decide +kernel), wt_420, by decide +kernel, (Or.inr ⟨"SeasonOfHours", by decide +kernel⟩)⟩⟩
theorem t_40_71 : am_okr cX5_isFault 71 2 := (show decode cX5_isFault 71 = .ok (.ireturn, 1) by decide +kernel)
theorem t_40_72 : am_ok lw_Ts cX5_isFault 5 RX5 72 (o_al 73 0) := so_al (Or.inl ⟨0, rfl, rfl, rfl⟩) (by decide +kernel)
theorem t_40_73 : am_ok lw_Ts cX5_isFault 5 RX5 73 (o_il 74 2) := so_il (Or.inl ⟨2, rfl, rfl, rfl⟩) (by decide +kernel)
theorem t_40_74 : am_okc gm_mi gm_mt lw_Ts lw_Ns cX5_isFault RX5 74 41 2 := ⟨77, cf_41.1, cf_41.2.1, cf_41.2.2.1, cf_41.2.2.2, Or.inr ⟨5, 1, TX5, 7, rfl, rfl, rfl, (by decide +kernel), wt_424, wt_1, wt_422, by decide +kernel⟩⟩
theorem t_40_77 : am_okr cX5_isFault 77 2 := (show decode cX5_isFault 77 = .ok (.ireturn, 1) by decide +kernel)
theorem t_40_78 : am_ok lw_Ts cX5_isFault 5 RX5 78 (o_al 79 0) := so_al (Or.inl ⟨0, rfl, rfl, rfl⟩) (by decide +kernel)
theorem t_40_79 : am_ok lw_Ts cX5_isFault 5 RX5 79 (o_gf 82 5 1) := so_gf cl_X5 (by decide) wt_145 (by decide +kernel)
theorem t_40_82 : am_ok lw_Ts cX5_isFault 5 RX5 82 (o_gf 85 0 2) := so_gf cl_X0 (by decide) wt_111 (by decide +kernel)
theorem t_40_85 : am_ok lw_Ts cX5_isFault 5 RX5 85 (o_il 86 3) := so_il (Or.inl ⟨3, rfl, rfl, rfl⟩) (by decide +kernel)
theorem t_40_86 : am_ok lw_Ts cX5_isFault 5 RX5 86 (o_aa 87) := so_aa (by decide +kernel)
theorem t_40_87 : am_ok lw_Ts cX5_isFault 5 RX5 87 (o_il 89 4) := so_il (Or.inr ⟨rfl, rfl⟩) (by decide +kernel)
theorem t_40_89 : am_ok lw_Ts cX5_isFault 5 RX5 89 (o_ia 90) := so_ia (by decide +kernel)
theorem t_40_90 : am_ok lw_Ts cX5_isFault 5 RX5 90 (o_if 97 93 q_ne) := so_if_ne (off := 7) (by decide +kernel) rfl
theorem t_40_93 : am_ok lw_Ts cX5_isFault 5 RX5 93 (o_k 94 (vI (1))) := so_k (by decide +kernel)
theorem t_40_94 : am_ok lw_Ts cX5_isFault 5 RX5 94 (o_go 98) := so_go (off := 4) (by decide +kernel) rfl
theorem t_40_97 : am_ok lw_Ts cX5_isFault 5 RX5 97 (o_k 98 (vI (0))) := so_k (by decide +kernel)
theorem t_40_98 : am_okr cX5_isFault 98 2 := (show decode cX5_isFault 98 = .ok (.ireturn, 1) by decide +kernel)
theorem t_40_99 : am_ok lw_Ts cX5_isFault 5 RX5 99 (o_al 100 0) := so_al (Or.inl ⟨0, rfl, rfl, rfl⟩) (by decide +kernel)
theorem t_40_100 : am_ok lw_Ts cX5_isFault 5 RX5 100 (o_gf 103 5 0) := so_gf cl_X5 (by decide) wt_144 (by decide +kernel)
theorem t_40_103 : am_ok lw_Ts cX5_isFault 5 RX5 103 (o_gf 106 2 1) := so_gf cl_X2 (by decide) wt_76 (by decide +kernel)
theorem t_40_106 : am_ok lw_Ts cX5_isFault 5 RX5 106 (o_il 108 4) := so_il (Or.inr ⟨rfl, rfl⟩) (by decide +kernel)
theorem t_40_108 : am_ok lw_Ts cX5_isFault 5 RX5 108 (o_ia 109) := so_ia (by decide +kernel)
theorem t_40_109 : am_ok lw_Ts cX5_isFault 5 RX5 109 (o_al 110 0) := so_al (Or.inl ⟨0, rfl, rfl, rfl⟩) (by decide +kernel)
theorem t_40_110 : am_ok lw_Ts cX5_isFault 5 RX5 110 (o_gf 113 5 3) := so_gf cl_X5 (by decide) wt_149 (by decide +kernel)
theorem t_40_113 : am_ok lw_Ts cX5_isFault 5 RX5 113 (o_il 114 2) := so_il (Or.inl ⟨2, rfl, rfl, rfl⟩) (by decide +kernel)
theorem t_40_114 : am_ok lw_Ts cX5_isFault 5 RX5 114 (o_ia 115) := so_ia (by decide +kernel)
theorem t_40_115 : am_okc gm_mi gm_mt lw_Ts lw_Ns cX5_isFault RX5 115 67 2 := ⟨74, cf_67.1, cf_67.2.1, cf_67.2.2.1, cf_67.2.2.2, Or.inl ⟨rfl, (by decide +kernel), wt_420, by decide +kernel, (Or.inr ⟨"SeasonOfHours", by decide +kernel⟩)⟩⟩
theorem t_40_118 : am_ok lw_Ts cX5_isFault 5 RX5 118 (o_if 125 121 q_ne) := so_if_ne (off := 7) (by decide +kernel) rfl
theorem t_40_121 : am_ok lw_Ts cX5_isFault 5 RX5 121 (o_k 122 (vI (1))) := so_k (by decide +kernel)
theorem t_40_122 : am_ok lw_Ts cX5_isFault 5 RX5 122 (o_go 126) := so_go (off := 4) (by decide +kernel) rfl
theorem t_40_125 : am_ok lw_Ts cX5_isFault 5 RX5 125 (o_k 126 (vI (0))) := so_k (by decide +kernel)
theorem t_40_126 : am_okr cX5_isFault 126 2 := (show decode cX5_isFault 126 = .ok (.ireturn, 1) by decide +kernel)
theorem t_40_127 : am_ok lw_Ts cX5_isFault 5 RX5 127 (o_al 128 0) := so_al (Or.inl ⟨0, rfl, rfl, rfl⟩) (by decide +kernel)
theorem t_40_128 : am_ok lw_Ts cX5_isFault 5 RX5 128 (o_il 129 2) := so_il (Or.inl ⟨2, rfl, rfl, rfl⟩) (by decide +kernel)
theorem t_40_129 : am_okc gm_mi gm_mt lw_Ts lw_Ns cX5_isFault RX5 129 44 2 := ⟨84, cf_44.1, cf_44.2.1, cf_44.2.2.1, cf_44.2.2.2, Or.inr ⟨5, 1, TX5, 7, rfl, rfl, rfl, (by decide +kernel), wt_428, wt_2, wt_426, by decide +kernel⟩⟩
theorem t_40_132 : am_okr cX5_isFault 132 2 := (show decode cX5_isFault 132 = .ok (.ireturn, 1) by decide +kernel)
theorem t_40_133 : am_ok lw_Ts cX5_isFault 5 RX5 133 (o_al 134 0) := so_al (Or.inl ⟨0, rfl, rfl, rfl⟩) (by decide +kernel)
theorem t_40_134 : am_ok lw_Ts cX5_isFault 5 RX5 134 (o_il 135 1) := so_il (Or.inl ⟨1, rfl, rfl, rfl⟩) (by decide +kernel)
theorem t_40_135 : am_ok lw_Ts cX5_isFault 5 RX5 135 (o_il 136 2) := so_il (Or.inl ⟨2, rfl, rfl, rfl⟩) (by decide +kernel)
theorem t_40_136 : am_okc gm_mi gm_mt lw_Ts lw_Ns cX5_isFault RX5 136 42 3 := ⟨87, cf_42.1, cf_42.2.1, cf_42.2.2.1, cf_42.2.2.2, Or.inr ⟨5, 2, TX5, 7, rfl, rfl, rfl, (by decide +kernel), wt_437, wt_3, wt_435, by decide +kernel⟩⟩
theorem t_40_139 : am_okr cX5_isFault 139 2 := (show decode cX5_isFault 139 = .ok (.ireturn, 1) by decide +kernel)
set_option maxRecDepth 20000 in
theorem ok_40 : am_okL gm_mi gm_mt lw_Ts lw_Ns 40 cd_40 := ⟨t_40_0, t_40_1, t_40_2, t_40_5, t_40_6, t_40_7, t_40_8, t_40_11, t_40_13, t_40_14, t_40_60, t_40_61, t_40_64, t_40_67, t_40_68, t_40_71, t_40_72, t_40_73, t_40_74, t_40_77, t_40_78, t_40_79, t_40_82, t_40_85, t_40_86, t_40_87, t_40_89, t_40_90, t_40_93, t_40_94, t_40_97, t_40_98, t_40_99, t_40_100, t_40_103, t_40_106, t_40_108, t_40_109, t_40_110, t_40_113, t_40_114, t_40_115, t_40_118, t_40_121, t_40_122, t_40_125, t_40_126, t_40_127, t_40_128, t_40_129, t_40_132, t_40_133, t_40_134, t_40_135, t_40_136, t_40_139, trivial⟩
theorem t_41_0 : am_ok lw_Ts cX5_isArtistAhead 3 RX5 0 (o_k 1 (vI (0))) := so_k (by decide +kernel)
theorem t_41_1 : am_ok lw_Ts cX5_isArtistAhead 3 RX5 1 (o_is 2 2) := so_is (Or.inl ⟨2, rfl, rfl, rfl⟩) (by decide +kernel)
theorem t_41_2 : am_ok lw_Ts cX5_isArtistAhead 3 RX5 2 (o_il 3 2) := so_il (Or.inl ⟨2, rfl, rfl, rfl⟩) (by decide +kernel)
theorem t_41_3 : am_ok lw_Ts cX5_isArtistAhead 3 RX5 3 (o_il 4 1) := so_il (Or.inl ⟨1, rfl, rfl, rfl⟩) (by decide +kernel)
theorem t_41_4 : am_ok lw_Ts cX5_isArtistAhead 3 RX5 4 (o_ic 28 7 r_ge) := so_ic_ge (off := 24) (by decide +kernel) rfl
theorem t_41_7 : am_ok lw_Ts cX5_isArtistAhead 3 RX5 7 (o_al 8 0) := so_al (Or.inl ⟨0, rfl, rfl, rfl⟩) (by decide +kernel)
theorem t_41_8 : am_ok lw_Ts cX5_isArtistAhead 3 RX5 8 (o_il 9 2) := so_il (Or.inl ⟨2, rfl, rfl, rfl⟩) (by decide +kernel)
theorem t_41_9 : am_okc gm_mi gm_mt lw_Ts lw_Ns cX5_isArtistAhead RX5 9 35 2 := ⟨60, cf_35.1, cf_35.2.1, cf_35.2.2.1, cf_35.2.2.2, Or.inr ⟨5, 1, TX5, 7, rfl, rfl, rfl, (by decide +kernel), wt_391, wt_392, wt_390, by decide +kernel⟩⟩
theorem t_41_12 : am_ok lw_Ts cX5_isArtistAhead 3 RX5 12 (o_al 13 0) := so_al (Or.inl ⟨0, rfl, rfl, rfl⟩) (by decide +kernel)
theorem t_41_13 : am_ok lw_Ts cX5_isArtistAhead 3 RX5 13 (o_il 14 1) := so_il (Or.inl ⟨1, rfl, rfl, rfl⟩) (by decide +kernel)
theorem t_41_14 : am_okc gm_mi gm_mt lw_Ts lw_Ns cX5_isArtistAhead RX5 14 35 2 := ⟨60, cf_35.1, cf_35.2.1, cf_35.2.2.1, cf_35.2.2.2, Or.inr ⟨5, 1, TX5, 7, rfl, rfl, rfl, (by decide +kernel), wt_391, wt_392, wt_390, by decide +kernel⟩⟩
theorem t_41_17 : am_ok lw_Ts cX5_isArtistAhead 3 RX5 17 (o_ic 22 20 r_ne) := so_ic_ne (off := 5) (by decide +kernel) rfl
theorem t_41_20 : am_ok lw_Ts cX5_isArtistAhead 3 RX5 20 (o_k 21 (vI (1))) := so_k (by decide +kernel)
theorem t_41_21 : am_okr cX5_isArtistAhead 21 2 := (show decode cX5_isArtistAhead 21 = .ok (.ireturn, 1) by decide +kernel)
theorem t_41_22 : am_ok lw_Ts cX5_isArtistAhead 3 RX5 22 (o_ii 25 2 (1)) := so_ii (by decide +kernel)
theorem t_41_25 : am_ok lw_Ts cX5_isArtistAhead 3 RX5 25 (o_go 2) := so_go (off := (-23)) (by decide +kernel) rfl
theorem t_41_28 : am_ok lw_Ts cX5_isArtistAhead 3 RX5 28 (o_k 29 (vI (0))) := so_k (by decide +kernel)
theorem t_41_29 : am_okr cX5_isArtistAhead 29 2 := (show decode cX5_isArtistAhead 29 = .ok (.ireturn, 1) by decide +kernel)
set_option maxRecDepth 20000 in
theorem ok_41 : am_okL gm_mi gm_mt lw_Ts lw_Ns 41 cd_41 := ⟨t_41_0, t_41_1, t_41_2, t_41_3, t_41_4, t_41_7, t_41_8, t_41_9, t_41_12, t_41_13, t_41_14, t_41_17, t_41_20, t_41_21, t_41_22, t_41_25, t_41_28, t_41_29, trivial⟩
theorem t_42_0 : am_ok lw_Ts cX5_clashesInEvening 4 RX5 0 (o_il 1 2) := so_il (Or.inl ⟨2, rfl, rfl, rfl⟩) (by decide +kernel)
theorem t_42_1 : am_ok lw_Ts cX5_clashesInEvening 4 RX5 1 (o_al 2 0) := so_al (Or.inl ⟨0, rfl, rfl, rfl⟩) (by decide +kernel)
theorem t_42_2 : am_ok lw_Ts cX5_clashesInEvening 4 RX5 2 (o_gf 5 5 3) := so_gf cl_X5 (by decide) wt_149 (by decide +kernel)
theorem t_42_5 : am_ok lw_Ts cX5_clashesInEvening 4 RX5 5 (o_il 6 2) := so_il (Or.inl ⟨2, rfl, rfl, rfl⟩) (by decide +kernel)
theorem t_42_6 : am_ok lw_Ts cX5_clashesInEvening 4 RX5 6 (o_ia 7) := so_ia (by decide +kernel)
theorem t_42_7 : am_ok lw_Ts cX5_clashesInEvening 4 RX5 7 (o_ib 8 f_sub) := so_isub (by decide +kernel)
theorem t_42_8 : am_ok lw_Ts cX5_clashesInEvening 4 RX5 8 (o_is 9 3) := so_is (Or.inl ⟨3, rfl, rfl, rfl⟩) (by decide +kernel)
theorem t_42_9 : am_ok lw_Ts cX5_clashesInEvening 4 RX5 9 (o_il 10 3) := so_il (Or.inl ⟨3, rfl, rfl, rfl⟩) (by decide +kernel)
theorem t_42_10 : am_ok lw_Ts cX5_clashesInEvening 4 RX5 10 (o_il 11 2) := so_il (Or.inl ⟨2, rfl, rfl, rfl⟩) (by decide +kernel)
theorem t_42_11 : am_ok lw_Ts cX5_clashesInEvening 4 RX5 11 (o_ic 40 14 r_ge) := so_ic_ge (off := 29) (by decide +kernel) rfl
theorem t_42_14 : am_ok lw_Ts cX5_clashesInEvening 4 RX5 14 (o_al 15 0) := so_al (Or.inl ⟨0, rfl, rfl, rfl⟩) (by decide +kernel)
theorem t_42_15 : am_ok lw_Ts cX5_clashesInEvening 4 RX5 15 (o_il 16 3) := so_il (Or.inl ⟨3, rfl, rfl, rfl⟩) (by decide +kernel)
theorem t_42_16 : am_okc gm_mi gm_mt lw_Ts lw_Ns cX5_clashesInEvening RX5 16 34 2 := ⟨50, cf_34.1, cf_34.2.1, cf_34.2.2.1, cf_34.2.2.2, Or.inr ⟨5, 1, TX5, 7, rfl, rfl, rfl, (by decide +kernel), wt_383, wt_384, wt_382, by decide +kernel⟩⟩
theorem t_42_19 : am_ok lw_Ts cX5_clashesInEvening 4 RX5 19 (o_if 34 22 q_eq) := so_if_eq (off := 15) (by decide +kernel) rfl
theorem t_42_22 : am_ok lw_Ts cX5_clashesInEvening 4 RX5 22 (o_al 23 0) := so_al (Or.inl ⟨0, rfl, rfl, rfl⟩) (by decide +kernel)
theorem t_42_23 : am_ok lw_Ts cX5_clashesInEvening 4 RX5 23 (o_il 24 1) := so_il (Or.inl ⟨1, rfl, rfl, rfl⟩) (by decide +kernel)
theorem t_42_24 : am_ok lw_Ts cX5_clashesInEvening 4 RX5 24 (o_il 25 3) := so_il (Or.inl ⟨3, rfl, rfl, rfl⟩) (by decide +kernel)
theorem t_42_25 : am_ok lw_Ts cX5_clashesInEvening 4 RX5 25 (o_il 26 2) := so_il (Or.inl ⟨2, rfl, rfl, rfl⟩) (by decide +kernel)
theorem t_42_26 : am_okc gm_mi gm_mt lw_Ts lw_Ns cX5_clashesInEvening RX5 26 43 4 := ⟨90, cf_43.1, cf_43.2.1, cf_43.2.2.1, cf_43.2.2.2, Or.inr ⟨5, 3, TX5, 7, rfl, rfl, rfl, (by decide +kernel), wt_441, wt_4, wt_439, by decide +kernel⟩⟩
theorem t_42_29 : am_ok lw_Ts cX5_clashesInEvening 4 RX5 29 (o_if 34 32 q_eq) := so_if_eq (off := 5) (by decide +kernel) rfl
theorem t_42_32 : am_ok lw_Ts cX5_clashesInEvening 4 RX5 32 (o_k 33 (vI (1))) := so_k (by decide +kernel)
theorem t_42_33 : am_okr cX5_clashesInEvening 33 2 := (show decode cX5_clashesInEvening 33 = .ok (.ireturn, 1) by decide +kernel)
theorem t_42_34 : am_ok lw_Ts cX5_clashesInEvening 4 RX5 34 (o_ii 37 3 (1)) := so_ii (by decide +kernel)
theorem t_42_37 : am_ok lw_Ts cX5_clashesInEvening 4 RX5 37 (o_go 9) := so_go (off := (-28)) (by decide +kernel) rfl
theorem t_42_40 : am_ok lw_Ts cX5_clashesInEvening 4 RX5 40 (o_k 41 (vI (0))) := so_k (by decide +kernel)
theorem t_42_41 : am_okr cX5_clashesInEvening 41 2 := (show decode cX5_clashesInEvening 41 = .ok (.ireturn, 1) by decide +kernel)
set_option maxRecDepth 20000 in
theorem ok_42 : am_okL gm_mi gm_mt lw_Ts lw_Ns 42 cd_42 := ⟨t_42_0, t_42_1, t_42_2, t_42_5, t_42_6, t_42_7, t_42_8, t_42_9, t_42_10, t_42_11, t_42_14, t_42_15, t_42_16, t_42_19, t_42_22, t_42_23, t_42_24, t_42_25, t_42_26, t_42_29, t_42_32, t_42_33, t_42_34, t_42_37, t_42_40, t_42_41, trivial⟩
theorem t_43_0 : am_ok lw_Ts cX5_clash 4 RX5 0 (o_il 1 1) := so_il (Or.inl ⟨1, rfl, rfl, rfl⟩) (by decide +kernel)
theorem t_43_1 : am_ok lw_Ts cX5_clash 4 RX5 1 (o_sw (f_lk 1 81 [(4, 27), (5, 46)])) := so_lk2 (len := 27) (ps := #[(4, 27), (5, 46)]) (by decide +kernel) (by decide) (fun x => by simp only [Op.lookupswitch.offset_cons, Op.lookupswitch.offset_nil]; split <;> (try split) <;> omega)
theorem t_43_28 : am_ok lw_Ts cX5_clash 4 RX5 28 (o_al 29 0) := so_al (Or.inl ⟨0, rfl, rfl, rfl⟩) (by decide +kernel)
theorem t_43_29 : am_ok lw_Ts cX5_clash 4 RX5 29 (o_il 30 2) := so_il (Or.inl ⟨2, rfl, rfl, rfl⟩) (by decide +kernel)
theorem t_43_30 : am_okc gm_mi gm_mt lw_Ts lw_Ns cX5_clash RX5 30 36 2 := ⟨64, cf_36.1, cf_36.2.1, cf_36.2.2.1, cf_36.2.2.2, Or.inr ⟨5, 1, TX5, 7, rfl, rfl, rfl, (by decide +kernel), wt_395, wt_396, wt_394, by decide +kernel⟩⟩
theorem t_43_33 : am_ok lw_Ts cX5_clash 4 RX5 33 (o_al 34 0) := so_al (Or.inl ⟨0, rfl, rfl, rfl⟩) (by decide +kernel)
theorem t_43_34 : am_ok lw_Ts cX5_clash 4 RX5 34 (o_il 35 3) := so_il (Or.inl ⟨3, rfl, rfl, rfl⟩) (by decide +kernel)
theorem t_43_35 : am_okc gm_mi gm_mt lw_Ts lw_Ns cX5_clash RX5 35 36 2 := ⟨64, cf_36.1, cf_36.2.1, cf_36.2.2.1, cf_36.2.2.2, Or.inr ⟨5, 1, TX5, 7, rfl, rfl, rfl, (by decide +kernel), wt_395, wt_396, wt_394, by decide +kernel⟩⟩
theorem t_43_38 : am_ok lw_Ts cX5_clash 4 RX5 38 (o_ic 45 41 r_ne) := so_ic_ne (off := 7) (by decide +kernel) rfl
theorem t_43_41 : am_ok lw_Ts cX5_clash 4 RX5 41 (o_k 42 (vI (1))) := so_k (by decide +kernel)
theorem t_43_42 : am_ok lw_Ts cX5_clash 4 RX5 42 (o_go 46) := so_go (off := 4) (by decide +kernel) rfl
theorem t_43_45 : am_ok lw_Ts cX5_clash 4 RX5 45 (o_k 46 (vI (0))) := so_k (by decide +kernel)
theorem t_43_46 : am_okr cX5_clash 46 2 := (show decode cX5_clash 46 = .ok (.ireturn, 1) by decide +kernel)
theorem t_43_47 : am_ok lw_Ts cX5_clash 4 RX5 47 (o_al 48 0) := so_al (Or.inl ⟨0, rfl, rfl, rfl⟩) (by decide +kernel)
theorem t_43_48 : am_ok lw_Ts cX5_clash 4 RX5 48 (o_gf 51 5 1) := so_gf cl_X5 (by decide) wt_145 (by decide +kernel)
theorem t_43_51 : am_ok lw_Ts cX5_clash 4 RX5 51 (o_gf 54 0 0) := so_gf cl_X0 (by decide) wt_103 (by decide +kernel)
theorem t_43_54 : am_ok lw_Ts cX5_clash 4 RX5 54 (o_al 55 0) := so_al (Or.inl ⟨0, rfl, rfl, rfl⟩) (by decide +kernel)
theorem t_43_55 : am_ok lw_Ts cX5_clash 4 RX5 55 (o_il 56 2) := so_il (Or.inl ⟨2, rfl, rfl, rfl⟩) (by decide +kernel)
theorem t_43_56 : am_okc gm_mi gm_mt lw_Ts lw_Ns cX5_clash RX5 56 35 2 := ⟨60, cf_35.1, cf_35.2.1, cf_35.2.2.1, cf_35.2.2.2, Or.inr ⟨5, 1, TX5, 7, rfl, rfl, rfl, (by decide +kernel), wt_391, wt_392, wt_390, by decide +kernel⟩⟩
theorem t_43_59 : am_ok lw_Ts cX5_clash 4 RX5 59 (o_ia 60) := so_ia (by decide +kernel)
theorem t_43_60 : am_ok lw_Ts cX5_clash 4 RX5 60 (o_al 61 0) := so_al (Or.inl ⟨0, rfl, rfl, rfl⟩) (by decide +kernel)
theorem t_43_61 : am_ok lw_Ts cX5_clash 4 RX5 61 (o_gf 64 5 1) := so_gf cl_X5 (by decide) wt_145 (by decide +kernel)
theorem t_43_64 : am_ok lw_Ts cX5_clash 4 RX5 64 (o_gf 67 0 0) := so_gf cl_X0 (by decide) wt_103 (by decide +kernel)
theorem t_43_67 : am_ok lw_Ts cX5_clash 4 RX5 67 (o_al 68 0) := so_al (Or.inl ⟨0, rfl, rfl, rfl⟩) (by decide +kernel)
theorem t_43_68 : am_ok lw_Ts cX5_clash 4 RX5 68 (o_il 69 3) := so_il (Or.inl ⟨3, rfl, rfl, rfl⟩) (by decide +kernel)
theorem t_43_69 : am_okc gm_mi gm_mt lw_Ts lw_Ns cX5_clash RX5 69 35 2 := ⟨60, cf_35.1, cf_35.2.1, cf_35.2.2.1, cf_35.2.2.2, Or.inr ⟨5, 1, TX5, 7, rfl, rfl, rfl, (by decide +kernel), wt_391, wt_392, wt_390, by decide +kernel⟩⟩
theorem t_43_72 : am_ok lw_Ts cX5_clash 4 RX5 72 (o_ia 73) := so_ia (by decide +kernel)
theorem t_43_73 : am_ok lw_Ts cX5_clash 4 RX5 73 (o_ic 80 76 r_le) := so_ic_le (off := 7) (by decide +kernel) rfl
theorem t_43_76 : am_ok lw_Ts cX5_clash 4 RX5 76 (o_k 77 (vI (1))) := so_k (by decide +kernel)
theorem t_43_77 : am_ok lw_Ts cX5_clash 4 RX5 77 (o_go 81) := so_go (off := 4) (by decide +kernel) rfl
theorem t_43_80 : am_ok lw_Ts cX5_clash 4 RX5 80 (o_k 81 (vI (0))) := so_k (by decide +kernel)
theorem t_43_81 : am_okr cX5_clash 81 2 := (show decode cX5_clash 81 = .ok (.ireturn, 1) by decide +kernel)
theorem t_43_82 : am_ok lw_Ts cX5_clash 4 RX5 82 (o_al 83 0) := so_al (Or.inl ⟨0, rfl, rfl, rfl⟩) (by decide +kernel)
theorem t_43_83 : am_ok lw_Ts cX5_clash 4 RX5 83 (o_gf 86 5 1) := so_gf cl_X5 (by decide) wt_145 (by decide +kernel)
theorem t_43_86 : am_ok lw_Ts cX5_clash 4 RX5 86 (o_gf 89 0 1) := so_gf cl_X0 (by decide) wt_107 (by decide +kernel)
theorem t_43_89 : am_ok lw_Ts cX5_clash 4 RX5 89 (o_al 90 0) := so_al (Or.inl ⟨0, rfl, rfl, rfl⟩) (by decide +kernel)
theorem t_43_90 : am_ok lw_Ts cX5_clash 4 RX5 90 (o_il 91 3) := so_il (Or.inl ⟨3, rfl, rfl, rfl⟩) (by decide +kernel)
theorem t_43_91 : am_okc gm_mi gm_mt lw_Ts lw_Ns cX5_clash RX5 91 35 2 := ⟨60, cf_35.1, cf_35.2.1, cf_35.2.2.1, cf_35.2.2.2, Or.inr ⟨5, 1, TX5, 7, rfl, rfl, rfl, (by decide +kernel), wt_391, wt_392, wt_390, by decide +kernel⟩⟩
theorem t_43_94 : am_ok lw_Ts cX5_clash 4 RX5 94 (o_ia 95) := so_ia (by decide +kernel)
theorem t_43_95 : am_ok lw_Ts cX5_clash 4 RX5 95 (o_al 96 0) := so_al (Or.inl ⟨0, rfl, rfl, rfl⟩) (by decide +kernel)
theorem t_43_96 : am_ok lw_Ts cX5_clash 4 RX5 96 (o_il 97 2) := so_il (Or.inl ⟨2, rfl, rfl, rfl⟩) (by decide +kernel)
theorem t_43_97 : am_okc gm_mi gm_mt lw_Ts lw_Ns cX5_clash RX5 97 35 2 := ⟨60, cf_35.1, cf_35.2.1, cf_35.2.2.1, cf_35.2.2.2, Or.inr ⟨5, 1, TX5, 7, rfl, rfl, rfl, (by decide +kernel), wt_391, wt_392, wt_390, by decide +kernel⟩⟩
theorem t_43_100 : am_okc gm_mi gm_mt lw_Ts lw_Ns cX5_clash RX5 100 67 2 := ⟨74, cf_67.1, cf_67.2.1, cf_67.2.2.1, cf_67.2.2.2, Or.inl ⟨rfl, (by decide +kernel), wt_420, by decide +kernel, (Or.inr ⟨"SeasonOfHours", by decide +kernel⟩)⟩⟩
theorem t_43_103 : am_okr cX5_clash 103 2 := (show decode cX5_clash 103 = .ok (.ireturn, 1) by decide +kernel)
set_option maxRecDepth 20000 in
theorem ok_43 : am_okL gm_mi gm_mt lw_Ts lw_Ns 43 cd_43 := ⟨t_43_0, t_43_1, t_43_28, t_43_29, t_43_30, t_43_33, t_43_34, t_43_35, t_43_38, t_43_41, t_43_42, t_43_45, t_43_46, t_43_47, t_43_48, t_43_51, t_43_54, t_43_55, t_43_56, t_43_59, t_43_60, t_43_61, t_43_64, t_43_67, t_43_68, t_43_69, t_43_72, t_43_73, t_43_76, t_43_77, t_43_80, t_43_81, t_43_82, t_43_83, t_43_86, t_43_89, t_43_90, t_43_91, t_43_94, t_43_95, t_43_96, t_43_97, t_43_100, t_43_103, trivial⟩
theorem t_44_0 : am_ok lw_Ts cX5_isTooNearOneAhead 3 RX5 0 (o_il 1 1) := so_il (Or.inl ⟨1, rfl, rfl, rfl⟩) (by decide +kernel)
theorem t_44_1 : am_ok lw_Ts cX5_isTooNearOneAhead 3 RX5 1 (o_k 2 (vI (1))) := so_k (by decide +kernel)
theorem t_44_2 : am_ok lw_Ts cX5_isTooNearOneAhead 3 RX5 2 (o_ib 3 f_sub) := so_isub (by decide +kernel)
theorem t_44_3 : am_ok lw_Ts cX5_isTooNearOneAhead 3 RX5 3 (o_is 4 2) := so_is (Or.inl ⟨2, rfl, rfl, rfl⟩) (by decide +kernel)
theorem t_44_4 : am_ok lw_Ts cX5_isTooNearOneAhead 3 RX5 4 (o_il 5 2) := so_il (Or.inl ⟨2, rfl, rfl, rfl⟩) (by decide +kernel)
theorem t_44_5 : am_ok lw_Ts cX5_isTooNearOneAhead 3 RX5 5 (o_il 6 1) := so_il (Or.inl ⟨1, rfl, rfl, rfl⟩) (by decide +kernel)
theorem t_44_6 : am_ok lw_Ts cX5_isTooNearOneAhead 3 RX5 6 (o_al 7 0) := so_al (Or.inl ⟨0, rfl, rfl, rfl⟩) (by decide +kernel)
theorem t_44_7 : am_ok lw_Ts cX5_isTooNearOneAhead 3 RX5 7 (o_gf 10 5 3) := so_gf cl_X5 (by decide) wt_149 (by decide +kernel)
theorem t_44_10 : am_ok lw_Ts cX5_isTooNearOneAhead 3 RX5 10 (o_il 11 1) := so_il (Or.inl ⟨1, rfl, rfl, rfl⟩) (by decide +kernel)
theorem t_44_11 : am_ok lw_Ts cX5_isTooNearOneAhead 3 RX5 11 (o_ia 12) := so_ia (by decide +kernel)
theorem t_44_12 : am_ok lw_Ts cX5_isTooNearOneAhead 3 RX5 12 (o_ib 13 f_sub) := so_isub (by decide +kernel)
theorem t_44_13 : am_ok lw_Ts cX5_isTooNearOneAhead 3 RX5 13 (o_ic 48 16 r_lt) := so_ic_lt (off := 35) (by decide +kernel) rfl
theorem t_44_16 : am_ok lw_Ts cX5_isTooNearOneAhead 3 RX5 16 (o_al 17 0) := so_al (Or.inl ⟨0, rfl, rfl, rfl⟩) (by decide +kernel)
theorem t_44_17 : am_ok lw_Ts cX5_isTooNearOneAhead 3 RX5 17 (o_il 18 2) := so_il (Or.inl ⟨2, rfl, rfl, rfl⟩) (by decide +kernel)
theorem t_44_18 : am_okc gm_mi gm_mt lw_Ts lw_Ns cX5_isTooNearOneAhead RX5 18 34 2 := ⟨50, cf_34.1, cf_34.2.1, cf_34.2.2.1, cf_34.2.2.2, Or.inr ⟨5, 1, TX5, 7, rfl, rfl, rfl, (by decide +kernel), wt_383, wt_384, wt_382, by decide +kernel⟩⟩
theorem t_44_21 : am_ok lw_Ts cX5_isTooNearOneAhead 3 RX5 21 (o_if 42 24 q_eq) := so_if_eq (off := 21) (by decide +kernel) rfl
theorem t_44_24 : am_ok lw_Ts cX5_isTooNearOneAhead 3 RX5 24 (o_al 25 0) := so_al (Or.inl ⟨0, rfl, rfl, rfl⟩) (by decide +kernel)
theorem t_44_25 : am_ok lw_Ts cX5_isTooNearOneAhead 3 RX5 25 (o_gf 28 5 0) := so_gf cl_X5 (by decide) wt_144 (by decide +kernel)
theorem t_44_28 : am_ok lw_Ts cX5_isTooNearOneAhead 3 RX5 28 (o_al 29 0) := so_al (Or.inl ⟨0, rfl, rfl, rfl⟩) (by decide +kernel)
theorem t_44_29 : am_ok lw_Ts cX5_isTooNearOneAhead 3 RX5 29 (o_il 30 2) := so_il (Or.inl ⟨2, rfl, rfl, rfl⟩) (by decide +kernel)
theorem t_44_30 : am_okc gm_mi gm_mt lw_Ts lw_Ns cX5_isTooNearOneAhead RX5 30 36 2 := ⟨64, cf_36.1, cf_36.2.1, cf_36.2.2.1, cf_36.2.2.2, Or.inr ⟨5, 1, TX5, 7, rfl, rfl, rfl, (by decide +kernel), wt_395, wt_396, wt_394, by decide +kernel⟩⟩
theorem t_44_33 : am_ok lw_Ts cX5_isTooNearOneAhead 3 RX5 33 (o_al 34 0) := so_al (Or.inl ⟨0, rfl, rfl, rfl⟩) (by decide +kernel)
theorem t_44_34 : am_ok lw_Ts cX5_isTooNearOneAhead 3 RX5 34 (o_il 35 1) := so_il (Or.inl ⟨1, rfl, rfl, rfl⟩) (by decide +kernel)
theorem t_44_35 : am_okc gm_mi gm_mt lw_Ts lw_Ns cX5_isTooNearOneAhead RX5 35 36 2 := ⟨64, cf_36.1, cf_36.2.1, cf_36.2.2.1, cf_36.2.2.2, Or.inr ⟨5, 1, TX5, 7, rfl, rfl, rfl, (by decide +kernel), wt_395, wt_396, wt_394, by decide +kernel⟩⟩
theorem t_44_38 : am_okc gm_mi gm_mt lw_Ts lw_Ns cX5_isTooNearOneAhead RX5 38 11 3 := ⟨99, cf_11.1, cf_11.2.1, cf_11.2.2.1, cf_11.2.2.2, Or.inr ⟨2, 2, TX2, 4, rfl, rfl, rfl, (by decide +kernel), wt_431, wt_432, wt_430, by decide +kernel⟩⟩
theorem t_44_41 : am_okr cX5_isTooNearOneAhead 41 2 := (show decode cX5_isTooNearOneAhead 41 = .ok (.ireturn, 1) by decide +kernel)
theorem t_44_42 : am_ok lw_Ts cX5_isTooNearOneAhead 3 RX5 42 (o_ii 45 2 (-1)) := so_ii (by decide +kernel)
theorem t_44_45 : am_ok lw_Ts cX5_isTooNearOneAhead 3 RX5 45 (o_go 4) := so_go (off := (-41)) (by decide +kernel) rfl
theorem t_44_48 : am_ok lw_Ts cX5_isTooNearOneAhead 3 RX5 48 (o_k 49 (vI (0))) := so_k (by decide +kernel)
theorem t_44_49 : am_okr cX5_isTooNearOneAhead 49 2 := (show decode cX5_isTooNearOneAhead 49 = .ok (.ireturn, 1) by decide +kernel)
set_option maxRecDepth 20000 in
theorem ok_44 : am_okL gm_mi gm_mt lw_Ts lw_Ns 44 cd_44 := ⟨t_44_0, t_44_1, t_44_2, t_44_3, t_44_4, t_44_5, t_44_6, t_44_7, t_44_10, t_44_11, t_44_12, t_44_13, t_44_16, t_44_17, t_44_18, t_44_21, t_44_24, t_44_25, t_44_28, t_44_29, t_44_30, t_44_33, t_44_34, t_44_35, t_44_38, t_44_41, t_44_42, t_44_45, t_44_48, t_44_49, trivial⟩
theorem t_45_0 : am_ok lw_Ts cX6_mode 3 RX6 0 (o_il 1 1) := so_il (Or.inl ⟨1, rfl, rfl, rfl⟩) (by decide +kernel)
theorem t_45_1 : am_ok lw_Ts cX6_mode 3 RX6 1 (o_k 2 (vI (0))) := so_k (by decide +kernel)
theorem t_45_2 : am_ok lw_Ts cX6_mode 3 RX6 2 (o_k 5 (vI (4095))) := so_sp rfl (by decide +kernel)
theorem t_45_5 : am_okc gm_mi gm_mt lw_Ts lw_Ns cX6_mode RX6 5 66 3 := ⟨59, cf_66.1, cf_66.2.1, cf_66.2.2.1, cf_66.2.2.2, Or.inl ⟨rfl, (by decide +kernel), wt_312, by decide +kernel, (Or.inl wt_311)⟩⟩
theorem t_45_8 : am_ok lw_Ts cX6_mode 3 RX6 8 (o_if 21 11 q_eq) := so_if_eq (off := 13) (by decide +kernel) rfl
theorem t_45_11 : am_ok lw_Ts cX6_mode 3 RX6 11 (o_il 12 2) := so_il (Or.inl ⟨2, rfl, rfl, rfl⟩) (by decide +kernel)
theorem t_45_12 : am_ok lw_Ts cX6_mode 3 RX6 12 (o_k 13 (vI (0))) := so_k (by decide +kernel)
theorem t_45_13 : am_ok lw_Ts cX6_mode 3 RX6 13 (o_k 15 (vI (15))) := so_bp rfl (by decide +kernel)
theorem t_45_15 : am_okc gm_mi gm_mt lw_Ts lw_Ns cX6_mode RX6 15 66 3 := ⟨59, cf_66.1, cf_66.2.1, cf_66.2.2.1, cf_66.2.2.2, Or.inl ⟨rfl, (by decide +kernel), wt_312, by decide +kernel, (Or.inl wt_311)⟩⟩
theorem t_45_18 : am_ok lw_Ts cX6_mode 3 RX6 18 (o_if 23 21 q_ne) := so_if_ne (off := 5) (by decide +kernel) rfl
theorem t_45_21 : am_ok lw_Ts cX6_mode 3 RX6 21 (o_k 22 (vI (-1))) := so_k (by decide +kernel)
theorem t_45_22 : am_okr cX6_mode 22 1 := (show decode cX6_mode 22 = .ok (.ireturn, 1) by decide +kernel)
theorem t_45_23 : am_ok lw_Ts cX6_mode 3 RX6 23 (o_al 24 0) := so_al (Or.inl ⟨0, rfl, rfl, rfl⟩) (by decide +kernel)
theorem t_45_24 : am_ok lw_Ts cX6_mode 3 RX6 24 (o_gf 27 6 0) := so_gf cl_X6 (by decide) wt_288 (by decide +kernel)
theorem t_45_27 : am_ok lw_Ts cX6_mode 3 RX6 27 (o_il 28 1) := so_il (Or.inl ⟨1, rfl, rfl, rfl⟩) (by decide +kernel)
theorem t_45_28 : am_ok lw_Ts cX6_mode 3 RX6 28 (o_il 29 2) := so_il (Or.inl ⟨2, rfl, rfl, rfl⟩) (by decide +kernel)
theorem t_45_29 : am_okc gm_mi gm_mt lw_Ts lw_Ns cX6_mode RX6 29 9 3 := ⟨63, cf_9.1, cf_9.2.1, cf_9.2.2.1, cf_9.2.2.2, Or.inr ⟨2, 2, TX2, 4, rfl, rfl, rfl, (by decide +kernel), wt_315, wt_316, wt_314, by decide +kernel⟩⟩
theorem t_45_32 : am_okr cX6_mode 32 1 := (show decode cX6_mode 32 = .ok (.ireturn, 1) by decide +kernel)
set_option maxRecDepth 20000 in
theorem ok_45 : am_okL gm_mi gm_mt lw_Ts lw_Ns 45 cd_45 := ⟨t_45_0, t_45_1, t_45_2, t_45_5, t_45_8, t_45_11, t_45_12, t_45_13, t_45_15, t_45_18, t_45_21, t_45_22, t_45_23, t_45_24, t_45_27, t_45_28, t_45_29, t_45_32, trivial⟩
theorem t_46_0 : am_ok lw_Ts cX6_artist 2 RX6 0 (o_il 1 1) := so_il (Or.inl ⟨1, rfl, rfl, rfl⟩) (by decide +kernel)
theorem t_46_1 : am_ok lw_Ts cX6_artist 2 RX6 1 (o_k 2 (vI (1))) := so_k (by decide +kernel)
theorem t_46_2 : am_ok lw_Ts cX6_artist 2 RX6 2 (o_k 4 (vI (9))) := so_bp rfl (by decide +kernel)
theorem t_46_4 : am_okc gm_mi gm_mt lw_Ts lw_Ns cX6_artist RX6 4 66 3 := ⟨59, cf_66.1, cf_66.2.1, cf_66.2.2.1, cf_66.2.2.2, Or.inl ⟨rfl, (by decide +kernel), wt_312, by decide +kernel, (Or.inl wt_311)⟩⟩
theorem t_46_7 : am_ok lw_Ts cX6_artist 2 RX6 7 (o_if 21 10 q_eq) := so_if_eq (off := 14) (by decide +kernel) rfl
theorem t_46_10 : am_ok lw_Ts cX6_artist 2 RX6 10 (o_al 11 0) := so_al (Or.inl ⟨0, rfl, rfl, rfl⟩) (by decide +kernel)
theorem t_46_11 : am_ok lw_Ts cX6_artist 2 RX6 11 (o_gf 14 6 1) := so_gf cl_X6 (by decide) wt_289 (by decide +kernel)
theorem t_46_14 : am_ok lw_Ts cX6_artist 2 RX6 14 (o_il 15 1) := so_il (Or.inl ⟨1, rfl, rfl, rfl⟩) (by decide +kernel)
theorem t_46_15 : am_okc gm_mi gm_mt lw_Ts lw_Ns cX6_artist RX6 15 1 2 := ⟨67, cf_1.1, cf_1.2.1, cf_1.2.2.1, cf_1.2.2.2, Or.inr ⟨0, 1, TX0, 5, rfl, rfl, rfl, (by decide +kernel), wt_323, wt_324, wt_322, by decide +kernel⟩⟩
theorem t_46_18 : am_ok lw_Ts cX6_artist 2 RX6 18 (o_go 22) := so_go (off := 4) (by decide +kernel) rfl
theorem t_46_21 : am_ok lw_Ts cX6_artist 2 RX6 21 (o_k 22 (vI (-1))) := so_k (by decide +kernel)
theorem t_46_22 : am_okr cX6_artist 22 1 := (show decode cX6_artist 22 = .ok (.ireturn, 1) by decide +kernel)
set_option maxRecDepth 20000 in
theorem ok_46 : am_okL gm_mi gm_mt lw_Ts lw_Ns 46 cd_46 := ⟨t_46_0, t_46_1, t_46_2, t_46_4, t_46_7, t_46_10, t_46_11, t_46_14, t_46_15, t_46_18, t_46_21, t_46_22, trivial⟩
theorem t_47_0 : am_ok lw_Ts cX6_like 4 RX6 0 (o_al 1 0) := so_al (Or.inl ⟨0, rfl, rfl, rfl⟩) (by decide +kernel)
theorem t_47_1 : am_ok lw_Ts cX6_like 4 RX6 1 (o_gf 4 6 1) := so_gf cl_X6 (by decide) wt_289 (by decide +kernel)
theorem t_47_4 : am_ok lw_Ts cX6_like 4 RX6 4 (o_il 5 1) := so_il (Or.inl ⟨1, rfl, rfl, rfl⟩) (by decide +kernel)
theorem t_47_5 : am_okc gm_mi gm_mt lw_Ts lw_Ns cX6_like RX6 5 0 2 := ⟨70, cf_0.1, cf_0.2.1, cf_0.2.2.1, cf_0.2.2.2, Or.inr ⟨0, 1, TX0, 5, rfl, rfl, rfl, (by decide +kernel), wt_331, wt_332, wt_330, by decide +kernel⟩⟩
theorem t_47_8 : am_ok lw_Ts cX6_like 4 RX6 8 (o_if 32 11 q_eq) := so_if_eq (off := 24) (by decide +kernel) rfl
theorem t_47_11 : am_ok lw_Ts cX6_like 4 RX6 11 (o_al 12 0) := so_al (Or.inl ⟨0, rfl, rfl, rfl⟩) (by decide +kernel)
theorem t_47_12 : am_ok lw_Ts cX6_like 4 RX6 12 (o_gf 15 6 0) := so_gf cl_X6 (by decide) wt_288 (by decide +kernel)
theorem t_47_15 : am_ok lw_Ts cX6_like 4 RX6 15 (o_il 16 2) := so_il (Or.inl ⟨2, rfl, rfl, rfl⟩) (by decide +kernel)
theorem t_47_16 : am_okc gm_mi gm_mt lw_Ts lw_Ns cX6_like RX6 16 8 2 := ⟨74, cf_8.1, cf_8.2.1, cf_8.2.2.1, cf_8.2.2.2, Or.inr ⟨2, 1, TX2, 4, rfl, rfl, rfl, (by decide +kernel), wt_336, wt_337, wt_335, by decide +kernel⟩⟩
theorem t_47_19 : am_ok lw_Ts cX6_like 4 RX6 19 (o_if 32 22 q_eq) := so_if_eq (off := 13) (by decide +kernel) rfl
theorem t_47_22 : am_ok lw_Ts cX6_like 4 RX6 22 (o_il 23 3) := so_il (Or.inl ⟨3, rfl, rfl, rfl⟩) (by decide +kernel)
theorem t_47_23 : am_ok lw_Ts cX6_like 4 RX6 23 (o_k 24 (vI (0))) := so_k (by decide +kernel)
theorem t_47_24 : am_ok lw_Ts cX6_like 4 RX6 24 (o_k 26 (vI (100))) := so_bp rfl (by decide +kernel)
theorem t_47_26 : am_okc gm_mi gm_mt lw_Ts lw_Ns cX6_like RX6 26 66 3 := ⟨59, cf_66.1, cf_66.2.1, cf_66.2.2.1, cf_66.2.2.2, Or.inl ⟨rfl, (by decide +kernel), wt_312, by decide +kernel, (Or.inl wt_311)⟩⟩
theorem t_47_29 : am_ok lw_Ts cX6_like 4 RX6 29 (o_if 34 32 q_ne) := so_if_ne (off := 5) (by decide +kernel) rfl
theorem t_47_32 : am_ok lw_Ts cX6_like 4 RX6 32 (o_k 33 (vI (0))) := so_k (by decide +kernel)
theorem t_47_33 : am_okr cX6_like 33 2 := (show decode cX6_like 33 = .ok (.ireturn, 1) by decide +kernel)
theorem t_47_34 : am_ok lw_Ts cX6_like 4 RX6 34 (o_al 35 0) := so_al (Or.inl ⟨0, rfl, rfl, rfl⟩) (by decide +kernel)
theorem t_47_35 : am_ok lw_Ts cX6_like 4 RX6 35 (o_gf 38 6 1) := so_gf cl_X6 (by decide) wt_289 (by decide +kernel)
theorem t_47_38 : am_ok lw_Ts cX6_like 4 RX6 38 (o_gf 41 0 2) := so_gf cl_X0 (by decide) wt_110 (by decide +kernel)
theorem t_47_41 : am_ok lw_Ts cX6_like 4 RX6 41 (o_il 42 1) := so_il (Or.inl ⟨1, rfl, rfl, rfl⟩) (by decide +kernel)
theorem t_47_42 : am_ok lw_Ts cX6_like 4 RX6 42 (o_aa 43) := so_aa (by decide +kernel)
theorem t_47_43 : am_ok lw_Ts cX6_like 4 RX6 43 (o_il 44 2) := so_il (Or.inl ⟨2, rfl, rfl, rfl⟩) (by decide +kernel)
theorem t_47_44 : am_ok lw_Ts cX6_like 4 RX6 44 (o_il 45 3) := so_il (Or.inl ⟨3, rfl, rfl, rfl⟩) (by decide +kernel)
theorem t_47_45 : am_ok lw_Ts cX6_like 4 RX6 45 (o_iw 46) := so_iw (by decide +kernel)
theorem t_47_46 : am_ok lw_Ts cX6_like 4 RX6 46 (o_k 47 (vI (1))) := so_k (by decide +kernel)
theorem t_47_47 : am_okr cX6_like 47 2 := (show decode cX6_like 47 = .ok (.ireturn, 1) by decide +kernel)
set_option maxRecDepth 20000 in
theorem ok_47 : am_okL gm_mi gm_mt lw_Ts lw_Ns 47 cd_47 := ⟨t_47_0, t_47_1, t_47_4, t_47_5, t_47_8, t_47_11, t_47_12, t_47_15, t_47_16, t_47_19, t_47_22, t_47_23, t_47_24, t_47_26, t_47_29, t_47_32, t_47_33, t_47_34, t_47_35, t_47_38, t_47_41, t_47_42, t_47_43, t_47_44, t_47_45, t_47_46, t_47_47, trivial⟩
theorem t_48_0 : am_ok lw_Ts cX6_rival 4 RX6 0 (o_al 1 0) := so_al (Or.inl ⟨0, rfl, rfl, rfl⟩) (by decide +kernel)
theorem t_48_1 : am_ok lw_Ts cX6_rival 4 RX6 1 (o_gf 4 6 1) := so_gf cl_X6 (by decide) wt_289 (by decide +kernel)
theorem t_48_4 : am_ok lw_Ts cX6_rival 4 RX6 4 (o_il 5 1) := so_il (Or.inl ⟨1, rfl, rfl, rfl⟩) (by decide +kernel)
theorem t_48_5 : am_okc gm_mi gm_mt lw_Ts lw_Ns cX6_rival RX6 5 0 2 := ⟨70, cf_0.1, cf_0.2.1, cf_0.2.2.1, cf_0.2.2.2, Or.inr ⟨0, 1, TX0, 5, rfl, rfl, rfl, (by decide +kernel), wt_331, wt_332, wt_330, by decide +kernel⟩⟩
theorem t_48_8 : am_ok lw_Ts cX6_rival 4 RX6 8 (o_if 27 11 q_eq) := so_if_eq (off := 19) (by decide +kernel) rfl
theorem t_48_11 : am_ok lw_Ts cX6_rival 4 RX6 11 (o_al 12 0) := so_al (Or.inl ⟨0, rfl, rfl, rfl⟩) (by decide +kernel)
theorem t_48_12 : am_ok lw_Ts cX6_rival 4 RX6 12 (o_gf 15 6 1) := so_gf cl_X6 (by decide) wt_289 (by decide +kernel)
theorem t_48_15 : am_ok lw_Ts cX6_rival 4 RX6 15 (o_il 16 2) := so_il (Or.inl ⟨2, rfl, rfl, rfl⟩) (by decide +kernel)
theorem t_48_16 : am_okc gm_mi gm_mt lw_Ts lw_Ns cX6_rival RX6 16 0 2 := ⟨70, cf_0.1, cf_0.2.1, cf_0.2.2.1, cf_0.2.2.2, Or.inr ⟨0, 1, TX0, 5, rfl, rfl, rfl, (by decide +kernel), wt_331, wt_332, wt_330, by decide +kernel⟩⟩
theorem t_48_19 : am_ok lw_Ts cX6_rival 4 RX6 19 (o_if 27 22 q_eq) := so_if_eq (off := 8) (by decide +kernel) rfl
theorem t_48_22 : am_ok lw_Ts cX6_rival 4 RX6 22 (o_il 23 1) := so_il (Or.inl ⟨1, rfl, rfl, rfl⟩) (by decide +kernel)
theorem t_48_23 : am_ok lw_Ts cX6_rival 4 RX6 23 (o_il 24 2) := so_il (Or.inl ⟨2, rfl, rfl, rfl⟩) (by decide +kernel)
theorem t_48_24 : am_ok lw_Ts cX6_rival 4 RX6 24 (o_ic 29 27 r_ne) := so_ic_ne (off := 5) (by decide +kernel) rfl
theorem t_48_27 : am_ok lw_Ts cX6_rival 4 RX6 27 (o_k 28 (vI (0))) := so_k (by decide +kernel)
theorem t_48_28 : am_okr cX6_rival 28 2 := (show decode cX6_rival 28 = .ok (.ireturn, 1) by decide +kernel)
theorem t_48_29 : am_ok lw_Ts cX6_rival 4 RX6 29 (o_al 30 0) := so_al (Or.inl ⟨0, rfl, rfl, rfl⟩) (by decide +kernel)
theorem t_48_30 : am_ok lw_Ts cX6_rival 4 RX6 30 (o_gf 33 6 1) := so_gf cl_X6 (by decide) wt_289 (by decide +kernel)
theorem t_48_33 : am_ok lw_Ts cX6_rival 4 RX6 33 (o_gf 36 0 1) := so_gf cl_X0 (by decide) wt_105 (by decide +kernel)
theorem t_48_36 : am_ok lw_Ts cX6_rival 4 RX6 36 (o_il 37 1) := so_il (Or.inl ⟨1, rfl, rfl, rfl⟩) (by decide +kernel)
theorem t_48_37 : am_ok lw_Ts cX6_rival 4 RX6 37 (o_al 38 0) := so_al (Or.inl ⟨0, rfl, rfl, rfl⟩) (by decide +kernel)
theorem t_48_38 : am_ok lw_Ts cX6_rival 4 RX6 38 (o_gf 41 6 1) := so_gf cl_X6 (by decide) wt_289 (by decide +kernel)
theorem t_48_41 : am_ok lw_Ts cX6_rival 4 RX6 41 (o_gf 44 0 1) := so_gf cl_X0 (by decide) wt_105 (by decide +kernel)
theorem t_48_44 : am_ok lw_Ts cX6_rival 4 RX6 44 (o_il 45 1) := so_il (Or.inl ⟨1, rfl, rfl, rfl⟩) (by decide +kernel)
theorem t_48_45 : am_ok lw_Ts cX6_rival 4 RX6 45 (o_ia 46) := so_ia (by decide +kernel)
theorem t_48_46 : am_ok lw_Ts cX6_rival 4 RX6 46 (o_il 47 2) := so_il (Or.inl ⟨2, rfl, rfl, rfl⟩) (by decide +kernel)
theorem t_48_47 : am_ok lw_Ts cX6_rival 4 RX6 47 (o_il 48 3) := so_il (Or.inl ⟨3, rfl, rfl, rfl⟩) (by decide +kernel)
theorem t_48_48 : am_okc gm_mi gm_mt lw_Ts lw_Ns cX6_rival RX6 48 68 3 := ⟨83, cf_68.1, cf_68.2.1, cf_68.2.2.1, cf_68.2.2.2, Or.inl ⟨rfl, (by decide +kernel), wt_345, by decide +kernel, (Or.inl wt_344)⟩⟩
theorem t_48_51 : am_ok lw_Ts cX6_rival 4 RX6 51 (o_iw 52) := so_iw (by decide +kernel)
theorem t_48_52 : am_ok lw_Ts cX6_rival 4 RX6 52 (o_al 53 0) := so_al (Or.inl ⟨0, rfl, rfl, rfl⟩) (by decide +kernel)
theorem t_48_53 : am_ok lw_Ts cX6_rival 4 RX6 53 (o_gf 56 6 1) := so_gf cl_X6 (by decide) wt_289 (by decide +kernel)
theorem t_48_56 : am_ok lw_Ts cX6_rival 4 RX6 56 (o_gf 59 0 1) := so_gf cl_X0 (by decide) wt_105 (by decide +kernel)
theorem t_48_59 : am_ok lw_Ts cX6_rival 4 RX6 59 (o_il 60 2) := so_il (Or.inl ⟨2, rfl, rfl, rfl⟩) (by decide +kernel)
theorem t_48_60 : am_ok lw_Ts cX6_rival 4 RX6 60 (o_al 61 0) := so_al (Or.inl ⟨0, rfl, rfl, rfl⟩) (by decide +kernel)
theorem t_48_61 : am_ok lw_Ts cX6_rival 4 RX6 61 (o_gf 64 6 1) := so_gf cl_X6 (by decide) wt_289 (by decide +kernel)
theorem t_48_64 : am_ok lw_Ts cX6_rival 4 RX6 64 (o_gf 67 0 1) := so_gf cl_X0 (by decide) wt_105 (by decide +kernel)
theorem t_48_67 : am_ok lw_Ts cX6_rival 4 RX6 67 (o_il 68 2) := so_il (Or.inl ⟨2, rfl, rfl, rfl⟩) (by decide +kernel)
theorem t_48_68 : am_ok lw_Ts cX6_rival 4 RX6 68 (o_ia 69) := so_ia (by decide +kernel)
theorem t_48_69 : am_ok lw_Ts cX6_rival 4 RX6 69 (o_il 70 1) := so_il (Or.inl ⟨1, rfl, rfl, rfl⟩) (by decide +kernel)
theorem t_48_70 : am_ok lw_Ts cX6_rival 4 RX6 70 (o_il 71 3) := so_il (Or.inl ⟨3, rfl, rfl, rfl⟩) (by decide +kernel)
theorem t_48_71 : am_okc gm_mi gm_mt lw_Ts lw_Ns cX6_rival RX6 71 68 3 := ⟨83, cf_68.1, cf_68.2.1, cf_68.2.2.1, cf_68.2.2.2, Or.inl ⟨rfl, (by decide +kernel), wt_345, by decide +kernel, (Or.inl wt_344)⟩⟩
theorem t_48_74 : am_ok lw_Ts cX6_rival 4 RX6 74 (o_iw 75) := so_iw (by decide +kernel)
theorem t_48_75 : am_ok lw_Ts cX6_rival 4 RX6 75 (o_k 76 (vI (1))) := so_k (by decide +kernel)
theorem t_48_76 : am_okr cX6_rival 76 2 := (show decode cX6_rival 76 = .ok (.ireturn, 1) by decide +kernel)
set_option maxRecDepth 20000 in
theorem ok_48 : am_okL gm_mi gm_mt lw_Ts lw_Ns 48 cd_48 := ⟨t_48_0, t_48_1, t_48_4, t_48_5, t_48_8, t_48_11, t_48_12, t_48_15, t_48_16, t_48_19, t_48_22, t_48_23, t_48_24, t_48_27, t_48_28, t_48_29, t_48_30, t_48_33, t_48_36, t_48_37, t_48_38, t_48_41, t_48_44, t_48_45, t_48_46, t_48_47, t_48_48, t_48_51, t_48_52, t_48_53, t_48_56, t_48_59, t_48_60, t_48_61, t_48_64, t_48_67, t_48_68, t_48_69, t_48_70, t_48_71, t_48_74, t_48_75, t_48_76, trivial⟩
theorem t_49_0 : am_ok lw_Ts cX6_ill 3 RX6 0 (o_al 1 0) := so_al (Or.inl ⟨0, rfl, rfl, rfl⟩) (by decide +kernel)
theorem t_49_1 : am_ok lw_Ts cX6_ill 3 RX6 1 (o_gf 4 6 1) := so_gf cl_X6 (by decide) wt_289 (by decide +kernel)
theorem t_49_4 : am_ok lw_Ts cX6_ill 3 RX6 4 (o_il 5 1) := so_il (Or.inl ⟨1, rfl, rfl, rfl⟩) (by decide +kernel)
theorem t_49_5 : am_okc gm_mi gm_mt lw_Ts lw_Ns cX6_ill RX6 5 0 2 := ⟨70, cf_0.1, cf_0.2.1, cf_0.2.2.1, cf_0.2.2.2, Or.inr ⟨0, 1, TX0, 5, rfl, rfl, rfl, (by decide +kernel), wt_331, wt_332, wt_330, by decide +kernel⟩⟩
theorem t_49_8 : am_ok lw_Ts cX6_ill 3 RX6 8 (o_if 13 11 q_ne) := so_if_ne (off := 5) (by decide +kernel) rfl
theorem t_49_11 : am_ok lw_Ts cX6_ill 3 RX6 11 (o_k 12 (vI (0))) := so_k (by decide +kernel)
theorem t_49_12 : am_okr cX6_ill 12 2 := (show decode cX6_ill 12 = .ok (.ireturn, 1) by decide +kernel)
theorem t_49_13 : am_ok lw_Ts cX6_ill 3 RX6 13 (o_al 14 0) := so_al (Or.inl ⟨0, rfl, rfl, rfl⟩) (by decide +kernel)
theorem t_49_14 : am_ok lw_Ts cX6_ill 3 RX6 14 (o_gf 17 6 1) := so_gf cl_X6 (by decide) wt_289 (by decide +kernel)
theorem t_49_17 : am_ok lw_Ts cX6_ill 3 RX6 17 (o_al 18 0) := so_al (Or.inl ⟨0, rfl, rfl, rfl⟩) (by decide +kernel)
theorem t_49_18 : am_ok lw_Ts cX6_ill 3 RX6 18 (o_gf 21 6 1) := so_gf cl_X6 (by decide) wt_289 (by decide +kernel)
theorem t_49_21 : am_ok lw_Ts cX6_ill 3 RX6 21 (o_gf 24 0 3) := so_gf cl_X0 (by decide) wt_114 (by decide +kernel)
theorem t_49_24 : am_ok lw_Ts cX6_ill 3 RX6 24 (o_il 25 1) := so_il (Or.inl ⟨1, rfl, rfl, rfl⟩) (by decide +kernel)
theorem t_49_25 : am_ok lw_Ts cX6_ill 3 RX6 25 (o_il 26 2) := so_il (Or.inl ⟨2, rfl, rfl, rfl⟩) (by decide +kernel)
theorem t_49_26 : am_okc gm_mi gm_mt lw_Ts lw_Ns cX6_ill RX6 26 68 3 := ⟨83, cf_68.1, cf_68.2.1, cf_68.2.2.1, cf_68.2.2.2, Or.inl ⟨rfl, (by decide +kernel), wt_345, by decide +kernel, (Or.inl wt_344)⟩⟩
theorem t_49_29 : am_ok lw_Ts cX6_ill 3 RX6 29 (o_pf 32 0 3) := so_pf cl_X0 tyX0_ok nmX0 (by decide) rfl rfl wt_114 (by decide +kernel)
theorem t_49_32 : am_ok lw_Ts cX6_ill 3 RX6 32 (o_k 33 (vI (1))) := so_k (by decide +kernel)
theorem t_49_33 : am_okr cX6_ill 33 2 := (show decode cX6_ill 33 = .ok (.ireturn, 1) by decide +kernel)
set_option maxRecDepth 20000 in
theorem ok_49 : am_okL gm_mi gm_mt lw_Ts lw_Ns 49 cd_49 := ⟨t_49_0, t_49_1, t_49_4, t_49_5, t_49_8, t_49_11, t_49_12, t_49_13, t_49_14, t_49_17, t_49_18, t_49_21, t_49_24, t_49_25, t_49_26, t_49_29, t_49_32, t_49_33, trivial⟩
theorem t_50_0 : am_ok lw_Ts cX6_set 4 RX6 0 (o_k 1 (vI (-1))) := so_k (by decide +kernel)
theorem t_50_1 : am_ok lw_Ts cX6_set 4 RX6 1 (o_is 2 3) := so_is (Or.inl ⟨3, rfl, rfl, rfl⟩) (by decide +kernel)
theorem t_50_2 : am_ok lw_Ts cX6_set 4 RX6 2 (o_il 3 1) := so_il (Or.inl ⟨1, rfl, rfl, rfl⟩) (by decide +kernel)
theorem t_50_3 : am_ok lw_Ts cX6_set 4 RX6 3 (o_if 35 6 q_ne) := so_if_ne (off := 32) (by decide +kernel) rfl
theorem t_50_6 : am_ok lw_Ts cX6_set 4 RX6 6 (o_il 7 2) := so_il (Or.inl ⟨2, rfl, rfl, rfl⟩) (by decide +kernel)
theorem t_50_7 : am_ok lw_Ts cX6_set 4 RX6 7 (o_k 8 (vI (0))) := so_k (by decide +kernel)
theorem t_50_8 : am_ok lw_Ts cX6_set 4 RX6 8 (o_k 10 (vI (12))) := so_bp rfl (by decide +kernel)
theorem t_50_10 : am_okc gm_mi gm_mt lw_Ts lw_Ns cX6_set RX6 10 66 3 := ⟨59, cf_66.1, cf_66.2.1, cf_66.2.2.1, cf_66.2.2.2, Or.inl ⟨rfl, (by decide +kernel), wt_312, by decide +kernel, (Or.inl wt_311)⟩⟩
theorem t_50_13 : am_ok lw_Ts cX6_set 4 RX6 13 (o_if 35 16 q_eq) := so_if_eq (off := 22) (by decide +kernel) rfl
theorem t_50_16 : am_ok lw_Ts cX6_set 4 RX6 16 (o_al 17 0) := so_al (Or.inl ⟨0, rfl, rfl, rfl⟩) (by decide +kernel)
theorem t_50_17 : am_ok lw_Ts cX6_set 4 RX6 17 (o_gf 20 6 0) := so_gf cl_X6 (by decide) wt_288 (by decide +kernel)
theorem t_50_20 : am_ok lw_Ts cX6_set 4 RX6 20 (o_gf 23 2 3) := so_gf cl_X2 (by decide) wt_81 (by decide +kernel)
theorem t_50_23 : am_ok lw_Ts cX6_set 4 RX6 23 (o_is 24 3) := so_is (Or.inl ⟨3, rfl, rfl, rfl⟩) (by decide +kernel)
theorem t_50_24 : am_ok lw_Ts cX6_set 4 RX6 24 (o_al 25 0) := so_al (Or.inl ⟨0, rfl, rfl, rfl⟩) (by decide +kernel)
theorem t_50_25 : am_ok lw_Ts cX6_set 4 RX6 25 (o_gf 28 6 0) := so_gf cl_X6 (by decide) wt_288 (by decide +kernel)
theorem t_50_28 : am_ok lw_Ts cX6_set 4 RX6 28 (o_il 29 2) := so_il (Or.inl ⟨2, rfl, rfl, rfl⟩) (by decide +kernel)
theorem t_50_29 : am_ok lw_Ts cX6_set 4 RX6 29 (o_pf 32 2 3) := so_pf cl_X2 tyX2_ok nmX2 (by decide) rfl rfl wt_81 (by decide +kernel)
theorem t_50_32 : am_ok lw_Ts cX6_set 4 RX6 32 (o_go 66) := so_go (off := 34) (by decide +kernel) rfl
theorem t_50_35 : am_ok lw_Ts cX6_set 4 RX6 35 (o_il 36 1) := so_il (Or.inl ⟨1, rfl, rfl, rfl⟩) (by decide +kernel)
theorem t_50_36 : am_ok lw_Ts cX6_set 4 RX6 36 (o_k 37 (vI (1))) := so_k (by decide +kernel)
theorem t_50_37 : am_ok lw_Ts cX6_set 4 RX6 37 (o_ic 66 40 r_ne) := so_ic_ne (off := 29) (by decide +kernel) rfl
theorem t_50_40 : am_ok lw_Ts cX6_set 4 RX6 40 (o_il 41 2) := so_il (Or.inl ⟨2, rfl, rfl, rfl⟩) (by decide +kernel)
theorem t_50_41 : am_ok lw_Ts cX6_set 4 RX6 41 (o_k 42 (vI (0))) := so_k (by decide +kernel)
theorem t_50_42 : am_ok lw_Ts cX6_set 4 RX6 42 (o_k 44 (vI (30))) := so_bp rfl (by decide +kernel)
theorem t_50_44 : am_okc gm_mi gm_mt lw_Ts lw_Ns cX6_set RX6 44 66 3 := ⟨59, cf_66.1, cf_66.2.1, cf_66.2.2.1, cf_66.2.2.2, Or.inl ⟨rfl, (by decide +kernel), wt_312, by decide +kernel, (Or.inl wt_311)⟩⟩
theorem t_50_47 : am_ok lw_Ts cX6_set 4 RX6 47 (o_if 66 50 q_eq) := so_if_eq (off := 19) (by decide +kernel) rfl
theorem t_50_50 : am_ok lw_Ts cX6_set 4 RX6 50 (o_al 51 0) := so_al (Or.inl ⟨0, rfl, rfl, rfl⟩) (by decide +kernel)
theorem t_50_51 : am_ok lw_Ts cX6_set 4 RX6 51 (o_gf 54 6 4) := so_gf cl_X6 (by decide) wt_292 (by decide +kernel)
theorem t_50_54 : am_ok lw_Ts cX6_set 4 RX6 54 (o_gf 57 3 10) := so_gf cl_X3 (by decide) wt_236 (by decide +kernel)
theorem t_50_57 : am_ok lw_Ts cX6_set 4 RX6 57 (o_is 58 3) := so_is (Or.inl ⟨3, rfl, rfl, rfl⟩) (by decide +kernel)
theorem t_50_58 : am_ok lw_Ts cX6_set 4 RX6 58 (o_al 59 0) := so_al (Or.inl ⟨0, rfl, rfl, rfl⟩) (by decide +kernel)
theorem t_50_59 : am_ok lw_Ts cX6_set 4 RX6 59 (o_gf 62 6 4) := so_gf cl_X6 (by decide) wt_292 (by decide +kernel)
theorem t_50_62 : am_ok lw_Ts cX6_set 4 RX6 62 (o_il 63 2) := so_il (Or.inl ⟨2, rfl, rfl, rfl⟩) (by decide +kernel)
theorem t_50_63 : am_ok lw_Ts cX6_set 4 RX6 63 (o_pf 66 3 10) := so_pf cl_X3 tyX3_ok nmX3 (by decide) rfl rfl wt_236 (by decide +kernel)
theorem t_50_66 : am_ok lw_Ts cX6_set 4 RX6 66 (o_il 67 3) := so_il (Or.inl ⟨3, rfl, rfl, rfl⟩) (by decide +kernel)
theorem t_50_67 : am_okr cX6_set 67 1 := (show decode cX6_set 67 = .ok (.ireturn, 1) by decide +kernel)
set_option maxRecDepth 20000 in
theorem ok_50 : am_okL gm_mi gm_mt lw_Ts lw_Ns 50 cd_50 := ⟨t_50_0, t_50_1, t_50_2, t_50_3, t_50_6, t_50_7, t_50_8, t_50_10, t_50_13, t_50_16, t_50_17, t_50_20, t_50_23, t_50_24, t_50_25, t_50_28, t_50_29, t_50_32, t_50_35, t_50_36, t_50_37, t_50_40, t_50_41, t_50_42, t_50_44, t_50_47, t_50_50, t_50_51, t_50_54, t_50_57, t_50_58, t_50_59, t_50_62, t_50_63, t_50_66, t_50_67, trivial⟩
theorem t_51_0 : am_ok lw_Ts cX6_season 3 RX6 0 (o_il 1 1) := so_il (Or.inl ⟨1, rfl, rfl, rfl⟩) (by decide +kernel)
theorem t_51_1 : am_ok lw_Ts cX6_season 3 RX6 1 (o_k 2 (vI (1))) := so_k (by decide +kernel)
theorem t_51_2 : am_ok lw_Ts cX6_season 3 RX6 2 (o_k 3 (vI (3))) := so_k (by decide +kernel)
theorem t_51_3 : am_okc gm_mi gm_mt lw_Ts lw_Ns cX6_season RX6 3 66 3 := ⟨59, cf_66.1, cf_66.2.1, cf_66.2.2.1, cf_66.2.2.2, Or.inl ⟨rfl, (by decide +kernel), wt_312, by decide +kernel, (Or.inl wt_311)⟩⟩
theorem t_51_6 : am_ok lw_Ts cX6_season 3 RX6 6 (o_if 26 9 q_eq) := so_if_eq (off := 20) (by decide +kernel) rfl
theorem t_51_9 : am_ok lw_Ts cX6_season 3 RX6 9 (o_il 10 2) := so_il (Or.inl ⟨2, rfl, rfl, rfl⟩) (by decide +kernel)
theorem t_51_10 : am_ok lw_Ts cX6_season 3 RX6 10 (o_k 11 (vI (1))) := so_k (by decide +kernel)
theorem t_51_11 : am_ok lw_Ts cX6_season 3 RX6 11 (o_k 12 (vI (3))) := so_k (by decide +kernel)
theorem t_51_12 : am_okc gm_mi gm_mt lw_Ts lw_Ns cX6_season RX6 12 66 3 := ⟨59, cf_66.1, cf_66.2.1, cf_66.2.2.1, cf_66.2.2.2, Or.inl ⟨rfl, (by decide +kernel), wt_312, by decide +kernel, (Or.inl wt_311)⟩⟩
theorem t_51_15 : am_ok lw_Ts cX6_season 3 RX6 15 (o_if 26 18 q_eq) := so_if_eq (off := 11) (by decide +kernel) rfl
theorem t_51_18 : am_ok lw_Ts cX6_season 3 RX6 18 (o_il 19 1) := so_il (Or.inl ⟨1, rfl, rfl, rfl⟩) (by decide +kernel)
theorem t_51_19 : am_ok lw_Ts cX6_season 3 RX6 19 (o_il 20 2) := so_il (Or.inl ⟨2, rfl, rfl, rfl⟩) (by decide +kernel)
theorem t_51_20 : am_ok lw_Ts cX6_season 3 RX6 20 (o_ib 21 f_mul) := so_imul (by decide +kernel)
theorem t_51_21 : am_ok lw_Ts cX6_season 3 RX6 21 (o_k 23 (vI (6))) := so_bp rfl (by decide +kernel)
theorem t_51_23 : am_ok lw_Ts cX6_season 3 RX6 23 (o_ic 28 26 r_le) := so_ic_le (off := 5) (by decide +kernel) rfl
theorem t_51_26 : am_ok lw_Ts cX6_season 3 RX6 26 (o_k 27 (vI (0))) := so_k (by decide +kernel)
theorem t_51_27 : am_okr cX6_season 27 2 := (show decode cX6_season 27 = .ok (.ireturn, 1) by decide +kernel)
theorem t_51_28 : am_ok lw_Ts cX6_season 3 RX6 28 (o_al 29 0) := so_al (Or.inl ⟨0, rfl, rfl, rfl⟩) (by decide +kernel)
theorem t_51_29 : am_ok lw_Ts cX6_season 3 RX6 29 (o_gf 32 6 2) := so_gf cl_X6 (by decide) wt_290 (by decide +kernel)
theorem t_51_32 : am_ok lw_Ts cX6_season 3 RX6 32 (o_il 33 1) := so_il (Or.inl ⟨1, rfl, rfl, rfl⟩) (by decide +kernel)
theorem t_51_33 : am_ok lw_Ts cX6_season 3 RX6 33 (o_il 34 2) := so_il (Or.inl ⟨2, rfl, rfl, rfl⟩) (by decide +kernel)
theorem t_51_34 : am_okc gm_mi gm_mt lw_Ts lw_Ns cX6_season RX6 34 32 3 := ⟨97, cf_32.1, cf_32.2.1, cf_32.2.2.1, cf_32.2.2.2, Or.inr ⟨5, 2, TX5, 7, rfl, rfl, rfl, (by decide +kernel), wt_138, wt_139, wt_359, by decide +kernel⟩⟩
theorem t_51_37 : am_ok lw_Ts cX6_season 3 RX6 37 (o_k 38 (vI (1))) := so_k (by decide +kernel)
theorem t_51_38 : am_okr cX6_season 38 2 := (show decode cX6_season 38 = .ok (.ireturn, 1) by decide +kernel)
set_option maxRecDepth 20000 in
theorem ok_51 : am_okL gm_mi gm_mt lw_Ts lw_Ns 51 cd_51 := ⟨t_51_0, t_51_1, t_51_2, t_51_3, t_51_6, t_51_9, t_51_10, t_51_11, t_51_12, t_51_15, t_51_18, t_51_19, t_51_20, t_51_21, t_51_23, t_51_26, t_51_27, t_51_28, t_51_29, t_51_32, t_51_33, t_51_34, t_51_37, t_51_38, trivial⟩
theorem t_52_0 : am_ok lw_Ts cX6_near 3 RX6 0 (o_al 1 0) := so_al (Or.inl ⟨0, rfl, rfl, rfl⟩) (by decide +kernel)
theorem t_52_1 : am_ok lw_Ts cX6_near 3 RX6 1 (o_gf 4 6 0) := so_gf cl_X6 (by decide) wt_288 (by decide +kernel)
theorem t_52_4 : am_ok lw_Ts cX6_near 3 RX6 4 (o_il 5 1) := so_il (Or.inl ⟨1, rfl, rfl, rfl⟩) (by decide +kernel)
theorem t_52_5 : am_okc gm_mi gm_mt lw_Ts lw_Ns cX6_near RX6 5 8 2 := ⟨74, cf_8.1, cf_8.2.1, cf_8.2.2.1, cf_8.2.2.2, Or.inr ⟨2, 1, TX2, 4, rfl, rfl, rfl, (by decide +kernel), wt_336, wt_337, wt_335, by decide +kernel⟩⟩
theorem t_52_8 : am_ok lw_Ts cX6_near 3 RX6 8 (o_if 34 11 q_eq) := so_if_eq (off := 26) (by decide +kernel) rfl
theorem t_52_11 : am_ok lw_Ts cX6_near 3 RX6 11 (o_al 12 0) := so_al (Or.inl ⟨0, rfl, rfl, rfl⟩) (by decide +kernel)
theorem t_52_12 : am_ok lw_Ts cX6_near 3 RX6 12 (o_gf 15 6 0) := so_gf cl_X6 (by decide) wt_288 (by decide +kernel)
theorem t_52_15 : am_ok lw_Ts cX6_near 3 RX6 15 (o_il 16 2) := so_il (Or.inl ⟨2, rfl, rfl, rfl⟩) (by decide +kernel)
theorem t_52_16 : am_okc gm_mi gm_mt lw_Ts lw_Ns cX6_near RX6 16 8 2 := ⟨74, cf_8.1, cf_8.2.1, cf_8.2.2.1, cf_8.2.2.2, Or.inr ⟨2, 1, TX2, 4, rfl, rfl, rfl, (by decide +kernel), wt_336, wt_337, wt_335, by decide +kernel⟩⟩
theorem t_52_19 : am_ok lw_Ts cX6_near 3 RX6 19 (o_if 34 22 q_eq) := so_if_eq (off := 15) (by decide +kernel) rfl
theorem t_52_22 : am_ok lw_Ts cX6_near 3 RX6 22 (o_al 23 0) := so_al (Or.inl ⟨0, rfl, rfl, rfl⟩) (by decide +kernel)
theorem t_52_23 : am_ok lw_Ts cX6_near 3 RX6 23 (o_gf 26 6 0) := so_gf cl_X6 (by decide) wt_288 (by decide +kernel)
theorem t_52_26 : am_ok lw_Ts cX6_near 3 RX6 26 (o_il 27 1) := so_il (Or.inl ⟨1, rfl, rfl, rfl⟩) (by decide +kernel)
theorem t_52_27 : am_ok lw_Ts cX6_near 3 RX6 27 (o_il 28 2) := so_il (Or.inl ⟨2, rfl, rfl, rfl⟩) (by decide +kernel)
theorem t_52_28 : am_okc gm_mi gm_mt lw_Ts lw_Ns cX6_near RX6 28 10 3 := ⟨101, cf_10.1, cf_10.2.1, cf_10.2.2.1, cf_10.2.2.2, Or.inr ⟨2, 2, TX2, 4, rfl, rfl, rfl, (by decide +kernel), wt_365, wt_366, wt_364, by decide +kernel⟩⟩
theorem t_52_31 : am_ok lw_Ts cX6_near 3 RX6 31 (o_go 35) := so_go (off := 4) (by decide +kernel) rfl
theorem t_52_34 : am_ok lw_Ts cX6_near 3 RX6 34 (o_k 35 (vI (-1))) := so_k (by decide +kernel)
theorem t_52_35 : am_okr cX6_near 35 1 := (show decode cX6_near 35 = .ok (.ireturn, 1) by decide +kernel)
set_option maxRecDepth 20000 in
theorem ok_52 : am_okL gm_mi gm_mt lw_Ts lw_Ns 52 cd_52 := ⟨t_52_0, t_52_1, t_52_4, t_52_5, t_52_8, t_52_11, t_52_12, t_52_15, t_52_16, t_52_19, t_52_22, t_52_23, t_52_26, t_52_27, t_52_28, t_52_31, t_52_34, t_52_35, trivial⟩
theorem t_53_0 : am_ok lw_Ts cX6_count 2 RX6 0 (o_il 1 1) := so_il (Or.inl ⟨1, rfl, rfl, rfl⟩) (by decide +kernel)
theorem t_53_1 : am_ok lw_Ts cX6_count 2 RX6 1 (o_sw (f_sw 1 99 0 6 #[43, 51, 59, 67, 75, 83, 91])) := so_sw (len := 43) (by decide +kernel) (by decide) (by decide) (by decide)
theorem t_53_44 : am_ok lw_Ts cX6_count 2 RX6 44 (o_al 45 0) := so_al (Or.inl ⟨0, rfl, rfl, rfl⟩) (by decide +kernel)
theorem t_53_45 : am_ok lw_Ts cX6_count 2 RX6 45 (o_gf 48 6 0) := so_gf cl_X6 (by decide) wt_288 (by decide +kernel)
theorem t_53_48 : am_ok lw_Ts cX6_count 2 RX6 48 (o_gf 51 2 2) := so_gf cl_X2 (by decide) wt_79 (by decide +kernel)
theorem t_53_51 : am_okr cX6_count 51 1 := (show decode cX6_count 51 = .ok (.ireturn, 1) by decide +kernel)
theorem t_53_52 : am_ok lw_Ts cX6_count 2 RX6 52 (o_al 53 0) := so_al (Or.inl ⟨0, rfl, rfl, rfl⟩) (by decide +kernel)
theorem t_53_53 : am_ok lw_Ts cX6_count 2 RX6 53 (o_gf 56 6 1) := so_gf cl_X6 (by decide) wt_289 (by decide +kernel)
theorem t_53_56 : am_ok lw_Ts cX6_count 2 RX6 56 (o_gf 59 0 4) := so_gf cl_X0 (by decide) wt_119 (by decide +kernel)
theorem t_53_59 : am_okr cX6_count 59 1 := (show decode cX6_count 59 = .ok (.ireturn, 1) by decide +kernel)
theorem t_53_60 : am_ok lw_Ts cX6_count 2 RX6 60 (o_al 61 0) := so_al (Or.inl ⟨0, rfl, rfl, rfl⟩) (by decide +kernel)
theorem t_53_61 : am_ok lw_Ts cX6_count 2 RX6 61 (o_gf 64 6 2) := so_gf cl_X6 (by decide) wt_290 (by decide +kernel)
theorem t_53_64 : am_ok lw_Ts cX6_count 2 RX6 64 (o_gf 67 5 6) := so_gf cl_X5 (by decide) wt_156 (by decide +kernel)
theorem t_53_67 : am_okr cX6_count 67 1 := (show decode cX6_count 67 = .ok (.ireturn, 1) by decide +kernel)
theorem t_53_68 : am_ok lw_Ts cX6_count 2 RX6 68 (o_al 69 0) := so_al (Or.inl ⟨0, rfl, rfl, rfl⟩) (by decide +kernel)
theorem t_53_69 : am_ok lw_Ts cX6_count 2 RX6 69 (o_gf 72 6 2) := so_gf cl_X6 (by decide) wt_290 (by decide +kernel)
theorem t_53_72 : am_okc gm_mi gm_mt lw_Ts lw_Ns cX6_count RX6 72 37 1 := ⟨111, cf_37.1, cf_37.2.1, cf_37.2.2.1, cf_37.2.2.2, Or.inr ⟨5, 0, TX5, 7, rfl, rfl, rfl, (by decide +kernel), wt_379, wt_380, wt_378, by decide +kernel⟩⟩
theorem t_53_75 : am_okr cX6_count 75 1 := (show decode cX6_count 75 = .ok (.ireturn, 1) by decide +kernel)
theorem t_53_76 : am_ok lw_Ts cX6_count 2 RX6 76 (o_al 77 0) := so_al (Or.inl ⟨0, rfl, rfl, rfl⟩) (by decide +kernel)
theorem t_53_77 : am_ok lw_Ts cX6_count 2 RX6 77 (o_gf 80 6 2) := so_gf cl_X6 (by decide) wt_290 (by decide +kernel)
theorem t_53_80 : am_okc gm_mi gm_mt lw_Ts lw_Ns cX6_count RX6 80 38 1 := ⟨115, cf_38.1, cf_38.2.1, cf_38.2.2.1, cf_38.2.2.2, Or.inr ⟨5, 0, TX5, 7, rfl, rfl, rfl, (by decide +kernel), wt_387, wt_388, wt_386, by decide +kernel⟩⟩
theorem t_53_83 : am_okr cX6_count 83 1 := (show decode cX6_count 83 = .ok (.ireturn, 1) by decide +kernel)
theorem t_53_84 : am_ok lw_Ts cX6_count 2 RX6 84 (o_al 85 0) := so_al (Or.inl ⟨0, rfl, rfl, rfl⟩) (by decide +kernel)
theorem t_53_85 : am_ok lw_Ts cX6_count 2 RX6 85 (o_gf 88 6 4) := so_gf cl_X6 (by decide) wt_292 (by decide +kernel)
theorem t_53_88 : am_ok lw_Ts cX6_count 2 RX6 88 (o_gf 91 3 9) := so_gf cl_X3 (by decide) wt_234 (by decide +kernel)
theorem t_53_91 : am_okr cX6_count 91 1 := (show decode cX6_count 91 = .ok (.ireturn, 1) by decide +kernel)
theorem t_53_92 : am_ok lw_Ts cX6_count 2 RX6 92 (o_al 93 0) := so_al (Or.inl ⟨0, rfl, rfl, rfl⟩) (by decide +kernel)
theorem t_53_93 : am_ok lw_Ts cX6_count 2 RX6 93 (o_gf 96 6 4) := so_gf cl_X6 (by decide) wt_292 (by decide +kernel)
theorem t_53_96 : am_ok lw_Ts cX6_count 2 RX6 96 (o_gf 99 3 11) := so_gf cl_X3 (by decide) wt_238 (by decide +kernel)
theorem t_53_99 : am_okr cX6_count 99 1 := (show decode cX6_count 99 = .ok (.ireturn, 1) by decide +kernel)
theorem t_53_100 : am_ok lw_Ts cX6_count 2 RX6 100 (o_k 101 (vI (-1))) := so_k (by decide +kernel)
theorem t_53_101 : am_okr cX6_count 101 1 := (show decode cX6_count 101 = .ok (.ireturn, 1) by decide +kernel)
set_option maxRecDepth 20000 in
theorem ok_53 : am_okL gm_mi gm_mt lw_Ts lw_Ns 53 cd_53 := ⟨t_53_0, t_53_1, t_53_44, t_53_45, t_53_48, t_53_51, t_53_52, t_53_53, t_53_56, t_53_59, t_53_60, t_53_61, t_53_64, t_53_67, t_53_68, t_53_69, t_53_72, t_53_75, t_53_76, t_53_77, t_53_80, t_53_83, t_53_84, t_53_85, t_53_88, t_53_91, t_53_92, t_53_93, t_53_96, t_53_99, t_53_100, t_53_101, trivial⟩
theorem t_54_0 : am_ok lw_Ts cX6_put 4 RX6 0 (o_al 1 0) := so_al (Or.inl ⟨0, rfl, rfl, rfl⟩) (by decide +kernel)
theorem t_54_1 : am_ok lw_Ts cX6_put 4 RX6 1 (o_gf 4 6 2) := so_gf cl_X6 (by decide) wt_290 (by decide +kernel)
theorem t_54_4 : am_ok lw_Ts cX6_put 4 RX6 4 (o_il 5 1) := so_il (Or.inl ⟨1, rfl, rfl, rfl⟩) (by decide +kernel)
theorem t_54_5 : am_okc gm_mi gm_mt lw_Ts lw_Ns cX6_put RX6 5 33 2 := ⟨122, cf_33.1, cf_33.2.1, cf_33.2.2.1, cf_33.2.2.2, Or.inr ⟨5, 1, TX5, 7, rfl, rfl, rfl, (by decide +kernel), wt_403, wt_404, wt_402, by decide +kernel⟩⟩
theorem t_54_8 : am_ok lw_Ts cX6_put 4 RX6 8 (o_if 13 11 q_ne) := so_if_ne (off := 5) (by decide +kernel) rfl
theorem t_54_11 : am_ok lw_Ts cX6_put 4 RX6 11 (o_k 12 (vI (0))) := so_k (by decide +kernel)
theorem t_54_12 : am_okr cX6_put 12 2 := (show decode cX6_put 12 = .ok (.ireturn, 1) by decide +kernel)
theorem t_54_13 : am_ok lw_Ts cX6_put 4 RX6 13 (o_il 14 2) := so_il (Or.inl ⟨2, rfl, rfl, rfl⟩) (by decide +kernel)
theorem t_54_14 : am_ok lw_Ts cX6_put 4 RX6 14 (o_k 15 (vI (-1))) := so_k (by decide +kernel)
theorem t_54_15 : am_ok lw_Ts cX6_put 4 RX6 15 (o_ic 31 18 r_ne) := so_ic_ne (off := 16) (by decide +kernel) rfl
theorem t_54_18 : am_ok lw_Ts cX6_put 4 RX6 18 (o_al 19 0) := so_al (Or.inl ⟨0, rfl, rfl, rfl⟩) (by decide +kernel)
theorem t_54_19 : am_ok lw_Ts cX6_put 4 RX6 19 (o_gf 22 6 2) := so_gf cl_X6 (by decide) wt_290 (by decide +kernel)
theorem t_54_22 : am_ok lw_Ts cX6_put 4 RX6 22 (o_gf 25 5 2) := so_gf cl_X5 (by decide) wt_148 (by decide +kernel)
theorem t_54_25 : am_ok lw_Ts cX6_put 4 RX6 25 (o_il 26 1) := so_il (Or.inl ⟨1, rfl, rfl, rfl⟩) (by decide +kernel)
theorem t_54_26 : am_ok lw_Ts cX6_put 4 RX6 26 (o_k 28 (vI (36))) := so_bp rfl (by decide +kernel)
theorem t_54_28 : am_ok lw_Ts cX6_put 4 RX6 28 (o_iw 29) := so_iw (by decide +kernel)
theorem t_54_29 : am_ok lw_Ts cX6_put 4 RX6 29 (o_k 30 (vI (1))) := so_k (by decide +kernel)
theorem t_54_30 : am_okr cX6_put 30 2 := (show decode cX6_put 30 = .ok (.ireturn, 1) by decide +kernel)
theorem t_54_31 : am_ok lw_Ts cX6_put 4 RX6 31 (o_al 32 0) := so_al (Or.inl ⟨0, rfl, rfl, rfl⟩) (by decide +kernel)
theorem t_54_32 : am_ok lw_Ts cX6_put 4 RX6 32 (o_gf 35 6 1) := so_gf cl_X6 (by decide) wt_289 (by decide +kernel)
theorem t_54_35 : am_ok lw_Ts cX6_put 4 RX6 35 (o_il 36 2) := so_il (Or.inl ⟨2, rfl, rfl, rfl⟩) (by decide +kernel)
theorem t_54_36 : am_okc gm_mi gm_mt lw_Ts lw_Ns cX6_put RX6 36 0 2 := ⟨70, cf_0.1, cf_0.2.1, cf_0.2.2.1, cf_0.2.2.2, Or.inr ⟨0, 1, TX0, 5, rfl, rfl, rfl, (by decide +kernel), wt_331, wt_332, wt_330, by decide +kernel⟩⟩
theorem t_54_39 : am_ok lw_Ts cX6_put 4 RX6 39 (o_if 53 42 q_eq) := so_if_eq (off := 14) (by decide +kernel) rfl
theorem t_54_42 : am_ok lw_Ts cX6_put 4 RX6 42 (o_al 43 0) := so_al (Or.inl ⟨0, rfl, rfl, rfl⟩) (by decide +kernel)
theorem t_54_43 : am_ok lw_Ts cX6_put 4 RX6 43 (o_gf 46 6 0) := so_gf cl_X6 (by decide) wt_288 (by decide +kernel)
theorem t_54_46 : am_ok lw_Ts cX6_put 4 RX6 46 (o_il 47 3) := so_il (Or.inl ⟨3, rfl, rfl, rfl⟩) (by decide +kernel)
theorem t_54_47 : am_okc gm_mi gm_mt lw_Ts lw_Ns cX6_put RX6 47 8 2 := ⟨74, cf_8.1, cf_8.2.1, cf_8.2.2.1, cf_8.2.2.2, Or.inr ⟨2, 1, TX2, 4, rfl, rfl, rfl, (by decide +kernel), wt_336, wt_337, wt_335, by decide +kernel⟩⟩
theorem t_54_50 : am_ok lw_Ts cX6_put 4 RX6 50 (o_if 55 53 q_ne) := so_if_ne (off := 5) (by decide +kernel) rfl
theorem t_54_53 : am_ok lw_Ts cX6_put 4 RX6 53 (o_k 54 (vI (0))) := so_k (by decide +kernel)
theorem t_54_54 : am_okr cX6_put 54 2 := (show decode cX6_put 54 = .ok (.ireturn, 1) by decide +kernel)
theorem t_54_55 : am_ok lw_Ts cX6_put 4 RX6 55 (o_al 56 0) := so_al (Or.inl ⟨0, rfl, rfl, rfl⟩) (by decide +kernel)
theorem t_54_56 : am_ok lw_Ts cX6_put 4 RX6 56 (o_gf 59 6 2) := so_gf cl_X6 (by decide) wt_290 (by decide +kernel)
theorem t_54_59 : am_ok lw_Ts cX6_put 4 RX6 59 (o_gf 62 5 2) := so_gf cl_X5 (by decide) wt_148 (by decide +kernel)
theorem t_54_62 : am_ok lw_Ts cX6_put 4 RX6 62 (o_il 63 1) := so_il (Or.inl ⟨1, rfl, rfl, rfl⟩) (by decide +kernel)
theorem t_54_63 : am_ok lw_Ts cX6_put 4 RX6 63 (o_il 64 2) := so_il (Or.inl ⟨2, rfl, rfl, rfl⟩) (by decide +kernel)
theorem t_54_64 : am_ok lw_Ts cX6_put 4 RX6 64 (o_k 66 (vI (6))) := so_bp rfl (by decide +kernel)
theorem t_54_66 : am_ok lw_Ts cX6_put 4 RX6 66 (o_ib 67 f_mul) := so_imul (by decide +kernel)
theorem t_54_67 : am_ok lw_Ts cX6_put 4 RX6 67 (o_il 68 3) := so_il (Or.inl ⟨3, rfl, rfl, rfl⟩) (by decide +kernel)
theorem t_54_68 : am_ok lw_Ts cX6_put 4 RX6 68 (o_ib 69 f_add) := so_iadd (by decide +kernel)
theorem t_54_69 : am_ok lw_Ts cX6_put 4 RX6 69 (o_iw 70) := so_iw (by decide +kernel)
theorem t_54_70 : am_ok lw_Ts cX6_put 4 RX6 70 (o_k 71 (vI (1))) := so_k (by decide +kernel)
theorem t_54_71 : am_okr cX6_put 71 2 := (show decode cX6_put 71 = .ok (.ireturn, 1) by decide +kernel)
set_option maxRecDepth 20000 in
theorem ok_54 : am_okL gm_mi gm_mt lw_Ts lw_Ns 54 cd_54 := ⟨t_54_0, t_54_1, t_54_4, t_54_5, t_54_8, t_54_11, t_54_12, t_54_13, t_54_14, t_54_15, t_54_18, t_54_19, t_54_22, t_54_25, t_54_26, t_54_28, t_54_29, t_54_30, t_54_31, t_54_32, t_54_35, t_54_36, t_54_39, t_54_42, t_54_43, t_54_46, t_54_47, t_54_50, t_54_53, t_54_54, t_54_55, t_54_56, t_54_59, t_54_62, t_54_63, t_54_64, t_54_66, t_54_67, t_54_68, t_54_69, t_54_70, t_54_71, trivial⟩
theorem t_55_0 : am_ok lw_Ts cX6_wrong 1 RX6 0 (o_al 1 0) := so_al (Or.inl ⟨0, rfl, rfl, rfl⟩) (by decide +kernel)
theorem t_55_1 : am_ok lw_Ts cX6_wrong 1 RX6 1 (o_gf 4 6 2) := so_gf cl_X6 (by decide) wt_290 (by decide +kernel)
theorem t_55_4 : am_okc gm_mi gm_mt lw_Ts lw_Ns cX6_wrong RX6 4 39 1 := ⟨143, cf_39.1, cf_39.2.1, cf_39.2.2.1, cf_39.2.2.2, Or.inr ⟨5, 0, TX5, 7, rfl, rfl, rfl, (by decide +kernel), wt_412, wt_413, wt_411, by decide +kernel⟩⟩
theorem t_55_7 : am_okr cX6_wrong 7 1 := (show decode cX6_wrong 7 = .ok (.ireturn, 1) by decide +kernel)
set_option maxRecDepth 20000 in
theorem ok_55 : am_okL gm_mi gm_mt lw_Ts lw_Ns 55 cd_55 := ⟨t_55_0, t_55_1, t_55_4, t_55_7, trivial⟩
theorem t_56_0 : am_ok lw_Ts cX6_best 1 RX6 0 (o_al 1 0) := so_al (Or.inl ⟨0, rfl, rfl, rfl⟩) (by decide +kernel)
theorem t_56_1 : am_ok lw_Ts cX6_best 1 RX6 1 (o_gf 4 6 3) := so_gf cl_X6 (by decide) wt_291 (by decide +kernel)
theorem t_56_4 : am_ok lw_Ts cX6_best 1 RX6 4 (o_k 5 (vI (0))) := so_k (by decide +kernel)
theorem t_56_5 : am_okc gm_mi gm_mt lw_Ts lw_Ns cX6_best RX6 5 23 2 := ⟨146, cf_23.1, cf_23.2.1, cf_23.2.2.1, cf_23.2.2.2, Or.inr ⟨4, 1, TX4, 11, rfl, rfl, rfl, (by decide +kernel), wt_448, wt_449, wt_447, by decide +kernel⟩⟩
theorem t_56_8 : am_ok lw_Ts cX6_best 1 RX6 8 (o_pop 9) := so_pop (by decide +kernel)
theorem t_56_9 : am_ok lw_Ts cX6_best 1 RX6 9 (o_al 10 0) := so_al (Or.inl ⟨0, rfl, rfl, rfl⟩) (by decide +kernel)
theorem t_56_10 : am_ok lw_Ts cX6_best 1 RX6 10 (o_gf 13 6 2) := so_gf cl_X6 (by decide) wt_290 (by decide +kernel)
theorem t_56_13 : am_okc gm_mi gm_mt lw_Ts lw_Ns cX6_best RX6 13 38 1 := ⟨115, cf_38.1, cf_38.2.1, cf_38.2.2.1, cf_38.2.2.2, Or.inr ⟨5, 0, TX5, 7, rfl, rfl, rfl, (by decide +kernel), wt_387, wt_388, wt_386, by decide +kernel⟩⟩
theorem t_56_16 : am_okr cX6_best 16 1 := (show decode cX6_best 16 = .ok (.ireturn, 1) by decide +kernel)
set_option maxRecDepth 20000 in
theorem ok_56 : am_okL gm_mi gm_mt lw_Ts lw_Ns 56 cd_56 := ⟨t_56_0, t_56_1, t_56_4, t_56_5, t_56_8, t_56_9, t_56_10, t_56_13, t_56_16, trivial⟩
theorem t_57_0 : am_ok lw_Ts cX6_mend 1 RX6 0 (o_al 1 0) := so_al (Or.inl ⟨0, rfl, rfl, rfl⟩) (by decide +kernel)
theorem t_57_1 : am_ok lw_Ts cX6_mend 1 RX6 1 (o_gf 4 6 3) := so_gf cl_X6 (by decide) wt_291 (by decide +kernel)
theorem t_57_4 : am_ok lw_Ts cX6_mend 1 RX6 4 (o_k 7 (vI (1000))) := so_sp rfl (by decide +kernel)
theorem t_57_7 : am_okc gm_mi gm_mt lw_Ts lw_Ns cX6_mend RX6 7 23 2 := ⟨146, cf_23.1, cf_23.2.1, cf_23.2.2.1, cf_23.2.2.2, Or.inr ⟨4, 1, TX4, 11, rfl, rfl, rfl, (by decide +kernel), wt_448, wt_449, wt_447, by decide +kernel⟩⟩
theorem t_57_10 : am_okr cX6_mend 10 1 := (show decode cX6_mend 10 = .ok (.ireturn, 1) by decide +kernel)
set_option maxRecDepth 20000 in
theorem ok_57 : am_okL gm_mi gm_mt lw_Ts lw_Ns 57 cd_57 := ⟨t_57_0, t_57_1, t_57_4, t_57_7, t_57_10, trivial⟩
theorem t_58_0 : am_ok lw_Ts cX6_piece 5 RX6 0 (o_al 1 0) := so_al (Or.inl ⟨0, rfl, rfl, rfl⟩) (by decide +kernel)
theorem t_58_1 : am_ok lw_Ts cX6_piece 5 RX6 1 (o_gf 4 6 0) := so_gf cl_X6 (by decide) wt_288 (by decide +kernel)
theorem t_58_4 : am_ok lw_Ts cX6_piece 5 RX6 4 (o_il 5 1) := so_il (Or.inl ⟨1, rfl, rfl, rfl⟩) (by decide +kernel)
theorem t_58_5 : am_okc gm_mi gm_mt lw_Ts lw_Ns cX6_piece RX6 5 8 2 := ⟨74, cf_8.1, cf_8.2.1, cf_8.2.2.1, cf_8.2.2.2, Or.inr ⟨2, 1, TX2, 4, rfl, rfl, rfl, (by decide +kernel), wt_336, wt_337, wt_335, by decide +kernel⟩⟩
theorem t_58_8 : am_ok lw_Ts cX6_piece 5 RX6 8 (o_if 31 11 q_eq) := so_if_eq (off := 23) (by decide +kernel) rfl
theorem t_58_11 : am_ok lw_Ts cX6_piece 5 RX6 11 (o_il 12 2) := so_il (Or.inl ⟨2, rfl, rfl, rfl⟩) (by decide +kernel)
theorem t_58_12 : am_ok lw_Ts cX6_piece 5 RX6 12 (o_k 13 (vI (1))) := so_k (by decide +kernel)
theorem t_58_13 : am_ok lw_Ts cX6_piece 5 RX6 13 (o_k 15 (vI (90))) := so_bp rfl (by decide +kernel)
theorem t_58_15 : am_okc gm_mi gm_mt lw_Ts lw_Ns cX6_piece RX6 15 66 3 := ⟨59, cf_66.1, cf_66.2.1, cf_66.2.2.1, cf_66.2.2.2, Or.inl ⟨rfl, (by decide +kernel), wt_312, by decide +kernel, (Or.inl wt_311)⟩⟩
theorem t_58_18 : am_ok lw_Ts cX6_piece 5 RX6 18 (o_if 31 21 q_eq) := so_if_eq (off := 13) (by decide +kernel) rfl
theorem t_58_21 : am_ok lw_Ts cX6_piece 5 RX6 21 (o_il 22 3) := so_il (Or.inl ⟨3, rfl, rfl, rfl⟩) (by decide +kernel)
theorem t_58_22 : am_ok lw_Ts cX6_piece 5 RX6 22 (o_k 23 (vI (0))) := so_k (by decide +kernel)
theorem t_58_23 : am_ok lw_Ts cX6_piece 5 RX6 23 (o_k 25 (vI (100))) := so_bp rfl (by decide +kernel)
theorem t_58_25 : am_okc gm_mi gm_mt lw_Ts lw_Ns cX6_piece RX6 25 66 3 := ⟨59, cf_66.1, cf_66.2.1, cf_66.2.2.1, cf_66.2.2.2, Or.inl ⟨rfl, (by decide +kernel), wt_312, by decide +kernel, (Or.inl wt_311)⟩⟩
theorem t_58_28 : am_ok lw_Ts cX6_piece 5 RX6 28 (o_if 33 31 q_ne) := so_if_ne (off := 5) (by decide +kernel) rfl
theorem t_58_31 : am_ok lw_Ts cX6_piece 5 RX6 31 (o_k 32 (vI (-1))) := so_k (by decide +kernel)
theorem t_58_32 : am_okr cX6_piece 32 1 := (show decode cX6_piece 32 = .ok (.ireturn, 1) by decide +kernel)
theorem t_58_33 : am_ok lw_Ts cX6_piece 5 RX6 33 (o_al 34 0) := so_al (Or.inl ⟨0, rfl, rfl, rfl⟩) (by decide +kernel)
theorem t_58_34 : am_ok lw_Ts cX6_piece 5 RX6 34 (o_gf 37 6 4) := so_gf cl_X6 (by decide) wt_292 (by decide +kernel)
theorem t_58_37 : am_ok lw_Ts cX6_piece 5 RX6 37 (o_il 38 1) := so_il (Or.inl ⟨1, rfl, rfl, rfl⟩) (by decide +kernel)
theorem t_58_38 : am_ok lw_Ts cX6_piece 5 RX6 38 (o_il 39 2) := so_il (Or.inl ⟨2, rfl, rfl, rfl⟩) (by decide +kernel)
theorem t_58_39 : am_ok lw_Ts cX6_piece 5 RX6 39 (o_il 40 3) := so_il (Or.inl ⟨3, rfl, rfl, rfl⟩) (by decide +kernel)
theorem t_58_40 : am_ok lw_Ts cX6_piece 5 RX6 40 (o_il 42 4) := so_il (Or.inr ⟨rfl, rfl⟩) (by decide +kernel)
theorem t_58_42 : am_okc gm_mi gm_mt lw_Ts lw_Ns cX6_piece RX6 42 13 5 := ⟨149, cf_13.1, cf_13.2.1, cf_13.2.2.1, cf_13.2.2.2, Or.inr ⟨3, 4, TX3, 12, rfl, rfl, rfl, (by decide +kernel), wt_509, wt_510, wt_508, by decide +kernel⟩⟩
theorem t_58_45 : am_okr cX6_piece 45 1 := (show decode cX6_piece 45 = .ok (.ireturn, 1) by decide +kernel)
set_option maxRecDepth 20000 in
theorem ok_58 : am_okL gm_mi gm_mt lw_Ts lw_Ns 58 cd_58 := ⟨t_58_0, t_58_1, t_58_4, t_58_5, t_58_8, t_58_11, t_58_12, t_58_13, t_58_15, t_58_18, t_58_21, t_58_22, t_58_23, t_58_25, t_58_28, t_58_31, t_58_32, t_58_33, t_58_34, t_58_37, t_58_38, t_58_39, t_58_40, t_58_42, t_58_45, trivial⟩
theorem t_59_0 : am_ok lw_Ts cX6_played 3 RX6 0 (o_al 1 0) := so_al (Or.inl ⟨0, rfl, rfl, rfl⟩) (by decide +kernel)
theorem t_59_1 : am_ok lw_Ts cX6_played 3 RX6 1 (o_gf 4 6 4) := so_gf cl_X6 (by decide) wt_292 (by decide +kernel)
theorem t_59_4 : am_ok lw_Ts cX6_played 3 RX6 4 (o_il 5 1) := so_il (Or.inl ⟨1, rfl, rfl, rfl⟩) (by decide +kernel)
theorem t_59_5 : am_okc gm_mi gm_mt lw_Ts lw_Ns cX6_played RX6 5 12 2 := ⟨152, cf_12.1, cf_12.2.1, cf_12.2.2.1, cf_12.2.2.2, Or.inr ⟨3, 1, TX3, 12, rfl, rfl, rfl, (by decide +kernel), wt_518, wt_519, wt_517, by decide +kernel⟩⟩
theorem t_59_8 : am_ok lw_Ts cX6_played 3 RX6 8 (o_if 22 11 q_eq) := so_if_eq (off := 14) (by decide +kernel) rfl
theorem t_59_11 : am_ok lw_Ts cX6_played 3 RX6 11 (o_il 12 2) := so_il (Or.inl ⟨2, rfl, rfl, rfl⟩) (by decide +kernel)
theorem t_59_12 : am_ok lw_Ts cX6_played 3 RX6 12 (o_k 13 (vI (0))) := so_k (by decide +kernel)
theorem t_59_13 : am_ok lw_Ts cX6_played 3 RX6 13 (o_k 16 (vI (400))) := so_sp rfl (by decide +kernel)
theorem t_59_16 : am_okc gm_mi gm_mt lw_Ts lw_Ns cX6_played RX6 16 66 3 := ⟨59, cf_66.1, cf_66.2.1, cf_66.2.2.1, cf_66.2.2.2, Or.inl ⟨rfl, (by decide +kernel), wt_312, by decide +kernel, (Or.inl wt_311)⟩⟩
theorem t_59_19 : am_ok lw_Ts cX6_played 3 RX6 19 (o_if 24 22 q_ne) := so_if_ne (off := 5) (by decide +kernel) rfl
theorem t_59_22 : am_ok lw_Ts cX6_played 3 RX6 22 (o_k 23 (vI (0))) := so_k (by decide +kernel)
theorem t_59_23 : am_okr cX6_played 23 2 := (show decode cX6_played 23 = .ok (.ireturn, 1) by decide +kernel)
theorem t_59_24 : am_ok lw_Ts cX6_played 3 RX6 24 (o_al 25 0) := so_al (Or.inl ⟨0, rfl, rfl, rfl⟩) (by decide +kernel)
theorem t_59_25 : am_ok lw_Ts cX6_played 3 RX6 25 (o_gf 28 6 4) := so_gf cl_X6 (by decide) wt_292 (by decide +kernel)
theorem t_59_28 : am_ok lw_Ts cX6_played 3 RX6 28 (o_gf 31 3 4) := so_gf cl_X3 (by decide) wt_227 (by decide +kernel)
theorem t_59_31 : am_ok lw_Ts cX6_played 3 RX6 31 (o_il 32 1) := so_il (Or.inl ⟨1, rfl, rfl, rfl⟩) (by decide +kernel)
theorem t_59_32 : am_ok lw_Ts cX6_played 3 RX6 32 (o_il 33 2) := so_il (Or.inl ⟨2, rfl, rfl, rfl⟩) (by decide +kernel)
theorem t_59_33 : am_ok lw_Ts cX6_played 3 RX6 33 (o_iw 34) := so_iw (by decide +kernel)
theorem t_59_34 : am_ok lw_Ts cX6_played 3 RX6 34 (o_k 35 (vI (1))) := so_k (by decide +kernel)
theorem t_59_35 : am_okr cX6_played 35 2 := (show decode cX6_played 35 = .ok (.ireturn, 1) by decide +kernel)
set_option maxRecDepth 20000 in
theorem ok_59 : am_okL gm_mi gm_mt lw_Ts lw_Ns 59 cd_59 := ⟨t_59_0, t_59_1, t_59_4, t_59_5, t_59_8, t_59_11, t_59_12, t_59_13, t_59_16, t_59_19, t_59_22, t_59_23, t_59_24, t_59_25, t_59_28, t_59_31, t_59_32, t_59_33, t_59_34, t_59_35, trivial⟩
theorem t_60_0 : am_ok lw_Ts cX6_row 3 RX6 0 (o_il 1 1) := so_il (Or.inl ⟨1, rfl, rfl, rfl⟩) (by decide +kernel)
theorem t_60_1 : am_ok lw_Ts cX6_row 3 RX6 1 (o_k 2 (vI (0))) := so_k (by decide +kernel)
theorem t_60_2 : am_ok lw_Ts cX6_row 3 RX6 2 (o_k 5 (vI (400))) := so_sp rfl (by decide +kernel)
theorem t_60_5 : am_okc gm_mi gm_mt lw_Ts lw_Ns cX6_row RX6 5 66 3 := ⟨59, cf_66.1, cf_66.2.1, cf_66.2.2.1, cf_66.2.2.2, Or.inl ⟨rfl, (by decide +kernel), wt_312, by decide +kernel, (Or.inl wt_311)⟩⟩
theorem t_60_8 : am_ok lw_Ts cX6_row 3 RX6 8 (o_if 22 11 q_eq) := so_if_eq (off := 14) (by decide +kernel) rfl
theorem t_60_11 : am_ok lw_Ts cX6_row 3 RX6 11 (o_il 12 2) := so_il (Or.inl ⟨2, rfl, rfl, rfl⟩) (by decide +kernel)
theorem t_60_12 : am_ok lw_Ts cX6_row 3 RX6 12 (o_k 13 (vI (1))) := so_k (by decide +kernel)
theorem t_60_13 : am_ok lw_Ts cX6_row 3 RX6 13 (o_k 16 (vI (300))) := so_sp rfl (by decide +kernel)
theorem t_60_16 : am_okc gm_mi gm_mt lw_Ts lw_Ns cX6_row RX6 16 66 3 := ⟨59, cf_66.1, cf_66.2.1, cf_66.2.2.1, cf_66.2.2.2, Or.inl ⟨rfl, (by decide +kernel), wt_312, by decide +kernel, (Or.inl wt_311)⟩⟩
theorem t_60_19 : am_ok lw_Ts cX6_row 3 RX6 19 (o_if 24 22 q_ne) := so_if_ne (off := 5) (by decide +kernel) rfl
theorem t_60_22 : am_ok lw_Ts cX6_row 3 RX6 22 (o_k 23 (vI (-1))) := so_k (by decide +kernel)
theorem t_60_23 : am_okr cX6_row 23 1 := (show decode cX6_row 23 = .ok (.ireturn, 1) by decide +kernel)
theorem t_60_24 : am_ok lw_Ts cX6_row 3 RX6 24 (o_al 25 0) := so_al (Or.inl ⟨0, rfl, rfl, rfl⟩) (by decide +kernel)
theorem t_60_25 : am_ok lw_Ts cX6_row 3 RX6 25 (o_gf 28 6 4) := so_gf cl_X6 (by decide) wt_292 (by decide +kernel)
theorem t_60_28 : am_ok lw_Ts cX6_row 3 RX6 28 (o_il 29 1) := so_il (Or.inl ⟨1, rfl, rfl, rfl⟩) (by decide +kernel)
theorem t_60_29 : am_ok lw_Ts cX6_row 3 RX6 29 (o_il 30 2) := so_il (Or.inl ⟨2, rfl, rfl, rfl⟩) (by decide +kernel)
theorem t_60_30 : am_okc gm_mi gm_mt lw_Ts lw_Ns cX6_row RX6 30 14 3 := ⟨156, cf_14.1, cf_14.2.1, cf_14.2.2.1, cf_14.2.2.2, Or.inr ⟨3, 2, TX3, 12, rfl, rfl, rfl, (by decide +kernel), wt_527, wt_528, wt_526, by decide +kernel⟩⟩
theorem t_60_33 : am_okr cX6_row 33 1 := (show decode cX6_row 33 = .ok (.ireturn, 1) by decide +kernel)
set_option maxRecDepth 20000 in
theorem ok_60 : am_okL gm_mi gm_mt lw_Ts lw_Ns 60 cd_60 := ⟨t_60_0, t_60_1, t_60_2, t_60_5, t_60_8, t_60_11, t_60_12, t_60_13, t_60_16, t_60_19, t_60_22, t_60_23, t_60_24, t_60_25, t_60_28, t_60_29, t_60_30, t_60_33, trivial⟩
theorem t_61_0 : am_ok lw_Ts cX6_told 2 RX6 0 (o_il 1 1) := so_il (Or.inl ⟨1, rfl, rfl, rfl⟩) (by decide +kernel)
theorem t_61_1 : am_ok lw_Ts cX6_told 2 RX6 1 (o_k 2 (vI (0))) := so_k (by decide +kernel)
theorem t_61_2 : am_ok lw_Ts cX6_told 2 RX6 2 (o_al 3 0) := so_al (Or.inl ⟨0, rfl, rfl, rfl⟩) (by decide +kernel)
theorem t_61_3 : am_ok lw_Ts cX6_told 2 RX6 3 (o_gf 6 6 4) := so_gf cl_X6 (by decide) wt_292 (by decide +kernel)
theorem t_61_6 : am_ok lw_Ts cX6_told 2 RX6 6 (o_gf 9 3 11) := so_gf cl_X3 (by decide) wt_238 (by decide +kernel)
theorem t_61_9 : am_ok lw_Ts cX6_told 2 RX6 9 (o_k 10 (vI (1))) := so_k (by decide +kernel)
theorem t_61_10 : am_ok lw_Ts cX6_told 2 RX6 10 (o_ib 11 f_sub) := so_isub (by decide +kernel)
theorem t_61_11 : am_okc gm_mi gm_mt lw_Ts lw_Ns cX6_told RX6 11 66 3 := ⟨59, cf_66.1, cf_66.2.1, cf_66.2.2.1, cf_66.2.2.2, Or.inl ⟨rfl, (by decide +kernel), wt_312, by decide +kernel, (Or.inl wt_311)⟩⟩
theorem t_61_14 : am_ok lw_Ts cX6_told 2 RX6 14 (o_if 29 17 q_eq) := so_if_eq (off := 15) (by decide +kernel) rfl
theorem t_61_17 : am_ok lw_Ts cX6_told 2 RX6 17 (o_al 18 0) := so_al (Or.inl ⟨0, rfl, rfl, rfl⟩) (by decide +kernel)
theorem t_61_18 : am_ok lw_Ts cX6_told 2 RX6 18 (o_gf 21 6 4) := so_gf cl_X6 (by decide) wt_292 (by decide +kernel)
theorem t_61_21 : am_ok lw_Ts cX6_told 2 RX6 21 (o_gf 24 3 6) := so_gf cl_X3 (by decide) wt_230 (by decide +kernel)
theorem t_61_24 : am_ok lw_Ts cX6_told 2 RX6 24 (o_il 25 1) := so_il (Or.inl ⟨1, rfl, rfl, rfl⟩) (by decide +kernel)
theorem t_61_25 : am_ok lw_Ts cX6_told 2 RX6 25 (o_ia 26) := so_ia (by decide +kernel)
theorem t_61_26 : am_ok lw_Ts cX6_told 2 RX6 26 (o_go 30) := so_go (off := 4) (by decide +kernel) rfl
theorem t_61_29 : am_ok lw_Ts cX6_told 2 RX6 29 (o_k 30 (vI (-1))) := so_k (by decide +kernel)
theorem t_61_30 : am_okr cX6_told 30 1 := (show decode cX6_told 30 = .ok (.ireturn, 1) by decide +kernel)
set_option maxRecDepth 20000 in
theorem ok_61 : am_okL gm_mi gm_mt lw_Ts lw_Ns 61 cd_61 := ⟨t_61_0, t_61_1, t_61_2, t_61_3, t_61_6, t_61_9, t_61_10, t_61_11, t_61_14, t_61_17, t_61_18, t_61_21, t_61_24, t_61_25, t_61_26, t_61_29, t_61_30, trivial⟩
theorem t_62_0 : am_ok lw_Ts cX6_vote 3 RX6 0 (o_il 1 1) := so_il (Or.inl ⟨1, rfl, rfl, rfl⟩) (by decide +kernel)
theorem t_62_1 : am_ok lw_Ts cX6_vote 3 RX6 1 (o_k 2 (vI (0))) := so_k (by decide +kernel)
theorem t_62_2 : am_ok lw_Ts cX6_vote 3 RX6 2 (o_k 4 (vI (6))) := so_bp rfl (by decide +kernel)
theorem t_62_4 : am_okc gm_mi gm_mt lw_Ts lw_Ns cX6_vote RX6 4 66 3 := ⟨59, cf_66.1, cf_66.2.1, cf_66.2.2.1, cf_66.2.2.2, Or.inl ⟨rfl, (by decide +kernel), wt_312, by decide +kernel, (Or.inl wt_311)⟩⟩
theorem t_62_7 : am_ok lw_Ts cX6_vote 3 RX6 7 (o_if 21 10 q_eq) := so_if_eq (off := 14) (by decide +kernel) rfl
theorem t_62_10 : am_ok lw_Ts cX6_vote 3 RX6 10 (o_al 11 0) := so_al (Or.inl ⟨0, rfl, rfl, rfl⟩) (by decide +kernel)
theorem t_62_11 : am_ok lw_Ts cX6_vote 3 RX6 11 (o_gf 14 6 1) := so_gf cl_X6 (by decide) wt_289 (by decide +kernel)
theorem t_62_14 : am_ok lw_Ts cX6_vote 3 RX6 14 (o_il 15 2) := so_il (Or.inl ⟨2, rfl, rfl, rfl⟩) (by decide +kernel)
theorem t_62_15 : am_okc gm_mi gm_mt lw_Ts lw_Ns cX6_vote RX6 15 0 2 := ⟨70, cf_0.1, cf_0.2.1, cf_0.2.2.1, cf_0.2.2.2, Or.inr ⟨0, 1, TX0, 5, rfl, rfl, rfl, (by decide +kernel), wt_331, wt_332, wt_330, by decide +kernel⟩⟩
theorem t_62_18 : am_ok lw_Ts cX6_vote 3 RX6 18 (o_if 23 21 q_ne) := so_if_ne (off := 5) (by decide +kernel) rfl
theorem t_62_21 : am_ok lw_Ts cX6_vote 3 RX6 21 (o_k 22 (vI (-1))) := so_k (by decide +kernel)
theorem t_62_22 : am_okr cX6_vote 22 1 := (show decode cX6_vote 22 = .ok (.ireturn, 1) by decide +kernel)
theorem t_62_23 : am_ok lw_Ts cX6_vote 3 RX6 23 (o_al 24 0) := so_al (Or.inl ⟨0, rfl, rfl, rfl⟩) (by decide +kernel)
theorem t_62_24 : am_ok lw_Ts cX6_vote 3 RX6 24 (o_gf 27 6 5) := so_gf cl_X6 (by decide) wt_293 (by decide +kernel)
theorem t_62_27 : am_ok lw_Ts cX6_vote 3 RX6 27 (o_il 28 1) := so_il (Or.inl ⟨1, rfl, rfl, rfl⟩) (by decide +kernel)
theorem t_62_28 : am_ok lw_Ts cX6_vote 3 RX6 28 (o_il 29 2) := so_il (Or.inl ⟨2, rfl, rfl, rfl⟩) (by decide +kernel)
theorem t_62_29 : am_okc gm_mi gm_mt lw_Ts lw_Ns cX6_vote RX6 29 2 3 := ⟨162, cf_2.1, cf_2.2.1, cf_2.2.2.1, cf_2.2.2.2, Or.inr ⟨1, 2, TX1, 5, rfl, rfl, rfl, (by decide +kernel), wt_582, wt_583, wt_581, by decide +kernel⟩⟩
theorem t_62_32 : am_okr cX6_vote 32 1 := (show decode cX6_vote 32 = .ok (.ireturn, 1) by decide +kernel)
set_option maxRecDepth 20000 in
theorem ok_62 : am_okL gm_mi gm_mt lw_Ts lw_Ns 62 cd_62 := ⟨t_62_0, t_62_1, t_62_2, t_62_4, t_62_7, t_62_10, t_62_11, t_62_14, t_62_15, t_62_18, t_62_21, t_62_22, t_62_23, t_62_24, t_62_27, t_62_28, t_62_29, t_62_32, trivial⟩
theorem t_63_0 : am_ok lw_Ts cX6_kin 4 RX6 0 (o_il 1 1) := so_il (Or.inl ⟨1, rfl, rfl, rfl⟩) (by decide +kernel)
theorem t_63_1 : am_ok lw_Ts cX6_kin 4 RX6 1 (o_k 2 (vI (0))) := so_k (by decide +kernel)
theorem t_63_2 : am_ok lw_Ts cX6_kin 4 RX6 2 (o_k 4 (vI (6))) := so_bp rfl (by decide +kernel)
theorem t_63_4 : am_okc gm_mi gm_mt lw_Ts lw_Ns cX6_kin RX6 4 66 3 := ⟨59, cf_66.1, cf_66.2.1, cf_66.2.2.1, cf_66.2.2.2, Or.inl ⟨rfl, (by decide +kernel), wt_312, by decide +kernel, (Or.inl wt_311)⟩⟩
theorem t_63_7 : am_ok lw_Ts cX6_kin 4 RX6 7 (o_if 21 10 q_eq) := so_if_eq (off := 14) (by decide +kernel) rfl
theorem t_63_10 : am_ok lw_Ts cX6_kin 4 RX6 10 (o_al 11 0) := so_al (Or.inl ⟨0, rfl, rfl, rfl⟩) (by decide +kernel)
theorem t_63_11 : am_ok lw_Ts cX6_kin 4 RX6 11 (o_gf 14 6 1) := so_gf cl_X6 (by decide) wt_289 (by decide +kernel)
theorem t_63_14 : am_ok lw_Ts cX6_kin 4 RX6 14 (o_il 15 2) := so_il (Or.inl ⟨2, rfl, rfl, rfl⟩) (by decide +kernel)
theorem t_63_15 : am_okc gm_mi gm_mt lw_Ts lw_Ns cX6_kin RX6 15 0 2 := ⟨70, cf_0.1, cf_0.2.1, cf_0.2.2.1, cf_0.2.2.2, Or.inr ⟨0, 1, TX0, 5, rfl, rfl, rfl, (by decide +kernel), wt_331, wt_332, wt_330, by decide +kernel⟩⟩
theorem t_63_18 : am_ok lw_Ts cX6_kin 4 RX6 18 (o_if 23 21 q_ne) := so_if_ne (off := 5) (by decide +kernel) rfl
theorem t_63_21 : am_ok lw_Ts cX6_kin 4 RX6 21 (o_k 22 (vI (0))) := so_k (by decide +kernel)
theorem t_63_22 : am_okr cX6_kin 22 2 := (show decode cX6_kin 22 = .ok (.ireturn, 1) by decide +kernel)
theorem t_63_23 : am_ok lw_Ts cX6_kin 4 RX6 23 (o_al 24 0) := so_al (Or.inl ⟨0, rfl, rfl, rfl⟩) (by decide +kernel)
theorem t_63_24 : am_ok lw_Ts cX6_kin 4 RX6 24 (o_gf 27 6 5) := so_gf cl_X6 (by decide) wt_293 (by decide +kernel)
theorem t_63_27 : am_ok lw_Ts cX6_kin 4 RX6 27 (o_gf 30 1 3) := so_gf cl_X1 (by decide) wt_275 (by decide +kernel)
theorem t_63_30 : am_ok lw_Ts cX6_kin 4 RX6 30 (o_il 31 1) := so_il (Or.inl ⟨1, rfl, rfl, rfl⟩) (by decide +kernel)
theorem t_63_31 : am_ok lw_Ts cX6_kin 4 RX6 31 (o_al 32 0) := so_al (Or.inl ⟨0, rfl, rfl, rfl⟩) (by decide +kernel)
theorem t_63_32 : am_ok lw_Ts cX6_kin 4 RX6 32 (o_gf 35 6 5) := so_gf cl_X6 (by decide) wt_293 (by decide +kernel)
theorem t_63_35 : am_ok lw_Ts cX6_kin 4 RX6 35 (o_gf 38 1 3) := so_gf cl_X1 (by decide) wt_275 (by decide +kernel)
theorem t_63_38 : am_ok lw_Ts cX6_kin 4 RX6 38 (o_il 39 1) := so_il (Or.inl ⟨1, rfl, rfl, rfl⟩) (by decide +kernel)
theorem t_63_39 : am_ok lw_Ts cX6_kin 4 RX6 39 (o_ia 40) := so_ia (by decide +kernel)
theorem t_63_40 : am_ok lw_Ts cX6_kin 4 RX6 40 (o_il 41 2) := so_il (Or.inl ⟨2, rfl, rfl, rfl⟩) (by decide +kernel)
theorem t_63_41 : am_ok lw_Ts cX6_kin 4 RX6 41 (o_il 42 3) := so_il (Or.inl ⟨3, rfl, rfl, rfl⟩) (by decide +kernel)
theorem t_63_42 : am_okc gm_mi gm_mt lw_Ts lw_Ns cX6_kin RX6 42 68 3 := ⟨83, cf_68.1, cf_68.2.1, cf_68.2.2.1, cf_68.2.2.2, Or.inl ⟨rfl, (by decide +kernel), wt_345, by decide +kernel, (Or.inl wt_344)⟩⟩
theorem t_63_45 : am_ok lw_Ts cX6_kin 4 RX6 45 (o_iw 46) := so_iw (by decide +kernel)
theorem t_63_46 : am_ok lw_Ts cX6_kin 4 RX6 46 (o_k 47 (vI (1))) := so_k (by decide +kernel)
theorem t_63_47 : am_okr cX6_kin 47 2 := (show decode cX6_kin 47 = .ok (.ireturn, 1) by decide +kernel)
set_option maxRecDepth 20000 in
theorem ok_63 : am_okL gm_mi gm_mt lw_Ts lw_Ns 63 cd_63 := ⟨t_63_0, t_63_1, t_63_2, t_63_4, t_63_7, t_63_10, t_63_11, t_63_14, t_63_15, t_63_18, t_63_21, t_63_22, t_63_23, t_63_24, t_63_27, t_63_30, t_63_31, t_63_32, t_63_35, t_63_38, t_63_39, t_63_40, t_63_41, t_63_42, t_63_45, t_63_46, t_63_47, trivial⟩
theorem t_64_0 : am_ok lw_Ts cX6_points 2 RX6 0 (o_al 1 0) := so_al (Or.inl ⟨0, rfl, rfl, rfl⟩) (by decide +kernel)
theorem t_64_1 : am_ok lw_Ts cX6_points 2 RX6 1 (o_gf 4 6 1) := so_gf cl_X6 (by decide) wt_289 (by decide +kernel)
theorem t_64_4 : am_ok lw_Ts cX6_points 2 RX6 4 (o_il 5 1) := so_il (Or.inl ⟨1, rfl, rfl, rfl⟩) (by decide +kernel)
theorem t_64_5 : am_okc gm_mi gm_mt lw_Ts lw_Ns cX6_points RX6 5 0 2 := ⟨70, cf_0.1, cf_0.2.1, cf_0.2.2.1, cf_0.2.2.2, Or.inr ⟨0, 1, TX0, 5, rfl, rfl, rfl, (by decide +kernel), wt_331, wt_332, wt_330, by decide +kernel⟩⟩
theorem t_64_8 : am_ok lw_Ts cX6_points 2 RX6 8 (o_if 22 11 q_eq) := so_if_eq (off := 14) (by decide +kernel) rfl
theorem t_64_11 : am_ok lw_Ts cX6_points 2 RX6 11 (o_al 12 0) := so_al (Or.inl ⟨0, rfl, rfl, rfl⟩) (by decide +kernel)
theorem t_64_12 : am_ok lw_Ts cX6_points 2 RX6 12 (o_gf 15 6 5) := so_gf cl_X6 (by decide) wt_293 (by decide +kernel)
theorem t_64_15 : am_ok lw_Ts cX6_points 2 RX6 15 (o_il 16 1) := so_il (Or.inl ⟨1, rfl, rfl, rfl⟩) (by decide +kernel)
theorem t_64_16 : am_okc gm_mi gm_mt lw_Ts lw_Ns cX6_points RX6 16 3 2 := ⟨168, cf_3.1, cf_3.2.1, cf_3.2.2.1, cf_3.2.2.2, Or.inr ⟨1, 1, TX1, 5, rfl, rfl, rfl, (by decide +kernel), wt_594, wt_595, wt_593, by decide +kernel⟩⟩
theorem t_64_19 : am_ok lw_Ts cX6_points 2 RX6 19 (o_go 23) := so_go (off := 4) (by decide +kernel) rfl
theorem t_64_22 : am_ok lw_Ts cX6_points 2 RX6 22 (o_k 23 (vI (-1))) := so_k (by decide +kernel)
theorem t_64_23 : am_okr cX6_points 23 1 := (show decode cX6_points 23 = .ok (.ireturn, 1) by decide +kernel)
set_option maxRecDepth 20000 in
theorem ok_64 : am_okL gm_mi gm_mt lw_Ts lw_Ns 64 cd_64 := ⟨t_64_0, t_64_1, t_64_4, t_64_5, t_64_8, t_64_11, t_64_12, t_64_15, t_64_16, t_64_19, t_64_22, t_64_23, trivial⟩
theorem t_65_0 : am_ok lw_Ts cX6_prize 2 RX6 0 (o_al 1 0) := so_al (Or.inl ⟨0, rfl, rfl, rfl⟩) (by decide +kernel)
theorem t_65_1 : am_ok lw_Ts cX6_prize 2 RX6 1 (o_gf 4 6 1) := so_gf cl_X6 (by decide) wt_289 (by decide +kernel)
theorem t_65_4 : am_ok lw_Ts cX6_prize 2 RX6 4 (o_il 5 1) := so_il (Or.inl ⟨1, rfl, rfl, rfl⟩) (by decide +kernel)
theorem t_65_5 : am_okc gm_mi gm_mt lw_Ts lw_Ns cX6_prize RX6 5 0 2 := ⟨70, cf_0.1, cf_0.2.1, cf_0.2.2.1, cf_0.2.2.2, Or.inr ⟨0, 1, TX0, 5, rfl, rfl, rfl, (by decide +kernel), wt_331, wt_332, wt_330, by decide +kernel⟩⟩
theorem t_65_8 : am_ok lw_Ts cX6_prize 2 RX6 8 (o_if 22 11 q_eq) := so_if_eq (off := 14) (by decide +kernel) rfl
theorem t_65_11 : am_ok lw_Ts cX6_prize 2 RX6 11 (o_al 12 0) := so_al (Or.inl ⟨0, rfl, rfl, rfl⟩) (by decide +kernel)
theorem t_65_12 : am_ok lw_Ts cX6_prize 2 RX6 12 (o_gf 15 6 5) := so_gf cl_X6 (by decide) wt_293 (by decide +kernel)
theorem t_65_15 : am_ok lw_Ts cX6_prize 2 RX6 15 (o_il 16 1) := so_il (Or.inl ⟨1, rfl, rfl, rfl⟩) (by decide +kernel)
theorem t_65_16 : am_okc gm_mi gm_mt lw_Ts lw_Ns cX6_prize RX6 16 5 2 := ⟨171, cf_5.1, cf_5.2.1, cf_5.2.2.1, cf_5.2.2.2, Or.inr ⟨1, 1, TX1, 5, rfl, rfl, rfl, (by decide +kernel), wt_610, wt_611, wt_609, by decide +kernel⟩⟩
theorem t_65_19 : am_ok lw_Ts cX6_prize 2 RX6 19 (o_go 23) := so_go (off := 4) (by decide +kernel) rfl
theorem t_65_22 : am_ok lw_Ts cX6_prize 2 RX6 22 (o_k 23 (vI (-1))) := so_k (by decide +kernel)
theorem t_65_23 : am_okr cX6_prize 23 1 := (show decode cX6_prize 23 = .ok (.ireturn, 1) by decide +kernel)
set_option maxRecDepth 20000 in
theorem ok_65 : am_okL gm_mi gm_mt lw_Ts lw_Ns 65 cd_65 := ⟨t_65_0, t_65_1, t_65_4, t_65_5, t_65_8, t_65_11, t_65_12, t_65_15, t_65_16, t_65_19, t_65_22, t_65_23, trivial⟩
theorem t_66_0 : am_ok lw_Ts cX6_isWithin 3 RX6 0 (o_il 1 0) := so_il (Or.inl ⟨0, rfl, rfl, rfl⟩) (by decide +kernel)
theorem t_66_1 : am_ok lw_Ts cX6_isWithin 3 RX6 1 (o_il 2 1) := so_il (Or.inl ⟨1, rfl, rfl, rfl⟩) (by decide +kernel)
theorem t_66_2 : am_ok lw_Ts cX6_isWithin 3 RX6 2 (o_ic 14 5 r_lt) := so_ic_lt (off := 12) (by decide +kernel) rfl
theorem t_66_5 : am_ok lw_Ts cX6_isWithin 3 RX6 5 (o_il 6 0) := so_il (Or.inl ⟨0, rfl, rfl, rfl⟩) (by decide +kernel)
theorem t_66_6 : am_ok lw_Ts cX6_isWithin 3 RX6 6 (o_il 7 2) := so_il (Or.inl ⟨2, rfl, rfl, rfl⟩) (by decide +kernel)
theorem t_66_7 : am_ok lw_Ts cX6_isWithin 3 RX6 7 (o_ic 14 10 r_gt) := so_ic_gt (off := 7) (by decide +kernel) rfl
theorem t_66_10 : am_ok lw_Ts cX6_isWithin 3 RX6 10 (o_k 11 (vI (1))) := so_k (by decide +kernel)
theorem t_66_11 : am_ok lw_Ts cX6_isWithin 3 RX6 11 (o_go 15) := so_go (off := 4) (by decide +kernel) rfl
theorem t_66_14 : am_ok lw_Ts cX6_isWithin 3 RX6 14 (o_k 15 (vI (0))) := so_k (by decide +kernel)
theorem t_66_15 : am_okr cX6_isWithin 15 2 := (show decode cX6_isWithin 15 = .ok (.ireturn, 1) by decide +kernel)
set_option maxRecDepth 20000 in
theorem ok_66 : am_okL gm_mi gm_mt lw_Ts lw_Ns 66 cd_66 := ⟨t_66_0, t_66_1, t_66_2, t_66_5, t_66_6, t_66_7, t_66_10, t_66_11, t_66_14, t_66_15, trivial⟩
theorem t_67_0 : am_ok lw_Ts cX6_hasBit 2 RX6 0 (o_il 1 0) := so_il (Or.inl ⟨0, rfl, rfl, rfl⟩) (by decide +kernel)
theorem t_67_1 : am_ok lw_Ts cX6_hasBit 2 RX6 1 (o_il 2 1) := so_il (Or.inl ⟨1, rfl, rfl, rfl⟩) (by decide +kernel)
theorem t_67_2 : am_ok lw_Ts cX6_hasBit 2 RX6 2 (o_ib 3 f_shr) := so_ishr (by decide +kernel)
theorem t_67_3 : am_ok lw_Ts cX6_hasBit 2 RX6 3 (o_k 4 (vI (1))) := so_k (by decide +kernel)
theorem t_67_4 : am_ok lw_Ts cX6_hasBit 2 RX6 4 (o_ib 5 f_and) := so_iand (by decide +kernel)
theorem t_67_5 : am_ok lw_Ts cX6_hasBit 2 RX6 5 (o_if 12 8 q_eq) := so_if_eq (off := 7) (by decide +kernel) rfl
theorem t_67_8 : am_ok lw_Ts cX6_hasBit 2 RX6 8 (o_k 9 (vI (1))) := so_k (by decide +kernel)
theorem t_67_9 : am_ok lw_Ts cX6_hasBit 2 RX6 9 (o_go 13) := so_go (off := 4) (by decide +kernel) rfl
theorem t_67_12 : am_ok lw_Ts cX6_hasBit 2 RX6 12 (o_k 13 (vI (0))) := so_k (by decide +kernel)
theorem t_67_13 : am_okr cX6_hasBit 13 2 := (show decode cX6_hasBit 13 = .ok (.ireturn, 1) by decide +kernel)
set_option maxRecDepth 20000 in
theorem ok_67 : am_okL gm_mi gm_mt lw_Ts lw_Ns 67 cd_67 := ⟨t_67_0, t_67_1, t_67_2, t_67_3, t_67_4, t_67_5, t_67_8, t_67_9, t_67_12, t_67_13, trivial⟩
theorem t_68_0 : am_ok lw_Ts cX6_withBit 3 RX6 0 (o_il 1 2) := so_il (Or.inl ⟨2, rfl, rfl, rfl⟩) (by decide +kernel)
theorem t_68_1 : am_ok lw_Ts cX6_withBit 3 RX6 1 (o_if 12 4 q_eq) := so_if_eq (off := 11) (by decide +kernel) rfl
theorem t_68_4 : am_ok lw_Ts cX6_withBit 3 RX6 4 (o_il 5 0) := so_il (Or.inl ⟨0, rfl, rfl, rfl⟩) (by decide +kernel)
theorem t_68_5 : am_ok lw_Ts cX6_withBit 3 RX6 5 (o_k 6 (vI (1))) := so_k (by decide +kernel)
theorem t_68_6 : am_ok lw_Ts cX6_withBit 3 RX6 6 (o_il 7 1) := so_il (Or.inl ⟨1, rfl, rfl, rfl⟩) (by decide +kernel)
theorem t_68_7 : am_ok lw_Ts cX6_withBit 3 RX6 7 (o_ib 8 f_shl) := so_ishl (by decide +kernel)
theorem t_68_8 : am_ok lw_Ts cX6_withBit 3 RX6 8 (o_ib 9 f_or) := so_ior (by decide +kernel)
theorem t_68_9 : am_ok lw_Ts cX6_withBit 3 RX6 9 (o_go 19) := so_go (off := 10) (by decide +kernel) rfl
theorem t_68_12 : am_ok lw_Ts cX6_withBit 3 RX6 12 (o_il 13 0) := so_il (Or.inl ⟨0, rfl, rfl, rfl⟩) (by decide +kernel)
theorem t_68_13 : am_ok lw_Ts cX6_withBit 3 RX6 13 (o_k 14 (vI (1))) := so_k (by decide +kernel)
theorem t_68_14 : am_ok lw_Ts cX6_withBit 3 RX6 14 (o_il 15 1) := so_il (Or.inl ⟨1, rfl, rfl, rfl⟩) (by decide +kernel)
theorem t_68_15 : am_ok lw_Ts cX6_withBit 3 RX6 15 (o_ib 16 f_shl) := so_ishl (by decide +kernel)
theorem t_68_16 : am_ok lw_Ts cX6_withBit 3 RX6 16 (o_k 17 (vI (-1))) := so_k (by decide +kernel)
theorem t_68_17 : am_ok lw_Ts cX6_withBit 3 RX6 17 (o_ib 18 f_xor) := so_ixor (by decide +kernel)
theorem t_68_18 : am_ok lw_Ts cX6_withBit 3 RX6 18 (o_ib 19 f_and) := so_iand (by decide +kernel)
theorem t_68_19 : am_okr cX6_withBit 19 1 := (show decode cX6_withBit 19 = .ok (.ireturn, 1) by decide +kernel)
set_option maxRecDepth 20000 in
theorem ok_68 : am_okL gm_mi gm_mt lw_Ts lw_Ns 68 cd_68 := ⟨t_68_0, t_68_1, t_68_4, t_68_5, t_68_6, t_68_7, t_68_8, t_68_9, t_68_12, t_68_13, t_68_14, t_68_15, t_68_16, t_68_17, t_68_18, t_68_19, trivial⟩
theorem t_69_0 : am_ok lw_Ts cX7_thrown 1 RX7 0 (o_al 1 0) := so_al (Or.inl ⟨0, rfl, rfl, rfl⟩) (by decide +kernel)
theorem t_69_1 : am_ok lw_Ts cX7_thrown 1 RX7 1 (o_gf 4 7 25) := so_gf cl_X7 (by decide) wt_734 (by decide +kernel)
theorem t_69_4 : am_okr cX7_thrown 4 1 := (show decode cX7_thrown 4 = .ok (.ireturn, 1) by decide +kernel)
set_option maxRecDepth 20000 in
theorem ok_69 : am_okL gm_mi gm_mt lw_Ts lw_Ns 69 cd_69 := ⟨t_69_0, t_69_1, t_69_4, trivial⟩
theorem t_70_0 : am_ok lw_Ts cX7_in 3 RX7 0 (o_il 1 0) := so_il (Or.inl ⟨0, rfl, rfl, rfl⟩) (by decide +kernel)
theorem t_70_1 : am_ok lw_Ts cX7_in 3 RX7 1 (o_il 2 1) := so_il (Or.inl ⟨1, rfl, rfl, rfl⟩) (by decide +kernel)
theorem t_70_2 : am_ok lw_Ts cX7_in 3 RX7 2 (o_ic 14 5 r_lt) := so_ic_lt (off := 12) (by decide +kernel) rfl
theorem t_70_5 : am_ok lw_Ts cX7_in 3 RX7 5 (o_il 6 0) := so_il (Or.inl ⟨0, rfl, rfl, rfl⟩) (by decide +kernel)
theorem t_70_6 : am_ok lw_Ts cX7_in 3 RX7 6 (o_il 7 2) := so_il (Or.inl ⟨2, rfl, rfl, rfl⟩) (by decide +kernel)
theorem t_70_7 : am_ok lw_Ts cX7_in 3 RX7 7 (o_ic 14 10 r_gt) := so_ic_gt (off := 7) (by decide +kernel) rfl
theorem t_70_10 : am_ok lw_Ts cX7_in 3 RX7 10 (o_k 11 (vI (1))) := so_k (by decide +kernel)
theorem t_70_11 : am_ok lw_Ts cX7_in 3 RX7 11 (o_go 15) := so_go (off := 4) (by decide +kernel) rfl
theorem t_70_14 : am_ok lw_Ts cX7_in 3 RX7 14 (o_k 15 (vI (0))) := so_k (by decide +kernel)
theorem t_70_15 : am_okr cX7_in 15 2 := (show decode cX7_in 15 = .ok (.ireturn, 1) by decide +kernel)
set_option maxRecDepth 20000 in
theorem ok_70 : am_okL gm_mi gm_mt lw_Ts lw_Ns 70 cd_70 := ⟨t_70_0, t_70_1, t_70_2, t_70_5, t_70_6, t_70_7, t_70_10, t_70_11, t_70_14, t_70_15, trivial⟩
theorem t_71_0 : am_ok lw_Ts cX7_empty 2 RX7 0 (o_k 1 (vI (0))) := so_k (by decide +kernel)
theorem t_71_1 : am_ok lw_Ts cX7_empty 2 RX7 1 (o_is 2 1) := so_is (Or.inl ⟨1, rfl, rfl, rfl⟩) (by decide +kernel)
theorem t_71_2 : am_ok lw_Ts cX7_empty 2 RX7 2 (o_il 3 1) := so_il (Or.inl ⟨1, rfl, rfl, rfl⟩) (by decide +kernel)
theorem t_71_3 : am_ok lw_Ts cX7_empty 2 RX7 3 (o_k 5 (vI (6))) := so_bp rfl (by decide +kernel)
theorem t_71_5 : am_ok lw_Ts cX7_empty 2 RX7 5 (o_ic 28 8 r_ge) := so_ic_ge (off := 23) (by decide +kernel) rfl
theorem t_71_8 : am_ok lw_Ts cX7_empty 2 RX7 8 (o_al 9 0) := so_al (Or.inl ⟨0, rfl, rfl, rfl⟩) (by decide +kernel)
theorem t_71_9 : am_ok lw_Ts cX7_empty 2 RX7 9 (o_gf 12 7 12) := so_gf cl_X7 (by decide) wt_721 (by decide +kernel)
theorem t_71_12 : am_ok lw_Ts cX7_empty 2 RX7 12 (o_il 13 1) := so_il (Or.inl ⟨1, rfl, rfl, rfl⟩) (by decide +kernel)
theorem t_71_13 : am_ok lw_Ts cX7_empty 2 RX7 13 (o_k 14 (vI (-1))) := so_k (by decide +kernel)
theorem t_71_14 : am_ok lw_Ts cX7_empty 2 RX7 14 (o_iw 15) := so_iw (by decide +kernel)
theorem t_71_15 : am_ok lw_Ts cX7_empty 2 RX7 15 (o_al 16 0) := so_al (Or.inl ⟨0, rfl, rfl, rfl⟩) (by decide +kernel)
theorem t_71_16 : am_ok lw_Ts cX7_empty 2 RX7 16 (o_gf 19 7 13) := so_gf cl_X7 (by decide) wt_722 (by decide +kernel)
theorem t_71_19 : am_ok lw_Ts cX7_empty 2 RX7 19 (o_il 20 1) := so_il (Or.inl ⟨1, rfl, rfl, rfl⟩) (by decide +kernel)
theorem t_71_20 : am_ok lw_Ts cX7_empty 2 RX7 20 (o_k 21 (vI (-1))) := so_k (by decide +kernel)
theorem t_71_21 : am_ok lw_Ts cX7_empty 2 RX7 21 (o_iw 22) := so_iw (by decide +kernel)
theorem t_71_22 : am_ok lw_Ts cX7_empty 2 RX7 22 (o_ii 25 1 (1)) := so_ii (by decide +kernel)
theorem t_71_25 : am_ok lw_Ts cX7_empty 2 RX7 25 (o_go 2) := so_go (off := (-23)) (by decide +kernel) rfl
theorem t_71_28 : am_okr cX7_empty 28 0 := (show decode cX7_empty 28 = .ok (.return_, 1) by decide +kernel)
set_option maxRecDepth 20000 in
theorem ok_71 : am_okL gm_mi gm_mt lw_Ts lw_Ns 71 cd_71 := ⟨t_71_0, t_71_1, t_71_2, t_71_3, t_71_5, t_71_8, t_71_9, t_71_12, t_71_13, t_71_14, t_71_15, t_71_16, t_71_19, t_71_20, t_71_21, t_71_22, t_71_25, t_71_28, trivial⟩
end
section
theorem t_72_0 : am_ok lw_Ts cX7_isMode 2 RX7 0 (o_il 1 1) := so_il (Or.inl ⟨1, rfl, rfl, rfl⟩) (by decide +kernel)
theorem t_72_1 : am_ok lw_Ts cX7_isMode 2 RX7 1 (o_k 2 (vI (0))) := so_k (by decide +kernel)
theorem t_72_2 : am_ok lw_Ts cX7_isMode 2 RX7 2 (o_al 3 0) := so_al (Or.inl ⟨0, rfl, rfl, rfl⟩) (by decide +kernel)
theorem t_72_3 : am_ok lw_Ts cX7_isMode 2 RX7 3 (o_gf 6 7 2) := so_gf cl_X7 (by decide) wt_711 (by decide +kernel)
theorem t_72_6 : am_ok lw_Ts cX7_isMode 2 RX7 6 (o_k 7 (vI (1))) := so_k (by decide +kernel)
theorem t_72_7 : am_ok lw_Ts cX7_isMode 2 RX7 7 (o_ib 8 f_sub) := so_isub (by decide +kernel)
theorem t_72_8 : am_okc gm_mi gm_mt lw_Ts lw_Ns cX7_isMode RX7 8 70 3 := ⟨114, cf_70.1, cf_70.2.1, cf_70.2.2.1, cf_70.2.2.2, Or.inl ⟨rfl, (by decide +kernel), wt_831, by decide +kernel, (Or.inl wt_830)⟩⟩
theorem t_72_11 : am_okr cX7_isMode 11 2 := (show decode cX7_isMode 11 = .ok (.ireturn, 1) by decide +kernel)
set_option maxRecDepth 20000 in
theorem ok_72 : am_okL gm_mi gm_mt lw_Ts lw_Ns 72 cd_72 := ⟨t_72_0, t_72_1, t_72_2, t_72_3, t_72_6, t_72_7, t_72_8, t_72_11, trivial⟩
theorem t_73_0 : am_ok lw_Ts cX7_isArtist 2 RX7 0 (o_il 1 1) := so_il (Or.inl ⟨1, rfl, rfl, rfl⟩) (by decide +kernel)
theorem t_73_1 : am_ok lw_Ts cX7_isArtist 2 RX7 1 (o_k 2 (vI (0))) := so_k (by decide +kernel)
theorem t_73_2 : am_ok lw_Ts cX7_isArtist 2 RX7 2 (o_al 3 0) := so_al (Or.inl ⟨0, rfl, rfl, rfl⟩) (by decide +kernel)
theorem t_73_3 : am_ok lw_Ts cX7_isArtist 2 RX7 3 (o_gf 6 7 7) := so_gf cl_X7 (by decide) wt_716 (by decide +kernel)
theorem t_73_6 : am_ok lw_Ts cX7_isArtist 2 RX7 6 (o_k 7 (vI (1))) := so_k (by decide +kernel)
theorem t_73_7 : am_ok lw_Ts cX7_isArtist 2 RX7 7 (o_ib 8 f_sub) := so_isub (by decide +kernel)
theorem t_73_8 : am_okc gm_mi gm_mt lw_Ts lw_Ns cX7_isArtist RX7 8 70 3 := ⟨114, cf_70.1, cf_70.2.1, cf_70.2.2.1, cf_70.2.2.2, Or.inl ⟨rfl, (by decide +kernel), wt_831, by decide +kernel, (Or.inl wt_830)⟩⟩
theorem t_73_11 : am_okr cX7_isArtist 11 2 := (show decode cX7_isArtist 11 = .ok (.ireturn, 1) by decide +kernel)
set_option maxRecDepth 20000 in
theorem ok_73 : am_okL gm_mi gm_mt lw_Ts lw_Ns 73 cd_73 := ⟨t_73_0, t_73_1, t_73_2, t_73_3, t_73_6, t_73_7, t_73_8, t_73_11, trivial⟩
theorem t_74_0 : am_ok lw_Ts cX7_mode 3 RX7 0 (o_al 1 0) := so_al (Or.inl ⟨0, rfl, rfl, rfl⟩) (by decide +kernel)
theorem t_74_1 : am_ok lw_Ts cX7_mode 3 RX7 1 (o_k 2 (vI (0))) := so_k (by decide +kernel)
theorem t_74_2 : am_ok lw_Ts cX7_mode 3 RX7 2 (o_pf 5 7 25) := so_pf cl_X7 tyX7_ok nmX7 (by decide) rfl rfl wt_734 (by decide +kernel)
theorem t_74_5 : am_ok lw_Ts cX7_mode 3 RX7 5 (o_il 6 1) := so_il (Or.inl ⟨1, rfl, rfl, rfl⟩) (by decide +kernel)
theorem t_74_6 : am_ok lw_Ts cX7_mode 3 RX7 6 (o_k 7 (vI (0))) := so_k (by decide +kernel)
theorem t_74_7 : am_ok lw_Ts cX7_mode 3 RX7 7 (o_k 10 (vI (4095))) := so_sp rfl (by decide +kernel)
theorem t_74_10 : am_okc gm_mi gm_mt lw_Ts lw_Ns cX7_mode RX7 10 70 3 := ⟨114, cf_70.1, cf_70.2.1, cf_70.2.2.1, cf_70.2.2.2, Or.inl ⟨rfl, (by decide +kernel), wt_831, by decide +kernel, (Or.inl wt_830)⟩⟩
theorem t_74_13 : am_ok lw_Ts cX7_mode 3 RX7 13 (o_if 35 16 q_eq) := so_if_eq (off := 22) (by decide +kernel) rfl
theorem t_74_16 : am_ok lw_Ts cX7_mode 3 RX7 16 (o_il 17 2) := so_il (Or.inl ⟨2, rfl, rfl, rfl⟩) (by decide +kernel)
theorem t_74_17 : am_ok lw_Ts cX7_mode 3 RX7 17 (o_k 18 (vI (0))) := so_k (by decide +kernel)
theorem t_74_18 : am_ok lw_Ts cX7_mode 3 RX7 18 (o_k 20 (vI (15))) := so_bp rfl (by decide +kernel)
theorem t_74_20 : am_okc gm_mi gm_mt lw_Ts lw_Ns cX7_mode RX7 20 70 3 := ⟨114, cf_70.1, cf_70.2.1, cf_70.2.2.1, cf_70.2.2.2, Or.inl ⟨rfl, (by decide +kernel), wt_831, by decide +kernel, (Or.inl wt_830)⟩⟩
theorem t_74_23 : am_ok lw_Ts cX7_mode 3 RX7 23 (o_if 35 26 q_eq) := so_if_eq (off := 12) (by decide +kernel) rfl
theorem t_74_26 : am_ok lw_Ts cX7_mode 3 RX7 26 (o_al 27 0) := so_al (Or.inl ⟨0, rfl, rfl, rfl⟩) (by decide +kernel)
theorem t_74_27 : am_ok lw_Ts cX7_mode 3 RX7 27 (o_gf 30 7 2) := so_gf cl_X7 (by decide) wt_711 (by decide +kernel)
theorem t_74_30 : am_ok lw_Ts cX7_mode 3 RX7 30 (o_k 32 (vI (6))) := so_bp rfl (by decide +kernel)
theorem t_74_32 : am_ok lw_Ts cX7_mode 3 RX7 32 (o_ic 37 35 r_ne) := so_ic_ne (off := 5) (by decide +kernel) rfl
theorem t_74_35 : am_ok lw_Ts cX7_mode 3 RX7 35 (o_k 36 (vI (-1))) := so_k (by decide +kernel)
theorem t_74_36 : am_okr cX7_mode 36 1 := (show decode cX7_mode 36 = .ok (.ireturn, 1) by decide +kernel)
theorem t_74_37 : am_ok lw_Ts cX7_mode 3 RX7 37 (o_al 38 0) := so_al (Or.inl ⟨0, rfl, rfl, rfl⟩) (by decide +kernel)
theorem t_74_38 : am_ok lw_Ts cX7_mode 3 RX7 38 (o_gf 41 7 0) := so_gf cl_X7 (by decide) wt_709 (by decide +kernel)
theorem t_74_41 : am_ok lw_Ts cX7_mode 3 RX7 41 (o_al 42 0) := so_al (Or.inl ⟨0, rfl, rfl, rfl⟩) (by decide +kernel)
theorem t_74_42 : am_ok lw_Ts cX7_mode 3 RX7 42 (o_gf 45 7 2) := so_gf cl_X7 (by decide) wt_711 (by decide +kernel)
theorem t_74_45 : am_ok lw_Ts cX7_mode 3 RX7 45 (o_il 46 1) := so_il (Or.inl ⟨1, rfl, rfl, rfl⟩) (by decide +kernel)
theorem t_74_46 : am_ok lw_Ts cX7_mode 3 RX7 46 (o_iw 47) := so_iw (by decide +kernel)
theorem t_74_47 : am_ok lw_Ts cX7_mode 3 RX7 47 (o_al 48 0) := so_al (Or.inl ⟨0, rfl, rfl, rfl⟩) (by decide +kernel)
theorem t_74_48 : am_ok lw_Ts cX7_mode 3 RX7 48 (o_gf 51 7 1) := so_gf cl_X7 (by decide) wt_710 (by decide +kernel)
theorem t_74_51 : am_ok lw_Ts cX7_mode 3 RX7 51 (o_al 52 0) := so_al (Or.inl ⟨0, rfl, rfl, rfl⟩) (by decide +kernel)
theorem t_74_52 : am_ok lw_Ts cX7_mode 3 RX7 52 (o_gf 55 7 2) := so_gf cl_X7 (by decide) wt_711 (by decide +kernel)
theorem t_74_55 : am_ok lw_Ts cX7_mode 3 RX7 55 (o_il 56 2) := so_il (Or.inl ⟨2, rfl, rfl, rfl⟩) (by decide +kernel)
theorem t_74_56 : am_ok lw_Ts cX7_mode 3 RX7 56 (o_iw 57) := so_iw (by decide +kernel)
theorem t_74_57 : am_ok lw_Ts cX7_mode 3 RX7 57 (o_al 58 0) := so_al (Or.inl ⟨0, rfl, rfl, rfl⟩) (by decide +kernel)
theorem t_74_58 : am_ok lw_Ts cX7_mode 3 RX7 58 (o_dup 59) := so_dup (by decide +kernel)
theorem t_74_59 : am_ok lw_Ts cX7_mode 3 RX7 59 (o_gf 62 7 2) := so_gf cl_X7 (by decide) wt_711 (by decide +kernel)
theorem t_74_62 : am_ok lw_Ts cX7_mode 3 RX7 62 (o_k 63 (vI (1))) := so_k (by decide +kernel)
theorem t_74_63 : am_ok lw_Ts cX7_mode 3 RX7 63 (o_ib 64 f_add) := so_iadd (by decide +kernel)
theorem t_74_64 : am_ok lw_Ts cX7_mode 3 RX7 64 (o_pf 67 7 2) := so_pf cl_X7 tyX7_ok nmX7 (by decide) rfl rfl wt_711 (by decide +kernel)
theorem t_74_67 : am_ok lw_Ts cX7_mode 3 RX7 67 (o_al 68 0) := so_al (Or.inl ⟨0, rfl, rfl, rfl⟩) (by decide +kernel)
theorem t_74_68 : am_ok lw_Ts cX7_mode 3 RX7 68 (o_gf 71 7 2) := so_gf cl_X7 (by decide) wt_711 (by decide +kernel)
theorem t_74_71 : am_ok lw_Ts cX7_mode 3 RX7 71 (o_k 72 (vI (1))) := so_k (by decide +kernel)
theorem t_74_72 : am_ok lw_Ts cX7_mode 3 RX7 72 (o_ib 73 f_sub) := so_isub (by decide +kernel)
theorem t_74_73 : am_okr cX7_mode 73 1 := (show decode cX7_mode 73 = .ok (.ireturn, 1) by decide +kernel)
set_option maxRecDepth 20000 in
theorem ok_74 : am_okL gm_mi gm_mt lw_Ts lw_Ns 74 cd_74 := ⟨t_74_0, t_74_1, t_74_2, t_74_5, t_74_6, t_74_7, t_74_10, t_74_13, t_74_16, t_74_17, t_74_18, t_74_20, t_74_23, t_74_26, t_74_27, t_74_30, t_74_32, t_74_35, t_74_36, t_74_37, t_74_38, t_74_41, t_74_42, t_74_45, t_74_46, t_74_47, t_74_48, t_74_51, t_74_52, t_74_55, t_74_56, t_74_57, t_74_58, t_74_59, t_74_62, t_74_63, t_74_64, t_74_67, t_74_68, t_74_71, t_74_72, t_74_73, trivial⟩
theorem t_75_0 : am_ok lw_Ts cX7_artist 2 RX7 0 (o_al 1 0) := so_al (Or.inl ⟨0, rfl, rfl, rfl⟩) (by decide +kernel)
theorem t_75_1 : am_ok lw_Ts cX7_artist 2 RX7 1 (o_k 2 (vI (0))) := so_k (by decide +kernel)
theorem t_75_2 : am_ok lw_Ts cX7_artist 2 RX7 2 (o_pf 5 7 25) := so_pf cl_X7 tyX7_ok nmX7 (by decide) rfl rfl wt_734 (by decide +kernel)
theorem t_75_5 : am_ok lw_Ts cX7_artist 2 RX7 5 (o_il 6 1) := so_il (Or.inl ⟨1, rfl, rfl, rfl⟩) (by decide +kernel)
theorem t_75_6 : am_ok lw_Ts cX7_artist 2 RX7 6 (o_k 7 (vI (1))) := so_k (by decide +kernel)
theorem t_75_7 : am_ok lw_Ts cX7_artist 2 RX7 7 (o_k 9 (vI (9))) := so_bp rfl (by decide +kernel)
theorem t_75_9 : am_okc gm_mi gm_mt lw_Ts lw_Ns cX7_artist RX7 9 70 3 := ⟨114, cf_70.1, cf_70.2.1, cf_70.2.2.1, cf_70.2.2.2, Or.inl ⟨rfl, (by decide +kernel), wt_831, by decide +kernel, (Or.inl wt_830)⟩⟩
theorem t_75_12 : am_ok lw_Ts cX7_artist 2 RX7 12 (o_if 24 15 q_eq) := so_if_eq (off := 12) (by decide +kernel) rfl
theorem t_75_15 : am_ok lw_Ts cX7_artist 2 RX7 15 (o_al 16 0) := so_al (Or.inl ⟨0, rfl, rfl, rfl⟩) (by decide +kernel)
theorem t_75_16 : am_ok lw_Ts cX7_artist 2 RX7 16 (o_gf 19 7 7) := so_gf cl_X7 (by decide) wt_716 (by decide +kernel)
theorem t_75_19 : am_ok lw_Ts cX7_artist 2 RX7 19 (o_k 21 (vI (6))) := so_bp rfl (by decide +kernel)
theorem t_75_21 : am_ok lw_Ts cX7_artist 2 RX7 21 (o_ic 26 24 r_ne) := so_ic_ne (off := 5) (by decide +kernel) rfl
theorem t_75_24 : am_ok lw_Ts cX7_artist 2 RX7 24 (o_k 25 (vI (-1))) := so_k (by decide +kernel)
theorem t_75_25 : am_okr cX7_artist 25 1 := (show decode cX7_artist 25 = .ok (.ireturn, 1) by decide +kernel)
theorem t_75_26 : am_ok lw_Ts cX7_artist 2 RX7 26 (o_al 27 0) := so_al (Or.inl ⟨0, rfl, rfl, rfl⟩) (by decide +kernel)
theorem t_75_27 : am_ok lw_Ts cX7_artist 2 RX7 27 (o_gf 30 7 3) := so_gf cl_X7 (by decide) wt_712 (by decide +kernel)
theorem t_75_30 : am_ok lw_Ts cX7_artist 2 RX7 30 (o_al 31 0) := so_al (Or.inl ⟨0, rfl, rfl, rfl⟩) (by decide +kernel)
theorem t_75_31 : am_ok lw_Ts cX7_artist 2 RX7 31 (o_gf 34 7 7) := so_gf cl_X7 (by decide) wt_716 (by decide +kernel)
theorem t_75_34 : am_ok lw_Ts cX7_artist 2 RX7 34 (o_il 35 1) := so_il (Or.inl ⟨1, rfl, rfl, rfl⟩) (by decide +kernel)
theorem t_75_35 : am_ok lw_Ts cX7_artist 2 RX7 35 (o_iw 36) := so_iw (by decide +kernel)
theorem t_75_36 : am_ok lw_Ts cX7_artist 2 RX7 36 (o_al 37 0) := so_al (Or.inl ⟨0, rfl, rfl, rfl⟩) (by decide +kernel)
theorem t_75_37 : am_ok lw_Ts cX7_artist 2 RX7 37 (o_dup 38) := so_dup (by decide +kernel)
theorem t_75_38 : am_ok lw_Ts cX7_artist 2 RX7 38 (o_gf 41 7 7) := so_gf cl_X7 (by decide) wt_716 (by decide +kernel)
theorem t_75_41 : am_ok lw_Ts cX7_artist 2 RX7 41 (o_k 42 (vI (1))) := so_k (by decide +kernel)
theorem t_75_42 : am_ok lw_Ts cX7_artist 2 RX7 42 (o_ib 43 f_add) := so_iadd (by decide +kernel)
theorem t_75_43 : am_ok lw_Ts cX7_artist 2 RX7 43 (o_pf 46 7 7) := so_pf cl_X7 tyX7_ok nmX7 (by decide) rfl rfl wt_716 (by decide +kernel)
theorem t_75_46 : am_ok lw_Ts cX7_artist 2 RX7 46 (o_al 47 0) := so_al (Or.inl ⟨0, rfl, rfl, rfl⟩) (by decide +kernel)
theorem t_75_47 : am_ok lw_Ts cX7_artist 2 RX7 47 (o_gf 50 7 7) := so_gf cl_X7 (by decide) wt_716 (by decide +kernel)
theorem t_75_50 : am_ok lw_Ts cX7_artist 2 RX7 50 (o_k 51 (vI (1))) := so_k (by decide +kernel)
theorem t_75_51 : am_ok lw_Ts cX7_artist 2 RX7 51 (o_ib 52 f_sub) := so_isub (by decide +kernel)
theorem t_75_52 : am_okr cX7_artist 52 1 := (show decode cX7_artist 52 = .ok (.ireturn, 1) by decide +kernel)
set_option maxRecDepth 20000 in
theorem ok_75 : am_okL gm_mi gm_mt lw_Ts lw_Ns 75 cd_75 := ⟨t_75_0, t_75_1, t_75_2, t_75_5, t_75_6, t_75_7, t_75_9, t_75_12, t_75_15, t_75_16, t_75_19, t_75_21, t_75_24, t_75_25, t_75_26, t_75_27, t_75_30, t_75_31, t_75_34, t_75_35, t_75_36, t_75_37, t_75_38, t_75_41, t_75_42, t_75_43, t_75_46, t_75_47, t_75_50, t_75_51, t_75_52, trivial⟩
theorem t_76_0 : am_ok lw_Ts cX7_like 4 RX7 0 (o_al 1 0) := so_al (Or.inl ⟨0, rfl, rfl, rfl⟩) (by decide +kernel)
theorem t_76_1 : am_ok lw_Ts cX7_like 4 RX7 1 (o_k 2 (vI (0))) := so_k (by decide +kernel)
theorem t_76_2 : am_ok lw_Ts cX7_like 4 RX7 2 (o_pf 5 7 25) := so_pf cl_X7 tyX7_ok nmX7 (by decide) rfl rfl wt_734 (by decide +kernel)
theorem t_76_5 : am_ok lw_Ts cX7_like 4 RX7 5 (o_al 6 0) := so_al (Or.inl ⟨0, rfl, rfl, rfl⟩) (by decide +kernel)
theorem t_76_6 : am_ok lw_Ts cX7_like 4 RX7 6 (o_il 7 1) := so_il (Or.inl ⟨1, rfl, rfl, rfl⟩) (by decide +kernel)
theorem t_76_7 : am_okc gm_mi gm_mt lw_Ts lw_Ns cX7_like RX7 7 73 2 := ⟨121, cf_73.1, cf_73.2.1, cf_73.2.2.1, cf_73.2.2.2, Or.inr ⟨7, 1, TX7, 37, rfl, rfl, rfl, (by decide +kernel), wt_843, wt_26, wt_841, by decide +kernel⟩⟩
theorem t_76_10 : am_ok lw_Ts cX7_like 4 RX7 10 (o_if 31 13 q_eq) := so_if_eq (off := 21) (by decide +kernel) rfl
theorem t_76_13 : am_ok lw_Ts cX7_like 4 RX7 13 (o_al 14 0) := so_al (Or.inl ⟨0, rfl, rfl, rfl⟩) (by decide +kernel)
theorem t_76_14 : am_ok lw_Ts cX7_like 4 RX7 14 (o_il 15 2) := so_il (Or.inl ⟨2, rfl, rfl, rfl⟩) (by decide +kernel)
theorem t_76_15 : am_okc gm_mi gm_mt lw_Ts lw_Ns cX7_like RX7 15 72 2 := ⟨125, cf_72.1, cf_72.2.1, cf_72.2.2.1, cf_72.2.2.2, Or.inr ⟨7, 1, TX7, 37, rfl, rfl, rfl, (by decide +kernel), wt_847, wt_27, wt_845, by decide +kernel⟩⟩
theorem t_76_18 : am_ok lw_Ts cX7_like 4 RX7 18 (o_if 31 21 q_eq) := so_if_eq (off := 13) (by decide +kernel) rfl
theorem t_76_21 : am_ok lw_Ts cX7_like 4 RX7 21 (o_il 22 3) := so_il (Or.inl ⟨3, rfl, rfl, rfl⟩) (by decide +kernel)
theorem t_76_22 : am_ok lw_Ts cX7_like 4 RX7 22 (o_k 23 (vI (0))) := so_k (by decide +kernel)
theorem t_76_23 : am_ok lw_Ts cX7_like 4 RX7 23 (o_k 25 (vI (100))) := so_bp rfl (by decide +kernel)
theorem t_76_25 : am_okc gm_mi gm_mt lw_Ts lw_Ns cX7_like RX7 25 70 3 := ⟨114, cf_70.1, cf_70.2.1, cf_70.2.2.1, cf_70.2.2.2, Or.inl ⟨rfl, (by decide +kernel), wt_831, by decide +kernel, (Or.inl wt_830)⟩⟩
theorem t_76_28 : am_ok lw_Ts cX7_like 4 RX7 28 (o_if 33 31 q_ne) := so_if_ne (off := 5) (by decide +kernel) rfl
theorem t_76_31 : am_ok lw_Ts cX7_like 4 RX7 31 (o_k 32 (vI (0))) := so_k (by decide +kernel)
theorem t_76_32 : am_okr cX7_like 32 2 := (show decode cX7_like 32 = .ok (.ireturn, 1) by decide +kernel)
theorem t_76_33 : am_ok lw_Ts cX7_like 4 RX7 33 (o_al 34 0) := so_al (Or.inl ⟨0, rfl, rfl, rfl⟩) (by decide +kernel)
theorem t_76_34 : am_ok lw_Ts cX7_like 4 RX7 34 (o_gf 37 7 5) := so_gf cl_X7 (by decide) wt_714 (by decide +kernel)
theorem t_76_37 : am_ok lw_Ts cX7_like 4 RX7 37 (o_k 39 (vI (6))) := so_bp rfl (by decide +kernel)
theorem t_76_39 : am_ok lw_Ts cX7_like 4 RX7 39 (o_il 40 1) := so_il (Or.inl ⟨1, rfl, rfl, rfl⟩) (by decide +kernel)
theorem t_76_40 : am_ok lw_Ts cX7_like 4 RX7 40 (o_ib 41 f_mul) := so_imul (by decide +kernel)
theorem t_76_41 : am_ok lw_Ts cX7_like 4 RX7 41 (o_il 42 2) := so_il (Or.inl ⟨2, rfl, rfl, rfl⟩) (by decide +kernel)
theorem t_76_42 : am_ok lw_Ts cX7_like 4 RX7 42 (o_ib 43 f_add) := so_iadd (by decide +kernel)
theorem t_76_43 : am_ok lw_Ts cX7_like 4 RX7 43 (o_il 44 3) := so_il (Or.inl ⟨3, rfl, rfl, rfl⟩) (by decide +kernel)
theorem t_76_44 : am_ok lw_Ts cX7_like 4 RX7 44 (o_iw 45) := so_iw (by decide +kernel)
theorem t_76_45 : am_ok lw_Ts cX7_like 4 RX7 45 (o_k 46 (vI (1))) := so_k (by decide +kernel)
theorem t_76_46 : am_okr cX7_like 46 2 := (show decode cX7_like 46 = .ok (.ireturn, 1) by decide +kernel)
set_option maxRecDepth 20000 in
theorem ok_76 : am_okL gm_mi gm_mt lw_Ts lw_Ns 76 cd_76 := ⟨t_76_0, t_76_1, t_76_2, t_76_5, t_76_6, t_76_7, t_76_10, t_76_13, t_76_14, t_76_15, t_76_18, t_76_21, t_76_22, t_76_23, t_76_25, t_76_28, t_76_31, t_76_32, t_76_33, t_76_34, t_76_37, t_76_39, t_76_40, t_76_41, t_76_42, t_76_43, t_76_44, t_76_45, t_76_46, trivial⟩
theorem t_77_0 : am_ok lw_Ts cX7_rival 4 RX7 0 (o_al 1 0) := so_al (Or.inl ⟨0, rfl, rfl, rfl⟩) (by decide +kernel)
theorem t_77_1 : am_ok lw_Ts cX7_rival 4 RX7 1 (o_k 2 (vI (0))) := so_k (by decide +kernel)
theorem t_77_2 : am_ok lw_Ts cX7_rival 4 RX7 2 (o_pf 5 7 25) := so_pf cl_X7 tyX7_ok nmX7 (by decide) rfl rfl wt_734 (by decide +kernel)
theorem t_77_5 : am_ok lw_Ts cX7_rival 4 RX7 5 (o_al 6 0) := so_al (Or.inl ⟨0, rfl, rfl, rfl⟩) (by decide +kernel)
theorem t_77_6 : am_ok lw_Ts cX7_rival 4 RX7 6 (o_il 7 1) := so_il (Or.inl ⟨1, rfl, rfl, rfl⟩) (by decide +kernel)
theorem t_77_7 : am_okc gm_mi gm_mt lw_Ts lw_Ns cX7_rival RX7 7 73 2 := ⟨121, cf_73.1, cf_73.2.1, cf_73.2.2.1, cf_73.2.2.2, Or.inr ⟨7, 1, TX7, 37, rfl, rfl, rfl, (by decide +kernel), wt_843, wt_26, wt_841, by decide +kernel⟩⟩
theorem t_77_10 : am_ok lw_Ts cX7_rival 4 RX7 10 (o_if 26 13 q_eq) := so_if_eq (off := 16) (by decide +kernel) rfl
theorem t_77_13 : am_ok lw_Ts cX7_rival 4 RX7 13 (o_al 14 0) := so_al (Or.inl ⟨0, rfl, rfl, rfl⟩) (by decide +kernel)
theorem t_77_14 : am_ok lw_Ts cX7_rival 4 RX7 14 (o_il 15 2) := so_il (Or.inl ⟨2, rfl, rfl, rfl⟩) (by decide +kernel)
theorem t_77_15 : am_okc gm_mi gm_mt lw_Ts lw_Ns cX7_rival RX7 15 73 2 := ⟨121, cf_73.1, cf_73.2.1, cf_73.2.2.1, cf_73.2.2.2, Or.inr ⟨7, 1, TX7, 37, rfl, rfl, rfl, (by decide +kernel), wt_843, wt_26, wt_841, by decide +kernel⟩⟩
theorem t_77_18 : am_ok lw_Ts cX7_rival 4 RX7 18 (o_if 26 21 q_eq) := so_if_eq (off := 8) (by decide +kernel) rfl
theorem t_77_21 : am_ok lw_Ts cX7_rival 4 RX7 21 (o_il 22 1) := so_il (Or.inl ⟨1, rfl, rfl, rfl⟩) (by decide +kernel)
theorem t_77_22 : am_ok lw_Ts cX7_rival 4 RX7 22 (o_il 23 2) := so_il (Or.inl ⟨2, rfl, rfl, rfl⟩) (by decide +kernel)
theorem t_77_23 : am_ok lw_Ts cX7_rival 4 RX7 23 (o_ic 28 26 r_ne) := so_ic_ne (off := 5) (by decide +kernel) rfl
theorem t_77_26 : am_ok lw_Ts cX7_rival 4 RX7 26 (o_k 27 (vI (0))) := so_k (by decide +kernel)
theorem t_77_27 : am_okr cX7_rival 27 2 := (show decode cX7_rival 27 = .ok (.ireturn, 1) by decide +kernel)
theorem t_77_28 : am_ok lw_Ts cX7_rival 4 RX7 28 (o_al 29 0) := so_al (Or.inl ⟨0, rfl, rfl, rfl⟩) (by decide +kernel)
theorem t_77_29 : am_ok lw_Ts cX7_rival 4 RX7 29 (o_gf 32 7 6) := so_gf cl_X7 (by decide) wt_715 (by decide +kernel)
theorem t_77_32 : am_ok lw_Ts cX7_rival 4 RX7 32 (o_k 34 (vI (6))) := so_bp rfl (by decide +kernel)
theorem t_77_34 : am_ok lw_Ts cX7_rival 4 RX7 34 (o_il 35 1) := so_il (Or.inl ⟨1, rfl, rfl, rfl⟩) (by decide +kernel)
theorem t_77_35 : am_ok lw_Ts cX7_rival 4 RX7 35 (o_ib 36 f_mul) := so_imul (by decide +kernel)
theorem t_77_36 : am_ok lw_Ts cX7_rival 4 RX7 36 (o_il 37 2) := so_il (Or.inl ⟨2, rfl, rfl, rfl⟩) (by decide +kernel)
theorem t_77_37 : am_ok lw_Ts cX7_rival 4 RX7 37 (o_ib 38 f_add) := so_iadd (by decide +kernel)
theorem t_77_38 : am_ok lw_Ts cX7_rival 4 RX7 38 (o_il 39 3) := so_il (Or.inl ⟨3, rfl, rfl, rfl⟩) (by decide +kernel)
theorem t_77_39 : am_ok lw_Ts cX7_rival 4 RX7 39 (o_bw 40) := so_bw (by decide +kernel)
theorem t_77_40 : am_ok lw_Ts cX7_rival 4 RX7 40 (o_al 41 0) := so_al (Or.inl ⟨0, rfl, rfl, rfl⟩) (by decide +kernel)
theorem t_77_41 : am_ok lw_Ts cX7_rival 4 RX7 41 (o_gf 44 7 6) := so_gf cl_X7 (by decide) wt_715 (by decide +kernel)
theorem t_77_44 : am_ok lw_Ts cX7_rival 4 RX7 44 (o_k 46 (vI (6))) := so_bp rfl (by decide +kernel)
theorem t_77_46 : am_ok lw_Ts cX7_rival 4 RX7 46 (o_il 47 2) := so_il (Or.inl ⟨2, rfl, rfl, rfl⟩) (by decide +kernel)
theorem t_77_47 : am_ok lw_Ts cX7_rival 4 RX7 47 (o_ib 48 f_mul) := so_imul (by decide +kernel)
theorem t_77_48 : am_ok lw_Ts cX7_rival 4 RX7 48 (o_il 49 1) := so_il (Or.inl ⟨1, rfl, rfl, rfl⟩) (by decide +kernel)
theorem t_77_49 : am_ok lw_Ts cX7_rival 4 RX7 49 (o_ib 50 f_add) := so_iadd (by decide +kernel)
theorem t_77_50 : am_ok lw_Ts cX7_rival 4 RX7 50 (o_il 51 3) := so_il (Or.inl ⟨3, rfl, rfl, rfl⟩) (by decide +kernel)
theorem t_77_51 : am_ok lw_Ts cX7_rival 4 RX7 51 (o_bw 52) := so_bw (by decide +kernel)
theorem t_77_52 : am_ok lw_Ts cX7_rival 4 RX7 52 (o_k 53 (vI (1))) := so_k (by decide +kernel)
theorem t_77_53 : am_okr cX7_rival 53 2 := (show decode cX7_rival 53 = .ok (.ireturn, 1) by decide +kernel)
set_option maxRecDepth 20000 in
theorem ok_77 : am_okL gm_mi gm_mt lw_Ts lw_Ns 77 cd_77 := ⟨t_77_0, t_77_1, t_77_2, t_77_5, t_77_6, t_77_7, t_77_10, t_77_13, t_77_14, t_77_15, t_77_18, t_77_21, t_77_22, t_77_23, t_77_26, t_77_27, t_77_28, t_77_29, t_77_32, t_77_34, t_77_35, t_77_36, t_77_37, t_77_38, t_77_39, t_77_40, t_77_41, t_77_44, t_77_46, t_77_47, t_77_48, t_77_49, t_77_50, t_77_51, t_77_52, t_77_53, trivial⟩
theorem t_78_0 : am_ok lw_Ts cX7_ill 3 RX7 0 (o_al 1 0) := so_al (Or.inl ⟨0, rfl, rfl, rfl⟩) (by decide +kernel)
theorem t_78_1 : am_ok lw_Ts cX7_ill 3 RX7 1 (o_k 2 (vI (0))) := so_k (by decide +kernel)
theorem t_78_2 : am_ok lw_Ts cX7_ill 3 RX7 2 (o_pf 5 7 25) := so_pf cl_X7 tyX7_ok nmX7 (by decide) rfl rfl wt_734 (by decide +kernel)
theorem t_78_5 : am_ok lw_Ts cX7_ill 3 RX7 5 (o_al 6 0) := so_al (Or.inl ⟨0, rfl, rfl, rfl⟩) (by decide +kernel)
theorem t_78_6 : am_ok lw_Ts cX7_ill 3 RX7 6 (o_il 7 1) := so_il (Or.inl ⟨1, rfl, rfl, rfl⟩) (by decide +kernel)
theorem t_78_7 : am_okc gm_mi gm_mt lw_Ts lw_Ns cX7_ill RX7 7 73 2 := ⟨121, cf_73.1, cf_73.2.1, cf_73.2.2.1, cf_73.2.2.2, Or.inr ⟨7, 1, TX7, 37, rfl, rfl, rfl, (by decide +kernel), wt_843, wt_26, wt_841, by decide +kernel⟩⟩
theorem t_78_10 : am_ok lw_Ts cX7_ill 3 RX7 10 (o_if 15 13 q_ne) := so_if_ne (off := 5) (by decide +kernel) rfl
theorem t_78_13 : am_ok lw_Ts cX7_ill 3 RX7 13 (o_k 14 (vI (0))) := so_k (by decide +kernel)
theorem t_78_14 : am_okr cX7_ill 14 2 := (show decode cX7_ill 14 = .ok (.ireturn, 1) by decide +kernel)
theorem t_78_15 : am_ok lw_Ts cX7_ill 3 RX7 15 (o_al 16 0) := so_al (Or.inl ⟨0, rfl, rfl, rfl⟩) (by decide +kernel)
theorem t_78_16 : am_ok lw_Ts cX7_ill 3 RX7 16 (o_gf 19 7 4) := so_gf cl_X7 (by decide) wt_713 (by decide +kernel)
theorem t_78_19 : am_ok lw_Ts cX7_ill 3 RX7 19 (o_il 20 1) := so_il (Or.inl ⟨1, rfl, rfl, rfl⟩) (by decide +kernel)
theorem t_78_20 : am_ok lw_Ts cX7_ill 3 RX7 20 (o_il 21 2) := so_il (Or.inl ⟨2, rfl, rfl, rfl⟩) (by decide +kernel)
theorem t_78_21 : am_ok lw_Ts cX7_ill 3 RX7 21 (o_bw 22) := so_bw (by decide +kernel)
theorem t_78_22 : am_ok lw_Ts cX7_ill 3 RX7 22 (o_k 23 (vI (1))) := so_k (by decide +kernel)
theorem t_78_23 : am_okr cX7_ill 23 2 := (show decode cX7_ill 23 = .ok (.ireturn, 1) by decide +kernel)
set_option maxRecDepth 20000 in
theorem ok_78 : am_okL gm_mi gm_mt lw_Ts lw_Ns 78 cd_78 := ⟨t_78_0, t_78_1, t_78_2, t_78_5, t_78_6, t_78_7, t_78_10, t_78_13, t_78_14, t_78_15, t_78_16, t_78_19, t_78_20, t_78_21, t_78_22, t_78_23, trivial⟩
theorem t_79_0 : am_ok lw_Ts cX7_set 4 RX7 0 (o_al 1 0) := so_al (Or.inl ⟨0, rfl, rfl, rfl⟩) (by decide +kernel)
theorem t_79_1 : am_ok lw_Ts cX7_set 4 RX7 1 (o_k 2 (vI (0))) := so_k (by decide +kernel)
theorem t_79_2 : am_ok lw_Ts cX7_set 4 RX7 2 (o_pf 5 7 25) := so_pf cl_X7 tyX7_ok nmX7 (by decide) rfl rfl wt_734 (by decide +kernel)
theorem t_79_5 : am_ok lw_Ts cX7_set 4 RX7 5 (o_il 6 1) := so_il (Or.inl ⟨1, rfl, rfl, rfl⟩) (by decide +kernel)
theorem t_79_6 : am_ok lw_Ts cX7_set 4 RX7 6 (o_k 7 (vI (0))) := so_k (by decide +kernel)
theorem t_79_7 : am_ok lw_Ts cX7_set 4 RX7 7 (o_k 8 (vI (1))) := so_k (by decide +kernel)
theorem t_79_8 : am_okc gm_mi gm_mt lw_Ts lw_Ns cX7_set RX7 8 70 3 := ⟨114, cf_70.1, cf_70.2.1, cf_70.2.2.1, cf_70.2.2.2, Or.inl ⟨rfl, (by decide +kernel), wt_831, by decide +kernel, (Or.inl wt_830)⟩⟩
theorem t_79_11 : am_ok lw_Ts cX7_set 4 RX7 11 (o_if 33 14 q_eq) := so_if_eq (off := 22) (by decide +kernel) rfl
theorem t_79_14 : am_ok lw_Ts cX7_set 4 RX7 14 (o_il 15 2) := so_il (Or.inl ⟨2, rfl, rfl, rfl⟩) (by decide +kernel)
theorem t_79_15 : am_ok lw_Ts cX7_set 4 RX7 15 (o_k 16 (vI (0))) := so_k (by decide +kernel)
theorem t_79_16 : am_ok lw_Ts cX7_set 4 RX7 16 (o_il 17 1) := so_il (Or.inl ⟨1, rfl, rfl, rfl⟩) (by decide +kernel)
theorem t_79_17 : am_ok lw_Ts cX7_set 4 RX7 17 (o_if 25 20 q_ne) := so_if_ne (off := 8) (by decide +kernel) rfl
theorem t_79_20 : am_ok lw_Ts cX7_set 4 RX7 20 (o_k 22 (vI (12))) := so_bp rfl (by decide +kernel)
theorem t_79_22 : am_ok lw_Ts cX7_set 4 RX7 22 (o_go 27) := so_go (off := 5) (by decide +kernel) rfl
theorem t_79_25 : am_ok lw_Ts cX7_set 4 RX7 25 (o_k 27 (vI (30))) := so_bp rfl (by decide +kernel)
theorem t_79_27 : am_okc gm_mi gm_mt lw_Ts lw_Ns cX7_set RX7 27 70 3 := ⟨114, cf_70.1, cf_70.2.1, cf_70.2.2.1, cf_70.2.2.2, Or.inl ⟨rfl, (by decide +kernel), wt_831, by decide +kernel, (Or.inl wt_830)⟩⟩
theorem t_79_30 : am_ok lw_Ts cX7_set 4 RX7 30 (o_if 35 33 q_ne) := so_if_ne (off := 5) (by decide +kernel) rfl
theorem t_79_33 : am_ok lw_Ts cX7_set 4 RX7 33 (o_k 34 (vI (-1))) := so_k (by decide +kernel)
theorem t_79_34 : am_okr cX7_set 34 1 := (show decode cX7_set 34 = .ok (.ireturn, 1) by decide +kernel)
theorem t_79_35 : am_ok lw_Ts cX7_set 4 RX7 35 (o_il 36 1) := so_il (Or.inl ⟨1, rfl, rfl, rfl⟩) (by decide +kernel)
theorem t_79_36 : am_ok lw_Ts cX7_set 4 RX7 36 (o_if 46 39 q_ne) := so_if_ne (off := 10) (by decide +kernel) rfl
theorem t_79_39 : am_ok lw_Ts cX7_set 4 RX7 39 (o_al 40 0) := so_al (Or.inl ⟨0, rfl, rfl, rfl⟩) (by decide +kernel)
theorem t_79_40 : am_ok lw_Ts cX7_set 4 RX7 40 (o_gf 43 7 8) := so_gf cl_X7 (by decide) wt_717 (by decide +kernel)
theorem t_79_43 : am_ok lw_Ts cX7_set 4 RX7 43 (o_go 50) := so_go (off := 7) (by decide +kernel) rfl
theorem t_79_46 : am_ok lw_Ts cX7_set 4 RX7 46 (o_al 47 0) := so_al (Or.inl ⟨0, rfl, rfl, rfl⟩) (by decide +kernel)
theorem t_79_47 : am_ok lw_Ts cX7_set 4 RX7 47 (o_gf 50 7 9) := so_gf cl_X7 (by decide) wt_718 (by decide +kernel)
theorem t_79_50 : am_ok lw_Ts cX7_set 4 RX7 50 (o_is 51 3) := so_is (Or.inl ⟨3, rfl, rfl, rfl⟩) (by decide +kernel)
theorem t_79_51 : am_ok lw_Ts cX7_set 4 RX7 51 (o_il 52 1) := so_il (Or.inl ⟨1, rfl, rfl, rfl⟩) (by decide +kernel)
theorem t_79_52 : am_ok lw_Ts cX7_set 4 RX7 52 (o_if 63 55 q_ne) := so_if_ne (off := 11) (by decide +kernel) rfl
theorem t_79_55 : am_ok lw_Ts cX7_set 4 RX7 55 (o_al 56 0) := so_al (Or.inl ⟨0, rfl, rfl, rfl⟩) (by decide +kernel)
theorem t_79_56 : am_ok lw_Ts cX7_set 4 RX7 56 (o_il 57 2) := so_il (Or.inl ⟨2, rfl, rfl, rfl⟩) (by decide +kernel)
theorem t_79_57 : am_ok lw_Ts cX7_set 4 RX7 57 (o_pf 60 7 8) := so_pf cl_X7 tyX7_ok nmX7 (by decide) rfl rfl wt_717 (by decide +kernel)
theorem t_79_60 : am_ok lw_Ts cX7_set 4 RX7 60 (o_go 68) := so_go (off := 8) (by decide +kernel) rfl
theorem t_79_63 : am_ok lw_Ts cX7_set 4 RX7 63 (o_al 64 0) := so_al (Or.inl ⟨0, rfl, rfl, rfl⟩) (by decide +kernel)
theorem t_79_64 : am_ok lw_Ts cX7_set 4 RX7 64 (o_il 65 2) := so_il (Or.inl ⟨2, rfl, rfl, rfl⟩) (by decide +kernel)
theorem t_79_65 : am_ok lw_Ts cX7_set 4 RX7 65 (o_pf 68 7 9) := so_pf cl_X7 tyX7_ok nmX7 (by decide) rfl rfl wt_718 (by decide +kernel)
theorem t_79_68 : am_ok lw_Ts cX7_set 4 RX7 68 (o_il 69 3) := so_il (Or.inl ⟨3, rfl, rfl, rfl⟩) (by decide +kernel)
theorem t_79_69 : am_okr cX7_set 69 1 := (show decode cX7_set 69 = .ok (.ireturn, 1) by decide +kernel)
set_option maxRecDepth 20000 in
theorem ok_79 : am_okL gm_mi gm_mt lw_Ts lw_Ns 79 cd_79 := ⟨t_79_0, t_79_1, t_79_2, t_79_5, t_79_6, t_79_7, t_79_8, t_79_11, t_79_14, t_79_15, t_79_16, t_79_17, t_79_20, t_79_22, t_79_25, t_79_27, t_79_30, t_79_33, t_79_34, t_79_35, t_79_36, t_79_39, t_79_40, t_79_43, t_79_46, t_79_47, t_79_50, t_79_51, t_79_52, t_79_55, t_79_56, t_79_57, t_79_60, t_79_63, t_79_64, t_79_65, t_79_68, t_79_69, trivial⟩
theorem t_80_0 : am_ok lw_Ts cX7_season 3 RX7 0 (o_al 1 0) := so_al (Or.inl ⟨0, rfl, rfl, rfl⟩) (by decide +kernel)
theorem t_80_1 : am_ok lw_Ts cX7_season 3 RX7 1 (o_k 2 (vI (0))) := so_k (by decide +kernel)
theorem t_80_2 : am_ok lw_Ts cX7_season 3 RX7 2 (o_pf 5 7 25) := so_pf cl_X7 tyX7_ok nmX7 (by decide) rfl rfl wt_734 (by decide +kernel)
theorem t_80_5 : am_ok lw_Ts cX7_season 3 RX7 5 (o_il 6 1) := so_il (Or.inl ⟨1, rfl, rfl, rfl⟩) (by decide +kernel)
theorem t_80_6 : am_ok lw_Ts cX7_season 3 RX7 6 (o_k 7 (vI (1))) := so_k (by decide +kernel)
theorem t_80_7 : am_ok lw_Ts cX7_season 3 RX7 7 (o_k 8 (vI (3))) := so_k (by decide +kernel)
theorem t_80_8 : am_okc gm_mi gm_mt lw_Ts lw_Ns cX7_season RX7 8 70 3 := ⟨114, cf_70.1, cf_70.2.1, cf_70.2.2.1, cf_70.2.2.2, Or.inl ⟨rfl, (by decide +kernel), wt_831, by decide +kernel, (Or.inl wt_830)⟩⟩
theorem t_80_11 : am_ok lw_Ts cX7_season 3 RX7 11 (o_if 31 14 q_eq) := so_if_eq (off := 20) (by decide +kernel) rfl
theorem t_80_14 : am_ok lw_Ts cX7_season 3 RX7 14 (o_il 15 2) := so_il (Or.inl ⟨2, rfl, rfl, rfl⟩) (by decide +kernel)
theorem t_80_15 : am_ok lw_Ts cX7_season 3 RX7 15 (o_k 16 (vI (1))) := so_k (by decide +kernel)
theorem t_80_16 : am_ok lw_Ts cX7_season 3 RX7 16 (o_k 17 (vI (3))) := so_k (by decide +kernel)
theorem t_80_17 : am_okc gm_mi gm_mt lw_Ts lw_Ns cX7_season RX7 17 70 3 := ⟨114, cf_70.1, cf_70.2.1, cf_70.2.2.1, cf_70.2.2.2, Or.inl ⟨rfl, (by decide +kernel), wt_831, by decide +kernel, (Or.inl wt_830)⟩⟩
theorem t_80_20 : am_ok lw_Ts cX7_season 3 RX7 20 (o_if 31 23 q_eq) := so_if_eq (off := 11) (by decide +kernel) rfl
theorem t_80_23 : am_ok lw_Ts cX7_season 3 RX7 23 (o_il 24 1) := so_il (Or.inl ⟨1, rfl, rfl, rfl⟩) (by decide +kernel)
theorem t_80_24 : am_ok lw_Ts cX7_season 3 RX7 24 (o_il 25 2) := so_il (Or.inl ⟨2, rfl, rfl, rfl⟩) (by decide +kernel)
theorem t_80_25 : am_ok lw_Ts cX7_season 3 RX7 25 (o_ib 26 f_mul) := so_imul (by decide +kernel)
theorem t_80_26 : am_ok lw_Ts cX7_season 3 RX7 26 (o_k 28 (vI (6))) := so_bp rfl (by decide +kernel)
theorem t_80_28 : am_ok lw_Ts cX7_season 3 RX7 28 (o_ic 33 31 r_le) := so_ic_le (off := 5) (by decide +kernel) rfl
theorem t_80_31 : am_ok lw_Ts cX7_season 3 RX7 31 (o_k 32 (vI (0))) := so_k (by decide +kernel)
theorem t_80_32 : am_okr cX7_season 32 2 := (show decode cX7_season 32 = .ok (.ireturn, 1) by decide +kernel)
theorem t_80_33 : am_ok lw_Ts cX7_season 3 RX7 33 (o_al 34 0) := so_al (Or.inl ⟨0, rfl, rfl, rfl⟩) (by decide +kernel)
theorem t_80_34 : am_ok lw_Ts cX7_season 3 RX7 34 (o_il 35 1) := so_il (Or.inl ⟨1, rfl, rfl, rfl⟩) (by decide +kernel)
theorem t_80_35 : am_ok lw_Ts cX7_season 3 RX7 35 (o_pf 38 7 10) := so_pf cl_X7 tyX7_ok nmX7 (by decide) rfl rfl wt_719 (by decide +kernel)
theorem t_80_38 : am_ok lw_Ts cX7_season 3 RX7 38 (o_al 39 0) := so_al (Or.inl ⟨0, rfl, rfl, rfl⟩) (by decide +kernel)
theorem t_80_39 : am_ok lw_Ts cX7_season 3 RX7 39 (o_il 40 2) := so_il (Or.inl ⟨2, rfl, rfl, rfl⟩) (by decide +kernel)
theorem t_80_40 : am_ok lw_Ts cX7_season 3 RX7 40 (o_pf 43 7 11) := so_pf cl_X7 tyX7_ok nmX7 (by decide) rfl rfl wt_720 (by decide +kernel)
theorem t_80_43 : am_ok lw_Ts cX7_season 3 RX7 43 (o_al 44 0) := so_al (Or.inl ⟨0, rfl, rfl, rfl⟩) (by decide +kernel)
theorem t_80_44 : am_okc gm_mi gm_mt lw_Ts lw_Ns cX7_season RX7 44 71 1 := ⟨105, cf_71.1, cf_71.2.1, cf_71.2.2.1, cf_71.2.2.2, Or.inr ⟨7, 0, TX7, 37, rfl, rfl, rfl, (by decide +kernel), wt_707, wt_25, wt_705, by decide +kernel⟩⟩
theorem t_80_47 : am_ok lw_Ts cX7_season 3 RX7 47 (o_k 48 (vI (1))) := so_k (by decide +kernel)
theorem t_80_48 : am_okr cX7_season 48 2 := (show decode cX7_season 48 = .ok (.ireturn, 1) by decide +kernel)
set_option maxRecDepth 20000 in
theorem ok_80 : am_okL gm_mi gm_mt lw_Ts lw_Ns 80 cd_80 := ⟨t_80_0, t_80_1, t_80_2, t_80_5, t_80_6, t_80_7, t_80_8, t_80_11, t_80_14, t_80_15, t_80_16, t_80_17, t_80_20, t_80_23, t_80_24, t_80_25, t_80_26, t_80_28, t_80_31, t_80_32, t_80_33, t_80_34, t_80_35, t_80_38, t_80_39, t_80_40, t_80_43, t_80_44, t_80_47, t_80_48, trivial⟩
theorem t_81_0 : am_ok lw_Ts cX7_share 3 RX7 0 (o_al 1 0) := so_al (Or.inl ⟨0, rfl, rfl, rfl⟩) (by decide +kernel)
theorem t_81_1 : am_ok lw_Ts cX7_share 3 RX7 1 (o_gf 4 7 0) := so_gf cl_X7 (by decide) wt_709 (by decide +kernel)
theorem t_81_4 : am_ok lw_Ts cX7_share 3 RX7 4 (o_il 5 1) := so_il (Or.inl ⟨1, rfl, rfl, rfl⟩) (by decide +kernel)
theorem t_81_5 : am_ok lw_Ts cX7_share 3 RX7 5 (o_ia 6) := so_ia (by decide +kernel)
theorem t_81_6 : am_ok lw_Ts cX7_share 3 RX7 6 (o_al 7 0) := so_al (Or.inl ⟨0, rfl, rfl, rfl⟩) (by decide +kernel)
theorem t_81_7 : am_ok lw_Ts cX7_share 3 RX7 7 (o_gf 10 7 0) := so_gf cl_X7 (by decide) wt_709 (by decide +kernel)
theorem t_81_10 : am_ok lw_Ts cX7_share 3 RX7 10 (o_il 11 2) := so_il (Or.inl ⟨2, rfl, rfl, rfl⟩) (by decide +kernel)
theorem t_81_11 : am_ok lw_Ts cX7_share 3 RX7 11 (o_ia 12) := so_ia (by decide +kernel)
theorem t_81_12 : am_ok lw_Ts cX7_share 3 RX7 12 (o_ib 13 f_and) := so_iand (by decide +kernel)
theorem t_81_13 : am_okc gm_mi gm_mt lw_Ts lw_Ns cX7_share RX7 13 112 1 := ⟨128, cf_112.1, cf_112.2.1, cf_112.2.2.1, cf_112.2.2.2, Or.inl ⟨rfl, (by decide +kernel), wt_369, by decide +kernel, (Or.inl wt_873)⟩⟩
theorem t_81_16 : am_okr cX7_share 16 1 := (show decode cX7_share 16 = .ok (.ireturn, 1) by decide +kernel)
set_option maxRecDepth 20000 in
theorem ok_81 : am_okL gm_mi gm_mt lw_Ts lw_Ns 81 cd_81 := ⟨t_81_0, t_81_1, t_81_4, t_81_5, t_81_6, t_81_7, t_81_10, t_81_11, t_81_12, t_81_13, t_81_16, trivial⟩
theorem t_82_0 : am_ok lw_Ts cX7_near 3 RX7 0 (o_al 1 0) := so_al (Or.inl ⟨0, rfl, rfl, rfl⟩) (by decide +kernel)
theorem t_82_1 : am_ok lw_Ts cX7_near 3 RX7 1 (o_k 2 (vI (0))) := so_k (by decide +kernel)
theorem t_82_2 : am_ok lw_Ts cX7_near 3 RX7 2 (o_pf 5 7 25) := so_pf cl_X7 tyX7_ok nmX7 (by decide) rfl rfl wt_734 (by decide +kernel)
theorem t_82_5 : am_ok lw_Ts cX7_near 3 RX7 5 (o_al 6 0) := so_al (Or.inl ⟨0, rfl, rfl, rfl⟩) (by decide +kernel)
theorem t_82_6 : am_ok lw_Ts cX7_near 3 RX7 6 (o_il 7 1) := so_il (Or.inl ⟨1, rfl, rfl, rfl⟩) (by decide +kernel)
theorem t_82_7 : am_okc gm_mi gm_mt lw_Ts lw_Ns cX7_near RX7 7 72 2 := ⟨125, cf_72.1, cf_72.2.1, cf_72.2.2.1, cf_72.2.2.2, Or.inr ⟨7, 1, TX7, 37, rfl, rfl, rfl, (by decide +kernel), wt_847, wt_27, wt_845, by decide +kernel⟩⟩
theorem t_82_10 : am_ok lw_Ts cX7_near 3 RX7 10 (o_if 30 13 q_eq) := so_if_eq (off := 20) (by decide +kernel) rfl
theorem t_82_13 : am_ok lw_Ts cX7_near 3 RX7 13 (o_al 14 0) := so_al (Or.inl ⟨0, rfl, rfl, rfl⟩) (by decide +kernel)
theorem t_82_14 : am_ok lw_Ts cX7_near 3 RX7 14 (o_il 15 2) := so_il (Or.inl ⟨2, rfl, rfl, rfl⟩) (by decide +kernel)
theorem t_82_15 : am_okc gm_mi gm_mt lw_Ts lw_Ns cX7_near RX7 15 72 2 := ⟨125, cf_72.1, cf_72.2.1, cf_72.2.2.1, cf_72.2.2.2, Or.inr ⟨7, 1, TX7, 37, rfl, rfl, rfl, (by decide +kernel), wt_847, wt_27, wt_845, by decide +kernel⟩⟩
theorem t_82_18 : am_ok lw_Ts cX7_near 3 RX7 18 (o_if 30 21 q_eq) := so_if_eq (off := 12) (by decide +kernel) rfl
theorem t_82_21 : am_ok lw_Ts cX7_near 3 RX7 21 (o_al 22 0) := so_al (Or.inl ⟨0, rfl, rfl, rfl⟩) (by decide +kernel)
theorem t_82_22 : am_ok lw_Ts cX7_near 3 RX7 22 (o_il 23 1) := so_il (Or.inl ⟨1, rfl, rfl, rfl⟩) (by decide +kernel)
theorem t_82_23 : am_ok lw_Ts cX7_near 3 RX7 23 (o_il 24 2) := so_il (Or.inl ⟨2, rfl, rfl, rfl⟩) (by decide +kernel)
theorem t_82_24 : am_okc gm_mi gm_mt lw_Ts lw_Ns cX7_near RX7 24 81 3 := ⟨134, cf_81.1, cf_81.2.1, cf_81.2.2.1, cf_81.2.2.2, Or.inr ⟨7, 2, TX7, 37, rfl, rfl, rfl, (by decide +kernel), wt_871, wt_28, wt_869, by decide +kernel⟩⟩
theorem t_82_27 : am_ok lw_Ts cX7_near 3 RX7 27 (o_go 31) := so_go (off := 4) (by decide +kernel) rfl
theorem t_82_30 : am_ok lw_Ts cX7_near 3 RX7 30 (o_k 31 (vI (-1))) := so_k (by decide +kernel)
theorem t_82_31 : am_okr cX7_near 31 1 := (show decode cX7_near 31 = .ok (.ireturn, 1) by decide +kernel)
set_option maxRecDepth 20000 in
theorem ok_82 : am_okL gm_mi gm_mt lw_Ts lw_Ns 82 cd_82 := ⟨t_82_0, t_82_1, t_82_2, t_82_5, t_82_6, t_82_7, t_82_10, t_82_13, t_82_14, t_82_15, t_82_18, t_82_21, t_82_22, t_82_23, t_82_24, t_82_27, t_82_30, t_82_31, trivial⟩
theorem t_83_0 : am_ok lw_Ts cX7_all 1 RX7 0 (o_al 1 0) := so_al (Or.inl ⟨0, rfl, rfl, rfl⟩) (by decide +kernel)
theorem t_83_1 : am_ok lw_Ts cX7_all 1 RX7 1 (o_gf 4 7 10) := so_gf cl_X7 (by decide) wt_719 (by decide +kernel)
theorem t_83_4 : am_ok lw_Ts cX7_all 1 RX7 4 (o_al 5 0) := so_al (Or.inl ⟨0, rfl, rfl, rfl⟩) (by decide +kernel)
theorem t_83_5 : am_ok lw_Ts cX7_all 1 RX7 5 (o_gf 8 7 11) := so_gf cl_X7 (by decide) wt_720 (by decide +kernel)
theorem t_83_8 : am_ok lw_Ts cX7_all 1 RX7 8 (o_ib 9 f_mul) := so_imul (by decide +kernel)
theorem t_83_9 : am_okr cX7_all 9 1 := (show decode cX7_all 9 = .ok (.ireturn, 1) by decide +kernel)
set_option maxRecDepth 20000 in
theorem ok_83 : am_okL gm_mi gm_mt lw_Ts lw_Ns 83 cd_83 := ⟨t_83_0, t_83_1, t_83_4, t_83_5, t_83_8, t_83_9, trivial⟩
theorem t_84_0 : am_ok lw_Ts cX7_count 4 RX7 0 (o_al 1 0) := so_al (Or.inl ⟨0, rfl, rfl, rfl⟩) (by decide +kernel)
theorem t_84_1 : am_ok lw_Ts cX7_count 4 RX7 1 (o_k 2 (vI (0))) := so_k (by decide +kernel)
theorem t_84_2 : am_ok lw_Ts cX7_count 4 RX7 2 (o_pf 5 7 25) := so_pf cl_X7 tyX7_ok nmX7 (by decide) rfl rfl wt_734 (by decide +kernel)
theorem t_84_5 : am_ok lw_Ts cX7_count 4 RX7 5 (o_k 6 (vI (0))) := so_k (by decide +kernel)
theorem t_84_6 : am_ok lw_Ts cX7_count 4 RX7 6 (o_is 7 2) := so_is (Or.inl ⟨2, rfl, rfl, rfl⟩) (by decide +kernel)
theorem t_84_7 : am_ok lw_Ts cX7_count 4 RX7 7 (o_il 8 1) := so_il (Or.inl ⟨1, rfl, rfl, rfl⟩) (by decide +kernel)
theorem t_84_8 : am_ok lw_Ts cX7_count 4 RX7 8 (o_sw (f_sw 8 152 0 6 #[44, 49, 54, 59, 90, 142, 147])) := so_sw (len := 44) (by decide +kernel) (by decide) (by decide) (by decide)
theorem t_84_52 : am_ok lw_Ts cX7_count 4 RX7 52 (o_al 53 0) := so_al (Or.inl ⟨0, rfl, rfl, rfl⟩) (by decide +kernel)
theorem t_84_53 : am_ok lw_Ts cX7_count 4 RX7 53 (o_gf 56 7 2) := so_gf cl_X7 (by decide) wt_711 (by decide +kernel)
theorem t_84_56 : am_okr cX7_count 56 1 := (show decode cX7_count 56 = .ok (.ireturn, 1) by decide +kernel)
theorem t_84_57 : am_ok lw_Ts cX7_count 4 RX7 57 (o_al 58 0) := so_al (Or.inl ⟨0, rfl, rfl, rfl⟩) (by decide +kernel)
theorem t_84_58 : am_ok lw_Ts cX7_count 4 RX7 58 (o_gf 61 7 7) := so_gf cl_X7 (by decide) wt_716 (by decide +kernel)
theorem t_84_61 : am_okr cX7_count 61 1 := (show decode cX7_count 61 = .ok (.ireturn, 1) by decide +kernel)
theorem t_84_62 : am_ok lw_Ts cX7_count 4 RX7 62 (o_al 63 0) := so_al (Or.inl ⟨0, rfl, rfl, rfl⟩) (by decide +kernel)
theorem t_84_63 : am_okc gm_mi gm_mt lw_Ts lw_Ns cX7_count RX7 63 83 1 := ⟨138, cf_83.1, cf_83.2.1, cf_83.2.2.1, cf_83.2.2.2, Or.inr ⟨7, 0, TX7, 37, rfl, rfl, rfl, (by decide +kernel), wt_880, wt_29, wt_878, by decide +kernel⟩⟩
theorem t_84_66 : am_okr cX7_count 66 1 := (show decode cX7_count 66 = .ok (.ireturn, 1) by decide +kernel)
theorem t_84_67 : am_ok lw_Ts cX7_count 4 RX7 67 (o_k 68 (vI (0))) := so_k (by decide +kernel)
theorem t_84_68 : am_ok lw_Ts cX7_count 4 RX7 68 (o_is 69 3) := so_is (Or.inl ⟨3, rfl, rfl, rfl⟩) (by decide +kernel)
theorem t_84_69 : am_ok lw_Ts cX7_count 4 RX7 69 (o_il 70 3) := so_il (Or.inl ⟨3, rfl, rfl, rfl⟩) (by decide +kernel)
theorem t_84_70 : am_ok lw_Ts cX7_count 4 RX7 70 (o_al 71 0) := so_al (Or.inl ⟨0, rfl, rfl, rfl⟩) (by decide +kernel)
theorem t_84_71 : am_okc gm_mi gm_mt lw_Ts lw_Ns cX7_count RX7 71 83 1 := ⟨138, cf_83.1, cf_83.2.1, cf_83.2.2.1, cf_83.2.2.2, Or.inr ⟨7, 0, TX7, 37, rfl, rfl, rfl, (by decide +kernel), wt_880, wt_29, wt_878, by decide +kernel⟩⟩
theorem t_84_74 : am_ok lw_Ts cX7_count 4 RX7 74 (o_ic 96 77 r_ge) := so_ic_ge (off := 22) (by decide +kernel) rfl
theorem t_84_77 : am_ok lw_Ts cX7_count 4 RX7 77 (o_al 78 0) := so_al (Or.inl ⟨0, rfl, rfl, rfl⟩) (by decide +kernel)
theorem t_84_78 : am_ok lw_Ts cX7_count 4 RX7 78 (o_gf 81 7 12) := so_gf cl_X7 (by decide) wt_721 (by decide +kernel)
theorem t_84_81 : am_ok lw_Ts cX7_count 4 RX7 81 (o_il 82 3) := so_il (Or.inl ⟨3, rfl, rfl, rfl⟩) (by decide +kernel)
theorem t_84_82 : am_ok lw_Ts cX7_count 4 RX7 82 (o_ia 83) := so_ia (by decide +kernel)
theorem t_84_83 : am_ok lw_Ts cX7_count 4 RX7 83 (o_k 84 (vI (-1))) := so_k (by decide +kernel)
theorem t_84_84 : am_ok lw_Ts cX7_count 4 RX7 84 (o_ic 90 87 r_eq) := so_ic_eq (off := 6) (by decide +kernel) rfl
theorem t_84_87 : am_ok lw_Ts cX7_count 4 RX7 87 (o_ii 90 2 (1)) := so_ii (by decide +kernel)
theorem t_84_90 : am_ok lw_Ts cX7_count 4 RX7 90 (o_ii 93 3 (1)) := so_ii (by decide +kernel)
theorem t_84_93 : am_ok lw_Ts cX7_count 4 RX7 93 (o_go 69) := so_go (off := (-24)) (by decide +kernel) rfl
theorem t_84_96 : am_ok lw_Ts cX7_count 4 RX7 96 (o_il 97 2) := so_il (Or.inl ⟨2, rfl, rfl, rfl⟩) (by decide +kernel)
theorem t_84_97 : am_okr cX7_count 97 1 := (show decode cX7_count 97 = .ok (.ireturn, 1) by decide +kernel)
theorem t_84_98 : am_ok lw_Ts cX7_count 4 RX7 98 (o_k 99 (vI (0))) := so_k (by decide +kernel)
theorem t_84_99 : am_ok lw_Ts cX7_count 4 RX7 99 (o_is 100 3) := so_is (Or.inl ⟨3, rfl, rfl, rfl⟩) (by decide +kernel)
theorem t_84_100 : am_ok lw_Ts cX7_count 4 RX7 100 (o_il 101 3) := so_il (Or.inl ⟨3, rfl, rfl, rfl⟩) (by decide +kernel)
theorem t_84_101 : am_ok lw_Ts cX7_count 4 RX7 101 (o_al 102 0) := so_al (Or.inl ⟨0, rfl, rfl, rfl⟩) (by decide +kernel)
theorem t_84_102 : am_okc gm_mi gm_mt lw_Ts lw_Ns cX7_count RX7 102 83 1 := ⟨138, cf_83.1, cf_83.2.1, cf_83.2.2.1, cf_83.2.2.2, Or.inr ⟨7, 0, TX7, 37, rfl, rfl, rfl, (by decide +kernel), wt_880, wt_29, wt_878, by decide +kernel⟩⟩
theorem t_84_105 : am_ok lw_Ts cX7_count 4 RX7 105 (o_ic 148 108 r_ge) := so_ic_ge (off := 43) (by decide +kernel) rfl
theorem t_84_108 : am_ok lw_Ts cX7_count 4 RX7 108 (o_al 109 0) := so_al (Or.inl ⟨0, rfl, rfl, rfl⟩) (by decide +kernel)
theorem t_84_109 : am_ok lw_Ts cX7_count 4 RX7 109 (o_gf 112 7 12) := so_gf cl_X7 (by decide) wt_721 (by decide +kernel)
theorem t_84_112 : am_ok lw_Ts cX7_count 4 RX7 112 (o_il 113 3) := so_il (Or.inl ⟨3, rfl, rfl, rfl⟩) (by decide +kernel)
theorem t_84_113 : am_ok lw_Ts cX7_count 4 RX7 113 (o_ia 114) := so_ia (by decide +kernel)
theorem t_84_114 : am_ok lw_Ts cX7_count 4 RX7 114 (o_k 115 (vI (-1))) := so_k (by decide +kernel)
theorem t_84_115 : am_ok lw_Ts cX7_count 4 RX7 115 (o_ic 142 118 r_eq) := so_ic_eq (off := 27) (by decide +kernel) rfl
theorem t_84_118 : am_ok lw_Ts cX7_count 4 RX7 118 (o_il 119 2) := so_il (Or.inl ⟨2, rfl, rfl, rfl⟩) (by decide +kernel)
theorem t_84_119 : am_ok lw_Ts cX7_count 4 RX7 119 (o_al 120 0) := so_al (Or.inl ⟨0, rfl, rfl, rfl⟩) (by decide +kernel)
theorem t_84_120 : am_ok lw_Ts cX7_count 4 RX7 120 (o_gf 123 7 5) := so_gf cl_X7 (by decide) wt_714 (by decide +kernel)
theorem t_84_123 : am_ok lw_Ts cX7_count 4 RX7 123 (o_k 125 (vI (6))) := so_bp rfl (by decide +kernel)
theorem t_84_125 : am_ok lw_Ts cX7_count 4 RX7 125 (o_al 126 0) := so_al (Or.inl ⟨0, rfl, rfl, rfl⟩) (by decide +kernel)
theorem t_84_126 : am_ok lw_Ts cX7_count 4 RX7 126 (o_gf 129 7 12) := so_gf cl_X7 (by decide) wt_721 (by decide +kernel)
theorem t_84_129 : am_ok lw_Ts cX7_count 4 RX7 129 (o_il 130 3) := so_il (Or.inl ⟨3, rfl, rfl, rfl⟩) (by decide +kernel)
theorem t_84_130 : am_ok lw_Ts cX7_count 4 RX7 130 (o_ia 131) := so_ia (by decide +kernel)
theorem t_84_131 : am_ok lw_Ts cX7_count 4 RX7 131 (o_ib 132 f_mul) := so_imul (by decide +kernel)
theorem t_84_132 : am_ok lw_Ts cX7_count 4 RX7 132 (o_al 133 0) := so_al (Or.inl ⟨0, rfl, rfl, rfl⟩) (by decide +kernel)
theorem t_84_133 : am_ok lw_Ts cX7_count 4 RX7 133 (o_gf 136 7 13) := so_gf cl_X7 (by decide) wt_722 (by decide +kernel)
theorem t_84_136 : am_ok lw_Ts cX7_count 4 RX7 136 (o_il 137 3) := so_il (Or.inl ⟨3, rfl, rfl, rfl⟩) (by decide +kernel)
theorem t_84_137 : am_ok lw_Ts cX7_count 4 RX7 137 (o_ia 138) := so_ia (by decide +kernel)
theorem t_84_138 : am_ok lw_Ts cX7_count 4 RX7 138 (o_ib 139 f_add) := so_iadd (by decide +kernel)
theorem t_84_139 : am_ok lw_Ts cX7_count 4 RX7 139 (o_ia 140) := so_ia (by decide +kernel)
theorem t_84_140 : am_ok lw_Ts cX7_count 4 RX7 140 (o_ib 141 f_add) := so_iadd (by decide +kernel)
theorem t_84_141 : am_ok lw_Ts cX7_count 4 RX7 141 (o_is 142 2) := so_is (Or.inl ⟨2, rfl, rfl, rfl⟩) (by decide +kernel)
theorem t_84_142 : am_ok lw_Ts cX7_count 4 RX7 142 (o_ii 145 3 (1)) := so_ii (by decide +kernel)
theorem t_84_145 : am_ok lw_Ts cX7_count 4 RX7 145 (o_go 100) := so_go (off := (-45)) (by decide +kernel) rfl
theorem t_84_148 : am_ok lw_Ts cX7_count 4 RX7 148 (o_il 149 2) := so_il (Or.inl ⟨2, rfl, rfl, rfl⟩) (by decide +kernel)
theorem t_84_149 : am_okr cX7_count 149 1 := (show decode cX7_count 149 = .ok (.ireturn, 1) by decide +kernel)
theorem t_84_150 : am_ok lw_Ts cX7_count 4 RX7 150 (o_al 151 0) := so_al (Or.inl ⟨0, rfl, rfl, rfl⟩) (by decide +kernel)
theorem t_84_151 : am_ok lw_Ts cX7_count 4 RX7 151 (o_gf 154 7 19) := so_gf cl_X7 (by decide) wt_728 (by decide +kernel)
theorem t_84_154 : am_okr cX7_count 154 1 := (show decode cX7_count 154 = .ok (.ireturn, 1) by decide +kernel)
theorem t_84_155 : am_ok lw_Ts cX7_count 4 RX7 155 (o_al 156 0) := so_al (Or.inl ⟨0, rfl, rfl, rfl⟩) (by decide +kernel)
theorem t_84_156 : am_ok lw_Ts cX7_count 4 RX7 156 (o_gf 159 7 21) := so_gf cl_X7 (by decide) wt_730 (by decide +kernel)
theorem t_84_159 : am_okr cX7_count 159 1 := (show decode cX7_count 159 = .ok (.ireturn, 1) by decide +kernel)
theorem t_84_160 : am_ok lw_Ts cX7_count 4 RX7 160 (o_k 161 (vI (-1))) := so_k (by decide +kernel)
theorem t_84_161 : am_okr cX7_count 161 1 := (show decode cX7_count 161 = .ok (.ireturn, 1) by decide +kernel)
set_option maxRecDepth 20000 in
theorem ok_84 : am_okL gm_mi gm_mt lw_Ts lw_Ns 84 cd_84 := ⟨t_84_0, t_84_1, t_84_2, t_84_5, t_84_6, t_84_7, t_84_8, t_84_52, t_84_53, t_84_56, t_84_57, t_84_58, t_84_61, t_84_62, t_84_63, t_84_66, t_84_67, t_84_68, t_84_69, t_84_70, t_84_71, t_84_74, t_84_77, t_84_78, t_84_81, t_84_82, t_84_83, t_84_84, t_84_87, t_84_90, t_84_93, t_84_96, t_84_97, t_84_98, t_84_99, t_84_100, t_84_101, t_84_102, t_84_105, t_84_108, t_84_109, t_84_112, t_84_113, t_84_114, t_84_115, t_84_118, t_84_119, t_84_120, t_84_123, t_84_125, t_84_126, t_84_129, t_84_130, t_84_131, t_84_132, t_84_133, t_84_136, t_84_137, t_84_138, t_84_139, t_84_140, t_84_141, t_84_142, t_84_145, t_84_148, t_84_149, t_84_150, t_84_151, t_84_154, t_84_155, t_84_156, t_84_159, t_84_160, t_84_161, trivial⟩
theorem t_85_0 : am_ok lw_Ts cX7_put 4 RX7 0 (o_al 1 0) := so_al (Or.inl ⟨0, rfl, rfl, rfl⟩) (by decide +kernel)
theorem t_85_1 : am_ok lw_Ts cX7_put 4 RX7 1 (o_k 2 (vI (0))) := so_k (by decide +kernel)
theorem t_85_2 : am_ok lw_Ts cX7_put 4 RX7 2 (o_pf 5 7 25) := so_pf cl_X7 tyX7_ok nmX7 (by decide) rfl rfl wt_734 (by decide +kernel)
theorem t_85_5 : am_ok lw_Ts cX7_put 4 RX7 5 (o_il 6 1) := so_il (Or.inl ⟨1, rfl, rfl, rfl⟩) (by decide +kernel)
theorem t_85_6 : am_ok lw_Ts cX7_put 4 RX7 6 (o_k 7 (vI (0))) := so_k (by decide +kernel)
theorem t_85_7 : am_ok lw_Ts cX7_put 4 RX7 7 (o_al 8 0) := so_al (Or.inl ⟨0, rfl, rfl, rfl⟩) (by decide +kernel)
theorem t_85_8 : am_okc gm_mi gm_mt lw_Ts lw_Ns cX7_put RX7 8 83 1 := ⟨138, cf_83.1, cf_83.2.1, cf_83.2.2.1, cf_83.2.2.2, Or.inr ⟨7, 0, TX7, 37, rfl, rfl, rfl, (by decide +kernel), wt_880, wt_29, wt_878, by decide +kernel⟩⟩
theorem t_85_11 : am_ok lw_Ts cX7_put 4 RX7 11 (o_k 12 (vI (1))) := so_k (by decide +kernel)
theorem t_85_12 : am_ok lw_Ts cX7_put 4 RX7 12 (o_ib 13 f_sub) := so_isub (by decide +kernel)
theorem t_85_13 : am_okc gm_mi gm_mt lw_Ts lw_Ns cX7_put RX7 13 70 3 := ⟨114, cf_70.1, cf_70.2.1, cf_70.2.2.1, cf_70.2.2.2, Or.inl ⟨rfl, (by decide +kernel), wt_831, by decide +kernel, (Or.inl wt_830)⟩⟩
theorem t_85_16 : am_ok lw_Ts cX7_put 4 RX7 16 (o_if 40 19 q_eq) := so_if_eq (off := 24) (by decide +kernel) rfl
theorem t_85_19 : am_ok lw_Ts cX7_put 4 RX7 19 (o_il 20 2) := so_il (Or.inl ⟨2, rfl, rfl, rfl⟩) (by decide +kernel)
theorem t_85_20 : am_ok lw_Ts cX7_put 4 RX7 20 (o_k 21 (vI (-1))) := so_k (by decide +kernel)
theorem t_85_21 : am_ok lw_Ts cX7_put 4 RX7 21 (o_ic 42 24 r_eq) := so_ic_eq (off := 21) (by decide +kernel) rfl
theorem t_85_24 : am_ok lw_Ts cX7_put 4 RX7 24 (o_al 25 0) := so_al (Or.inl ⟨0, rfl, rfl, rfl⟩) (by decide +kernel)
theorem t_85_25 : am_ok lw_Ts cX7_put 4 RX7 25 (o_il 26 2) := so_il (Or.inl ⟨2, rfl, rfl, rfl⟩) (by decide +kernel)
theorem t_85_26 : am_okc gm_mi gm_mt lw_Ts lw_Ns cX7_put RX7 26 73 2 := ⟨121, cf_73.1, cf_73.2.1, cf_73.2.2.1, cf_73.2.2.2, Or.inr ⟨7, 1, TX7, 37, rfl, rfl, rfl, (by decide +kernel), wt_843, wt_26, wt_841, by decide +kernel⟩⟩
theorem t_85_29 : am_ok lw_Ts cX7_put 4 RX7 29 (o_if 40 32 q_eq) := so_if_eq (off := 11) (by decide +kernel) rfl
theorem t_85_32 : am_ok lw_Ts cX7_put 4 RX7 32 (o_al 33 0) := so_al (Or.inl ⟨0, rfl, rfl, rfl⟩) (by decide +kernel)
theorem t_85_33 : am_ok lw_Ts cX7_put 4 RX7 33 (o_il 34 3) := so_il (Or.inl ⟨3, rfl, rfl, rfl⟩) (by decide +kernel)
theorem t_85_34 : am_okc gm_mi gm_mt lw_Ts lw_Ns cX7_put RX7 34 72 2 := ⟨125, cf_72.1, cf_72.2.1, cf_72.2.2.1, cf_72.2.2.2, Or.inr ⟨7, 1, TX7, 37, rfl, rfl, rfl, (by decide +kernel), wt_847, wt_27, wt_845, by decide +kernel⟩⟩
theorem t_85_37 : am_ok lw_Ts cX7_put 4 RX7 37 (o_if 42 40 q_ne) := so_if_ne (off := 5) (by decide +kernel) rfl
theorem t_85_40 : am_ok lw_Ts cX7_put 4 RX7 40 (o_k 41 (vI (0))) := so_k (by decide +kernel)
theorem t_85_41 : am_okr cX7_put 41 2 := (show decode cX7_put 41 = .ok (.ireturn, 1) by decide +kernel)
theorem t_85_42 : am_ok lw_Ts cX7_put 4 RX7 42 (o_al 43 0) := so_al (Or.inl ⟨0, rfl, rfl, rfl⟩) (by decide +kernel)
theorem t_85_43 : am_ok lw_Ts cX7_put 4 RX7 43 (o_gf 46 7 12) := so_gf cl_X7 (by decide) wt_721 (by decide +kernel)
theorem t_85_46 : am_ok lw_Ts cX7_put 4 RX7 46 (o_il 47 1) := so_il (Or.inl ⟨1, rfl, rfl, rfl⟩) (by decide +kernel)
theorem t_85_47 : am_ok lw_Ts cX7_put 4 RX7 47 (o_il 48 2) := so_il (Or.inl ⟨2, rfl, rfl, rfl⟩) (by decide +kernel)
theorem t_85_48 : am_ok lw_Ts cX7_put 4 RX7 48 (o_iw 49) := so_iw (by decide +kernel)
theorem t_85_49 : am_ok lw_Ts cX7_put 4 RX7 49 (o_al 50 0) := so_al (Or.inl ⟨0, rfl, rfl, rfl⟩) (by decide +kernel)
theorem t_85_50 : am_ok lw_Ts cX7_put 4 RX7 50 (o_gf 53 7 13) := so_gf cl_X7 (by decide) wt_722 (by decide +kernel)
theorem t_85_53 : am_ok lw_Ts cX7_put 4 RX7 53 (o_il 54 1) := so_il (Or.inl ⟨1, rfl, rfl, rfl⟩) (by decide +kernel)
theorem t_85_54 : am_ok lw_Ts cX7_put 4 RX7 54 (o_il 55 2) := so_il (Or.inl ⟨2, rfl, rfl, rfl⟩) (by decide +kernel)
theorem t_85_55 : am_ok lw_Ts cX7_put 4 RX7 55 (o_k 56 (vI (-1))) := so_k (by decide +kernel)
theorem t_85_56 : am_ok lw_Ts cX7_put 4 RX7 56 (o_ic 63 59 r_ne) := so_ic_ne (off := 7) (by decide +kernel) rfl
theorem t_85_59 : am_ok lw_Ts cX7_put 4 RX7 59 (o_k 60 (vI (-1))) := so_k (by decide +kernel)
theorem t_85_60 : am_ok lw_Ts cX7_put 4 RX7 60 (o_go 64) := so_go (off := 4) (by decide +kernel) rfl
theorem t_85_63 : am_ok lw_Ts cX7_put 4 RX7 63 (o_il 64 3) := so_il (Or.inl ⟨3, rfl, rfl, rfl⟩) (by decide +kernel)
theorem t_85_64 : am_ok lw_Ts cX7_put 4 RX7 64 (o_iw 65) := so_iw (by decide +kernel)
theorem t_85_65 : am_ok lw_Ts cX7_put 4 RX7 65 (o_k 66 (vI (1))) := so_k (by decide +kernel)
theorem t_85_66 : am_okr cX7_put 66 2 := (show decode cX7_put 66 = .ok (.ireturn, 1) by decide +kernel)
set_option maxRecDepth 20000 in
theorem ok_85 : am_okL gm_mi gm_mt lw_Ts lw_Ns 85 cd_85 := ⟨t_85_0, t_85_1, t_85_2, t_85_5, t_85_6, t_85_7, t_85_8, t_85_11, t_85_12, t_85_13, t_85_16, t_85_19, t_85_20, t_85_21, t_85_24, t_85_25, t_85_26, t_85_29, t_85_32, t_85_33, t_85_34, t_85_37, t_85_40, t_85_41, t_85_42, t_85_43, t_85_46, t_85_47, t_85_48, t_85_49, t_85_50, t_85_53, t_85_54, t_85_55, t_85_56, t_85_59, t_85_60, t_85_63, t_85_64, t_85_65, t_85_66, trivial⟩
theorem t_86_0 : am_ok lw_Ts cX7_at 3 RX7 0 (o_al 1 0) := so_al (Or.inl ⟨0, rfl, rfl, rfl⟩) (by decide +kernel)
theorem t_86_1 : am_ok lw_Ts cX7_at 3 RX7 1 (o_k 2 (vI (0))) := so_k (by decide +kernel)
theorem t_86_2 : am_ok lw_Ts cX7_at 3 RX7 2 (o_pf 5 7 25) := so_pf cl_X7 tyX7_ok nmX7 (by decide) rfl rfl wt_734 (by decide +kernel)
theorem t_86_5 : am_ok lw_Ts cX7_at 3 RX7 5 (o_il 6 1) := so_il (Or.inl ⟨1, rfl, rfl, rfl⟩) (by decide +kernel)
theorem t_86_6 : am_ok lw_Ts cX7_at 3 RX7 6 (o_k 7 (vI (0))) := so_k (by decide +kernel)
theorem t_86_7 : am_ok lw_Ts cX7_at 3 RX7 7 (o_al 8 0) := so_al (Or.inl ⟨0, rfl, rfl, rfl⟩) (by decide +kernel)
theorem t_86_8 : am_okc gm_mi gm_mt lw_Ts lw_Ns cX7_at RX7 8 83 1 := ⟨138, cf_83.1, cf_83.2.1, cf_83.2.2.1, cf_83.2.2.2, Or.inr ⟨7, 0, TX7, 37, rfl, rfl, rfl, (by decide +kernel), wt_880, wt_29, wt_878, by decide +kernel⟩⟩
theorem t_86_11 : am_ok lw_Ts cX7_at 3 RX7 11 (o_k 12 (vI (1))) := so_k (by decide +kernel)
theorem t_86_12 : am_ok lw_Ts cX7_at 3 RX7 12 (o_ib 13 f_sub) := so_isub (by decide +kernel)
theorem t_86_13 : am_okc gm_mi gm_mt lw_Ts lw_Ns cX7_at RX7 13 70 3 := ⟨114, cf_70.1, cf_70.2.1, cf_70.2.2.1, cf_70.2.2.2, Or.inl ⟨rfl, (by decide +kernel), wt_831, by decide +kernel, (Or.inl wt_830)⟩⟩
theorem t_86_16 : am_ok lw_Ts cX7_at 3 RX7 16 (o_if 28 19 q_eq) := so_if_eq (off := 12) (by decide +kernel) rfl
theorem t_86_19 : am_ok lw_Ts cX7_at 3 RX7 19 (o_il 20 2) := so_il (Or.inl ⟨2, rfl, rfl, rfl⟩) (by decide +kernel)
theorem t_86_20 : am_ok lw_Ts cX7_at 3 RX7 20 (o_k 21 (vI (0))) := so_k (by decide +kernel)
theorem t_86_21 : am_ok lw_Ts cX7_at 3 RX7 21 (o_k 22 (vI (1))) := so_k (by decide +kernel)
theorem t_86_22 : am_okc gm_mi gm_mt lw_Ts lw_Ns cX7_at RX7 22 70 3 := ⟨114, cf_70.1, cf_70.2.1, cf_70.2.2.1, cf_70.2.2.2, Or.inl ⟨rfl, (by decide +kernel), wt_831, by decide +kernel, (Or.inl wt_830)⟩⟩
theorem t_86_25 : am_ok lw_Ts cX7_at 3 RX7 25 (o_if 35 28 q_ne) := so_if_ne (off := 10) (by decide +kernel) rfl
theorem t_86_28 : am_ok lw_Ts cX7_at 3 RX7 28 (o_al 29 0) := so_al (Or.inl ⟨0, rfl, rfl, rfl⟩) (by decide +kernel)
theorem t_86_29 : am_ok lw_Ts cX7_at 3 RX7 29 (o_k 30 (vI (1))) := so_k (by decide +kernel)
theorem t_86_30 : am_ok lw_Ts cX7_at 3 RX7 30 (o_pf 33 7 25) := so_pf cl_X7 tyX7_ok nmX7 (by decide) rfl rfl wt_734 (by decide +kernel)
theorem t_86_33 : am_ok lw_Ts cX7_at 3 RX7 33 (o_k 34 (vI (0))) := so_k (by decide +kernel)
theorem t_86_34 : am_okr cX7_at 34 1 := (show decode cX7_at 34 = .ok (.ireturn, 1) by decide +kernel)
theorem t_86_35 : am_ok lw_Ts cX7_at 3 RX7 35 (o_il 36 2) := so_il (Or.inl ⟨2, rfl, rfl, rfl⟩) (by decide +kernel)
theorem t_86_36 : am_ok lw_Ts cX7_at 3 RX7 36 (o_if 48 39 q_ne) := so_if_ne (off := 12) (by decide +kernel) rfl
theorem t_86_39 : am_ok lw_Ts cX7_at 3 RX7 39 (o_al 40 0) := so_al (Or.inl ⟨0, rfl, rfl, rfl⟩) (by decide +kernel)
theorem t_86_40 : am_ok lw_Ts cX7_at 3 RX7 40 (o_gf 43 7 12) := so_gf cl_X7 (by decide) wt_721 (by decide +kernel)
theorem t_86_43 : am_ok lw_Ts cX7_at 3 RX7 43 (o_il 44 1) := so_il (Or.inl ⟨1, rfl, rfl, rfl⟩) (by decide +kernel)
theorem t_86_44 : am_ok lw_Ts cX7_at 3 RX7 44 (o_ia 45) := so_ia (by decide +kernel)
theorem t_86_45 : am_ok lw_Ts cX7_at 3 RX7 45 (o_go 54) := so_go (off := 9) (by decide +kernel) rfl
theorem t_86_48 : am_ok lw_Ts cX7_at 3 RX7 48 (o_al 49 0) := so_al (Or.inl ⟨0, rfl, rfl, rfl⟩) (by decide +kernel)
theorem t_86_49 : am_ok lw_Ts cX7_at 3 RX7 49 (o_gf 52 7 13) := so_gf cl_X7 (by decide) wt_722 (by decide +kernel)
theorem t_86_52 : am_ok lw_Ts cX7_at 3 RX7 52 (o_il 53 1) := so_il (Or.inl ⟨1, rfl, rfl, rfl⟩) (by decide +kernel)
theorem t_86_53 : am_ok lw_Ts cX7_at 3 RX7 53 (o_ia 54) := so_ia (by decide +kernel)
theorem t_86_54 : am_okr cX7_at 54 1 := (show decode cX7_at 54 = .ok (.ireturn, 1) by decide +kernel)
set_option maxRecDepth 20000 in
theorem ok_86 : am_okL gm_mi gm_mt lw_Ts lw_Ns 86 cd_86 := ⟨t_86_0, t_86_1, t_86_2, t_86_5, t_86_6, t_86_7, t_86_8, t_86_11, t_86_12, t_86_13, t_86_16, t_86_19, t_86_20, t_86_21, t_86_22, t_86_25, t_86_28, t_86_29, t_86_30, t_86_33, t_86_34, t_86_35, t_86_36, t_86_39, t_86_40, t_86_43, t_86_44, t_86_45, t_86_48, t_86_49, t_86_52, t_86_53, t_86_54, trivial⟩
theorem t_87_0 : am_ok lw_Ts cX7_holds 7 RX7 0 (o_al 1 0) := so_al (Or.inl ⟨0, rfl, rfl, rfl⟩) (by decide +kernel)
theorem t_87_1 : am_ok lw_Ts cX7_holds 7 RX7 1 (o_gf 4 7 12) := so_gf cl_X7 (by decide) wt_721 (by decide +kernel)
theorem t_87_4 : am_ok lw_Ts cX7_holds 7 RX7 4 (o_il 5 2) := so_il (Or.inl ⟨2, rfl, rfl, rfl⟩) (by decide +kernel)
theorem t_87_5 : am_ok lw_Ts cX7_holds 7 RX7 5 (o_ia 6) := so_ia (by decide +kernel)
theorem t_87_6 : am_ok lw_Ts cX7_holds 7 RX7 6 (o_is 7 3) := so_is (Or.inl ⟨3, rfl, rfl, rfl⟩) (by decide +kernel)
theorem t_87_7 : am_ok lw_Ts cX7_holds 7 RX7 7 (o_al 8 0) := so_al (Or.inl ⟨0, rfl, rfl, rfl⟩) (by decide +kernel)
theorem t_87_8 : am_ok lw_Ts cX7_holds 7 RX7 8 (o_gf 11 7 13) := so_gf cl_X7 (by decide) wt_722 (by decide +kernel)
theorem t_87_11 : am_ok lw_Ts cX7_holds 7 RX7 11 (o_il 12 2) := so_il (Or.inl ⟨2, rfl, rfl, rfl⟩) (by decide +kernel)
theorem t_87_12 : am_ok lw_Ts cX7_holds 7 RX7 12 (o_ia 13) := so_ia (by decide +kernel)
theorem t_87_13 : am_ok lw_Ts cX7_holds 7 RX7 13 (o_is 15 4) := so_is (Or.inr ⟨rfl, rfl⟩) (by decide +kernel)
theorem t_87_15 : am_ok lw_Ts cX7_holds 7 RX7 15 (o_il 16 2) := so_il (Or.inl ⟨2, rfl, rfl, rfl⟩) (by decide +kernel)
theorem t_87_16 : am_ok lw_Ts cX7_holds 7 RX7 16 (o_al 17 0) := so_al (Or.inl ⟨0, rfl, rfl, rfl⟩) (by decide +kernel)
theorem t_87_17 : am_ok lw_Ts cX7_holds 7 RX7 17 (o_gf 20 7 11) := so_gf cl_X7 (by decide) wt_720 (by decide +kernel)
theorem t_87_20 : am_ok lw_Ts cX7_holds 7 RX7 20 (o_id 21 f_div) := so_idiv (by decide +kernel)
theorem t_87_21 : am_ok lw_Ts cX7_holds 7 RX7 21 (o_al 22 0) := so_al (Or.inl ⟨0, rfl, rfl, rfl⟩) (by decide +kernel)
theorem t_87_22 : am_ok lw_Ts cX7_holds 7 RX7 22 (o_gf 25 7 11) := so_gf cl_X7 (by decide) wt_720 (by decide +kernel)
theorem t_87_25 : am_ok lw_Ts cX7_holds 7 RX7 25 (o_ib 26 f_mul) := so_imul (by decide +kernel)
theorem t_87_26 : am_ok lw_Ts cX7_holds 7 RX7 26 (o_is 28 5) := so_is (Or.inr ⟨rfl, rfl⟩) (by decide +kernel)
theorem t_87_28 : am_ok lw_Ts cX7_holds 7 RX7 28 (o_il 29 1) := so_il (Or.inl ⟨1, rfl, rfl, rfl⟩) (by decide +kernel)
theorem t_87_29 : am_ok lw_Ts cX7_holds 7 RX7 29 (o_sw (f_sw 29 272 0 6 #[43, 50, 80, 101, 126, 169, 221])) := so_sw (len := 43) (by decide +kernel) (by decide) (by decide) (by decide)
theorem t_87_72 : am_ok lw_Ts cX7_holds 7 RX7 72 (o_al 73 0) := so_al (Or.inl ⟨0, rfl, rfl, rfl⟩) (by decide +kernel)
theorem t_87_73 : am_ok lw_Ts cX7_holds 7 RX7 73 (o_gf 76 7 4) := so_gf cl_X7 (by decide) wt_713 (by decide +kernel)
theorem t_87_76 : am_ok lw_Ts cX7_holds 7 RX7 76 (o_il 77 3) := so_il (Or.inl ⟨3, rfl, rfl, rfl⟩) (by decide +kernel)
theorem t_87_77 : am_ok lw_Ts cX7_holds 7 RX7 77 (o_ba 78) := so_ba (by decide +kernel)
theorem t_87_78 : am_okr cX7_holds 78 2 := (show decode cX7_holds 78 = .ok (.ireturn, 1) by decide +kernel)
theorem t_87_79 : am_ok lw_Ts cX7_holds 7 RX7 79 (o_k 80 (vI (0))) := so_k (by decide +kernel)
theorem t_87_80 : am_ok lw_Ts cX7_holds 7 RX7 80 (o_is 82 6) := so_is (Or.inr ⟨rfl, rfl⟩) (by decide +kernel)
theorem t_87_82 : am_ok lw_Ts cX7_holds 7 RX7 82 (o_il 84 6) := so_il (Or.inr ⟨rfl, rfl⟩) (by decide +kernel)
theorem t_87_84 : am_ok lw_Ts cX7_holds 7 RX7 84 (o_il 85 2) := so_il (Or.inl ⟨2, rfl, rfl, rfl⟩) (by decide +kernel)
theorem t_87_85 : am_ok lw_Ts cX7_holds 7 RX7 85 (o_ic 107 88 r_ge) := so_ic_ge (off := 22) (by decide +kernel) rfl
theorem t_87_88 : am_ok lw_Ts cX7_holds 7 RX7 88 (o_al 89 0) := so_al (Or.inl ⟨0, rfl, rfl, rfl⟩) (by decide +kernel)
theorem t_87_89 : am_ok lw_Ts cX7_holds 7 RX7 89 (o_gf 92 7 12) := so_gf cl_X7 (by decide) wt_721 (by decide +kernel)
theorem t_87_92 : am_ok lw_Ts cX7_holds 7 RX7 92 (o_il 94 6) := so_il (Or.inr ⟨rfl, rfl⟩) (by decide +kernel)
theorem t_87_94 : am_ok lw_Ts cX7_holds 7 RX7 94 (o_ia 95) := so_ia (by decide +kernel)
theorem t_87_95 : am_ok lw_Ts cX7_holds 7 RX7 95 (o_il 96 3) := so_il (Or.inl ⟨3, rfl, rfl, rfl⟩) (by decide +kernel)
theorem t_87_96 : am_ok lw_Ts cX7_holds 7 RX7 96 (o_ic 101 99 r_ne) := so_ic_ne (off := 5) (by decide +kernel) rfl
theorem t_87_99 : am_ok lw_Ts cX7_holds 7 RX7 99 (o_k 100 (vI (1))) := so_k (by decide +kernel)
theorem t_87_100 : am_okr cX7_holds 100 2 := (show decode cX7_holds 100 = .ok (.ireturn, 1) by decide +kernel)
theorem t_87_101 : am_ok lw_Ts cX7_holds 7 RX7 101 (o_ii 104 6 (1)) := so_ii (by decide +kernel)
theorem t_87_104 : am_ok lw_Ts cX7_holds 7 RX7 104 (o_go 82) := so_go (off := (-22)) (by decide +kernel) rfl
theorem t_87_107 : am_ok lw_Ts cX7_holds 7 RX7 107 (o_k 108 (vI (0))) := so_k (by decide +kernel)
theorem t_87_108 : am_okr cX7_holds 108 2 := (show decode cX7_holds 108 = .ok (.ireturn, 1) by decide +kernel)
theorem t_87_109 : am_ok lw_Ts cX7_holds 7 RX7 109 (o_al 110 0) := so_al (Or.inl ⟨0, rfl, rfl, rfl⟩) (by decide +kernel)
theorem t_87_110 : am_ok lw_Ts cX7_holds 7 RX7 110 (o_gf 113 7 5) := so_gf cl_X7 (by decide) wt_714 (by decide +kernel)
theorem t_87_113 : am_ok lw_Ts cX7_holds 7 RX7 113 (o_k 115 (vI (6))) := so_bp rfl (by decide +kernel)
theorem t_87_115 : am_ok lw_Ts cX7_holds 7 RX7 115 (o_il 116 3) := so_il (Or.inl ⟨3, rfl, rfl, rfl⟩) (by decide +kernel)
theorem t_87_116 : am_ok lw_Ts cX7_holds 7 RX7 116 (o_ib 117 f_mul) := so_imul (by decide +kernel)
theorem t_87_117 : am_ok lw_Ts cX7_holds 7 RX7 117 (o_il 119 4) := so_il (Or.inr ⟨rfl, rfl⟩) (by decide +kernel)
theorem t_87_119 : am_ok lw_Ts cX7_holds 7 RX7 119 (o_ib 120 f_add) := so_iadd (by decide +kernel)
theorem t_87_120 : am_ok lw_Ts cX7_holds 7 RX7 120 (o_ia 121) := so_ia (by decide +kernel)
theorem t_87_121 : am_ok lw_Ts cX7_holds 7 RX7 121 (o_if 128 124 q_ne) := so_if_ne (off := 7) (by decide +kernel) rfl
theorem t_87_124 : am_ok lw_Ts cX7_holds 7 RX7 124 (o_k 125 (vI (1))) := so_k (by decide +kernel)
theorem t_87_125 : am_ok lw_Ts cX7_holds 7 RX7 125 (o_go 129) := so_go (off := 4) (by decide +kernel) rfl
theorem t_87_128 : am_ok lw_Ts cX7_holds 7 RX7 128 (o_k 129 (vI (0))) := so_k (by decide +kernel)
theorem t_87_129 : am_okr cX7_holds 129 2 := (show decode cX7_holds 129 = .ok (.ireturn, 1) by decide +kernel)
theorem t_87_130 : am_ok lw_Ts cX7_holds 7 RX7 130 (o_al 131 0) := so_al (Or.inl ⟨0, rfl, rfl, rfl⟩) (by decide +kernel)
theorem t_87_131 : am_ok lw_Ts cX7_holds 7 RX7 131 (o_gf 134 7 1) := so_gf cl_X7 (by decide) wt_710 (by decide +kernel)
theorem t_87_134 : am_ok lw_Ts cX7_holds 7 RX7 134 (o_il 136 4) := so_il (Or.inr ⟨rfl, rfl⟩) (by decide +kernel)
theorem t_87_136 : am_ok lw_Ts cX7_holds 7 RX7 136 (o_ia 137) := so_ia (by decide +kernel)
theorem t_87_137 : am_ok lw_Ts cX7_holds 7 RX7 137 (o_il 138 2) := so_il (Or.inl ⟨2, rfl, rfl, rfl⟩) (by decide +kernel)
theorem t_87_138 : am_ok lw_Ts cX7_holds 7 RX7 138 (o_al 139 0) := so_al (Or.inl ⟨0, rfl, rfl, rfl⟩) (by decide +kernel)
theorem t_87_139 : am_ok lw_Ts cX7_holds 7 RX7 139 (o_gf 142 7 11) := so_gf cl_X7 (by decide) wt_720 (by decide +kernel)
theorem t_87_142 : am_ok lw_Ts cX7_holds 7 RX7 142 (o_id 143 f_rem) := so_irem (by decide +kernel)
theorem t_87_143 : am_ok lw_Ts cX7_holds 7 RX7 143 (o_ib 144 f_shr) := so_ishr (by decide +kernel)
theorem t_87_144 : am_ok lw_Ts cX7_holds 7 RX7 144 (o_k 145 (vI (1))) := so_k (by decide +kernel)
theorem t_87_145 : am_ok lw_Ts cX7_holds 7 RX7 145 (o_ib 146 f_and) := so_iand (by decide +kernel)
theorem t_87_146 : am_ok lw_Ts cX7_holds 7 RX7 146 (o_if 153 149 q_ne) := so_if_ne (off := 7) (by decide +kernel) rfl
theorem t_87_149 : am_ok lw_Ts cX7_holds 7 RX7 149 (o_k 150 (vI (1))) := so_k (by decide +kernel)
theorem t_87_150 : am_ok lw_Ts cX7_holds 7 RX7 150 (o_go 154) := so_go (off := 4) (by decide +kernel) rfl
theorem t_87_153 : am_ok lw_Ts cX7_holds 7 RX7 153 (o_k 154 (vI (0))) := so_k (by decide +kernel)
theorem t_87_154 : am_okr cX7_holds 154 2 := (show decode cX7_holds 154 = .ok (.ireturn, 1) by decide +kernel)
theorem t_87_155 : am_ok lw_Ts cX7_holds 7 RX7 155 (o_il 157 5) := so_il (Or.inr ⟨rfl, rfl⟩) (by decide +kernel)
theorem t_87_157 : am_ok lw_Ts cX7_holds 7 RX7 157 (o_is 159 6) := so_is (Or.inr ⟨rfl, rfl⟩) (by decide +kernel)
theorem t_87_159 : am_ok lw_Ts cX7_holds 7 RX7 159 (o_il 161 6) := so_il (Or.inr ⟨rfl, rfl⟩) (by decide +kernel)
theorem t_87_161 : am_ok lw_Ts cX7_holds 7 RX7 161 (o_il 162 2) := so_il (Or.inl ⟨2, rfl, rfl, rfl⟩) (by decide +kernel)
theorem t_87_162 : am_ok lw_Ts cX7_holds 7 RX7 162 (o_ic 196 165 r_ge) := so_ic_ge (off := 34) (by decide +kernel) rfl
theorem t_87_165 : am_ok lw_Ts cX7_holds 7 RX7 165 (o_al 166 0) := so_al (Or.inl ⟨0, rfl, rfl, rfl⟩) (by decide +kernel)
theorem t_87_166 : am_ok lw_Ts cX7_holds 7 RX7 166 (o_gf 169 7 12) := so_gf cl_X7 (by decide) wt_721 (by decide +kernel)
theorem t_87_169 : am_ok lw_Ts cX7_holds 7 RX7 169 (o_il 171 6) := so_il (Or.inr ⟨rfl, rfl⟩) (by decide +kernel)
theorem t_87_171 : am_ok lw_Ts cX7_holds 7 RX7 171 (o_ia 172) := so_ia (by decide +kernel)
theorem t_87_172 : am_ok lw_Ts cX7_holds 7 RX7 172 (o_k 173 (vI (-1))) := so_k (by decide +kernel)
theorem t_87_173 : am_ok lw_Ts cX7_holds 7 RX7 173 (o_ic 190 176 r_eq) := so_ic_eq (off := 17) (by decide +kernel) rfl
theorem t_87_176 : am_ok lw_Ts cX7_holds 7 RX7 176 (o_al 177 0) := so_al (Or.inl ⟨0, rfl, rfl, rfl⟩) (by decide +kernel)
theorem t_87_177 : am_ok lw_Ts cX7_holds 7 RX7 177 (o_gf 180 7 13) := so_gf cl_X7 (by decide) wt_722 (by decide +kernel)
theorem t_87_180 : am_ok lw_Ts cX7_holds 7 RX7 180 (o_il 182 6) := so_il (Or.inr ⟨rfl, rfl⟩) (by decide +kernel)
theorem t_87_182 : am_ok lw_Ts cX7_holds 7 RX7 182 (o_ia 183) := so_ia (by decide +kernel)
theorem t_87_183 : am_ok lw_Ts cX7_holds 7 RX7 183 (o_il 185 4) := so_il (Or.inr ⟨rfl, rfl⟩) (by decide +kernel)
theorem t_87_185 : am_ok lw_Ts cX7_holds 7 RX7 185 (o_ic 190 188 r_ne) := so_ic_ne (off := 5) (by decide +kernel) rfl
theorem t_87_188 : am_ok lw_Ts cX7_holds 7 RX7 188 (o_k 189 (vI (1))) := so_k (by decide +kernel)
theorem t_87_189 : am_okr cX7_holds 189 2 := (show decode cX7_holds 189 = .ok (.ireturn, 1) by decide +kernel)
theorem t_87_190 : am_ok lw_Ts cX7_holds 7 RX7 190 (o_ii 193 6 (1)) := so_ii (by decide +kernel)
theorem t_87_193 : am_ok lw_Ts cX7_holds 7 RX7 193 (o_go 159) := so_go (off := (-34)) (by decide +kernel) rfl
theorem t_87_196 : am_ok lw_Ts cX7_holds 7 RX7 196 (o_k 197 (vI (0))) := so_k (by decide +kernel)
theorem t_87_197 : am_okr cX7_holds 197 2 := (show decode cX7_holds 197 = .ok (.ireturn, 1) by decide +kernel)
theorem t_87_198 : am_ok lw_Ts cX7_holds 7 RX7 198 (o_il 200 5) := so_il (Or.inr ⟨rfl, rfl⟩) (by decide +kernel)
theorem t_87_200 : am_ok lw_Ts cX7_holds 7 RX7 200 (o_is 202 6) := so_is (Or.inr ⟨rfl, rfl⟩) (by decide +kernel)
theorem t_87_202 : am_ok lw_Ts cX7_holds 7 RX7 202 (o_il 204 6) := so_il (Or.inr ⟨rfl, rfl⟩) (by decide +kernel)
theorem t_87_204 : am_ok lw_Ts cX7_holds 7 RX7 204 (o_il 205 2) := so_il (Or.inl ⟨2, rfl, rfl, rfl⟩) (by decide +kernel)
theorem t_87_205 : am_ok lw_Ts cX7_holds 7 RX7 205 (o_ic 248 208 r_ge) := so_ic_ge (off := 43) (by decide +kernel) rfl
theorem t_87_208 : am_ok lw_Ts cX7_holds 7 RX7 208 (o_al 209 0) := so_al (Or.inl ⟨0, rfl, rfl, rfl⟩) (by decide +kernel)
theorem t_87_209 : am_ok lw_Ts cX7_holds 7 RX7 209 (o_gf 212 7 12) := so_gf cl_X7 (by decide) wt_721 (by decide +kernel)
theorem t_87_212 : am_ok lw_Ts cX7_holds 7 RX7 212 (o_il 214 6) := so_il (Or.inr ⟨rfl, rfl⟩) (by decide +kernel)
theorem t_87_214 : am_ok lw_Ts cX7_holds 7 RX7 214 (o_ia 215) := so_ia (by decide +kernel)
theorem t_87_215 : am_ok lw_Ts cX7_holds 7 RX7 215 (o_k 216 (vI (-1))) := so_k (by decide +kernel)
theorem t_87_216 : am_ok lw_Ts cX7_holds 7 RX7 216 (o_ic 242 219 r_eq) := so_ic_eq (off := 26) (by decide +kernel) rfl
theorem t_87_219 : am_ok lw_Ts cX7_holds 7 RX7 219 (o_al 220 0) := so_al (Or.inl ⟨0, rfl, rfl, rfl⟩) (by decide +kernel)
theorem t_87_220 : am_ok lw_Ts cX7_holds 7 RX7 220 (o_gf 223 7 3) := so_gf cl_X7 (by decide) wt_712 (by decide +kernel)
theorem t_87_223 : am_ok lw_Ts cX7_holds 7 RX7 223 (o_al 224 0) := so_al (Or.inl ⟨0, rfl, rfl, rfl⟩) (by decide +kernel)
theorem t_87_224 : am_ok lw_Ts cX7_holds 7 RX7 224 (o_gf 227 7 12) := so_gf cl_X7 (by decide) wt_721 (by decide +kernel)
theorem t_87_227 : am_ok lw_Ts cX7_holds 7 RX7 227 (o_il 229 6) := so_il (Or.inr ⟨rfl, rfl⟩) (by decide +kernel)
theorem t_87_229 : am_ok lw_Ts cX7_holds 7 RX7 229 (o_ia 230) := so_ia (by decide +kernel)
theorem t_87_230 : am_ok lw_Ts cX7_holds 7 RX7 230 (o_ia 231) := so_ia (by decide +kernel)
theorem t_87_231 : am_ok lw_Ts cX7_holds 7 RX7 231 (o_al 232 0) := so_al (Or.inl ⟨0, rfl, rfl, rfl⟩) (by decide +kernel)
theorem t_87_232 : am_ok lw_Ts cX7_holds 7 RX7 232 (o_gf 235 7 3) := so_gf cl_X7 (by decide) wt_712 (by decide +kernel)
theorem t_87_235 : am_ok lw_Ts cX7_holds 7 RX7 235 (o_il 236 3) := so_il (Or.inl ⟨3, rfl, rfl, rfl⟩) (by decide +kernel)
theorem t_87_236 : am_ok lw_Ts cX7_holds 7 RX7 236 (o_ia 237) := so_ia (by decide +kernel)
theorem t_87_237 : am_ok lw_Ts cX7_holds 7 RX7 237 (o_ic 242 240 r_le) := so_ic_le (off := 5) (by decide +kernel) rfl
theorem t_87_240 : am_ok lw_Ts cX7_holds 7 RX7 240 (o_k 241 (vI (1))) := so_k (by decide +kernel)
theorem t_87_241 : am_okr cX7_holds 241 2 := (show decode cX7_holds 241 = .ok (.ireturn, 1) by decide +kernel)
theorem t_87_242 : am_ok lw_Ts cX7_holds 7 RX7 242 (o_ii 245 6 (1)) := so_ii (by decide +kernel)
theorem t_87_245 : am_ok lw_Ts cX7_holds 7 RX7 245 (o_go 202) := so_go (off := (-43)) (by decide +kernel) rfl
theorem t_87_248 : am_ok lw_Ts cX7_holds 7 RX7 248 (o_k 249 (vI (0))) := so_k (by decide +kernel)
theorem t_87_249 : am_okr cX7_holds 249 2 := (show decode cX7_holds 249 = .ok (.ireturn, 1) by decide +kernel)
theorem t_87_250 : am_ok lw_Ts cX7_holds 7 RX7 250 (o_il 252 5) := so_il (Or.inr ⟨rfl, rfl⟩) (by decide +kernel)
theorem t_87_252 : am_ok lw_Ts cX7_holds 7 RX7 252 (o_is 254 6) := so_is (Or.inr ⟨rfl, rfl⟩) (by decide +kernel)
theorem t_87_254 : am_ok lw_Ts cX7_holds 7 RX7 254 (o_il 256 6) := so_il (Or.inr ⟨rfl, rfl⟩) (by decide +kernel)
theorem t_87_256 : am_ok lw_Ts cX7_holds 7 RX7 256 (o_il 257 2) := so_il (Or.inl ⟨2, rfl, rfl, rfl⟩) (by decide +kernel)
theorem t_87_257 : am_ok lw_Ts cX7_holds 7 RX7 257 (o_ic 299 260 r_ge) := so_ic_ge (off := 42) (by decide +kernel) rfl
theorem t_87_260 : am_ok lw_Ts cX7_holds 7 RX7 260 (o_al 261 0) := so_al (Or.inl ⟨0, rfl, rfl, rfl⟩) (by decide +kernel)
theorem t_87_261 : am_ok lw_Ts cX7_holds 7 RX7 261 (o_gf 264 7 12) := so_gf cl_X7 (by decide) wt_721 (by decide +kernel)
theorem t_87_264 : am_ok lw_Ts cX7_holds 7 RX7 264 (o_il 266 6) := so_il (Or.inr ⟨rfl, rfl⟩) (by decide +kernel)
theorem t_87_266 : am_ok lw_Ts cX7_holds 7 RX7 266 (o_ia 267) := so_ia (by decide +kernel)
theorem t_87_267 : am_ok lw_Ts cX7_holds 7 RX7 267 (o_k 268 (vI (-1))) := so_k (by decide +kernel)
theorem t_87_268 : am_ok lw_Ts cX7_holds 7 RX7 268 (o_ic 293 271 r_eq) := so_ic_eq (off := 25) (by decide +kernel) rfl
theorem t_87_271 : am_ok lw_Ts cX7_holds 7 RX7 271 (o_al 272 0) := so_al (Or.inl ⟨0, rfl, rfl, rfl⟩) (by decide +kernel)
theorem t_87_272 : am_ok lw_Ts cX7_holds 7 RX7 272 (o_gf 275 7 6) := so_gf cl_X7 (by decide) wt_715 (by decide +kernel)
theorem t_87_275 : am_ok lw_Ts cX7_holds 7 RX7 275 (o_k 277 (vI (6))) := so_bp rfl (by decide +kernel)
theorem t_87_277 : am_ok lw_Ts cX7_holds 7 RX7 277 (o_al 278 0) := so_al (Or.inl ⟨0, rfl, rfl, rfl⟩) (by decide +kernel)
theorem t_87_278 : am_ok lw_Ts cX7_holds 7 RX7 278 (o_gf 281 7 12) := so_gf cl_X7 (by decide) wt_721 (by decide +kernel)
theorem t_87_281 : am_ok lw_Ts cX7_holds 7 RX7 281 (o_il 283 6) := so_il (Or.inr ⟨rfl, rfl⟩) (by decide +kernel)
theorem t_87_283 : am_ok lw_Ts cX7_holds 7 RX7 283 (o_ia 284) := so_ia (by decide +kernel)
theorem t_87_284 : am_ok lw_Ts cX7_holds 7 RX7 284 (o_ib 285 f_mul) := so_imul (by decide +kernel)
theorem t_87_285 : am_ok lw_Ts cX7_holds 7 RX7 285 (o_il 286 3) := so_il (Or.inl ⟨3, rfl, rfl, rfl⟩) (by decide +kernel)
theorem t_87_286 : am_ok lw_Ts cX7_holds 7 RX7 286 (o_ib 287 f_add) := so_iadd (by decide +kernel)
theorem t_87_287 : am_ok lw_Ts cX7_holds 7 RX7 287 (o_ba 288) := so_ba (by decide +kernel)
theorem t_87_288 : am_ok lw_Ts cX7_holds 7 RX7 288 (o_if 293 291 q_eq) := so_if_eq (off := 5) (by decide +kernel) rfl
theorem t_87_291 : am_ok lw_Ts cX7_holds 7 RX7 291 (o_k 292 (vI (1))) := so_k (by decide +kernel)
theorem t_87_292 : am_okr cX7_holds 292 2 := (show decode cX7_holds 292 = .ok (.ireturn, 1) by decide +kernel)
theorem t_87_293 : am_ok lw_Ts cX7_holds 7 RX7 293 (o_ii 296 6 (1)) := so_ii (by decide +kernel)
theorem t_87_296 : am_ok lw_Ts cX7_holds 7 RX7 296 (o_go 254) := so_go (off := (-42)) (by decide +kernel) rfl
theorem t_87_299 : am_ok lw_Ts cX7_holds 7 RX7 299 (o_k 300 (vI (0))) := so_k (by decide +kernel)
theorem t_87_300 : am_okr cX7_holds 300 2 := (show decode cX7_holds 300 = .ok (.ireturn, 1) by decide +kernel)
theorem t_87_301 : am_ok lw_Ts cX7_holds 7 RX7 301 (o_il 302 2) := so_il (Or.inl ⟨2, rfl, rfl, rfl⟩) (by decide +kernel)
theorem t_87_302 : am_ok lw_Ts cX7_holds 7 RX7 302 (o_k 303 (vI (1))) := so_k (by decide +kernel)
theorem t_87_303 : am_ok lw_Ts cX7_holds 7 RX7 303 (o_ib 304 f_sub) := so_isub (by decide +kernel)
theorem t_87_304 : am_ok lw_Ts cX7_holds 7 RX7 304 (o_is 306 6) := so_is (Or.inr ⟨rfl, rfl⟩) (by decide +kernel)
theorem t_87_306 : am_ok lw_Ts cX7_holds 7 RX7 306 (o_il 308 6) := so_il (Or.inr ⟨rfl, rfl⟩) (by decide +kernel)
theorem t_87_308 : am_ok lw_Ts cX7_holds 7 RX7 308 (o_il 310 5) := so_il (Or.inr ⟨rfl, rfl⟩) (by decide +kernel)
theorem t_87_310 : am_ok lw_Ts cX7_holds 7 RX7 310 (o_ic 356 313 r_lt) := so_ic_lt (off := 46) (by decide +kernel) rfl
theorem t_87_313 : am_ok lw_Ts cX7_holds 7 RX7 313 (o_al 314 0) := so_al (Or.inl ⟨0, rfl, rfl, rfl⟩) (by decide +kernel)
theorem t_87_314 : am_ok lw_Ts cX7_holds 7 RX7 314 (o_gf 317 7 12) := so_gf cl_X7 (by decide) wt_721 (by decide +kernel)
theorem t_87_317 : am_ok lw_Ts cX7_holds 7 RX7 317 (o_il 319 6) := so_il (Or.inr ⟨rfl, rfl⟩) (by decide +kernel)
theorem t_87_319 : am_ok lw_Ts cX7_holds 7 RX7 319 (o_ia 320) := so_ia (by decide +kernel)
theorem t_87_320 : am_ok lw_Ts cX7_holds 7 RX7 320 (o_k 321 (vI (-1))) := so_k (by decide +kernel)
theorem t_87_321 : am_ok lw_Ts cX7_holds 7 RX7 321 (o_ic 350 324 r_eq) := so_ic_eq (off := 29) (by decide +kernel) rfl
theorem t_87_324 : am_ok lw_Ts cX7_holds 7 RX7 324 (o_al 325 0) := so_al (Or.inl ⟨0, rfl, rfl, rfl⟩) (by decide +kernel)
theorem t_87_325 : am_ok lw_Ts cX7_holds 7 RX7 325 (o_al 326 0) := so_al (Or.inl ⟨0, rfl, rfl, rfl⟩) (by decide +kernel)
theorem t_87_326 : am_ok lw_Ts cX7_holds 7 RX7 326 (o_gf 329 7 13) := so_gf cl_X7 (by decide) wt_722 (by decide +kernel)
theorem t_87_329 : am_ok lw_Ts cX7_holds 7 RX7 329 (o_il 331 6) := so_il (Or.inr ⟨rfl, rfl⟩) (by decide +kernel)
theorem t_87_331 : am_ok lw_Ts cX7_holds 7 RX7 331 (o_ia 332) := so_ia (by decide +kernel)
theorem t_87_332 : am_ok lw_Ts cX7_holds 7 RX7 332 (o_il 334 4) := so_il (Or.inr ⟨rfl, rfl⟩) (by decide +kernel)
theorem t_87_334 : am_okc gm_mi gm_mt lw_Ts lw_Ns cX7_holds RX7 334 81 3 := ⟨134, cf_81.1, cf_81.2.1, cf_81.2.2.1, cf_81.2.2.2, Or.inr ⟨7, 2, TX7, 37, rfl, rfl, rfl, (by decide +kernel), wt_871, wt_28, wt_869, by decide +kernel⟩⟩
theorem t_87_337 : am_ok lw_Ts cX7_holds 7 RX7 337 (o_al 338 0) := so_al (Or.inl ⟨0, rfl, rfl, rfl⟩) (by decide +kernel)
theorem t_87_338 : am_ok lw_Ts cX7_holds 7 RX7 338 (o_gf 341 7 8) := so_gf cl_X7 (by decide) wt_717 (by decide +kernel)
theorem t_87_341 : am_ok lw_Ts cX7_holds 7 RX7 341 (o_ic 348 344 r_le) := so_ic_le (off := 7) (by decide +kernel) rfl
theorem t_87_344 : am_ok lw_Ts cX7_holds 7 RX7 344 (o_k 345 (vI (1))) := so_k (by decide +kernel)
theorem t_87_345 : am_ok lw_Ts cX7_holds 7 RX7 345 (o_go 349) := so_go (off := 4) (by decide +kernel) rfl
theorem t_87_348 : am_ok lw_Ts cX7_holds 7 RX7 348 (o_k 349 (vI (0))) := so_k (by decide +kernel)
theorem t_87_349 : am_okr cX7_holds 349 2 := (show decode cX7_holds 349 = .ok (.ireturn, 1) by decide +kernel)
theorem t_87_350 : am_ok lw_Ts cX7_holds 7 RX7 350 (o_ii 353 6 (-1)) := so_ii (by decide +kernel)
theorem t_87_353 : am_ok lw_Ts cX7_holds 7 RX7 353 (o_go 306) := so_go (off := (-47)) (by decide +kernel) rfl
theorem t_87_356 : am_ok lw_Ts cX7_holds 7 RX7 356 (o_k 357 (vI (0))) := so_k (by decide +kernel)
theorem t_87_357 : am_okr cX7_holds 357 2 := (show decode cX7_holds 357 = .ok (.ireturn, 1) by decide +kernel)
set_option maxRecDepth 20000 in
theorem ok_87 : am_okL gm_mi gm_mt lw_Ts lw_Ns 87 cd_87 := ⟨t_87_0, t_87_1, t_87_4, t_87_5, t_87_6, t_87_7, t_87_8, t_87_11, t_87_12, t_87_13, t_87_15, t_87_16, t_87_17, t_87_20, t_87_21, t_87_22, t_87_25, t_87_26, t_87_28, t_87_29, t_87_72, t_87_73, t_87_76, t_87_77, t_87_78, t_87_79, t_87_80, t_87_82, t_87_84, t_87_85, t_87_88, t_87_89, t_87_92, t_87_94, t_87_95, t_87_96, t_87_99, t_87_100, t_87_101, t_87_104, t_87_107, t_87_108, t_87_109, t_87_110, t_87_113, t_87_115, t_87_116, t_87_117, t_87_119, t_87_120, t_87_121, t_87_124, t_87_125, t_87_128, t_87_129, t_87_130, t_87_131, t_87_134, t_87_136, t_87_137, t_87_138, t_87_139, t_87_142, t_87_143, t_87_144, t_87_145, t_87_146, t_87_149, t_87_150, t_87_153, t_87_154, t_87_155, t_87_157, t_87_159, t_87_161, t_87_162, t_87_165, t_87_166, t_87_169, t_87_171, t_87_172, t_87_173, t_87_176, t_87_177, t_87_180, t_87_182, t_87_183, t_87_185, t_87_188, t_87_189, t_87_190, t_87_193, t_87_196, t_87_197, t_87_198, t_87_200, t_87_202, t_87_204, t_87_205, t_87_208, t_87_209, t_87_212, t_87_214, t_87_215, t_87_216, t_87_219, t_87_220, t_87_223, t_87_224, t_87_227, t_87_229, t_87_230, t_87_231, t_87_232, t_87_235, t_87_236, t_87_237, t_87_240, t_87_241, t_87_242, t_87_245, t_87_248, t_87_249, t_87_250, t_87_252, t_87_254, t_87_256, t_87_257, t_87_260, t_87_261, t_87_264, t_87_266, t_87_267, t_87_268, t_87_271, t_87_272, t_87_275, t_87_277, t_87_278, t_87_281, t_87_283, t_87_284, t_87_285, t_87_286, t_87_287, t_87_288, t_87_291, t_87_292, t_87_293, t_87_296, t_87_299, t_87_300, t_87_301, t_87_302, t_87_303, t_87_304, t_87_306, t_87_308, t_87_310, t_87_313, t_87_314, t_87_317, t_87_319, t_87_320, t_87_321, t_87_324, t_87_325, t_87_326, t_87_329, t_87_331, t_87_332, t_87_334, t_87_337, t_87_338, t_87_341, t_87_344, t_87_345, t_87_348, t_87_349, t_87_350, t_87_353, t_87_356, t_87_357, trivial⟩
theorem t_88_0 : am_ok lw_Ts cX7_wrong 3 RX7 0 (o_al 1 0) := so_al (Or.inl ⟨0, rfl, rfl, rfl⟩) (by decide +kernel)
theorem t_88_1 : am_ok lw_Ts cX7_wrong 3 RX7 1 (o_k 2 (vI (0))) := so_k (by decide +kernel)
theorem t_88_2 : am_ok lw_Ts cX7_wrong 3 RX7 2 (o_pf 5 7 25) := so_pf cl_X7 tyX7_ok nmX7 (by decide) rfl rfl wt_734 (by decide +kernel)
theorem t_88_5 : am_ok lw_Ts cX7_wrong 3 RX7 5 (o_k 6 (vI (0))) := so_k (by decide +kernel)
theorem t_88_6 : am_ok lw_Ts cX7_wrong 3 RX7 6 (o_is 7 1) := so_is (Or.inl ⟨1, rfl, rfl, rfl⟩) (by decide +kernel)
theorem t_88_7 : am_ok lw_Ts cX7_wrong 3 RX7 7 (o_il 8 1) := so_il (Or.inl ⟨1, rfl, rfl, rfl⟩) (by decide +kernel)
theorem t_88_8 : am_ok lw_Ts cX7_wrong 3 RX7 8 (o_k 10 (vI (8))) := so_bp rfl (by decide +kernel)
theorem t_88_10 : am_ok lw_Ts cX7_wrong 3 RX7 10 (o_ic 63 13 r_ge) := so_ic_ge (off := 53) (by decide +kernel) rfl
theorem t_88_13 : am_ok lw_Ts cX7_wrong 3 RX7 13 (o_k 14 (vI (0))) := so_k (by decide +kernel)
theorem t_88_14 : am_ok lw_Ts cX7_wrong 3 RX7 14 (o_is 15 2) := so_is (Or.inl ⟨2, rfl, rfl, rfl⟩) (by decide +kernel)
theorem t_88_15 : am_ok lw_Ts cX7_wrong 3 RX7 15 (o_il 16 2) := so_il (Or.inl ⟨2, rfl, rfl, rfl⟩) (by decide +kernel)
theorem t_88_16 : am_ok lw_Ts cX7_wrong 3 RX7 16 (o_al 17 0) := so_al (Or.inl ⟨0, rfl, rfl, rfl⟩) (by decide +kernel)
theorem t_88_17 : am_okc gm_mi gm_mt lw_Ts lw_Ns cX7_wrong RX7 17 83 1 := ⟨138, cf_83.1, cf_83.2.1, cf_83.2.2.1, cf_83.2.2.2, Or.inr ⟨7, 0, TX7, 37, rfl, rfl, rfl, (by decide +kernel), wt_880, wt_29, wt_878, by decide +kernel⟩⟩
theorem t_88_20 : am_ok lw_Ts cX7_wrong 3 RX7 20 (o_ic 57 23 r_ge) := so_ic_ge (off := 37) (by decide +kernel) rfl
theorem t_88_23 : am_ok lw_Ts cX7_wrong 3 RX7 23 (o_al 24 0) := so_al (Or.inl ⟨0, rfl, rfl, rfl⟩) (by decide +kernel)
theorem t_88_24 : am_ok lw_Ts cX7_wrong 3 RX7 24 (o_gf 27 7 12) := so_gf cl_X7 (by decide) wt_721 (by decide +kernel)
theorem t_88_27 : am_ok lw_Ts cX7_wrong 3 RX7 27 (o_il 28 2) := so_il (Or.inl ⟨2, rfl, rfl, rfl⟩) (by decide +kernel)
theorem t_88_28 : am_ok lw_Ts cX7_wrong 3 RX7 28 (o_ia 29) := so_ia (by decide +kernel)
theorem t_88_29 : am_ok lw_Ts cX7_wrong 3 RX7 29 (o_k 30 (vI (-1))) := so_k (by decide +kernel)
theorem t_88_30 : am_ok lw_Ts cX7_wrong 3 RX7 30 (o_ic 51 33 r_eq) := so_ic_eq (off := 21) (by decide +kernel) rfl
theorem t_88_33 : am_ok lw_Ts cX7_wrong 3 RX7 33 (o_al 34 0) := so_al (Or.inl ⟨0, rfl, rfl, rfl⟩) (by decide +kernel)
theorem t_88_34 : am_ok lw_Ts cX7_wrong 3 RX7 34 (o_il 35 1) := so_il (Or.inl ⟨1, rfl, rfl, rfl⟩) (by decide +kernel)
theorem t_88_35 : am_ok lw_Ts cX7_wrong 3 RX7 35 (o_il 36 2) := so_il (Or.inl ⟨2, rfl, rfl, rfl⟩) (by decide +kernel)
theorem t_88_36 : am_okc gm_mi gm_mt lw_Ts lw_Ns cX7_wrong RX7 36 87 3 := ⟨148, cf_87.1, cf_87.2.1, cf_87.2.2.1, cf_87.2.2.2, Or.inr ⟨7, 2, TX7, 37, rfl, rfl, rfl, (by decide +kernel), wt_896, wt_30, wt_894, by decide +kernel⟩⟩
theorem t_88_39 : am_ok lw_Ts cX7_wrong 3 RX7 39 (o_if 51 42 q_eq) := so_if_eq (off := 12) (by decide +kernel) rfl
theorem t_88_42 : am_ok lw_Ts cX7_wrong 3 RX7 42 (o_k 44 (vI (10))) := so_bp rfl (by decide +kernel)
theorem t_88_44 : am_ok lw_Ts cX7_wrong 3 RX7 44 (o_il 45 1) := so_il (Or.inl ⟨1, rfl, rfl, rfl⟩) (by decide +kernel)
theorem t_88_45 : am_ok lw_Ts cX7_wrong 3 RX7 45 (o_k 46 (vI (1))) := so_k (by decide +kernel)
theorem t_88_46 : am_ok lw_Ts cX7_wrong 3 RX7 46 (o_ib 47 f_add) := so_iadd (by decide +kernel)
theorem t_88_47 : am_ok lw_Ts cX7_wrong 3 RX7 47 (o_ib 48 f_mul) := so_imul (by decide +kernel)
theorem t_88_48 : am_ok lw_Ts cX7_wrong 3 RX7 48 (o_il 49 2) := so_il (Or.inl ⟨2, rfl, rfl, rfl⟩) (by decide +kernel)
theorem t_88_49 : am_ok lw_Ts cX7_wrong 3 RX7 49 (o_ib 50 f_add) := so_iadd (by decide +kernel)
theorem t_88_50 : am_okr cX7_wrong 50 1 := (show decode cX7_wrong 50 = .ok (.ireturn, 1) by decide +kernel)
theorem t_88_51 : am_ok lw_Ts cX7_wrong 3 RX7 51 (o_ii 54 2 (1)) := so_ii (by decide +kernel)
theorem t_88_54 : am_ok lw_Ts cX7_wrong 3 RX7 54 (o_go 15) := so_go (off := (-39)) (by decide +kernel) rfl
theorem t_88_57 : am_ok lw_Ts cX7_wrong 3 RX7 57 (o_ii 60 1 (1)) := so_ii (by decide +kernel)
theorem t_88_60 : am_ok lw_Ts cX7_wrong 3 RX7 60 (o_go 7) := so_go (off := (-53)) (by decide +kernel) rfl
theorem t_88_63 : am_ok lw_Ts cX7_wrong 3 RX7 63 (o_k 64 (vI (0))) := so_k (by decide +kernel)
theorem t_88_64 : am_okr cX7_wrong 64 1 := (show decode cX7_wrong 64 = .ok (.ireturn, 1) by decide +kernel)
set_option maxRecDepth 20000 in
theorem ok_88 : am_okL gm_mi gm_mt lw_Ts lw_Ns 88 cd_88 := ⟨t_88_0, t_88_1, t_88_2, t_88_5, t_88_6, t_88_7, t_88_8, t_88_10, t_88_13, t_88_14, t_88_15, t_88_16, t_88_17, t_88_20, t_88_23, t_88_24, t_88_27, t_88_28, t_88_29, t_88_30, t_88_33, t_88_34, t_88_35, t_88_36, t_88_39, t_88_42, t_88_44, t_88_45, t_88_46, t_88_47, t_88_48, t_88_49, t_88_50, t_88_51, t_88_54, t_88_57, t_88_60, t_88_63, t_88_64, trivial⟩
theorem t_89_0 : am_ok lw_Ts cX7_go 11 RX7 0 (o_il 1 2) := so_il (Or.inl ⟨2, rfl, rfl, rfl⟩) (by decide +kernel)
theorem t_89_1 : am_ok lw_Ts cX7_go 11 RX7 1 (o_al 2 0) := so_al (Or.inl ⟨0, rfl, rfl, rfl⟩) (by decide +kernel)
theorem t_89_2 : am_ok lw_Ts cX7_go 11 RX7 2 (o_gf 5 7 11) := so_gf cl_X7 (by decide) wt_720 (by decide +kernel)
theorem t_89_5 : am_ok lw_Ts cX7_go 11 RX7 5 (o_ic 109 8 r_ne) := so_ic_ne (off := 104) (by decide +kernel) rfl
theorem t_89_8 : am_ok lw_Ts cX7_go 11 RX7 8 (o_k 10 (vI (64))) := so_bp rfl (by decide +kernel)
theorem t_89_10 : am_ok lw_Ts cX7_go 11 RX7 10 (o_il 11 1) := so_il (Or.inl ⟨1, rfl, rfl, rfl⟩) (by decide +kernel)
theorem t_89_11 : am_ok lw_Ts cX7_go 11 RX7 11 (o_ib 12 f_mul) := so_imul (by decide +kernel)
theorem t_89_12 : am_ok lw_Ts cX7_go 11 RX7 12 (o_il 13 3) := so_il (Or.inl ⟨3, rfl, rfl, rfl⟩) (by decide +kernel)
theorem t_89_13 : am_ok lw_Ts cX7_go 11 RX7 13 (o_ib 14 f_add) := so_iadd (by decide +kernel)
theorem t_89_14 : am_ok lw_Ts cX7_go 11 RX7 14 (o_is 16 6) := so_is (Or.inr ⟨rfl, rfl⟩) (by decide +kernel)
theorem t_89_16 : am_ok lw_Ts cX7_go 11 RX7 16 (o_il 18 4) := so_il (Or.inr ⟨rfl, rfl⟩) (by decide +kernel)
theorem t_89_18 : am_ok lw_Ts cX7_go 11 RX7 18 (o_al 19 0) := so_al (Or.inl ⟨0, rfl, rfl, rfl⟩) (by decide +kernel)
theorem t_89_19 : am_ok lw_Ts cX7_go 11 RX7 19 (o_gf 22 7 28) := so_gf cl_X7 (by decide) wt_737 (by decide +kernel)
theorem t_89_22 : am_ok lw_Ts cX7_go 11 RX7 22 (o_il 24 6) := so_il (Or.inr ⟨rfl, rfl⟩) (by decide +kernel)
theorem t_89_24 : am_ok lw_Ts cX7_go 11 RX7 24 (o_ia 25) := so_ia (by decide +kernel)
theorem t_89_25 : am_ok lw_Ts cX7_go 11 RX7 25 (o_ic 29 28 r_gt) := so_ic_gt (off := 4) (by decide +kernel) rfl
theorem t_89_28 : am_okr cX7_go 28 0 := (show decode cX7_go 28 = .ok (.return_, 1) by decide +kernel)
theorem t_89_29 : am_ok lw_Ts cX7_go 11 RX7 29 (o_al 30 0) := so_al (Or.inl ⟨0, rfl, rfl, rfl⟩) (by decide +kernel)
theorem t_89_30 : am_ok lw_Ts cX7_go 11 RX7 30 (o_gf 33 7 28) := so_gf cl_X7 (by decide) wt_737 (by decide +kernel)
theorem t_89_33 : am_ok lw_Ts cX7_go 11 RX7 33 (o_il 35 6) := so_il (Or.inr ⟨rfl, rfl⟩) (by decide +kernel)
theorem t_89_35 : am_ok lw_Ts cX7_go 11 RX7 35 (o_il 37 4) := so_il (Or.inr ⟨rfl, rfl⟩) (by decide +kernel)
theorem t_89_37 : am_ok lw_Ts cX7_go 11 RX7 37 (o_iw 38) := so_iw (by decide +kernel)
theorem t_89_38 : am_ok lw_Ts cX7_go 11 RX7 38 (o_k 39 (vI (0))) := so_k (by decide +kernel)
theorem t_89_39 : am_ok lw_Ts cX7_go 11 RX7 39 (o_is 41 7) := so_is (Or.inr ⟨rfl, rfl⟩) (by decide +kernel)
theorem t_89_41 : am_ok lw_Ts cX7_go 11 RX7 41 (o_il 43 7) := so_il (Or.inr ⟨rfl, rfl⟩) (by decide +kernel)
theorem t_89_43 : am_ok lw_Ts cX7_go 11 RX7 43 (o_al 44 0) := so_al (Or.inl ⟨0, rfl, rfl, rfl⟩) (by decide +kernel)
theorem t_89_44 : am_ok lw_Ts cX7_go 11 RX7 44 (o_gf 47 7 11) := so_gf cl_X7 (by decide) wt_720 (by decide +kernel)
theorem t_89_47 : am_ok lw_Ts cX7_go 11 RX7 47 (o_ic 108 50 r_ge) := so_ic_ge (off := 61) (by decide +kernel) rfl
theorem t_89_50 : am_ok lw_Ts cX7_go 11 RX7 50 (o_al 51 0) := so_al (Or.inl ⟨0, rfl, rfl, rfl⟩) (by decide +kernel)
theorem t_89_51 : am_ok lw_Ts cX7_go 11 RX7 51 (o_gf 54 7 29) := so_gf cl_X7 (by decide) wt_738 (by decide +kernel)
theorem t_89_54 : am_ok lw_Ts cX7_go 11 RX7 54 (o_k 55 (vI (3))) := so_k (by decide +kernel)
theorem t_89_55 : am_ok lw_Ts cX7_go 11 RX7 55 (o_il 57 6) := so_il (Or.inr ⟨rfl, rfl⟩) (by decide +kernel)
theorem t_89_57 : am_ok lw_Ts cX7_go 11 RX7 57 (o_ib 58 f_mul) := so_imul (by decide +kernel)
theorem t_89_58 : am_ok lw_Ts cX7_go 11 RX7 58 (o_il 60 7) := so_il (Or.inr ⟨rfl, rfl⟩) (by decide +kernel)
theorem t_89_60 : am_ok lw_Ts cX7_go 11 RX7 60 (o_ib 61 f_add) := so_iadd (by decide +kernel)
theorem t_89_61 : am_ok lw_Ts cX7_go 11 RX7 61 (o_al 62 0) := so_al (Or.inl ⟨0, rfl, rfl, rfl⟩) (by decide +kernel)
theorem t_89_62 : am_ok lw_Ts cX7_go 11 RX7 62 (o_gf 65 7 12) := so_gf cl_X7 (by decide) wt_721 (by decide +kernel)
theorem t_89_65 : am_ok lw_Ts cX7_go 11 RX7 65 (o_al 66 0) := so_al (Or.inl ⟨0, rfl, rfl, rfl⟩) (by decide +kernel)
theorem t_89_66 : am_ok lw_Ts cX7_go 11 RX7 66 (o_gf 69 7 11) := so_gf cl_X7 (by decide) wt_720 (by decide +kernel)
theorem t_89_69 : am_ok lw_Ts cX7_go 11 RX7 69 (o_il 70 1) := so_il (Or.inl ⟨1, rfl, rfl, rfl⟩) (by decide +kernel)
theorem t_89_70 : am_ok lw_Ts cX7_go 11 RX7 70 (o_ib 71 f_mul) := so_imul (by decide +kernel)
theorem t_89_71 : am_ok lw_Ts cX7_go 11 RX7 71 (o_il 73 7) := so_il (Or.inr ⟨rfl, rfl⟩) (by decide +kernel)
theorem t_89_73 : am_ok lw_Ts cX7_go 11 RX7 73 (o_ib 74 f_add) := so_iadd (by decide +kernel)
theorem t_89_74 : am_ok lw_Ts cX7_go 11 RX7 74 (o_ia 75) := so_ia (by decide +kernel)
theorem t_89_75 : am_ok lw_Ts cX7_go 11 RX7 75 (o_iw 76) := so_iw (by decide +kernel)
theorem t_89_76 : am_ok lw_Ts cX7_go 11 RX7 76 (o_al 77 0) := so_al (Or.inl ⟨0, rfl, rfl, rfl⟩) (by decide +kernel)
theorem t_89_77 : am_ok lw_Ts cX7_go 11 RX7 77 (o_gf 80 7 30) := so_gf cl_X7 (by decide) wt_739 (by decide +kernel)
theorem t_89_80 : am_ok lw_Ts cX7_go 11 RX7 80 (o_k 81 (vI (3))) := so_k (by decide +kernel)
theorem t_89_81 : am_ok lw_Ts cX7_go 11 RX7 81 (o_il 83 6) := so_il (Or.inr ⟨rfl, rfl⟩) (by decide +kernel)
theorem t_89_83 : am_ok lw_Ts cX7_go 11 RX7 83 (o_ib 84 f_mul) := so_imul (by decide +kernel)
theorem t_89_84 : am_ok lw_Ts cX7_go 11 RX7 84 (o_il 86 7) := so_il (Or.inr ⟨rfl, rfl⟩) (by decide +kernel)
theorem t_89_86 : am_ok lw_Ts cX7_go 11 RX7 86 (o_ib 87 f_add) := so_iadd (by decide +kernel)
theorem t_89_87 : am_ok lw_Ts cX7_go 11 RX7 87 (o_al 88 0) := so_al (Or.inl ⟨0, rfl, rfl, rfl⟩) (by decide +kernel)
theorem t_89_88 : am_ok lw_Ts cX7_go 11 RX7 88 (o_gf 91 7 13) := so_gf cl_X7 (by decide) wt_722 (by decide +kernel)
theorem t_89_91 : am_ok lw_Ts cX7_go 11 RX7 91 (o_al 92 0) := so_al (Or.inl ⟨0, rfl, rfl, rfl⟩) (by decide +kernel)
theorem t_89_92 : am_ok lw_Ts cX7_go 11 RX7 92 (o_gf 95 7 11) := so_gf cl_X7 (by decide) wt_720 (by decide +kernel)
theorem t_89_95 : am_ok lw_Ts cX7_go 11 RX7 95 (o_il 96 1) := so_il (Or.inl ⟨1, rfl, rfl, rfl⟩) (by decide +kernel)
theorem t_89_96 : am_ok lw_Ts cX7_go 11 RX7 96 (o_ib 97 f_mul) := so_imul (by decide +kernel)
theorem t_89_97 : am_ok lw_Ts cX7_go 11 RX7 97 (o_il 99 7) := so_il (Or.inr ⟨rfl, rfl⟩) (by decide +kernel)
theorem t_89_99 : am_ok lw_Ts cX7_go 11 RX7 99 (o_ib 100 f_add) := so_iadd (by decide +kernel)
theorem t_89_100 : am_ok lw_Ts cX7_go 11 RX7 100 (o_ia 101) := so_ia (by decide +kernel)
theorem t_89_101 : am_ok lw_Ts cX7_go 11 RX7 101 (o_iw 102) := so_iw (by decide +kernel)
theorem t_89_102 : am_ok lw_Ts cX7_go 11 RX7 102 (o_ii 105 7 (1)) := so_ii (by decide +kernel)
theorem t_89_105 : am_ok lw_Ts cX7_go 11 RX7 105 (o_go 41) := so_go (off := (-64)) (by decide +kernel) rfl
theorem t_89_108 : am_okr cX7_go 108 0 := (show decode cX7_go 108 = .ok (.return_, 1) by decide +kernel)
theorem t_89_109 : am_ok lw_Ts cX7_go 11 RX7 109 (o_al 110 0) := so_al (Or.inl ⟨0, rfl, rfl, rfl⟩) (by decide +kernel)
theorem t_89_110 : am_ok lw_Ts cX7_go 11 RX7 110 (o_gf 113 7 11) := so_gf cl_X7 (by decide) wt_720 (by decide +kernel)
theorem t_89_113 : am_ok lw_Ts cX7_go 11 RX7 113 (o_il 114 1) := so_il (Or.inl ⟨1, rfl, rfl, rfl⟩) (by decide +kernel)
theorem t_89_114 : am_ok lw_Ts cX7_go 11 RX7 114 (o_ib 115 f_mul) := so_imul (by decide +kernel)
theorem t_89_115 : am_ok lw_Ts cX7_go 11 RX7 115 (o_il 116 2) := so_il (Or.inl ⟨2, rfl, rfl, rfl⟩) (by decide +kernel)
theorem t_89_116 : am_ok lw_Ts cX7_go 11 RX7 116 (o_ib 117 f_add) := so_iadd (by decide +kernel)
theorem t_89_117 : am_ok lw_Ts cX7_go 11 RX7 117 (o_is 119 6) := so_is (Or.inr ⟨rfl, rfl⟩) (by decide +kernel)
theorem t_89_119 : am_ok lw_Ts cX7_go 11 RX7 119 (o_k 120 (vI (0))) := so_k (by decide +kernel)
theorem t_89_120 : am_ok lw_Ts cX7_go 11 RX7 120 (o_is 122 7) := so_is (Or.inr ⟨rfl, rfl⟩) (by decide +kernel)
theorem t_89_122 : am_ok lw_Ts cX7_go 11 RX7 122 (o_il 124 7) := so_il (Or.inr ⟨rfl, rfl⟩) (by decide +kernel)
theorem t_89_124 : am_ok lw_Ts cX7_go 11 RX7 124 (o_al 125 0) := so_al (Or.inl ⟨0, rfl, rfl, rfl⟩) (by decide +kernel)
theorem t_89_125 : am_ok lw_Ts cX7_go 11 RX7 125 (o_gf 128 7 7) := so_gf cl_X7 (by decide) wt_716 (by decide +kernel)
theorem t_89_128 : am_ok lw_Ts cX7_go 11 RX7 128 (o_ic 315 131 r_ge) := so_ic_ge (off := 187) (by decide +kernel) rfl
theorem t_89_131 : am_ok lw_Ts cX7_go 11 RX7 131 (o_il 132 3) := so_il (Or.inl ⟨3, rfl, rfl, rfl⟩) (by decide +kernel)
theorem t_89_132 : am_ok lw_Ts cX7_go 11 RX7 132 (o_il 134 7) := so_il (Or.inr ⟨rfl, rfl⟩) (by decide +kernel)
theorem t_89_134 : am_ok lw_Ts cX7_go 11 RX7 134 (o_ib 135 f_shr) := so_ishr (by decide +kernel)
theorem t_89_135 : am_ok lw_Ts cX7_go 11 RX7 135 (o_k 136 (vI (1))) := so_k (by decide +kernel)
theorem t_89_136 : am_ok lw_Ts cX7_go 11 RX7 136 (o_ib 137 f_and) := so_iand (by decide +kernel)
theorem t_89_137 : am_ok lw_Ts cX7_go 11 RX7 137 (o_k 138 (vI (1))) := so_k (by decide +kernel)
theorem t_89_138 : am_ok lw_Ts cX7_go 11 RX7 138 (o_ic 144 141 r_ne) := so_ic_ne (off := 6) (by decide +kernel) rfl
theorem t_89_141 : am_ok lw_Ts cX7_go 11 RX7 141 (o_go 309) := so_go (off := 168) (by decide +kernel) rfl
theorem t_89_144 : am_ok lw_Ts cX7_go 11 RX7 144 (o_k 145 (vI (0))) := so_k (by decide +kernel)
theorem t_89_145 : am_ok lw_Ts cX7_go 11 RX7 145 (o_is 147 8) := so_is (Or.inr ⟨rfl, rfl⟩) (by decide +kernel)
theorem t_89_147 : am_ok lw_Ts cX7_go 11 RX7 147 (o_il 149 8) := so_il (Or.inr ⟨rfl, rfl⟩) (by decide +kernel)
theorem t_89_149 : am_ok lw_Ts cX7_go 11 RX7 149 (o_al 150 0) := so_al (Or.inl ⟨0, rfl, rfl, rfl⟩) (by decide +kernel)
theorem t_89_150 : am_ok lw_Ts cX7_go 11 RX7 150 (o_gf 153 7 2) := so_gf cl_X7 (by decide) wt_711 (by decide +kernel)
theorem t_89_153 : am_ok lw_Ts cX7_go 11 RX7 153 (o_ic 309 156 r_ge) := so_ic_ge (off := 156) (by decide +kernel) rfl
theorem t_89_156 : am_ok lw_Ts cX7_go 11 RX7 156 (o_al 157 0) := so_al (Or.inl ⟨0, rfl, rfl, rfl⟩) (by decide +kernel)
theorem t_89_157 : am_ok lw_Ts cX7_go 11 RX7 157 (o_gf 160 7 12) := so_gf cl_X7 (by decide) wt_721 (by decide +kernel)
theorem t_89_160 : am_ok lw_Ts cX7_go 11 RX7 160 (o_il 162 6) := so_il (Or.inr ⟨rfl, rfl⟩) (by decide +kernel)
theorem t_89_162 : am_ok lw_Ts cX7_go 11 RX7 162 (o_il 164 7) := so_il (Or.inr ⟨rfl, rfl⟩) (by decide +kernel)
theorem t_89_164 : am_ok lw_Ts cX7_go 11 RX7 164 (o_iw 165) := so_iw (by decide +kernel)
theorem t_89_165 : am_ok lw_Ts cX7_go 11 RX7 165 (o_al 166 0) := so_al (Or.inl ⟨0, rfl, rfl, rfl⟩) (by decide +kernel)
theorem t_89_166 : am_ok lw_Ts cX7_go 11 RX7 166 (o_gf 169 7 13) := so_gf cl_X7 (by decide) wt_722 (by decide +kernel)
theorem t_89_169 : am_ok lw_Ts cX7_go 11 RX7 169 (o_il 171 6) := so_il (Or.inr ⟨rfl, rfl⟩) (by decide +kernel)
theorem t_89_171 : am_ok lw_Ts cX7_go 11 RX7 171 (o_il 173 8) := so_il (Or.inr ⟨rfl, rfl⟩) (by decide +kernel)
theorem t_89_173 : am_ok lw_Ts cX7_go 11 RX7 173 (o_iw 174) := so_iw (by decide +kernel)
theorem t_89_174 : am_ok lw_Ts cX7_go 11 RX7 174 (o_k 175 (vI (1))) := so_k (by decide +kernel)
theorem t_89_175 : am_ok lw_Ts cX7_go 11 RX7 175 (o_is 177 9) := so_is (Or.inr ⟨rfl, rfl⟩) (by decide +kernel)
theorem t_89_177 : am_ok lw_Ts cX7_go 11 RX7 177 (o_k 178 (vI (0))) := so_k (by decide +kernel)
theorem t_89_178 : am_ok lw_Ts cX7_go 11 RX7 178 (o_is 180 10) := so_is (Or.inr ⟨rfl, rfl⟩) (by decide +kernel)
theorem t_89_180 : am_ok lw_Ts cX7_go 11 RX7 180 (o_il 182 10) := so_il (Or.inr ⟨rfl, rfl⟩) (by decide +kernel)
theorem t_89_182 : am_ok lw_Ts cX7_go 11 RX7 182 (o_k 184 (vI (8))) := so_bp rfl (by decide +kernel)
theorem t_89_184 : am_ok lw_Ts cX7_go 11 RX7 184 (o_ic 222 187 r_ge) := so_ic_ge (off := 38) (by decide +kernel) rfl
theorem t_89_187 : am_ok lw_Ts cX7_go 11 RX7 187 (o_il 189 9) := so_il (Or.inr ⟨rfl, rfl⟩) (by decide +kernel)
theorem t_89_189 : am_ok lw_Ts cX7_go 11 RX7 189 (o_if 222 192 q_eq) := so_if_eq (off := 33) (by decide +kernel) rfl
theorem t_89_192 : am_ok lw_Ts cX7_go 11 RX7 192 (o_il 194 10) := so_il (Or.inr ⟨rfl, rfl⟩) (by decide +kernel)
theorem t_89_194 : am_ok lw_Ts cX7_go 11 RX7 194 (o_k 195 (vI (1))) := so_k (by decide +kernel)
theorem t_89_195 : am_ok lw_Ts cX7_go 11 RX7 195 (o_ic 209 198 r_eq) := so_ic_eq (off := 14) (by decide +kernel) rfl
theorem t_89_198 : am_ok lw_Ts cX7_go 11 RX7 198 (o_al 199 0) := so_al (Or.inl ⟨0, rfl, rfl, rfl⟩) (by decide +kernel)
theorem t_89_199 : am_ok lw_Ts cX7_go 11 RX7 199 (o_il 201 10) := so_il (Or.inr ⟨rfl, rfl⟩) (by decide +kernel)
theorem t_89_201 : am_ok lw_Ts cX7_go 11 RX7 201 (o_il 203 6) := so_il (Or.inr ⟨rfl, rfl⟩) (by decide +kernel)
theorem t_89_203 : am_okc gm_mi gm_mt lw_Ts lw_Ns cX7_go RX7 203 87 3 := ⟨148, cf_87.1, cf_87.2.1, cf_87.2.2.1, cf_87.2.2.2, Or.inr ⟨7, 2, TX7, 37, rfl, rfl, rfl, (by decide +kernel), wt_896, wt_30, wt_894, by decide +kernel⟩⟩
theorem t_89_206 : am_ok lw_Ts cX7_go 11 RX7 206 (o_if 213 209 q_ne) := so_if_ne (off := 7) (by decide +kernel) rfl
theorem t_89_209 : am_ok lw_Ts cX7_go 11 RX7 209 (o_k 210 (vI (1))) := so_k (by decide +kernel)
theorem t_89_210 : am_ok lw_Ts cX7_go 11 RX7 210 (o_go 214) := so_go (off := 4) (by decide +kernel) rfl
theorem t_89_213 : am_ok lw_Ts cX7_go 11 RX7 213 (o_k 214 (vI (0))) := so_k (by decide +kernel)
theorem t_89_214 : am_ok lw_Ts cX7_go 11 RX7 214 (o_is 216 9) := so_is (Or.inr ⟨rfl, rfl⟩) (by decide +kernel)
theorem t_89_216 : am_ok lw_Ts cX7_go 11 RX7 216 (o_ii 219 10 (1)) := so_ii (by decide +kernel)
theorem t_89_219 : am_ok lw_Ts cX7_go 11 RX7 219 (o_go 180) := so_go (off := (-39)) (by decide +kernel) rfl
theorem t_89_222 : am_ok lw_Ts cX7_go 11 RX7 222 (o_il 224 9) := so_il (Or.inr ⟨rfl, rfl⟩) (by decide +kernel)
theorem t_89_224 : am_ok lw_Ts cX7_go 11 RX7 224 (o_if 230 227 q_ne) := so_if_ne (off := 6) (by decide +kernel) rfl
theorem t_89_227 : am_ok lw_Ts cX7_go 11 RX7 227 (o_go 303) := so_go (off := 76) (by decide +kernel) rfl
theorem t_89_230 : am_ok lw_Ts cX7_go 11 RX7 230 (o_al 231 0) := so_al (Or.inl ⟨0, rfl, rfl, rfl⟩) (by decide +kernel)
theorem t_89_231 : am_ok lw_Ts cX7_go 11 RX7 231 (o_gf 234 7 5) := so_gf cl_X7 (by decide) wt_714 (by decide +kernel)
theorem t_89_234 : am_ok lw_Ts cX7_go 11 RX7 234 (o_k 236 (vI (6))) := so_bp rfl (by decide +kernel)
theorem t_89_236 : am_ok lw_Ts cX7_go 11 RX7 236 (o_il 238 7) := so_il (Or.inr ⟨rfl, rfl⟩) (by decide +kernel)
theorem t_89_238 : am_ok lw_Ts cX7_go 11 RX7 238 (o_ib 239 f_mul) := so_imul (by decide +kernel)
theorem t_89_239 : am_ok lw_Ts cX7_go 11 RX7 239 (o_il 241 8) := so_il (Or.inr ⟨rfl, rfl⟩) (by decide +kernel)
theorem t_89_241 : am_ok lw_Ts cX7_go 11 RX7 241 (o_ib 242 f_add) := so_iadd (by decide +kernel)
theorem t_89_242 : am_ok lw_Ts cX7_go 11 RX7 242 (o_ia 243) := so_ia (by decide +kernel)
theorem t_89_243 : am_ok lw_Ts cX7_go 11 RX7 243 (o_il 245 5) := so_il (Or.inr ⟨rfl, rfl⟩) (by decide +kernel)
theorem t_89_245 : am_ok lw_Ts cX7_go 11 RX7 245 (o_if 278 248 q_eq) := so_if_eq (off := 33) (by decide +kernel) rfl
theorem t_89_248 : am_ok lw_Ts cX7_go 11 RX7 248 (o_al 249 0) := so_al (Or.inl ⟨0, rfl, rfl, rfl⟩) (by decide +kernel)
theorem t_89_249 : am_ok lw_Ts cX7_go 11 RX7 249 (o_gf 252 7 26) := so_gf cl_X7 (by decide) wt_735 (by decide +kernel)
theorem t_89_252 : am_ok lw_Ts cX7_go 11 RX7 252 (o_il 254 6) := so_il (Or.inr ⟨rfl, rfl⟩) (by decide +kernel)
theorem t_89_254 : am_ok lw_Ts cX7_go 11 RX7 254 (o_ia 255) := so_ia (by decide +kernel)
theorem t_89_255 : am_ok lw_Ts cX7_go 11 RX7 255 (o_il 257 7) := so_il (Or.inr ⟨rfl, rfl⟩) (by decide +kernel)
theorem t_89_257 : am_ok lw_Ts cX7_go 11 RX7 257 (o_ic 272 260 r_ne) := so_ic_ne (off := 15) (by decide +kernel) rfl
theorem t_89_260 : am_ok lw_Ts cX7_go 11 RX7 260 (o_al 261 0) := so_al (Or.inl ⟨0, rfl, rfl, rfl⟩) (by decide +kernel)
theorem t_89_261 : am_ok lw_Ts cX7_go 11 RX7 261 (o_gf 264 7 27) := so_gf cl_X7 (by decide) wt_736 (by decide +kernel)
theorem t_89_264 : am_ok lw_Ts cX7_go 11 RX7 264 (o_il 266 6) := so_il (Or.inr ⟨rfl, rfl⟩) (by decide +kernel)
theorem t_89_266 : am_ok lw_Ts cX7_go 11 RX7 266 (o_ia 267) := so_ia (by decide +kernel)
theorem t_89_267 : am_ok lw_Ts cX7_go 11 RX7 267 (o_il 269 8) := so_il (Or.inr ⟨rfl, rfl⟩) (by decide +kernel)
theorem t_89_269 : am_ok lw_Ts cX7_go 11 RX7 269 (o_ic 278 272 r_eq) := so_ic_eq (off := 9) (by decide +kernel) rfl
theorem t_89_272 : am_ok lw_Ts cX7_go 11 RX7 272 (o_k 275 (vI (1000))) := so_sp rfl (by decide +kernel)
theorem t_89_275 : am_ok lw_Ts cX7_go 11 RX7 275 (o_go 279) := so_go (off := 4) (by decide +kernel) rfl
theorem t_89_278 : am_ok lw_Ts cX7_go 11 RX7 278 (o_k 279 (vI (0))) := so_k (by decide +kernel)
theorem t_89_279 : am_ok lw_Ts cX7_go 11 RX7 279 (o_ib 280 f_sub) := so_isub (by decide +kernel)
theorem t_89_280 : am_ok lw_Ts cX7_go 11 RX7 280 (o_is 282 10) := so_is (Or.inr ⟨rfl, rfl⟩) (by decide +kernel)
theorem t_89_282 : am_ok lw_Ts cX7_go 11 RX7 282 (o_al 283 0) := so_al (Or.inl ⟨0, rfl, rfl, rfl⟩) (by decide +kernel)
theorem t_89_283 : am_ok lw_Ts cX7_go 11 RX7 283 (o_il 284 1) := so_il (Or.inl ⟨1, rfl, rfl, rfl⟩) (by decide +kernel)
theorem t_89_284 : am_ok lw_Ts cX7_go 11 RX7 284 (o_il 285 2) := so_il (Or.inl ⟨2, rfl, rfl, rfl⟩) (by decide +kernel)
theorem t_89_285 : am_ok lw_Ts cX7_go 11 RX7 285 (o_k 286 (vI (1))) := so_k (by decide +kernel)
theorem t_89_286 : am_ok lw_Ts cX7_go 11 RX7 286 (o_ib 287 f_add) := so_iadd (by decide +kernel)
theorem t_89_287 : am_ok lw_Ts cX7_go 11 RX7 287 (o_il 288 3) := so_il (Or.inl ⟨3, rfl, rfl, rfl⟩) (by decide +kernel)
theorem t_89_288 : am_ok lw_Ts cX7_go 11 RX7 288 (o_k 289 (vI (1))) := so_k (by decide +kernel)
theorem t_89_289 : am_ok lw_Ts cX7_go 11 RX7 289 (o_il 291 7) := so_il (Or.inr ⟨rfl, rfl⟩) (by decide +kernel)
theorem t_89_291 : am_ok lw_Ts cX7_go 11 RX7 291 (o_ib 292 f_shl) := so_ishl (by decide +kernel)
theorem t_89_292 : am_ok lw_Ts cX7_go 11 RX7 292 (o_ib 293 f_or) := so_ior (by decide +kernel)
theorem t_89_293 : am_ok lw_Ts cX7_go 11 RX7 293 (o_il 295 4) := so_il (Or.inr ⟨rfl, rfl⟩) (by decide +kernel)
theorem t_89_295 : am_ok lw_Ts cX7_go 11 RX7 295 (o_il 297 10) := so_il (Or.inr ⟨rfl, rfl⟩) (by decide +kernel)
theorem t_89_297 : am_ok lw_Ts cX7_go 11 RX7 297 (o_ib 298 f_add) := so_iadd (by decide +kernel)
theorem t_89_298 : am_ok lw_Ts cX7_go 11 RX7 298 (o_il 300 5) := so_il (Or.inr ⟨rfl, rfl⟩) (by decide +kernel)
theorem t_89_300 : am_okc gm_mi gm_mt lw_Ts lw_Ns cX7_go RX7 300 89 6 := ⟨152, cf_89.1, cf_89.2.1, cf_89.2.2.1, cf_89.2.2.2, Or.inr ⟨7, 5, TX7, 37, rfl, rfl, rfl, (by decide +kernel), wt_909, wt_32, wt_907, by decide +kernel⟩⟩
theorem t_89_303 : am_ok lw_Ts cX7_go 11 RX7 303 (o_ii 306 8 (1)) := so_ii (by decide +kernel)
theorem t_89_306 : am_ok lw_Ts cX7_go 11 RX7 306 (o_go 147) := so_go (off := (-159)) (by decide +kernel) rfl
theorem t_89_309 : am_ok lw_Ts cX7_go 11 RX7 309 (o_ii 312 7 (1)) := so_ii (by decide +kernel)
theorem t_89_312 : am_ok lw_Ts cX7_go 11 RX7 312 (o_go 122) := so_go (off := (-190)) (by decide +kernel) rfl
theorem t_89_315 : am_ok lw_Ts cX7_go 11 RX7 315 (o_al 316 0) := so_al (Or.inl ⟨0, rfl, rfl, rfl⟩) (by decide +kernel)
theorem t_89_316 : am_ok lw_Ts cX7_go 11 RX7 316 (o_gf 319 7 12) := so_gf cl_X7 (by decide) wt_721 (by decide +kernel)
theorem t_89_319 : am_ok lw_Ts cX7_go 11 RX7 319 (o_il 321 6) := so_il (Or.inr ⟨rfl, rfl⟩) (by decide +kernel)
theorem t_89_321 : am_ok lw_Ts cX7_go 11 RX7 321 (o_k 322 (vI (-1))) := so_k (by decide +kernel)
theorem t_89_322 : am_ok lw_Ts cX7_go 11 RX7 322 (o_iw 323) := so_iw (by decide +kernel)
theorem t_89_323 : am_ok lw_Ts cX7_go 11 RX7 323 (o_al 324 0) := so_al (Or.inl ⟨0, rfl, rfl, rfl⟩) (by decide +kernel)
theorem t_89_324 : am_ok lw_Ts cX7_go 11 RX7 324 (o_gf 327 7 13) := so_gf cl_X7 (by decide) wt_722 (by decide +kernel)
theorem t_89_327 : am_ok lw_Ts cX7_go 11 RX7 327 (o_il 329 6) := so_il (Or.inr ⟨rfl, rfl⟩) (by decide +kernel)
theorem t_89_329 : am_ok lw_Ts cX7_go 11 RX7 329 (o_k 330 (vI (-1))) := so_k (by decide +kernel)
theorem t_89_330 : am_ok lw_Ts cX7_go 11 RX7 330 (o_iw 331) := so_iw (by decide +kernel)
theorem t_89_331 : am_ok lw_Ts cX7_go 11 RX7 331 (o_al 332 0) := so_al (Or.inl ⟨0, rfl, rfl, rfl⟩) (by decide +kernel)
theorem t_89_332 : am_ok lw_Ts cX7_go 11 RX7 332 (o_il 333 1) := so_il (Or.inl ⟨1, rfl, rfl, rfl⟩) (by decide +kernel)
theorem t_89_333 : am_ok lw_Ts cX7_go 11 RX7 333 (o_il 334 2) := so_il (Or.inl ⟨2, rfl, rfl, rfl⟩) (by decide +kernel)
theorem t_89_334 : am_ok lw_Ts cX7_go 11 RX7 334 (o_k 335 (vI (1))) := so_k (by decide +kernel)
theorem t_89_335 : am_ok lw_Ts cX7_go 11 RX7 335 (o_ib 336 f_add) := so_iadd (by decide +kernel)
theorem t_89_336 : am_ok lw_Ts cX7_go 11 RX7 336 (o_il 337 3) := so_il (Or.inl ⟨3, rfl, rfl, rfl⟩) (by decide +kernel)
theorem t_89_337 : am_ok lw_Ts cX7_go 11 RX7 337 (o_il 339 4) := so_il (Or.inr ⟨rfl, rfl⟩) (by decide +kernel)
theorem t_89_339 : am_ok lw_Ts cX7_go 11 RX7 339 (o_il 341 5) := so_il (Or.inr ⟨rfl, rfl⟩) (by decide +kernel)
theorem t_89_341 : am_ok lw_Ts cX7_go 11 RX7 341 (o_if 361 344 q_eq) := so_if_eq (off := 20) (by decide +kernel) rfl
theorem t_89_344 : am_ok lw_Ts cX7_go 11 RX7 344 (o_al 345 0) := so_al (Or.inl ⟨0, rfl, rfl, rfl⟩) (by decide +kernel)
theorem t_89_345 : am_ok lw_Ts cX7_go 11 RX7 345 (o_gf 348 7 26) := so_gf cl_X7 (by decide) wt_735 (by decide +kernel)
theorem t_89_348 : am_ok lw_Ts cX7_go 11 RX7 348 (o_il 350 6) := so_il (Or.inr ⟨rfl, rfl⟩) (by decide +kernel)
theorem t_89_350 : am_ok lw_Ts cX7_go 11 RX7 350 (o_ia 351) := so_ia (by decide +kernel)
theorem t_89_351 : am_ok lw_Ts cX7_go 11 RX7 351 (o_k 352 (vI (-1))) := so_k (by decide +kernel)
theorem t_89_352 : am_ok lw_Ts cX7_go 11 RX7 352 (o_ic 361 355 r_eq) := so_ic_eq (off := 9) (by decide +kernel) rfl
theorem t_89_355 : am_ok lw_Ts cX7_go 11 RX7 355 (o_k 358 (vI (1000))) := so_sp rfl (by decide +kernel)
theorem t_89_358 : am_ok lw_Ts cX7_go 11 RX7 358 (o_go 362) := so_go (off := 4) (by decide +kernel) rfl
theorem t_89_361 : am_ok lw_Ts cX7_go 11 RX7 361 (o_k 362 (vI (0))) := so_k (by decide +kernel)
theorem t_89_362 : am_ok lw_Ts cX7_go 11 RX7 362 (o_ib 363 f_sub) := so_isub (by decide +kernel)
theorem t_89_363 : am_ok lw_Ts cX7_go 11 RX7 363 (o_il 365 5) := so_il (Or.inr ⟨rfl, rfl⟩) (by decide +kernel)
theorem t_89_365 : am_okc gm_mi gm_mt lw_Ts lw_Ns cX7_go RX7 365 89 6 := ⟨152, cf_89.1, cf_89.2.1, cf_89.2.2.1, cf_89.2.2.2, Or.inr ⟨7, 5, TX7, 37, rfl, rfl, rfl, (by decide +kernel), wt_909, wt_32, wt_907, by decide +kernel⟩⟩
theorem t_89_368 : am_okr cX7_go 368 0 := (show decode cX7_go 368 = .ok (.return_, 1) by decide +kernel)
set_option maxRecDepth 20000 in
theorem ok_89 : am_okL gm_mi gm_mt lw_Ts lw_Ns 89 cd_89 := ⟨t_89_0, t_89_1, t_89_2, t_89_5, t_89_8, t_89_10, t_89_11, t_89_12, t_89_13, t_89_14, t_89_16, t_89_18, t_89_19, t_89_22, t_89_24, t_89_25, t_89_28, t_89_29, t_89_30, t_89_33, t_89_35, t_89_37, t_89_38, t_89_39, t_89_41, t_89_43, t_89_44, t_89_47, t_89_50, t_89_51, t_89_54, t_89_55, t_89_57, t_89_58, t_89_60, t_89_61, t_89_62, t_89_65, t_89_66, t_89_69, t_89_70, t_89_71, t_89_73, t_89_74, t_89_75, t_89_76, t_89_77, t_89_80, t_89_81, t_89_83, t_89_84, t_89_86, t_89_87, t_89_88, t_89_91, t_89_92, t_89_95, t_89_96, t_89_97, t_89_99, t_89_100, t_89_101, t_89_102, t_89_105, t_89_108, t_89_109, t_89_110, t_89_113, t_89_114, t_89_115, t_89_116, t_89_117, t_89_119, t_89_120, t_89_122, t_89_124, t_89_125, t_89_128, t_89_131, t_89_132, t_89_134, t_89_135, t_89_136, t_89_137, t_89_138, t_89_141, t_89_144, t_89_145, t_89_147, t_89_149, t_89_150, t_89_153, t_89_156, t_89_157, t_89_160, t_89_162, t_89_164, t_89_165, t_89_166, t_89_169, t_89_171, t_89_173, t_89_174, t_89_175, t_89_177, t_89_178, t_89_180, t_89_182, t_89_184, t_89_187, t_89_189, t_89_192, t_89_194, t_89_195, t_89_198, t_89_199, t_89_201, t_89_203, t_89_206, t_89_209, t_89_210, t_89_213, t_89_214, t_89_216, t_89_219, t_89_222, t_89_224, t_89_227, t_89_230, t_89_231, t_89_234, t_89_236, t_89_238, t_89_239, t_89_241, t_89_242, t_89_243, t_89_245, t_89_248, t_89_249, t_89_252, t_89_254, t_89_255, t_89_257, t_89_260, t_89_261, t_89_264, t_89_266, t_89_267, t_89_269, t_89_272, t_89_275, t_89_278, t_89_279, t_89_280, t_89_282, t_89_283, t_89_284, t_89_285, t_89_286, t_89_287, t_89_288, t_89_289, t_89_291, t_89_292, t_89_293, t_89_295, t_89_297, t_89_298, t_89_300, t_89_303, t_89_306, t_89_309, t_89_312, t_89_315, t_89_316, t_89_319, t_89_321, t_89_322, t_89_323, t_89_324, t_89_327, t_89_329, t_89_330, t_89_331, t_89_332, t_89_333, t_89_334, t_89_335, t_89_336, t_89_337, t_89_339, t_89_341, t_89_344, t_89_345, t_89_348, t_89_350, t_89_351, t_89_352, t_89_355, t_89_358, t_89_361, t_89_362, t_89_363, t_89_365, t_89_368, trivial⟩
end
section
theorem t_90_0 : am_ok lw_Ts cX7_join 6 RX7 0 (o_il 1 1) := so_il (Or.inl ⟨1, rfl, rfl, rfl⟩) (by decide +kernel)
theorem t_90_1 : am_ok lw_Ts cX7_join 6 RX7 1 (o_al 2 0) := so_al (Or.inl ⟨0, rfl, rfl, rfl⟩) (by decide +kernel)
theorem t_90_2 : am_ok lw_Ts cX7_join 6 RX7 2 (o_gf 5 7 10) := so_gf cl_X7 (by decide) wt_719 (by decide +kernel)
theorem t_90_5 : am_ok lw_Ts cX7_join 6 RX7 5 (o_ic 70 8 r_ne) := so_ic_ne (off := 65) (by decide +kernel) rfl
theorem t_90_8 : am_ok lw_Ts cX7_join 6 RX7 8 (o_il 9 3) := so_il (Or.inl ⟨3, rfl, rfl, rfl⟩) (by decide +kernel)
theorem t_90_9 : am_ok lw_Ts cX7_join 6 RX7 9 (o_al 10 0) := so_al (Or.inl ⟨0, rfl, rfl, rfl⟩) (by decide +kernel)
theorem t_90_10 : am_ok lw_Ts cX7_join 6 RX7 10 (o_gf 13 7 33) := so_gf cl_X7 (by decide) wt_742 (by decide +kernel)
theorem t_90_13 : am_ok lw_Ts cX7_join 6 RX7 13 (o_ic 31 16 r_lt) := so_ic_lt (off := 18) (by decide +kernel) rfl
theorem t_90_16 : am_ok lw_Ts cX7_join 6 RX7 16 (o_il 17 3) := so_il (Or.inl ⟨3, rfl, rfl, rfl⟩) (by decide +kernel)
theorem t_90_17 : am_ok lw_Ts cX7_join 6 RX7 17 (o_al 18 0) := so_al (Or.inl ⟨0, rfl, rfl, rfl⟩) (by decide +kernel)
theorem t_90_18 : am_ok lw_Ts cX7_join 6 RX7 18 (o_gf 21 7 33) := so_gf cl_X7 (by decide) wt_742 (by decide +kernel)
theorem t_90_21 : am_ok lw_Ts cX7_join 6 RX7 21 (o_ic 32 24 r_ne) := so_ic_ne (off := 11) (by decide +kernel) rfl
theorem t_90_24 : am_ok lw_Ts cX7_join 6 RX7 24 (o_al 25 0) := so_al (Or.inl ⟨0, rfl, rfl, rfl⟩) (by decide +kernel)
theorem t_90_25 : am_okc gm_mi gm_mt lw_Ts lw_Ns cX7_join RX7 25 91 1 := ⟨159, cf_91.1, cf_91.2.1, cf_91.2.2.1, cf_91.2.2.2, Or.inr ⟨7, 0, TX7, 37, rfl, rfl, rfl, (by decide +kernel), wt_917, wt_34, wt_915, by decide +kernel⟩⟩
theorem t_90_28 : am_ok lw_Ts cX7_join 6 RX7 28 (o_if 32 31 q_ne) := so_if_ne (off := 4) (by decide +kernel) rfl
theorem t_90_31 : am_okr cX7_join 31 0 := (show decode cX7_join 31 = .ok (.return_, 1) by decide +kernel)
theorem t_90_32 : am_ok lw_Ts cX7_join 6 RX7 32 (o_al 33 0) := so_al (Or.inl ⟨0, rfl, rfl, rfl⟩) (by decide +kernel)
theorem t_90_33 : am_ok lw_Ts cX7_join 6 RX7 33 (o_il 34 3) := so_il (Or.inl ⟨3, rfl, rfl, rfl⟩) (by decide +kernel)
theorem t_90_34 : am_ok lw_Ts cX7_join 6 RX7 34 (o_pf 37 7 33) := so_pf cl_X7 tyX7_ok nmX7 (by decide) rfl rfl wt_742 (by decide +kernel)
theorem t_90_37 : am_ok lw_Ts cX7_join 6 RX7 37 (o_k 38 (vI (0))) := so_k (by decide +kernel)
theorem t_90_38 : am_ok lw_Ts cX7_join 6 RX7 38 (o_is 40 4) := so_is (Or.inr ⟨rfl, rfl⟩) (by decide +kernel)
theorem t_90_40 : am_ok lw_Ts cX7_join 6 RX7 40 (o_il 42 4) := so_il (Or.inr ⟨rfl, rfl⟩) (by decide +kernel)
theorem t_90_42 : am_ok lw_Ts cX7_join 6 RX7 42 (o_al 43 0) := so_al (Or.inl ⟨0, rfl, rfl, rfl⟩) (by decide +kernel)
theorem t_90_43 : am_ok lw_Ts cX7_join 6 RX7 43 (o_gf 46 7 10) := so_gf cl_X7 (by decide) wt_719 (by decide +kernel)
theorem t_90_46 : am_ok lw_Ts cX7_join 6 RX7 46 (o_ic 69 49 r_ge) := so_ic_ge (off := 23) (by decide +kernel) rfl
theorem t_90_49 : am_ok lw_Ts cX7_join 6 RX7 49 (o_al 50 0) := so_al (Or.inl ⟨0, rfl, rfl, rfl⟩) (by decide +kernel)
theorem t_90_50 : am_ok lw_Ts cX7_join 6 RX7 50 (o_gf 53 7 32) := so_gf cl_X7 (by decide) wt_741 (by decide +kernel)
theorem t_90_53 : am_ok lw_Ts cX7_join 6 RX7 53 (o_il 55 4) := so_il (Or.inr ⟨rfl, rfl⟩) (by decide +kernel)
theorem t_90_55 : am_ok lw_Ts cX7_join 6 RX7 55 (o_al 56 0) := so_al (Or.inl ⟨0, rfl, rfl, rfl⟩) (by decide +kernel)
theorem t_90_56 : am_ok lw_Ts cX7_join 6 RX7 56 (o_gf 59 7 31) := so_gf cl_X7 (by decide) wt_740 (by decide +kernel)
theorem t_90_59 : am_ok lw_Ts cX7_join 6 RX7 59 (o_il 61 4) := so_il (Or.inr ⟨rfl, rfl⟩) (by decide +kernel)
theorem t_90_61 : am_ok lw_Ts cX7_join 6 RX7 61 (o_ia 62) := so_ia (by decide +kernel)
theorem t_90_62 : am_ok lw_Ts cX7_join 6 RX7 62 (o_iw 63) := so_iw (by decide +kernel)
theorem t_90_63 : am_ok lw_Ts cX7_join 6 RX7 63 (o_ii 66 4 (1)) := so_ii (by decide +kernel)
theorem t_90_66 : am_ok lw_Ts cX7_join 6 RX7 66 (o_go 40) := so_go (off := (-26)) (by decide +kernel) rfl
theorem t_90_69 : am_okr cX7_join 69 0 := (show decode cX7_join 69 = .ok (.return_, 1) by decide +kernel)
theorem t_90_70 : am_ok lw_Ts cX7_join 6 RX7 70 (o_k 71 (vI (0))) := so_k (by decide +kernel)
theorem t_90_71 : am_ok lw_Ts cX7_join 6 RX7 71 (o_is 73 4) := so_is (Or.inr ⟨rfl, rfl⟩) (by decide +kernel)
theorem t_90_73 : am_ok lw_Ts cX7_join 6 RX7 73 (o_il 75 4) := so_il (Or.inr ⟨rfl, rfl⟩) (by decide +kernel)
theorem t_90_75 : am_ok lw_Ts cX7_join 6 RX7 75 (o_k 76 (vI (1))) := so_k (by decide +kernel)
theorem t_90_76 : am_ok lw_Ts cX7_join 6 RX7 76 (o_al 77 0) := so_al (Or.inl ⟨0, rfl, rfl, rfl⟩) (by decide +kernel)
theorem t_90_77 : am_ok lw_Ts cX7_join 6 RX7 77 (o_gf 80 7 7) := so_gf cl_X7 (by decide) wt_716 (by decide +kernel)
theorem t_90_80 : am_ok lw_Ts cX7_join 6 RX7 80 (o_ib 81 f_shl) := so_ishl (by decide +kernel)
theorem t_90_81 : am_ok lw_Ts cX7_join 6 RX7 81 (o_ic 144 84 r_ge) := so_ic_ge (off := 63) (by decide +kernel) rfl
theorem t_90_84 : am_ok lw_Ts cX7_join 6 RX7 84 (o_al 85 0) := so_al (Or.inl ⟨0, rfl, rfl, rfl⟩) (by decide +kernel)
theorem t_90_85 : am_ok lw_Ts cX7_join 6 RX7 85 (o_gf 88 7 28) := so_gf cl_X7 (by decide) wt_737 (by decide +kernel)
theorem t_90_88 : am_ok lw_Ts cX7_join 6 RX7 88 (o_k 90 (vI (64))) := so_bp rfl (by decide +kernel)
theorem t_90_90 : am_ok lw_Ts cX7_join 6 RX7 90 (o_il 91 1) := so_il (Or.inl ⟨1, rfl, rfl, rfl⟩) (by decide +kernel)
theorem t_90_91 : am_ok lw_Ts cX7_join 6 RX7 91 (o_ib 92 f_mul) := so_imul (by decide +kernel)
theorem t_90_92 : am_ok lw_Ts cX7_join 6 RX7 92 (o_il 94 4) := so_il (Or.inr ⟨rfl, rfl⟩) (by decide +kernel)
theorem t_90_94 : am_ok lw_Ts cX7_join 6 RX7 94 (o_ib 95 f_add) := so_iadd (by decide +kernel)
theorem t_90_95 : am_ok lw_Ts cX7_join 6 RX7 95 (o_ia 96) := so_ia (by decide +kernel)
theorem t_90_96 : am_ok lw_Ts cX7_join 6 RX7 96 (o_is 98 5) := so_is (Or.inr ⟨rfl, rfl⟩) (by decide +kernel)
theorem t_90_98 : am_ok lw_Ts cX7_join 6 RX7 98 (o_il 100 4) := so_il (Or.inr ⟨rfl, rfl⟩) (by decide +kernel)
theorem t_90_100 : am_ok lw_Ts cX7_join 6 RX7 100 (o_il 101 2) := so_il (Or.inl ⟨2, rfl, rfl, rfl⟩) (by decide +kernel)
theorem t_90_101 : am_ok lw_Ts cX7_join 6 RX7 101 (o_ib 102 f_and) := so_iand (by decide +kernel)
theorem t_90_102 : am_ok lw_Ts cX7_join 6 RX7 102 (o_if 138 105 q_ne) := so_if_ne (off := 36) (by decide +kernel) rfl
theorem t_90_105 : am_ok lw_Ts cX7_join 6 RX7 105 (o_il 107 5) := so_il (Or.inr ⟨rfl, rfl⟩) (by decide +kernel)
theorem t_90_107 : am_ok lw_Ts cX7_join 6 RX7 107 (o_k 109 (vI (-1000000))) := so_ldc wt_906 (by decide +kernel)
theorem t_90_109 : am_ok lw_Ts cX7_join 6 RX7 109 (o_ic 115 112 r_gt) := so_ic_gt (off := 6) (by decide +kernel) rfl
theorem t_90_112 : am_ok lw_Ts cX7_join 6 RX7 112 (o_go 138) := so_go (off := 26) (by decide +kernel) rfl
theorem t_90_115 : am_ok lw_Ts cX7_join 6 RX7 115 (o_al 116 0) := so_al (Or.inl ⟨0, rfl, rfl, rfl⟩) (by decide +kernel)
theorem t_90_116 : am_ok lw_Ts cX7_join 6 RX7 116 (o_gf 119 7 31) := so_gf cl_X7 (by decide) wt_740 (by decide +kernel)
theorem t_90_119 : am_ok lw_Ts cX7_join 6 RX7 119 (o_il 120 1) := so_il (Or.inl ⟨1, rfl, rfl, rfl⟩) (by decide +kernel)
theorem t_90_120 : am_ok lw_Ts cX7_join 6 RX7 120 (o_il 122 4) := so_il (Or.inr ⟨rfl, rfl⟩) (by decide +kernel)
theorem t_90_122 : am_ok lw_Ts cX7_join 6 RX7 122 (o_iw 123) := so_iw (by decide +kernel)
theorem t_90_123 : am_ok lw_Ts cX7_join 6 RX7 123 (o_al 124 0) := so_al (Or.inl ⟨0, rfl, rfl, rfl⟩) (by decide +kernel)
theorem t_90_124 : am_ok lw_Ts cX7_join 6 RX7 124 (o_il 125 1) := so_il (Or.inl ⟨1, rfl, rfl, rfl⟩) (by decide +kernel)
theorem t_90_125 : am_ok lw_Ts cX7_join 6 RX7 125 (o_k 126 (vI (1))) := so_k (by decide +kernel)
theorem t_90_126 : am_ok lw_Ts cX7_join 6 RX7 126 (o_ib 127 f_add) := so_iadd (by decide +kernel)
theorem t_90_127 : am_ok lw_Ts cX7_join 6 RX7 127 (o_il 128 2) := so_il (Or.inl ⟨2, rfl, rfl, rfl⟩) (by decide +kernel)
theorem t_90_128 : am_ok lw_Ts cX7_join 6 RX7 128 (o_il 130 4) := so_il (Or.inr ⟨rfl, rfl⟩) (by decide +kernel)
theorem t_90_130 : am_ok lw_Ts cX7_join 6 RX7 130 (o_ib 131 f_or) := so_ior (by decide +kernel)
theorem t_90_131 : am_ok lw_Ts cX7_join 6 RX7 131 (o_il 132 3) := so_il (Or.inl ⟨3, rfl, rfl, rfl⟩) (by decide +kernel)
theorem t_90_132 : am_ok lw_Ts cX7_join 6 RX7 132 (o_il 134 5) := so_il (Or.inr ⟨rfl, rfl⟩) (by decide +kernel)
theorem t_90_134 : am_ok lw_Ts cX7_join 6 RX7 134 (o_ib 135 f_add) := so_iadd (by decide +kernel)
theorem t_90_135 : am_okc gm_mi gm_mt lw_Ts lw_Ns cX7_join RX7 135 90 4 := ⟨164, cf_90.1, cf_90.2.1, cf_90.2.2.1, cf_90.2.2.2, Or.inr ⟨7, 3, TX7, 37, rfl, rfl, rfl, (by decide +kernel), wt_913, wt_33, wt_911, by decide +kernel⟩⟩
theorem t_90_138 : am_ok lw_Ts cX7_join 6 RX7 138 (o_ii 141 4 (1)) := so_ii (by decide +kernel)
theorem t_90_141 : am_ok lw_Ts cX7_join 6 RX7 141 (o_go 73) := so_go (off := (-68)) (by decide +kernel) rfl
theorem t_90_144 : am_okr cX7_join 144 0 := (show decode cX7_join 144 = .ok (.return_, 1) by decide +kernel)
set_option maxRecDepth 20000 in
theorem ok_90 : am_okL gm_mi gm_mt lw_Ts lw_Ns 90 cd_90 := ⟨t_90_0, t_90_1, t_90_2, t_90_5, t_90_8, t_90_9, t_90_10, t_90_13, t_90_16, t_90_17, t_90_18, t_90_21, t_90_24, t_90_25, t_90_28, t_90_31, t_90_32, t_90_33, t_90_34, t_90_37, t_90_38, t_90_40, t_90_42, t_90_43, t_90_46, t_90_49, t_90_50, t_90_53, t_90_55, t_90_56, t_90_59, t_90_61, t_90_62, t_90_63, t_90_66, t_90_69, t_90_70, t_90_71, t_90_73, t_90_75, t_90_76, t_90_77, t_90_80, t_90_81, t_90_84, t_90_85, t_90_88, t_90_90, t_90_91, t_90_92, t_90_94, t_90_95, t_90_96, t_90_98, t_90_100, t_90_101, t_90_102, t_90_105, t_90_107, t_90_109, t_90_112, t_90_115, t_90_116, t_90_119, t_90_120, t_90_122, t_90_123, t_90_124, t_90_125, t_90_126, t_90_127, t_90_128, t_90_130, t_90_131, t_90_132, t_90_134, t_90_135, t_90_138, t_90_141, t_90_144, trivial⟩
theorem t_91_0 : am_ok lw_Ts cX7_isAhead 5 RX7 0 (o_k 1 (vI (0))) := so_k (by decide +kernel)
theorem t_91_1 : am_ok lw_Ts cX7_isAhead 5 RX7 1 (o_is 2 1) := so_is (Or.inl ⟨1, rfl, rfl, rfl⟩) (by decide +kernel)
theorem t_91_2 : am_ok lw_Ts cX7_isAhead 5 RX7 2 (o_il 3 1) := so_il (Or.inl ⟨1, rfl, rfl, rfl⟩) (by decide +kernel)
theorem t_91_3 : am_ok lw_Ts cX7_isAhead 5 RX7 3 (o_al 4 0) := so_al (Or.inl ⟨0, rfl, rfl, rfl⟩) (by decide +kernel)
theorem t_91_4 : am_ok lw_Ts cX7_isAhead 5 RX7 4 (o_gf 7 7 10) := so_gf cl_X7 (by decide) wt_719 (by decide +kernel)
theorem t_91_7 : am_ok lw_Ts cX7_isAhead 5 RX7 7 (o_ic 162 10 r_ge) := so_ic_ge (off := 155) (by decide +kernel) rfl
theorem t_91_10 : am_ok lw_Ts cX7_isAhead 5 RX7 10 (o_k 11 (vI (0))) := so_k (by decide +kernel)
theorem t_91_11 : am_ok lw_Ts cX7_isAhead 5 RX7 11 (o_is 12 2) := so_is (Or.inl ⟨2, rfl, rfl, rfl⟩) (by decide +kernel)
theorem t_91_12 : am_ok lw_Ts cX7_isAhead 5 RX7 12 (o_il 13 2) := so_il (Or.inl ⟨2, rfl, rfl, rfl⟩) (by decide +kernel)
theorem t_91_13 : am_ok lw_Ts cX7_isAhead 5 RX7 13 (o_al 14 0) := so_al (Or.inl ⟨0, rfl, rfl, rfl⟩) (by decide +kernel)
theorem t_91_14 : am_ok lw_Ts cX7_isAhead 5 RX7 14 (o_gf 17 7 11) := so_gf cl_X7 (by decide) wt_720 (by decide +kernel)
theorem t_91_17 : am_ok lw_Ts cX7_isAhead 5 RX7 17 (o_ic 156 20 r_ge) := so_ic_ge (off := 139) (by decide +kernel) rfl
theorem t_91_20 : am_ok lw_Ts cX7_isAhead 5 RX7 20 (o_k 21 (vI (3))) := so_k (by decide +kernel)
theorem t_91_21 : am_ok lw_Ts cX7_isAhead 5 RX7 21 (o_k 23 (vI (64))) := so_bp rfl (by decide +kernel)
theorem t_91_23 : am_ok lw_Ts cX7_isAhead 5 RX7 23 (o_il 24 1) := so_il (Or.inl ⟨1, rfl, rfl, rfl⟩) (by decide +kernel)
theorem t_91_24 : am_ok lw_Ts cX7_isAhead 5 RX7 24 (o_ib 25 f_mul) := so_imul (by decide +kernel)
theorem t_91_25 : am_ok lw_Ts cX7_isAhead 5 RX7 25 (o_al 26 0) := so_al (Or.inl ⟨0, rfl, rfl, rfl⟩) (by decide +kernel)
theorem t_91_26 : am_ok lw_Ts cX7_isAhead 5 RX7 26 (o_gf 29 7 31) := so_gf cl_X7 (by decide) wt_740 (by decide +kernel)
theorem t_91_29 : am_ok lw_Ts cX7_isAhead 5 RX7 29 (o_il 30 1) := so_il (Or.inl ⟨1, rfl, rfl, rfl⟩) (by decide +kernel)
theorem t_91_30 : am_ok lw_Ts cX7_isAhead 5 RX7 30 (o_ia 31) := so_ia (by decide +kernel)
theorem t_91_31 : am_ok lw_Ts cX7_isAhead 5 RX7 31 (o_ib 32 f_add) := so_iadd (by decide +kernel)
theorem t_91_32 : am_ok lw_Ts cX7_isAhead 5 RX7 32 (o_ib 33 f_mul) := so_imul (by decide +kernel)
theorem t_91_33 : am_ok lw_Ts cX7_isAhead 5 RX7 33 (o_il 34 2) := so_il (Or.inl ⟨2, rfl, rfl, rfl⟩) (by decide +kernel)
theorem t_91_34 : am_ok lw_Ts cX7_isAhead 5 RX7 34 (o_ib 35 f_add) := so_iadd (by decide +kernel)
theorem t_91_35 : am_ok lw_Ts cX7_isAhead 5 RX7 35 (o_is 36 3) := so_is (Or.inl ⟨3, rfl, rfl, rfl⟩) (by decide +kernel)
theorem t_91_36 : am_ok lw_Ts cX7_isAhead 5 RX7 36 (o_k 37 (vI (3))) := so_k (by decide +kernel)
theorem t_91_37 : am_ok lw_Ts cX7_isAhead 5 RX7 37 (o_k 39 (vI (64))) := so_bp rfl (by decide +kernel)
theorem t_91_39 : am_ok lw_Ts cX7_isAhead 5 RX7 39 (o_il 40 1) := so_il (Or.inl ⟨1, rfl, rfl, rfl⟩) (by decide +kernel)
theorem t_91_40 : am_ok lw_Ts cX7_isAhead 5 RX7 40 (o_ib 41 f_mul) := so_imul (by decide +kernel)
theorem t_91_41 : am_ok lw_Ts cX7_isAhead 5 RX7 41 (o_al 42 0) := so_al (Or.inl ⟨0, rfl, rfl, rfl⟩) (by decide +kernel)
theorem t_91_42 : am_ok lw_Ts cX7_isAhead 5 RX7 42 (o_gf 45 7 32) := so_gf cl_X7 (by decide) wt_741 (by decide +kernel)
theorem t_91_45 : am_ok lw_Ts cX7_isAhead 5 RX7 45 (o_il 46 1) := so_il (Or.inl ⟨1, rfl, rfl, rfl⟩) (by decide +kernel)
theorem t_91_46 : am_ok lw_Ts cX7_isAhead 5 RX7 46 (o_ia 47) := so_ia (by decide +kernel)
theorem t_91_47 : am_ok lw_Ts cX7_isAhead 5 RX7 47 (o_ib 48 f_add) := so_iadd (by decide +kernel)
theorem t_91_48 : am_ok lw_Ts cX7_isAhead 5 RX7 48 (o_ib 49 f_mul) := so_imul (by decide +kernel)
theorem t_91_49 : am_ok lw_Ts cX7_isAhead 5 RX7 49 (o_il 50 2) := so_il (Or.inl ⟨2, rfl, rfl, rfl⟩) (by decide +kernel)
theorem t_91_50 : am_ok lw_Ts cX7_isAhead 5 RX7 50 (o_ib 51 f_add) := so_iadd (by decide +kernel)
theorem t_91_51 : am_ok lw_Ts cX7_isAhead 5 RX7 51 (o_is 53 4) := so_is (Or.inr ⟨rfl, rfl⟩) (by decide +kernel)
theorem t_91_53 : am_ok lw_Ts cX7_isAhead 5 RX7 53 (o_al 54 0) := so_al (Or.inl ⟨0, rfl, rfl, rfl⟩) (by decide +kernel)
theorem t_91_54 : am_ok lw_Ts cX7_isAhead 5 RX7 54 (o_gf 57 7 29) := so_gf cl_X7 (by decide) wt_738 (by decide +kernel)
theorem t_91_57 : am_ok lw_Ts cX7_isAhead 5 RX7 57 (o_il 58 3) := so_il (Or.inl ⟨3, rfl, rfl, rfl⟩) (by decide +kernel)
theorem t_91_58 : am_ok lw_Ts cX7_isAhead 5 RX7 58 (o_ia 59) := so_ia (by decide +kernel)
theorem t_91_59 : am_ok lw_Ts cX7_isAhead 5 RX7 59 (o_al 60 0) := so_al (Or.inl ⟨0, rfl, rfl, rfl⟩) (by decide +kernel)
theorem t_91_60 : am_ok lw_Ts cX7_isAhead 5 RX7 60 (o_gf 63 7 29) := so_gf cl_X7 (by decide) wt_738 (by decide +kernel)
theorem t_91_63 : am_ok lw_Ts cX7_isAhead 5 RX7 63 (o_il 65 4) := so_il (Or.inr ⟨rfl, rfl⟩) (by decide +kernel)
theorem t_91_65 : am_ok lw_Ts cX7_isAhead 5 RX7 65 (o_ia 66) := so_ia (by decide +kernel)
theorem t_91_66 : am_ok lw_Ts cX7_isAhead 5 RX7 66 (o_ic 112 69 r_eq) := so_ic_eq (off := 46) (by decide +kernel) rfl
theorem t_91_69 : am_ok lw_Ts cX7_isAhead 5 RX7 69 (o_al 70 0) := so_al (Or.inl ⟨0, rfl, rfl, rfl⟩) (by decide +kernel)
theorem t_91_70 : am_ok lw_Ts cX7_isAhead 5 RX7 70 (o_gf 73 7 29) := so_gf cl_X7 (by decide) wt_738 (by decide +kernel)
theorem t_91_73 : am_ok lw_Ts cX7_isAhead 5 RX7 73 (o_il 75 4) := so_il (Or.inr ⟨rfl, rfl⟩) (by decide +kernel)
theorem t_91_75 : am_ok lw_Ts cX7_isAhead 5 RX7 75 (o_ia 76) := so_ia (by decide +kernel)
theorem t_91_76 : am_ok lw_Ts cX7_isAhead 5 RX7 76 (o_k 77 (vI (-1))) := so_k (by decide +kernel)
theorem t_91_77 : am_ok lw_Ts cX7_isAhead 5 RX7 77 (o_ic 106 80 r_eq) := so_ic_eq (off := 29) (by decide +kernel) rfl
theorem t_91_80 : am_ok lw_Ts cX7_isAhead 5 RX7 80 (o_al 81 0) := so_al (Or.inl ⟨0, rfl, rfl, rfl⟩) (by decide +kernel)
theorem t_91_81 : am_ok lw_Ts cX7_isAhead 5 RX7 81 (o_gf 84 7 29) := so_gf cl_X7 (by decide) wt_738 (by decide +kernel)
theorem t_91_84 : am_ok lw_Ts cX7_isAhead 5 RX7 84 (o_il 85 3) := so_il (Or.inl ⟨3, rfl, rfl, rfl⟩) (by decide +kernel)
theorem t_91_85 : am_ok lw_Ts cX7_isAhead 5 RX7 85 (o_ia 86) := so_ia (by decide +kernel)
theorem t_91_86 : am_ok lw_Ts cX7_isAhead 5 RX7 86 (o_k 87 (vI (-1))) := so_k (by decide +kernel)
theorem t_91_87 : am_ok lw_Ts cX7_isAhead 5 RX7 87 (o_ic 110 90 r_eq) := so_ic_eq (off := 23) (by decide +kernel) rfl
theorem t_91_90 : am_ok lw_Ts cX7_isAhead 5 RX7 90 (o_al 91 0) := so_al (Or.inl ⟨0, rfl, rfl, rfl⟩) (by decide +kernel)
theorem t_91_91 : am_ok lw_Ts cX7_isAhead 5 RX7 91 (o_gf 94 7 29) := so_gf cl_X7 (by decide) wt_738 (by decide +kernel)
theorem t_91_94 : am_ok lw_Ts cX7_isAhead 5 RX7 94 (o_il 95 3) := so_il (Or.inl ⟨3, rfl, rfl, rfl⟩) (by decide +kernel)
theorem t_91_95 : am_ok lw_Ts cX7_isAhead 5 RX7 95 (o_ia 96) := so_ia (by decide +kernel)
theorem t_91_96 : am_ok lw_Ts cX7_isAhead 5 RX7 96 (o_al 97 0) := so_al (Or.inl ⟨0, rfl, rfl, rfl⟩) (by decide +kernel)
theorem t_91_97 : am_ok lw_Ts cX7_isAhead 5 RX7 97 (o_gf 100 7 29) := so_gf cl_X7 (by decide) wt_738 (by decide +kernel)
theorem t_91_100 : am_ok lw_Ts cX7_isAhead 5 RX7 100 (o_il 102 4) := so_il (Or.inr ⟨rfl, rfl⟩) (by decide +kernel)
theorem t_91_102 : am_ok lw_Ts cX7_isAhead 5 RX7 102 (o_ia 103) := so_ia (by decide +kernel)
theorem t_91_103 : am_ok lw_Ts cX7_isAhead 5 RX7 103 (o_ic 110 106 r_ge) := so_ic_ge (off := 7) (by decide +kernel) rfl
theorem t_91_106 : am_ok lw_Ts cX7_isAhead 5 RX7 106 (o_k 107 (vI (1))) := so_k (by decide +kernel)
theorem t_91_107 : am_ok lw_Ts cX7_isAhead 5 RX7 107 (o_go 111) := so_go (off := 4) (by decide +kernel) rfl
theorem t_91_110 : am_ok lw_Ts cX7_isAhead 5 RX7 110 (o_k 111 (vI (0))) := so_k (by decide +kernel)
theorem t_91_111 : am_okr cX7_isAhead 111 2 := (show decode cX7_isAhead 111 = .ok (.ireturn, 1) by decide +kernel)
theorem t_91_112 : am_ok lw_Ts cX7_isAhead 5 RX7 112 (o_al 113 0) := so_al (Or.inl ⟨0, rfl, rfl, rfl⟩) (by decide +kernel)
theorem t_91_113 : am_ok lw_Ts cX7_isAhead 5 RX7 113 (o_gf 116 7 30) := so_gf cl_X7 (by decide) wt_739 (by decide +kernel)
theorem t_91_116 : am_ok lw_Ts cX7_isAhead 5 RX7 116 (o_il 117 3) := so_il (Or.inl ⟨3, rfl, rfl, rfl⟩) (by decide +kernel)
theorem t_91_117 : am_ok lw_Ts cX7_isAhead 5 RX7 117 (o_ia 118) := so_ia (by decide +kernel)
theorem t_91_118 : am_ok lw_Ts cX7_isAhead 5 RX7 118 (o_al 119 0) := so_al (Or.inl ⟨0, rfl, rfl, rfl⟩) (by decide +kernel)
theorem t_91_119 : am_ok lw_Ts cX7_isAhead 5 RX7 119 (o_gf 122 7 30) := so_gf cl_X7 (by decide) wt_739 (by decide +kernel)
theorem t_91_122 : am_ok lw_Ts cX7_isAhead 5 RX7 122 (o_il 124 4) := so_il (Or.inr ⟨rfl, rfl⟩) (by decide +kernel)
theorem t_91_124 : am_ok lw_Ts cX7_isAhead 5 RX7 124 (o_ia 125) := so_ia (by decide +kernel)
theorem t_91_125 : am_ok lw_Ts cX7_isAhead 5 RX7 125 (o_ic 150 128 r_eq) := so_ic_eq (off := 25) (by decide +kernel) rfl
theorem t_91_128 : am_ok lw_Ts cX7_isAhead 5 RX7 128 (o_al 129 0) := so_al (Or.inl ⟨0, rfl, rfl, rfl⟩) (by decide +kernel)
theorem t_91_129 : am_ok lw_Ts cX7_isAhead 5 RX7 129 (o_gf 132 7 30) := so_gf cl_X7 (by decide) wt_739 (by decide +kernel)
theorem t_91_132 : am_ok lw_Ts cX7_isAhead 5 RX7 132 (o_il 133 3) := so_il (Or.inl ⟨3, rfl, rfl, rfl⟩) (by decide +kernel)
theorem t_91_133 : am_ok lw_Ts cX7_isAhead 5 RX7 133 (o_ia 134) := so_ia (by decide +kernel)
theorem t_91_134 : am_ok lw_Ts cX7_isAhead 5 RX7 134 (o_al 135 0) := so_al (Or.inl ⟨0, rfl, rfl, rfl⟩) (by decide +kernel)
theorem t_91_135 : am_ok lw_Ts cX7_isAhead 5 RX7 135 (o_gf 138 7 30) := so_gf cl_X7 (by decide) wt_739 (by decide +kernel)
theorem t_91_138 : am_ok lw_Ts cX7_isAhead 5 RX7 138 (o_il 140 4) := so_il (Or.inr ⟨rfl, rfl⟩) (by decide +kernel)
theorem t_91_140 : am_ok lw_Ts cX7_isAhead 5 RX7 140 (o_ia 141) := so_ia (by decide +kernel)
theorem t_91_141 : am_ok lw_Ts cX7_isAhead 5 RX7 141 (o_ic 148 144 r_ge) := so_ic_ge (off := 7) (by decide +kernel) rfl
theorem t_91_144 : am_ok lw_Ts cX7_isAhead 5 RX7 144 (o_k 145 (vI (1))) := so_k (by decide +kernel)
theorem t_91_145 : am_ok lw_Ts cX7_isAhead 5 RX7 145 (o_go 149) := so_go (off := 4) (by decide +kernel) rfl
theorem t_91_148 : am_ok lw_Ts cX7_isAhead 5 RX7 148 (o_k 149 (vI (0))) := so_k (by decide +kernel)
theorem t_91_149 : am_okr cX7_isAhead 149 2 := (show decode cX7_isAhead 149 = .ok (.ireturn, 1) by decide +kernel)
theorem t_91_150 : am_ok lw_Ts cX7_isAhead 5 RX7 150 (o_ii 153 2 (1)) := so_ii (by decide +kernel)
theorem t_91_153 : am_ok lw_Ts cX7_isAhead 5 RX7 153 (o_go 12) := so_go (off := (-141)) (by decide +kernel) rfl
theorem t_91_156 : am_ok lw_Ts cX7_isAhead 5 RX7 156 (o_ii 159 1 (1)) := so_ii (by decide +kernel)
theorem t_91_159 : am_ok lw_Ts cX7_isAhead 5 RX7 159 (o_go 2) := so_go (off := (-157)) (by decide +kernel) rfl
theorem t_91_162 : am_ok lw_Ts cX7_isAhead 5 RX7 162 (o_k 163 (vI (0))) := so_k (by decide +kernel)
theorem t_91_163 : am_okr cX7_isAhead 163 2 := (show decode cX7_isAhead 163 = .ok (.ireturn, 1) by decide +kernel)
set_option maxRecDepth 20000 in
theorem ok_91 : am_okL gm_mi gm_mt lw_Ts lw_Ns 91 cd_91 := ⟨t_91_0, t_91_1, t_91_2, t_91_3, t_91_4, t_91_7, t_91_10, t_91_11, t_91_12, t_91_13, t_91_14, t_91_17, t_91_20, t_91_21, t_91_23, t_91_24, t_91_25, t_91_26, t_91_29, t_91_30, t_91_31, t_91_32, t_91_33, t_91_34, t_91_35, t_91_36, t_91_37, t_91_39, t_91_40, t_91_41, t_91_42, t_91_45, t_91_46, t_91_47, t_91_48, t_91_49, t_91_50, t_91_51, t_91_53, t_91_54, t_91_57, t_91_58, t_91_59, t_91_60, t_91_63, t_91_65, t_91_66, t_91_69, t_91_70, t_91_73, t_91_75, t_91_76, t_91_77, t_91_80, t_91_81, t_91_84, t_91_85, t_91_86, t_91_87, t_91_90, t_91_91, t_91_94, t_91_95, t_91_96, t_91_97, t_91_100, t_91_102, t_91_103, t_91_106, t_91_107, t_91_110, t_91_111, t_91_112, t_91_113, t_91_116, t_91_117, t_91_118, t_91_119, t_91_122, t_91_124, t_91_125, t_91_128, t_91_129, t_91_132, t_91_133, t_91_134, t_91_135, t_91_138, t_91_140, t_91_141, t_91_144, t_91_145, t_91_148, t_91_149, t_91_150, t_91_153, t_91_156, t_91_159, t_91_162, t_91_163, trivial⟩
theorem t_92_0 : am_ok lw_Ts cX7_search 4 RX7 0 (o_k 1 (vI (0))) := so_k (by decide +kernel)
theorem t_92_1 : am_ok lw_Ts cX7_search 4 RX7 1 (o_is 2 2) := so_is (Or.inl ⟨2, rfl, rfl, rfl⟩) (by decide +kernel)
theorem t_92_2 : am_ok lw_Ts cX7_search 4 RX7 2 (o_il 3 2) := so_il (Or.inl ⟨2, rfl, rfl, rfl⟩) (by decide +kernel)
theorem t_92_3 : am_ok lw_Ts cX7_search 4 RX7 3 (o_k 5 (vI (6))) := so_bp rfl (by decide +kernel)
theorem t_92_5 : am_ok lw_Ts cX7_search 4 RX7 5 (o_ic 38 8 r_ge) := so_ic_ge (off := 33) (by decide +kernel) rfl
theorem t_92_8 : am_ok lw_Ts cX7_search 4 RX7 8 (o_al 9 0) := so_al (Or.inl ⟨0, rfl, rfl, rfl⟩) (by decide +kernel)
theorem t_92_9 : am_ok lw_Ts cX7_search 4 RX7 9 (o_gf 12 7 26) := so_gf cl_X7 (by decide) wt_735 (by decide +kernel)
theorem t_92_12 : am_ok lw_Ts cX7_search 4 RX7 12 (o_il 13 2) := so_il (Or.inl ⟨2, rfl, rfl, rfl⟩) (by decide +kernel)
theorem t_92_13 : am_ok lw_Ts cX7_search 4 RX7 13 (o_al 14 0) := so_al (Or.inl ⟨0, rfl, rfl, rfl⟩) (by decide +kernel)
theorem t_92_14 : am_ok lw_Ts cX7_search 4 RX7 14 (o_gf 17 7 12) := so_gf cl_X7 (by decide) wt_721 (by decide +kernel)
theorem t_92_17 : am_ok lw_Ts cX7_search 4 RX7 17 (o_il 18 2) := so_il (Or.inl ⟨2, rfl, rfl, rfl⟩) (by decide +kernel)
theorem t_92_18 : am_ok lw_Ts cX7_search 4 RX7 18 (o_ia 19) := so_ia (by decide +kernel)
theorem t_92_19 : am_ok lw_Ts cX7_search 4 RX7 19 (o_iw 20) := so_iw (by decide +kernel)
theorem t_92_20 : am_ok lw_Ts cX7_search 4 RX7 20 (o_al 21 0) := so_al (Or.inl ⟨0, rfl, rfl, rfl⟩) (by decide +kernel)
theorem t_92_21 : am_ok lw_Ts cX7_search 4 RX7 21 (o_gf 24 7 27) := so_gf cl_X7 (by decide) wt_736 (by decide +kernel)
theorem t_92_24 : am_ok lw_Ts cX7_search 4 RX7 24 (o_il 25 2) := so_il (Or.inl ⟨2, rfl, rfl, rfl⟩) (by decide +kernel)
theorem t_92_25 : am_ok lw_Ts cX7_search 4 RX7 25 (o_al 26 0) := so_al (Or.inl ⟨0, rfl, rfl, rfl⟩) (by decide +kernel)
theorem t_92_26 : am_ok lw_Ts cX7_search 4 RX7 26 (o_gf 29 7 13) := so_gf cl_X7 (by decide) wt_722 (by decide +kernel)
theorem t_92_29 : am_ok lw_Ts cX7_search 4 RX7 29 (o_il 30 2) := so_il (Or.inl ⟨2, rfl, rfl, rfl⟩) (by decide +kernel)
theorem t_92_30 : am_ok lw_Ts cX7_search 4 RX7 30 (o_ia 31) := so_ia (by decide +kernel)
theorem t_92_31 : am_ok lw_Ts cX7_search 4 RX7 31 (o_iw 32) := so_iw (by decide +kernel)
theorem t_92_32 : am_ok lw_Ts cX7_search 4 RX7 32 (o_ii 35 2 (1)) := so_ii (by decide +kernel)
theorem t_92_35 : am_ok lw_Ts cX7_search 4 RX7 35 (o_go 2) := so_go (off := (-33)) (by decide +kernel) rfl
theorem t_92_38 : am_ok lw_Ts cX7_search 4 RX7 38 (o_k 39 (vI (0))) := so_k (by decide +kernel)
theorem t_92_39 : am_ok lw_Ts cX7_search 4 RX7 39 (o_is 40 2) := so_is (Or.inl ⟨2, rfl, rfl, rfl⟩) (by decide +kernel)
theorem t_92_40 : am_ok lw_Ts cX7_search 4 RX7 40 (o_il 41 2) := so_il (Or.inl ⟨2, rfl, rfl, rfl⟩) (by decide +kernel)
theorem t_92_41 : am_ok lw_Ts cX7_search 4 RX7 41 (o_k 44 (vI (192))) := so_sp rfl (by decide +kernel)
theorem t_92_44 : am_ok lw_Ts cX7_search 4 RX7 44 (o_ic 61 47 r_ge) := so_ic_ge (off := 17) (by decide +kernel) rfl
theorem t_92_47 : am_ok lw_Ts cX7_search 4 RX7 47 (o_al 48 0) := so_al (Or.inl ⟨0, rfl, rfl, rfl⟩) (by decide +kernel)
theorem t_92_48 : am_ok lw_Ts cX7_search 4 RX7 48 (o_gf 51 7 28) := so_gf cl_X7 (by decide) wt_737 (by decide +kernel)
theorem t_92_51 : am_ok lw_Ts cX7_search 4 RX7 51 (o_il 52 2) := so_il (Or.inl ⟨2, rfl, rfl, rfl⟩) (by decide +kernel)
theorem t_92_52 : am_ok lw_Ts cX7_search 4 RX7 52 (o_k 54 (vI (-1000000))) := so_ldc wt_906 (by decide +kernel)
theorem t_92_54 : am_ok lw_Ts cX7_search 4 RX7 54 (o_iw 55) := so_iw (by decide +kernel)
theorem t_92_55 : am_ok lw_Ts cX7_search 4 RX7 55 (o_ii 58 2 (1)) := so_ii (by decide +kernel)
theorem t_92_58 : am_ok lw_Ts cX7_search 4 RX7 58 (o_go 40) := so_go (off := (-18)) (by decide +kernel) rfl
theorem t_92_61 : am_ok lw_Ts cX7_search 4 RX7 61 (o_k 62 (vI (0))) := so_k (by decide +kernel)
theorem t_92_62 : am_ok lw_Ts cX7_search 4 RX7 62 (o_is 63 2) := so_is (Or.inl ⟨2, rfl, rfl, rfl⟩) (by decide +kernel)
theorem t_92_63 : am_ok lw_Ts cX7_search 4 RX7 63 (o_il 64 2) := so_il (Or.inl ⟨2, rfl, rfl, rfl⟩) (by decide +kernel)
theorem t_92_64 : am_ok lw_Ts cX7_search 4 RX7 64 (o_al 65 0) := so_al (Or.inl ⟨0, rfl, rfl, rfl⟩) (by decide +kernel)
theorem t_92_65 : am_ok lw_Ts cX7_search 4 RX7 65 (o_gf 68 7 10) := so_gf cl_X7 (by decide) wt_719 (by decide +kernel)
theorem t_92_68 : am_ok lw_Ts cX7_search 4 RX7 68 (o_ic 86 71 r_ge) := so_ic_ge (off := 18) (by decide +kernel) rfl
theorem t_92_71 : am_ok lw_Ts cX7_search 4 RX7 71 (o_al 72 0) := so_al (Or.inl ⟨0, rfl, rfl, rfl⟩) (by decide +kernel)
theorem t_92_72 : am_ok lw_Ts cX7_search 4 RX7 72 (o_il 73 2) := so_il (Or.inl ⟨2, rfl, rfl, rfl⟩) (by decide +kernel)
theorem t_92_73 : am_ok lw_Ts cX7_search 4 RX7 73 (o_k 74 (vI (0))) := so_k (by decide +kernel)
theorem t_92_74 : am_ok lw_Ts cX7_search 4 RX7 74 (o_k 75 (vI (0))) := so_k (by decide +kernel)
theorem t_92_75 : am_ok lw_Ts cX7_search 4 RX7 75 (o_k 76 (vI (0))) := so_k (by decide +kernel)
theorem t_92_76 : am_ok lw_Ts cX7_search 4 RX7 76 (o_il 77 1) := so_il (Or.inl ⟨1, rfl, rfl, rfl⟩) (by decide +kernel)
theorem t_92_77 : am_okc gm_mi gm_mt lw_Ts lw_Ns cX7_search RX7 77 89 6 := ⟨152, cf_89.1, cf_89.2.1, cf_89.2.2.1, cf_89.2.2.2, Or.inr ⟨7, 5, TX7, 37, rfl, rfl, rfl, (by decide +kernel), wt_909, wt_32, wt_907, by decide +kernel⟩⟩
theorem t_92_80 : am_ok lw_Ts cX7_search 4 RX7 80 (o_ii 83 2 (1)) := so_ii (by decide +kernel)
theorem t_92_83 : am_ok lw_Ts cX7_search 4 RX7 83 (o_go 63) := so_go (off := (-20)) (by decide +kernel) rfl
theorem t_92_86 : am_ok lw_Ts cX7_search 4 RX7 86 (o_al 87 0) := so_al (Or.inl ⟨0, rfl, rfl, rfl⟩) (by decide +kernel)
theorem t_92_87 : am_ok lw_Ts cX7_search 4 RX7 87 (o_k 89 (vI (-1000000))) := so_ldc wt_906 (by decide +kernel)
theorem t_92_89 : am_ok lw_Ts cX7_search 4 RX7 89 (o_pf 92 7 33) := so_pf cl_X7 tyX7_ok nmX7 (by decide) rfl rfl wt_742 (by decide +kernel)
theorem t_92_92 : am_ok lw_Ts cX7_search 4 RX7 92 (o_al 93 0) := so_al (Or.inl ⟨0, rfl, rfl, rfl⟩) (by decide +kernel)
theorem t_92_93 : am_ok lw_Ts cX7_search 4 RX7 93 (o_k 94 (vI (0))) := so_k (by decide +kernel)
theorem t_92_94 : am_ok lw_Ts cX7_search 4 RX7 94 (o_k 95 (vI (0))) := so_k (by decide +kernel)
theorem t_92_95 : am_ok lw_Ts cX7_search 4 RX7 95 (o_k 96 (vI (0))) := so_k (by decide +kernel)
theorem t_92_96 : am_okc gm_mi gm_mt lw_Ts lw_Ns cX7_search RX7 96 90 4 := ⟨164, cf_90.1, cf_90.2.1, cf_90.2.2.1, cf_90.2.2.2, Or.inr ⟨7, 3, TX7, 37, rfl, rfl, rfl, (by decide +kernel), wt_913, wt_33, wt_911, by decide +kernel⟩⟩
theorem t_92_99 : am_ok lw_Ts cX7_search 4 RX7 99 (o_k 100 (vI (0))) := so_k (by decide +kernel)
theorem t_92_100 : am_ok lw_Ts cX7_search 4 RX7 100 (o_is 101 2) := so_is (Or.inl ⟨2, rfl, rfl, rfl⟩) (by decide +kernel)
theorem t_92_101 : am_ok lw_Ts cX7_search 4 RX7 101 (o_il 102 2) := so_il (Or.inl ⟨2, rfl, rfl, rfl⟩) (by decide +kernel)
theorem t_92_102 : am_ok lw_Ts cX7_search 4 RX7 102 (o_al 103 0) := so_al (Or.inl ⟨0, rfl, rfl, rfl⟩) (by decide +kernel)
theorem t_92_103 : am_okc gm_mi gm_mt lw_Ts lw_Ns cX7_search RX7 103 83 1 := ⟨138, cf_83.1, cf_83.2.1, cf_83.2.2.1, cf_83.2.2.2, Or.inr ⟨7, 0, TX7, 37, rfl, rfl, rfl, (by decide +kernel), wt_880, wt_29, wt_878, by decide +kernel⟩⟩
theorem t_92_106 : am_ok lw_Ts cX7_search 4 RX7 106 (o_ic 170 109 r_ge) := so_ic_ge (off := 64) (by decide +kernel) rfl
theorem t_92_109 : am_ok lw_Ts cX7_search 4 RX7 109 (o_k 110 (vI (3))) := so_k (by decide +kernel)
theorem t_92_110 : am_ok lw_Ts cX7_search 4 RX7 110 (o_k 112 (vI (64))) := so_bp rfl (by decide +kernel)
theorem t_92_112 : am_ok lw_Ts cX7_search 4 RX7 112 (o_il 113 2) := so_il (Or.inl ⟨2, rfl, rfl, rfl⟩) (by decide +kernel)
theorem t_92_113 : am_ok lw_Ts cX7_search 4 RX7 113 (o_al 114 0) := so_al (Or.inl ⟨0, rfl, rfl, rfl⟩) (by decide +kernel)
theorem t_92_114 : am_ok lw_Ts cX7_search 4 RX7 114 (o_gf 117 7 11) := so_gf cl_X7 (by decide) wt_720 (by decide +kernel)
theorem t_92_117 : am_ok lw_Ts cX7_search 4 RX7 117 (o_id 118 f_div) := so_idiv (by decide +kernel)
theorem t_92_118 : am_ok lw_Ts cX7_search 4 RX7 118 (o_ib 119 f_mul) := so_imul (by decide +kernel)
theorem t_92_119 : am_ok lw_Ts cX7_search 4 RX7 119 (o_al 120 0) := so_al (Or.inl ⟨0, rfl, rfl, rfl⟩) (by decide +kernel)
theorem t_92_120 : am_ok lw_Ts cX7_search 4 RX7 120 (o_gf 123 7 32) := so_gf cl_X7 (by decide) wt_741 (by decide +kernel)
theorem t_92_123 : am_ok lw_Ts cX7_search 4 RX7 123 (o_il 124 2) := so_il (Or.inl ⟨2, rfl, rfl, rfl⟩) (by decide +kernel)
theorem t_92_124 : am_ok lw_Ts cX7_search 4 RX7 124 (o_al 125 0) := so_al (Or.inl ⟨0, rfl, rfl, rfl⟩) (by decide +kernel)
theorem t_92_125 : am_ok lw_Ts cX7_search 4 RX7 125 (o_gf 128 7 11) := so_gf cl_X7 (by decide) wt_720 (by decide +kernel)
theorem t_92_128 : am_ok lw_Ts cX7_search 4 RX7 128 (o_id 129 f_div) := so_idiv (by decide +kernel)
theorem t_92_129 : am_ok lw_Ts cX7_search 4 RX7 129 (o_ia 130) := so_ia (by decide +kernel)
theorem t_92_130 : am_ok lw_Ts cX7_search 4 RX7 130 (o_ib 131 f_add) := so_iadd (by decide +kernel)
theorem t_92_131 : am_ok lw_Ts cX7_search 4 RX7 131 (o_ib 132 f_mul) := so_imul (by decide +kernel)
theorem t_92_132 : am_ok lw_Ts cX7_search 4 RX7 132 (o_il 133 2) := so_il (Or.inl ⟨2, rfl, rfl, rfl⟩) (by decide +kernel)
theorem t_92_133 : am_ok lw_Ts cX7_search 4 RX7 133 (o_al 134 0) := so_al (Or.inl ⟨0, rfl, rfl, rfl⟩) (by decide +kernel)
theorem t_92_134 : am_ok lw_Ts cX7_search 4 RX7 134 (o_gf 137 7 11) := so_gf cl_X7 (by decide) wt_720 (by decide +kernel)
theorem t_92_137 : am_ok lw_Ts cX7_search 4 RX7 137 (o_id 138 f_rem) := so_irem (by decide +kernel)
theorem t_92_138 : am_ok lw_Ts cX7_search 4 RX7 138 (o_ib 139 f_add) := so_iadd (by decide +kernel)
theorem t_92_139 : am_ok lw_Ts cX7_search 4 RX7 139 (o_is 140 3) := so_is (Or.inl ⟨3, rfl, rfl, rfl⟩) (by decide +kernel)
theorem t_92_140 : am_ok lw_Ts cX7_search 4 RX7 140 (o_al 141 0) := so_al (Or.inl ⟨0, rfl, rfl, rfl⟩) (by decide +kernel)
theorem t_92_141 : am_ok lw_Ts cX7_search 4 RX7 141 (o_gf 144 7 12) := so_gf cl_X7 (by decide) wt_721 (by decide +kernel)
theorem t_92_144 : am_ok lw_Ts cX7_search 4 RX7 144 (o_il 145 2) := so_il (Or.inl ⟨2, rfl, rfl, rfl⟩) (by decide +kernel)
theorem t_92_145 : am_ok lw_Ts cX7_search 4 RX7 145 (o_al 146 0) := so_al (Or.inl ⟨0, rfl, rfl, rfl⟩) (by decide +kernel)
theorem t_92_146 : am_ok lw_Ts cX7_search 4 RX7 146 (o_gf 149 7 29) := so_gf cl_X7 (by decide) wt_738 (by decide +kernel)
theorem t_92_149 : am_ok lw_Ts cX7_search 4 RX7 149 (o_il 150 3) := so_il (Or.inl ⟨3, rfl, rfl, rfl⟩) (by decide +kernel)
theorem t_92_150 : am_ok lw_Ts cX7_search 4 RX7 150 (o_ia 151) := so_ia (by decide +kernel)
theorem t_92_151 : am_ok lw_Ts cX7_search 4 RX7 151 (o_iw 152) := so_iw (by decide +kernel)
theorem t_92_152 : am_ok lw_Ts cX7_search 4 RX7 152 (o_al 153 0) := so_al (Or.inl ⟨0, rfl, rfl, rfl⟩) (by decide +kernel)
theorem t_92_153 : am_ok lw_Ts cX7_search 4 RX7 153 (o_gf 156 7 13) := so_gf cl_X7 (by decide) wt_722 (by decide +kernel)
theorem t_92_156 : am_ok lw_Ts cX7_search 4 RX7 156 (o_il 157 2) := so_il (Or.inl ⟨2, rfl, rfl, rfl⟩) (by decide +kernel)
theorem t_92_157 : am_ok lw_Ts cX7_search 4 RX7 157 (o_al 158 0) := so_al (Or.inl ⟨0, rfl, rfl, rfl⟩) (by decide +kernel)
theorem t_92_158 : am_ok lw_Ts cX7_search 4 RX7 158 (o_gf 161 7 30) := so_gf cl_X7 (by decide) wt_739 (by decide +kernel)
theorem t_92_161 : am_ok lw_Ts cX7_search 4 RX7 161 (o_il 162 3) := so_il (Or.inl ⟨3, rfl, rfl, rfl⟩) (by decide +kernel)
theorem t_92_162 : am_ok lw_Ts cX7_search 4 RX7 162 (o_ia 163) := so_ia (by decide +kernel)
theorem t_92_163 : am_ok lw_Ts cX7_search 4 RX7 163 (o_iw 164) := so_iw (by decide +kernel)
theorem t_92_164 : am_ok lw_Ts cX7_search 4 RX7 164 (o_ii 167 2 (1)) := so_ii (by decide +kernel)
theorem t_92_167 : am_ok lw_Ts cX7_search 4 RX7 167 (o_go 101) := so_go (off := (-66)) (by decide +kernel) rfl
theorem t_92_170 : am_okr cX7_search 170 0 := (show decode cX7_search 170 = .ok (.return_, 1) by decide +kernel)
set_option maxRecDepth 20000 in
theorem ok_92 : am_okL gm_mi gm_mt lw_Ts lw_Ns 92 cd_92 := ⟨t_92_0, t_92_1, t_92_2, t_92_3, t_92_5, t_92_8, t_92_9, t_92_12, t_92_13, t_92_14, t_92_17, t_92_18, t_92_19, t_92_20, t_92_21, t_92_24, t_92_25, t_92_26, t_92_29, t_92_30, t_92_31, t_92_32, t_92_35, t_92_38, t_92_39, t_92_40, t_92_41, t_92_44, t_92_47, t_92_48, t_92_51, t_92_52, t_92_54, t_92_55, t_92_58, t_92_61, t_92_62, t_92_63, t_92_64, t_92_65, t_92_68, t_92_71, t_92_72, t_92_73, t_92_74, t_92_75, t_92_76, t_92_77, t_92_80, t_92_83, t_92_86, t_92_87, t_92_89, t_92_92, t_92_93, t_92_94, t_92_95, t_92_96, t_92_99, t_92_100, t_92_101, t_92_102, t_92_103, t_92_106, t_92_109, t_92_110, t_92_112, t_92_113, t_92_114, t_92_117, t_92_118, t_92_119, t_92_120, t_92_123, t_92_124, t_92_125, t_92_128, t_92_129, t_92_130, t_92_131, t_92_132, t_92_133, t_92_134, t_92_137, t_92_138, t_92_139, t_92_140, t_92_141, t_92_144, t_92_145, t_92_146, t_92_149, t_92_150, t_92_151, t_92_152, t_92_153, t_92_156, t_92_157, t_92_158, t_92_161, t_92_162, t_92_163, t_92_164, t_92_167, t_92_170, trivial⟩
theorem t_93_0 : am_ok lw_Ts cX7_best 1 RX7 0 (o_al 1 0) := so_al (Or.inl ⟨0, rfl, rfl, rfl⟩) (by decide +kernel)
theorem t_93_1 : am_ok lw_Ts cX7_best 1 RX7 1 (o_k 2 (vI (0))) := so_k (by decide +kernel)
theorem t_93_2 : am_ok lw_Ts cX7_best 1 RX7 2 (o_pf 5 7 25) := so_pf cl_X7 tyX7_ok nmX7 (by decide) rfl rfl wt_734 (by decide +kernel)
theorem t_93_5 : am_ok lw_Ts cX7_best 1 RX7 5 (o_al 6 0) := so_al (Or.inl ⟨0, rfl, rfl, rfl⟩) (by decide +kernel)
theorem t_93_6 : am_ok lw_Ts cX7_best 1 RX7 6 (o_k 7 (vI (0))) := so_k (by decide +kernel)
theorem t_93_7 : am_okc gm_mi gm_mt lw_Ts lw_Ns cX7_best RX7 7 92 2 := ⟨168, cf_92.1, cf_92.2.1, cf_92.2.2.1, cf_92.2.2.2, Or.inr ⟨7, 1, TX7, 37, rfl, rfl, rfl, (by decide +kernel), wt_904, wt_31, wt_902, by decide +kernel⟩⟩
theorem t_93_10 : am_ok lw_Ts cX7_best 1 RX7 10 (o_al 11 0) := so_al (Or.inl ⟨0, rfl, rfl, rfl⟩) (by decide +kernel)
theorem t_93_11 : am_ok lw_Ts cX7_best 1 RX7 11 (o_k 12 (vI (4))) := so_k (by decide +kernel)
theorem t_93_12 : am_okc gm_mi gm_mt lw_Ts lw_Ns cX7_best RX7 12 84 2 := ⟨172, cf_84.1, cf_84.2.1, cf_84.2.2.1, cf_84.2.2.2, Or.inr ⟨7, 1, TX7, 37, rfl, rfl, rfl, (by decide +kernel), wt_875, wt_876, wt_919, by decide +kernel⟩⟩
theorem t_93_15 : am_okr cX7_best 15 1 := (show decode cX7_best 15 = .ok (.ireturn, 1) by decide +kernel)
set_option maxRecDepth 20000 in
theorem ok_93 : am_okL gm_mi gm_mt lw_Ts lw_Ns 93 cd_93 := ⟨t_93_0, t_93_1, t_93_2, t_93_5, t_93_6, t_93_7, t_93_10, t_93_11, t_93_12, t_93_15, trivial⟩
theorem t_94_0 : am_ok lw_Ts cX7_mend 3 RX7 0 (o_al 1 0) := so_al (Or.inl ⟨0, rfl, rfl, rfl⟩) (by decide +kernel)
theorem t_94_1 : am_ok lw_Ts cX7_mend 3 RX7 1 (o_k 2 (vI (0))) := so_k (by decide +kernel)
theorem t_94_2 : am_ok lw_Ts cX7_mend 3 RX7 2 (o_pf 5 7 25) := so_pf cl_X7 tyX7_ok nmX7 (by decide) rfl rfl wt_734 (by decide +kernel)
theorem t_94_5 : am_ok lw_Ts cX7_mend 3 RX7 5 (o_al 6 0) := so_al (Or.inl ⟨0, rfl, rfl, rfl⟩) (by decide +kernel)
theorem t_94_6 : am_ok lw_Ts cX7_mend 3 RX7 6 (o_k 7 (vI (1))) := so_k (by decide +kernel)
theorem t_94_7 : am_okc gm_mi gm_mt lw_Ts lw_Ns cX7_mend RX7 7 92 2 := ⟨168, cf_92.1, cf_92.2.1, cf_92.2.2.1, cf_92.2.2.2, Or.inr ⟨7, 1, TX7, 37, rfl, rfl, rfl, (by decide +kernel), wt_904, wt_31, wt_902, by decide +kernel⟩⟩
theorem t_94_10 : am_ok lw_Ts cX7_mend 3 RX7 10 (o_k 11 (vI (0))) := so_k (by decide +kernel)
theorem t_94_11 : am_ok lw_Ts cX7_mend 3 RX7 11 (o_is 12 1) := so_is (Or.inl ⟨1, rfl, rfl, rfl⟩) (by decide +kernel)
theorem t_94_12 : am_ok lw_Ts cX7_mend 3 RX7 12 (o_k 13 (vI (0))) := so_k (by decide +kernel)
theorem t_94_13 : am_ok lw_Ts cX7_mend 3 RX7 13 (o_is 14 2) := so_is (Or.inl ⟨2, rfl, rfl, rfl⟩) (by decide +kernel)
theorem t_94_14 : am_ok lw_Ts cX7_mend 3 RX7 14 (o_il 15 2) := so_il (Or.inl ⟨2, rfl, rfl, rfl⟩) (by decide +kernel)
theorem t_94_15 : am_ok lw_Ts cX7_mend 3 RX7 15 (o_al 16 0) := so_al (Or.inl ⟨0, rfl, rfl, rfl⟩) (by decide +kernel)
theorem t_94_16 : am_okc gm_mi gm_mt lw_Ts lw_Ns cX7_mend RX7 16 83 1 := ⟨138, cf_83.1, cf_83.2.1, cf_83.2.2.1, cf_83.2.2.2, Or.inr ⟨7, 0, TX7, 37, rfl, rfl, rfl, (by decide +kernel), wt_880, wt_29, wt_878, by decide +kernel⟩⟩
theorem t_94_19 : am_ok lw_Ts cX7_mend 3 RX7 19 (o_ic 61 22 r_ge) := so_ic_ge (off := 42) (by decide +kernel) rfl
theorem t_94_22 : am_ok lw_Ts cX7_mend 3 RX7 22 (o_al 23 0) := so_al (Or.inl ⟨0, rfl, rfl, rfl⟩) (by decide +kernel)
theorem t_94_23 : am_ok lw_Ts cX7_mend 3 RX7 23 (o_gf 26 7 12) := so_gf cl_X7 (by decide) wt_721 (by decide +kernel)
theorem t_94_26 : am_ok lw_Ts cX7_mend 3 RX7 26 (o_il 27 2) := so_il (Or.inl ⟨2, rfl, rfl, rfl⟩) (by decide +kernel)
theorem t_94_27 : am_ok lw_Ts cX7_mend 3 RX7 27 (o_ia 28) := so_ia (by decide +kernel)
theorem t_94_28 : am_ok lw_Ts cX7_mend 3 RX7 28 (o_al 29 0) := so_al (Or.inl ⟨0, rfl, rfl, rfl⟩) (by decide +kernel)
theorem t_94_29 : am_ok lw_Ts cX7_mend 3 RX7 29 (o_gf 32 7 26) := so_gf cl_X7 (by decide) wt_735 (by decide +kernel)
theorem t_94_32 : am_ok lw_Ts cX7_mend 3 RX7 32 (o_il 33 2) := so_il (Or.inl ⟨2, rfl, rfl, rfl⟩) (by decide +kernel)
theorem t_94_33 : am_ok lw_Ts cX7_mend 3 RX7 33 (o_ia 34) := so_ia (by decide +kernel)
theorem t_94_34 : am_ok lw_Ts cX7_mend 3 RX7 34 (o_ic 52 37 r_ne) := so_ic_ne (off := 18) (by decide +kernel) rfl
theorem t_94_37 : am_ok lw_Ts cX7_mend 3 RX7 37 (o_al 38 0) := so_al (Or.inl ⟨0, rfl, rfl, rfl⟩) (by decide +kernel)
theorem t_94_38 : am_ok lw_Ts cX7_mend 3 RX7 38 (o_gf 41 7 13) := so_gf cl_X7 (by decide) wt_722 (by decide +kernel)
theorem t_94_41 : am_ok lw_Ts cX7_mend 3 RX7 41 (o_il 42 2) := so_il (Or.inl ⟨2, rfl, rfl, rfl⟩) (by decide +kernel)
theorem t_94_42 : am_ok lw_Ts cX7_mend 3 RX7 42 (o_ia 43) := so_ia (by decide +kernel)
theorem t_94_43 : am_ok lw_Ts cX7_mend 3 RX7 43 (o_al 44 0) := so_al (Or.inl ⟨0, rfl, rfl, rfl⟩) (by decide +kernel)
theorem t_94_44 : am_ok lw_Ts cX7_mend 3 RX7 44 (o_gf 47 7 27) := so_gf cl_X7 (by decide) wt_736 (by decide +kernel)
theorem t_94_47 : am_ok lw_Ts cX7_mend 3 RX7 47 (o_il 48 2) := so_il (Or.inl ⟨2, rfl, rfl, rfl⟩) (by decide +kernel)
theorem t_94_48 : am_ok lw_Ts cX7_mend 3 RX7 48 (o_ia 49) := so_ia (by decide +kernel)
theorem t_94_49 : am_ok lw_Ts cX7_mend 3 RX7 49 (o_ic 55 52 r_eq) := so_ic_eq (off := 6) (by decide +kernel) rfl
theorem t_94_52 : am_ok lw_Ts cX7_mend 3 RX7 52 (o_ii 55 1 (1)) := so_ii (by decide +kernel)
theorem t_94_55 : am_ok lw_Ts cX7_mend 3 RX7 55 (o_ii 58 2 (1)) := so_ii (by decide +kernel)
theorem t_94_58 : am_ok lw_Ts cX7_mend 3 RX7 58 (o_go 14) := so_go (off := (-44)) (by decide +kernel) rfl
theorem t_94_61 : am_ok lw_Ts cX7_mend 3 RX7 61 (o_il 62 1) := so_il (Or.inl ⟨1, rfl, rfl, rfl⟩) (by decide +kernel)
theorem t_94_62 : am_okr cX7_mend 62 1 := (show decode cX7_mend 62 = .ok (.ireturn, 1) by decide +kernel)
set_option maxRecDepth 20000 in
theorem ok_94 : am_okL gm_mi gm_mt lw_Ts lw_Ns 94 cd_94 := ⟨t_94_0, t_94_1, t_94_2, t_94_5, t_94_6, t_94_7, t_94_10, t_94_11, t_94_12, t_94_13, t_94_14, t_94_15, t_94_16, t_94_19, t_94_22, t_94_23, t_94_26, t_94_27, t_94_28, t_94_29, t_94_32, t_94_33, t_94_34, t_94_37, t_94_38, t_94_41, t_94_42, t_94_43, t_94_44, t_94_47, t_94_48, t_94_49, t_94_52, t_94_55, t_94_58, t_94_61, t_94_62, trivial⟩
theorem t_95_0 : am_ok lw_Ts cX7_piece 5 RX7 0 (o_al 1 0) := so_al (Or.inl ⟨0, rfl, rfl, rfl⟩) (by decide +kernel)
theorem t_95_1 : am_ok lw_Ts cX7_piece 5 RX7 1 (o_k 2 (vI (0))) := so_k (by decide +kernel)
theorem t_95_2 : am_ok lw_Ts cX7_piece 5 RX7 2 (o_pf 5 7 25) := so_pf cl_X7 tyX7_ok nmX7 (by decide) rfl rfl wt_734 (by decide +kernel)
theorem t_95_5 : am_ok lw_Ts cX7_piece 5 RX7 5 (o_al 6 0) := so_al (Or.inl ⟨0, rfl, rfl, rfl⟩) (by decide +kernel)
theorem t_95_6 : am_ok lw_Ts cX7_piece 5 RX7 6 (o_il 7 1) := so_il (Or.inl ⟨1, rfl, rfl, rfl⟩) (by decide +kernel)
theorem t_95_7 : am_okc gm_mi gm_mt lw_Ts lw_Ns cX7_piece RX7 7 72 2 := ⟨125, cf_72.1, cf_72.2.1, cf_72.2.2.1, cf_72.2.2.2, Or.inr ⟨7, 1, TX7, 37, rfl, rfl, rfl, (by decide +kernel), wt_847, wt_27, wt_845, by decide +kernel⟩⟩
theorem t_95_10 : am_ok lw_Ts cX7_piece 5 RX7 10 (o_if 42 13 q_eq) := so_if_eq (off := 32) (by decide +kernel) rfl
theorem t_95_13 : am_ok lw_Ts cX7_piece 5 RX7 13 (o_il 14 2) := so_il (Or.inl ⟨2, rfl, rfl, rfl⟩) (by decide +kernel)
theorem t_95_14 : am_ok lw_Ts cX7_piece 5 RX7 14 (o_k 15 (vI (1))) := so_k (by decide +kernel)
theorem t_95_15 : am_ok lw_Ts cX7_piece 5 RX7 15 (o_k 17 (vI (90))) := so_bp rfl (by decide +kernel)
theorem t_95_17 : am_okc gm_mi gm_mt lw_Ts lw_Ns cX7_piece RX7 17 70 3 := ⟨114, cf_70.1, cf_70.2.1, cf_70.2.2.1, cf_70.2.2.2, Or.inl ⟨rfl, (by decide +kernel), wt_831, by decide +kernel, (Or.inl wt_830)⟩⟩
theorem t_95_20 : am_ok lw_Ts cX7_piece 5 RX7 20 (o_if 42 23 q_eq) := so_if_eq (off := 22) (by decide +kernel) rfl
theorem t_95_23 : am_ok lw_Ts cX7_piece 5 RX7 23 (o_il 24 3) := so_il (Or.inl ⟨3, rfl, rfl, rfl⟩) (by decide +kernel)
theorem t_95_24 : am_ok lw_Ts cX7_piece 5 RX7 24 (o_k 25 (vI (0))) := so_k (by decide +kernel)
theorem t_95_25 : am_ok lw_Ts cX7_piece 5 RX7 25 (o_k 27 (vI (100))) := so_bp rfl (by decide +kernel)
theorem t_95_27 : am_okc gm_mi gm_mt lw_Ts lw_Ns cX7_piece RX7 27 70 3 := ⟨114, cf_70.1, cf_70.2.1, cf_70.2.2.1, cf_70.2.2.2, Or.inl ⟨rfl, (by decide +kernel), wt_831, by decide +kernel, (Or.inl wt_830)⟩⟩
theorem t_95_30 : am_ok lw_Ts cX7_piece 5 RX7 30 (o_if 42 33 q_eq) := so_if_eq (off := 12) (by decide +kernel) rfl
theorem t_95_33 : am_ok lw_Ts cX7_piece 5 RX7 33 (o_al 34 0) := so_al (Or.inl ⟨0, rfl, rfl, rfl⟩) (by decide +kernel)
theorem t_95_34 : am_ok lw_Ts cX7_piece 5 RX7 34 (o_gf 37 7 19) := so_gf cl_X7 (by decide) wt_728 (by decide +kernel)
theorem t_95_37 : am_ok lw_Ts cX7_piece 5 RX7 37 (o_k 39 (vI (10))) := so_bp rfl (by decide +kernel)
theorem t_95_39 : am_ok lw_Ts cX7_piece 5 RX7 39 (o_ic 44 42 r_ne) := so_ic_ne (off := 5) (by decide +kernel) rfl
theorem t_95_42 : am_ok lw_Ts cX7_piece 5 RX7 42 (o_k 43 (vI (-1))) := so_k (by decide +kernel)
theorem t_95_43 : am_okr cX7_piece 43 1 := (show decode cX7_piece 43 = .ok (.ireturn, 1) by decide +kernel)
theorem t_95_44 : am_ok lw_Ts cX7_piece 5 RX7 44 (o_al 45 0) := so_al (Or.inl ⟨0, rfl, rfl, rfl⟩) (by decide +kernel)
theorem t_95_45 : am_ok lw_Ts cX7_piece 5 RX7 45 (o_gf 48 7 14) := so_gf cl_X7 (by decide) wt_723 (by decide +kernel)
theorem t_95_48 : am_ok lw_Ts cX7_piece 5 RX7 48 (o_al 49 0) := so_al (Or.inl ⟨0, rfl, rfl, rfl⟩) (by decide +kernel)
theorem t_95_49 : am_ok lw_Ts cX7_piece 5 RX7 49 (o_gf 52 7 19) := so_gf cl_X7 (by decide) wt_728 (by decide +kernel)
theorem t_95_52 : am_ok lw_Ts cX7_piece 5 RX7 52 (o_il 53 1) := so_il (Or.inl ⟨1, rfl, rfl, rfl⟩) (by decide +kernel)
theorem t_95_53 : am_ok lw_Ts cX7_piece 5 RX7 53 (o_iw 54) := so_iw (by decide +kernel)
theorem t_95_54 : am_ok lw_Ts cX7_piece 5 RX7 54 (o_al 55 0) := so_al (Or.inl ⟨0, rfl, rfl, rfl⟩) (by decide +kernel)
theorem t_95_55 : am_ok lw_Ts cX7_piece 5 RX7 55 (o_gf 58 7 15) := so_gf cl_X7 (by decide) wt_724 (by decide +kernel)
theorem t_95_58 : am_ok lw_Ts cX7_piece 5 RX7 58 (o_al 59 0) := so_al (Or.inl ⟨0, rfl, rfl, rfl⟩) (by decide +kernel)
theorem t_95_59 : am_ok lw_Ts cX7_piece 5 RX7 59 (o_gf 62 7 19) := so_gf cl_X7 (by decide) wt_728 (by decide +kernel)
theorem t_95_62 : am_ok lw_Ts cX7_piece 5 RX7 62 (o_il 63 2) := so_il (Or.inl ⟨2, rfl, rfl, rfl⟩) (by decide +kernel)
theorem t_95_63 : am_ok lw_Ts cX7_piece 5 RX7 63 (o_iw 64) := so_iw (by decide +kernel)
theorem t_95_64 : am_ok lw_Ts cX7_piece 5 RX7 64 (o_al 65 0) := so_al (Or.inl ⟨0, rfl, rfl, rfl⟩) (by decide +kernel)
theorem t_95_65 : am_ok lw_Ts cX7_piece 5 RX7 65 (o_gf 68 7 16) := so_gf cl_X7 (by decide) wt_725 (by decide +kernel)
theorem t_95_68 : am_ok lw_Ts cX7_piece 5 RX7 68 (o_al 69 0) := so_al (Or.inl ⟨0, rfl, rfl, rfl⟩) (by decide +kernel)
theorem t_95_69 : am_ok lw_Ts cX7_piece 5 RX7 69 (o_gf 72 7 19) := so_gf cl_X7 (by decide) wt_728 (by decide +kernel)
theorem t_95_72 : am_ok lw_Ts cX7_piece 5 RX7 72 (o_il 73 3) := so_il (Or.inl ⟨3, rfl, rfl, rfl⟩) (by decide +kernel)
theorem t_95_73 : am_ok lw_Ts cX7_piece 5 RX7 73 (o_iw 74) := so_iw (by decide +kernel)
theorem t_95_74 : am_ok lw_Ts cX7_piece 5 RX7 74 (o_al 75 0) := so_al (Or.inl ⟨0, rfl, rfl, rfl⟩) (by decide +kernel)
theorem t_95_75 : am_ok lw_Ts cX7_piece 5 RX7 75 (o_gf 78 7 17) := so_gf cl_X7 (by decide) wt_726 (by decide +kernel)
theorem t_95_78 : am_ok lw_Ts cX7_piece 5 RX7 78 (o_al 79 0) := so_al (Or.inl ⟨0, rfl, rfl, rfl⟩) (by decide +kernel)
theorem t_95_79 : am_ok lw_Ts cX7_piece 5 RX7 79 (o_gf 82 7 19) := so_gf cl_X7 (by decide) wt_728 (by decide +kernel)
theorem t_95_82 : am_ok lw_Ts cX7_piece 5 RX7 82 (o_il 84 4) := so_il (Or.inr ⟨rfl, rfl⟩) (by decide +kernel)
theorem t_95_84 : am_ok lw_Ts cX7_piece 5 RX7 84 (o_bw 85) := so_bw (by decide +kernel)
theorem t_95_85 : am_ok lw_Ts cX7_piece 5 RX7 85 (o_al 86 0) := so_al (Or.inl ⟨0, rfl, rfl, rfl⟩) (by decide +kernel)
theorem t_95_86 : am_ok lw_Ts cX7_piece 5 RX7 86 (o_gf 89 7 18) := so_gf cl_X7 (by decide) wt_727 (by decide +kernel)
theorem t_95_89 : am_ok lw_Ts cX7_piece 5 RX7 89 (o_al 90 0) := so_al (Or.inl ⟨0, rfl, rfl, rfl⟩) (by decide +kernel)
theorem t_95_90 : am_ok lw_Ts cX7_piece 5 RX7 90 (o_gf 93 7 19) := so_gf cl_X7 (by decide) wt_728 (by decide +kernel)
theorem t_95_93 : am_ok lw_Ts cX7_piece 5 RX7 93 (o_k 94 (vI (-1))) := so_k (by decide +kernel)
theorem t_95_94 : am_ok lw_Ts cX7_piece 5 RX7 94 (o_iw 95) := so_iw (by decide +kernel)
theorem t_95_95 : am_ok lw_Ts cX7_piece 5 RX7 95 (o_al 96 0) := so_al (Or.inl ⟨0, rfl, rfl, rfl⟩) (by decide +kernel)
theorem t_95_96 : am_ok lw_Ts cX7_piece 5 RX7 96 (o_dup 97) := so_dup (by decide +kernel)
theorem t_95_97 : am_ok lw_Ts cX7_piece 5 RX7 97 (o_gf 100 7 19) := so_gf cl_X7 (by decide) wt_728 (by decide +kernel)
theorem t_95_100 : am_ok lw_Ts cX7_piece 5 RX7 100 (o_k 101 (vI (1))) := so_k (by decide +kernel)
theorem t_95_101 : am_ok lw_Ts cX7_piece 5 RX7 101 (o_ib 102 f_add) := so_iadd (by decide +kernel)
theorem t_95_102 : am_ok lw_Ts cX7_piece 5 RX7 102 (o_pf 105 7 19) := so_pf cl_X7 tyX7_ok nmX7 (by decide) rfl rfl wt_728 (by decide +kernel)
theorem t_95_105 : am_ok lw_Ts cX7_piece 5 RX7 105 (o_al 106 0) := so_al (Or.inl ⟨0, rfl, rfl, rfl⟩) (by decide +kernel)
theorem t_95_106 : am_ok lw_Ts cX7_piece 5 RX7 106 (o_gf 109 7 19) := so_gf cl_X7 (by decide) wt_728 (by decide +kernel)
theorem t_95_109 : am_ok lw_Ts cX7_piece 5 RX7 109 (o_k 110 (vI (1))) := so_k (by decide +kernel)
theorem t_95_110 : am_ok lw_Ts cX7_piece 5 RX7 110 (o_ib 111 f_sub) := so_isub (by decide +kernel)
theorem t_95_111 : am_okr cX7_piece 111 1 := (show decode cX7_piece 111 = .ok (.ireturn, 1) by decide +kernel)
set_option maxRecDepth 20000 in
theorem ok_95 : am_okL gm_mi gm_mt lw_Ts lw_Ns 95 cd_95 := ⟨t_95_0, t_95_1, t_95_2, t_95_5, t_95_6, t_95_7, t_95_10, t_95_13, t_95_14, t_95_15, t_95_17, t_95_20, t_95_23, t_95_24, t_95_25, t_95_27, t_95_30, t_95_33, t_95_34, t_95_37, t_95_39, t_95_42, t_95_43, t_95_44, t_95_45, t_95_48, t_95_49, t_95_52, t_95_53, t_95_54, t_95_55, t_95_58, t_95_59, t_95_62, t_95_63, t_95_64, t_95_65, t_95_68, t_95_69, t_95_72, t_95_73, t_95_74, t_95_75, t_95_78, t_95_79, t_95_82, t_95_84, t_95_85, t_95_86, t_95_89, t_95_90, t_95_93, t_95_94, t_95_95, t_95_96, t_95_97, t_95_100, t_95_101, t_95_102, t_95_105, t_95_106, t_95_109, t_95_110, t_95_111, trivial⟩
theorem t_96_0 : am_ok lw_Ts cX7_played 3 RX7 0 (o_al 1 0) := so_al (Or.inl ⟨0, rfl, rfl, rfl⟩) (by decide +kernel)
theorem t_96_1 : am_ok lw_Ts cX7_played 3 RX7 1 (o_k 2 (vI (0))) := so_k (by decide +kernel)
theorem t_96_2 : am_ok lw_Ts cX7_played 3 RX7 2 (o_pf 5 7 25) := so_pf cl_X7 tyX7_ok nmX7 (by decide) rfl rfl wt_734 (by decide +kernel)
theorem t_96_5 : am_ok lw_Ts cX7_played 3 RX7 5 (o_il 6 1) := so_il (Or.inl ⟨1, rfl, rfl, rfl⟩) (by decide +kernel)
theorem t_96_6 : am_ok lw_Ts cX7_played 3 RX7 6 (o_k 7 (vI (0))) := so_k (by decide +kernel)
theorem t_96_7 : am_ok lw_Ts cX7_played 3 RX7 7 (o_al 8 0) := so_al (Or.inl ⟨0, rfl, rfl, rfl⟩) (by decide +kernel)
theorem t_96_8 : am_ok lw_Ts cX7_played 3 RX7 8 (o_gf 11 7 19) := so_gf cl_X7 (by decide) wt_728 (by decide +kernel)
theorem t_96_11 : am_ok lw_Ts cX7_played 3 RX7 11 (o_k 12 (vI (1))) := so_k (by decide +kernel)
theorem t_96_12 : am_ok lw_Ts cX7_played 3 RX7 12 (o_ib 13 f_sub) := so_isub (by decide +kernel)
theorem t_96_13 : am_okc gm_mi gm_mt lw_Ts lw_Ns cX7_played RX7 13 70 3 := ⟨114, cf_70.1, cf_70.2.1, cf_70.2.2.1, cf_70.2.2.2, Or.inl ⟨rfl, (by decide +kernel), wt_831, by decide +kernel, (Or.inl wt_830)⟩⟩
theorem t_96_16 : am_ok lw_Ts cX7_played 3 RX7 16 (o_if 30 19 q_eq) := so_if_eq (off := 14) (by decide +kernel) rfl
theorem t_96_19 : am_ok lw_Ts cX7_played 3 RX7 19 (o_il 20 2) := so_il (Or.inl ⟨2, rfl, rfl, rfl⟩) (by decide +kernel)
theorem t_96_20 : am_ok lw_Ts cX7_played 3 RX7 20 (o_k 21 (vI (0))) := so_k (by decide +kernel)
theorem t_96_21 : am_ok lw_Ts cX7_played 3 RX7 21 (o_k 24 (vI (400))) := so_sp rfl (by decide +kernel)
theorem t_96_24 : am_okc gm_mi gm_mt lw_Ts lw_Ns cX7_played RX7 24 70 3 := ⟨114, cf_70.1, cf_70.2.1, cf_70.2.2.1, cf_70.2.2.2, Or.inl ⟨rfl, (by decide +kernel), wt_831, by decide +kernel, (Or.inl wt_830)⟩⟩
theorem t_96_27 : am_ok lw_Ts cX7_played 3 RX7 27 (o_if 32 30 q_ne) := so_if_ne (off := 5) (by decide +kernel) rfl
theorem t_96_30 : am_ok lw_Ts cX7_played 3 RX7 30 (o_k 31 (vI (0))) := so_k (by decide +kernel)
theorem t_96_31 : am_okr cX7_played 31 2 := (show decode cX7_played 31 = .ok (.ireturn, 1) by decide +kernel)
theorem t_96_32 : am_ok lw_Ts cX7_played 3 RX7 32 (o_al 33 0) := so_al (Or.inl ⟨0, rfl, rfl, rfl⟩) (by decide +kernel)
theorem t_96_33 : am_ok lw_Ts cX7_played 3 RX7 33 (o_gf 36 7 18) := so_gf cl_X7 (by decide) wt_727 (by decide +kernel)
theorem t_96_36 : am_ok lw_Ts cX7_played 3 RX7 36 (o_il 37 1) := so_il (Or.inl ⟨1, rfl, rfl, rfl⟩) (by decide +kernel)
theorem t_96_37 : am_ok lw_Ts cX7_played 3 RX7 37 (o_il 38 2) := so_il (Or.inl ⟨2, rfl, rfl, rfl⟩) (by decide +kernel)
theorem t_96_38 : am_ok lw_Ts cX7_played 3 RX7 38 (o_iw 39) := so_iw (by decide +kernel)
theorem t_96_39 : am_ok lw_Ts cX7_played 3 RX7 39 (o_k 40 (vI (1))) := so_k (by decide +kernel)
theorem t_96_40 : am_okr cX7_played 40 2 := (show decode cX7_played 40 = .ok (.ireturn, 1) by decide +kernel)
set_option maxRecDepth 20000 in
theorem ok_96 : am_okL gm_mi gm_mt lw_Ts lw_Ns 96 cd_96 := ⟨t_96_0, t_96_1, t_96_2, t_96_5, t_96_6, t_96_7, t_96_8, t_96_11, t_96_12, t_96_13, t_96_16, t_96_19, t_96_20, t_96_21, t_96_24, t_96_27, t_96_30, t_96_31, t_96_32, t_96_33, t_96_36, t_96_37, t_96_38, t_96_39, t_96_40, trivial⟩
theorem t_97_0 : am_ok lw_Ts cX7_canFollow 3 RX7 0 (o_al 1 0) := so_al (Or.inl ⟨0, rfl, rfl, rfl⟩) (by decide +kernel)
theorem t_97_1 : am_ok lw_Ts cX7_canFollow 3 RX7 1 (o_al 2 0) := so_al (Or.inl ⟨0, rfl, rfl, rfl⟩) (by decide +kernel)
theorem t_97_2 : am_ok lw_Ts cX7_canFollow 3 RX7 2 (o_gf 5 7 14) := so_gf cl_X7 (by decide) wt_723 (by decide +kernel)
theorem t_97_5 : am_ok lw_Ts cX7_canFollow 3 RX7 5 (o_il 6 1) := so_il (Or.inl ⟨1, rfl, rfl, rfl⟩) (by decide +kernel)
theorem t_97_6 : am_ok lw_Ts cX7_canFollow 3 RX7 6 (o_ia 7) := so_ia (by decide +kernel)
theorem t_97_7 : am_ok lw_Ts cX7_canFollow 3 RX7 7 (o_al 8 0) := so_al (Or.inl ⟨0, rfl, rfl, rfl⟩) (by decide +kernel)
theorem t_97_8 : am_ok lw_Ts cX7_canFollow 3 RX7 8 (o_gf 11 7 14) := so_gf cl_X7 (by decide) wt_723 (by decide +kernel)
theorem t_97_11 : am_ok lw_Ts cX7_canFollow 3 RX7 11 (o_il 12 2) := so_il (Or.inl ⟨2, rfl, rfl, rfl⟩) (by decide +kernel)
theorem t_97_12 : am_ok lw_Ts cX7_canFollow 3 RX7 12 (o_ia 13) := so_ia (by decide +kernel)
theorem t_97_13 : am_okc gm_mi gm_mt lw_Ts lw_Ns cX7_canFollow RX7 13 81 3 := ⟨134, cf_81.1, cf_81.2.1, cf_81.2.2.1, cf_81.2.2.2, Or.inr ⟨7, 2, TX7, 37, rfl, rfl, rfl, (by decide +kernel), wt_871, wt_28, wt_869, by decide +kernel⟩⟩
theorem t_97_16 : am_ok lw_Ts cX7_canFollow 3 RX7 16 (o_al 17 0) := so_al (Or.inl ⟨0, rfl, rfl, rfl⟩) (by decide +kernel)
theorem t_97_17 : am_ok lw_Ts cX7_canFollow 3 RX7 17 (o_gf 20 7 8) := so_gf cl_X7 (by decide) wt_717 (by decide +kernel)
theorem t_97_20 : am_ok lw_Ts cX7_canFollow 3 RX7 20 (o_ic 27 23 r_gt) := so_ic_gt (off := 7) (by decide +kernel) rfl
theorem t_97_23 : am_ok lw_Ts cX7_canFollow 3 RX7 23 (o_k 24 (vI (1))) := so_k (by decide +kernel)
theorem t_97_24 : am_ok lw_Ts cX7_canFollow 3 RX7 24 (o_go 28) := so_go (off := 4) (by decide +kernel) rfl
theorem t_97_27 : am_ok lw_Ts cX7_canFollow 3 RX7 27 (o_k 28 (vI (0))) := so_k (by decide +kernel)
theorem t_97_28 : am_okr cX7_canFollow 28 2 := (show decode cX7_canFollow 28 = .ok (.ireturn, 1) by decide +kernel)
set_option maxRecDepth 20000 in
theorem ok_97 : am_okL gm_mi gm_mt lw_Ts lw_Ns 97 cd_97 := ⟨t_97_0, t_97_1, t_97_2, t_97_5, t_97_6, t_97_7, t_97_8, t_97_11, t_97_12, t_97_13, t_97_16, t_97_17, t_97_20, t_97_23, t_97_24, t_97_27, t_97_28, trivial⟩
theorem t_98_0 : am_ok lw_Ts cX7_findFirsts 6 RX7 0 (o_al 1 0) := so_al (Or.inl ⟨0, rfl, rfl, rfl⟩) (by decide +kernel)
theorem t_98_1 : am_ok lw_Ts cX7_findFirsts 6 RX7 1 (o_gf 4 7 34) := so_gf cl_X7 (by decide) wt_743 (by decide +kernel)
theorem t_98_4 : am_ok lw_Ts cX7_findFirsts 6 RX7 4 (o_k 5 (vI (0))) := so_k (by decide +kernel)
theorem t_98_5 : am_ok lw_Ts cX7_findFirsts 6 RX7 5 (o_k 6 (vI (0))) := so_k (by decide +kernel)
theorem t_98_6 : am_ok lw_Ts cX7_findFirsts 6 RX7 6 (o_iw 7) := so_iw (by decide +kernel)
theorem t_98_7 : am_ok lw_Ts cX7_findFirsts 6 RX7 7 (o_k 8 (vI (1))) := so_k (by decide +kernel)
theorem t_98_8 : am_ok lw_Ts cX7_findFirsts 6 RX7 8 (o_is 9 1) := so_is (Or.inl ⟨1, rfl, rfl, rfl⟩) (by decide +kernel)
theorem t_98_9 : am_ok lw_Ts cX7_findFirsts 6 RX7 9 (o_il 10 1) := so_il (Or.inl ⟨1, rfl, rfl, rfl⟩) (by decide +kernel)
theorem t_98_10 : am_ok lw_Ts cX7_findFirsts 6 RX7 10 (o_k 11 (vI (1))) := so_k (by decide +kernel)
theorem t_98_11 : am_ok lw_Ts cX7_findFirsts 6 RX7 11 (o_al 12 0) := so_al (Or.inl ⟨0, rfl, rfl, rfl⟩) (by decide +kernel)
theorem t_98_12 : am_ok lw_Ts cX7_findFirsts 6 RX7 12 (o_gf 15 7 19) := so_gf cl_X7 (by decide) wt_728 (by decide +kernel)
theorem t_98_15 : am_ok lw_Ts cX7_findFirsts 6 RX7 15 (o_ib 16 f_shl) := so_ishl (by decide +kernel)
theorem t_98_16 : am_ok lw_Ts cX7_findFirsts 6 RX7 16 (o_ic 148 19 r_ge) := so_ic_ge (off := 132) (by decide +kernel) rfl
theorem t_98_19 : am_ok lw_Ts cX7_findFirsts 6 RX7 19 (o_al 20 0) := so_al (Or.inl ⟨0, rfl, rfl, rfl⟩) (by decide +kernel)
theorem t_98_20 : am_ok lw_Ts cX7_findFirsts 6 RX7 20 (o_gf 23 7 34) := so_gf cl_X7 (by decide) wt_743 (by decide +kernel)
theorem t_98_23 : am_ok lw_Ts cX7_findFirsts 6 RX7 23 (o_il 24 1) := so_il (Or.inl ⟨1, rfl, rfl, rfl⟩) (by decide +kernel)
theorem t_98_24 : am_ok lw_Ts cX7_findFirsts 6 RX7 24 (o_k 25 (vI (0))) := so_k (by decide +kernel)
theorem t_98_25 : am_ok lw_Ts cX7_findFirsts 6 RX7 25 (o_iw 26) := so_iw (by decide +kernel)
theorem t_98_26 : am_ok lw_Ts cX7_findFirsts 6 RX7 26 (o_k 27 (vI (0))) := so_k (by decide +kernel)
theorem t_98_27 : am_ok lw_Ts cX7_findFirsts 6 RX7 27 (o_is 28 2) := so_is (Or.inl ⟨2, rfl, rfl, rfl⟩) (by decide +kernel)
theorem t_98_28 : am_ok lw_Ts cX7_findFirsts 6 RX7 28 (o_il 29 2) := so_il (Or.inl ⟨2, rfl, rfl, rfl⟩) (by decide +kernel)
theorem t_98_29 : am_ok lw_Ts cX7_findFirsts 6 RX7 29 (o_al 30 0) := so_al (Or.inl ⟨0, rfl, rfl, rfl⟩) (by decide +kernel)
theorem t_98_30 : am_ok lw_Ts cX7_findFirsts 6 RX7 30 (o_gf 33 7 19) := so_gf cl_X7 (by decide) wt_728 (by decide +kernel)
theorem t_98_33 : am_ok lw_Ts cX7_findFirsts 6 RX7 33 (o_ic 142 36 r_ge) := so_ic_ge (off := 109) (by decide +kernel) rfl
theorem t_98_36 : am_ok lw_Ts cX7_findFirsts 6 RX7 36 (o_il 37 1) := so_il (Or.inl ⟨1, rfl, rfl, rfl⟩) (by decide +kernel)
theorem t_98_37 : am_ok lw_Ts cX7_findFirsts 6 RX7 37 (o_il 38 2) := so_il (Or.inl ⟨2, rfl, rfl, rfl⟩) (by decide +kernel)
theorem t_98_38 : am_ok lw_Ts cX7_findFirsts 6 RX7 38 (o_ib 39 f_shr) := so_ishr (by decide +kernel)
theorem t_98_39 : am_ok lw_Ts cX7_findFirsts 6 RX7 39 (o_k 40 (vI (1))) := so_k (by decide +kernel)
theorem t_98_40 : am_ok lw_Ts cX7_findFirsts 6 RX7 40 (o_ib 41 f_and) := so_iand (by decide +kernel)
theorem t_98_41 : am_ok lw_Ts cX7_findFirsts 6 RX7 41 (o_if 47 44 q_ne) := so_if_ne (off := 6) (by decide +kernel) rfl
theorem t_98_44 : am_ok lw_Ts cX7_findFirsts 6 RX7 44 (o_go 136) := so_go (off := 92) (by decide +kernel) rfl
theorem t_98_47 : am_ok lw_Ts cX7_findFirsts 6 RX7 47 (o_il 48 1) := so_il (Or.inl ⟨1, rfl, rfl, rfl⟩) (by decide +kernel)
theorem t_98_48 : am_ok lw_Ts cX7_findFirsts 6 RX7 48 (o_k 49 (vI (1))) := so_k (by decide +kernel)
theorem t_98_49 : am_ok lw_Ts cX7_findFirsts 6 RX7 49 (o_il 50 2) := so_il (Or.inl ⟨2, rfl, rfl, rfl⟩) (by decide +kernel)
theorem t_98_50 : am_ok lw_Ts cX7_findFirsts 6 RX7 50 (o_ib 51 f_shl) := so_ishl (by decide +kernel)
theorem t_98_51 : am_ok lw_Ts cX7_findFirsts 6 RX7 51 (o_ib 52 f_xor) := so_ixor (by decide +kernel)
theorem t_98_52 : am_ok lw_Ts cX7_findFirsts 6 RX7 52 (o_is 53 3) := so_is (Or.inl ⟨3, rfl, rfl, rfl⟩) (by decide +kernel)
theorem t_98_53 : am_ok lw_Ts cX7_findFirsts 6 RX7 53 (o_il 54 3) := so_il (Or.inl ⟨3, rfl, rfl, rfl⟩) (by decide +kernel)
theorem t_98_54 : am_ok lw_Ts cX7_findFirsts 6 RX7 54 (o_if 61 57 q_ne) := so_if_ne (off := 7) (by decide +kernel) rfl
theorem t_98_57 : am_ok lw_Ts cX7_findFirsts 6 RX7 57 (o_k 58 (vI (1))) := so_k (by decide +kernel)
theorem t_98_58 : am_ok lw_Ts cX7_findFirsts 6 RX7 58 (o_go 62) := so_go (off := 4) (by decide +kernel) rfl
theorem t_98_61 : am_ok lw_Ts cX7_findFirsts 6 RX7 61 (o_k 62 (vI (0))) := so_k (by decide +kernel)
theorem t_98_62 : am_ok lw_Ts cX7_findFirsts 6 RX7 62 (o_is 64 4) := so_is (Or.inr ⟨rfl, rfl⟩) (by decide +kernel)
theorem t_98_64 : am_ok lw_Ts cX7_findFirsts 6 RX7 64 (o_k 65 (vI (0))) := so_k (by decide +kernel)
theorem t_98_65 : am_ok lw_Ts cX7_findFirsts 6 RX7 65 (o_is 67 5) := so_is (Or.inr ⟨rfl, rfl⟩) (by decide +kernel)
theorem t_98_67 : am_ok lw_Ts cX7_findFirsts 6 RX7 67 (o_il 69 5) := so_il (Or.inr ⟨rfl, rfl⟩) (by decide +kernel)
theorem t_98_69 : am_ok lw_Ts cX7_findFirsts 6 RX7 69 (o_al 70 0) := so_al (Or.inl ⟨0, rfl, rfl, rfl⟩) (by decide +kernel)
theorem t_98_70 : am_ok lw_Ts cX7_findFirsts 6 RX7 70 (o_gf 73 7 19) := so_gf cl_X7 (by decide) wt_728 (by decide +kernel)
theorem t_98_73 : am_ok lw_Ts cX7_findFirsts 6 RX7 73 (o_ic 119 76 r_ge) := so_ic_ge (off := 46) (by decide +kernel) rfl
theorem t_98_76 : am_ok lw_Ts cX7_findFirsts 6 RX7 76 (o_il 78 4) := so_il (Or.inr ⟨rfl, rfl⟩) (by decide +kernel)
theorem t_98_78 : am_ok lw_Ts cX7_findFirsts 6 RX7 78 (o_if 119 81 q_ne) := so_if_ne (off := 41) (by decide +kernel) rfl
theorem t_98_81 : am_ok lw_Ts cX7_findFirsts 6 RX7 81 (o_al 82 0) := so_al (Or.inl ⟨0, rfl, rfl, rfl⟩) (by decide +kernel)
theorem t_98_82 : am_ok lw_Ts cX7_findFirsts 6 RX7 82 (o_gf 85 7 34) := so_gf cl_X7 (by decide) wt_743 (by decide +kernel)
theorem t_98_85 : am_ok lw_Ts cX7_findFirsts 6 RX7 85 (o_il 86 3) := so_il (Or.inl ⟨3, rfl, rfl, rfl⟩) (by decide +kernel)
theorem t_98_86 : am_ok lw_Ts cX7_findFirsts 6 RX7 86 (o_ia 87) := so_ia (by decide +kernel)
theorem t_98_87 : am_ok lw_Ts cX7_findFirsts 6 RX7 87 (o_il 89 5) := so_il (Or.inr ⟨rfl, rfl⟩) (by decide +kernel)
theorem t_98_89 : am_ok lw_Ts cX7_findFirsts 6 RX7 89 (o_ib 90 f_shr) := so_ishr (by decide +kernel)
theorem t_98_90 : am_ok lw_Ts cX7_findFirsts 6 RX7 90 (o_k 91 (vI (1))) := so_k (by decide +kernel)
theorem t_98_91 : am_ok lw_Ts cX7_findFirsts 6 RX7 91 (o_ib 92 f_and) := so_iand (by decide +kernel)
theorem t_98_92 : am_ok lw_Ts cX7_findFirsts 6 RX7 92 (o_k 93 (vI (1))) := so_k (by decide +kernel)
theorem t_98_93 : am_ok lw_Ts cX7_findFirsts 6 RX7 93 (o_ic 110 96 r_ne) := so_ic_ne (off := 17) (by decide +kernel) rfl
theorem t_98_96 : am_ok lw_Ts cX7_findFirsts 6 RX7 96 (o_al 97 0) := so_al (Or.inl ⟨0, rfl, rfl, rfl⟩) (by decide +kernel)
theorem t_98_97 : am_ok lw_Ts cX7_findFirsts 6 RX7 97 (o_il 98 2) := so_il (Or.inl ⟨2, rfl, rfl, rfl⟩) (by decide +kernel)
theorem t_98_98 : am_ok lw_Ts cX7_findFirsts 6 RX7 98 (o_il 100 5) := so_il (Or.inr ⟨rfl, rfl⟩) (by decide +kernel)
theorem t_98_100 : am_okc gm_mi gm_mt lw_Ts lw_Ns cX7_findFirsts RX7 100 97 3 := ⟨175, cf_97.1, cf_97.2.1, cf_97.2.2.1, cf_97.2.2.2, Or.inr ⟨7, 2, TX7, 37, rfl, rfl, rfl, (by decide +kernel), wt_942, wt_36, wt_940, by decide +kernel⟩⟩
theorem t_98_103 : am_ok lw_Ts cX7_findFirsts 6 RX7 103 (o_if 110 106 q_eq) := so_if_eq (off := 7) (by decide +kernel) rfl
theorem t_98_106 : am_ok lw_Ts cX7_findFirsts 6 RX7 106 (o_k 107 (vI (1))) := so_k (by decide +kernel)
theorem t_98_107 : am_ok lw_Ts cX7_findFirsts 6 RX7 107 (o_go 111) := so_go (off := 4) (by decide +kernel) rfl
theorem t_98_110 : am_ok lw_Ts cX7_findFirsts 6 RX7 110 (o_k 111 (vI (0))) := so_k (by decide +kernel)
theorem t_98_111 : am_ok lw_Ts cX7_findFirsts 6 RX7 111 (o_is 113 4) := so_is (Or.inr ⟨rfl, rfl⟩) (by decide +kernel)
theorem t_98_113 : am_ok lw_Ts cX7_findFirsts 6 RX7 113 (o_ii 116 5 (1)) := so_ii (by decide +kernel)
theorem t_98_116 : am_ok lw_Ts cX7_findFirsts 6 RX7 116 (o_go 67) := so_go (off := (-49)) (by decide +kernel) rfl
theorem t_98_119 : am_ok lw_Ts cX7_findFirsts 6 RX7 119 (o_il 121 4) := so_il (Or.inr ⟨rfl, rfl⟩) (by decide +kernel)
theorem t_98_121 : am_ok lw_Ts cX7_findFirsts 6 RX7 121 (o_if 136 124 q_eq) := so_if_eq (off := 15) (by decide +kernel) rfl
theorem t_98_124 : am_ok lw_Ts cX7_findFirsts 6 RX7 124 (o_al 125 0) := so_al (Or.inl ⟨0, rfl, rfl, rfl⟩) (by decide +kernel)
theorem t_98_125 : am_ok lw_Ts cX7_findFirsts 6 RX7 125 (o_gf 128 7 34) := so_gf cl_X7 (by decide) wt_743 (by decide +kernel)
theorem t_98_128 : am_ok lw_Ts cX7_findFirsts 6 RX7 128 (o_il 129 1) := so_il (Or.inl ⟨1, rfl, rfl, rfl⟩) (by decide +kernel)
theorem t_98_129 : am_ok lw_Ts cX7_findFirsts 6 RX7 129 (o_dup2 130) := so_dup2 (by decide +kernel)
theorem t_98_130 : am_ok lw_Ts cX7_findFirsts 6 RX7 130 (o_ia 131) := so_ia (by decide +kernel)
theorem t_98_131 : am_ok lw_Ts cX7_findFirsts 6 RX7 131 (o_k 132 (vI (1))) := so_k (by decide +kernel)
theorem t_98_132 : am_ok lw_Ts cX7_findFirsts 6 RX7 132 (o_il 133 2) := so_il (Or.inl ⟨2, rfl, rfl, rfl⟩) (by decide +kernel)
theorem t_98_133 : am_ok lw_Ts cX7_findFirsts 6 RX7 133 (o_ib 134 f_shl) := so_ishl (by decide +kernel)
theorem t_98_134 : am_ok lw_Ts cX7_findFirsts 6 RX7 134 (o_ib 135 f_or) := so_ior (by decide +kernel)
theorem t_98_135 : am_ok lw_Ts cX7_findFirsts 6 RX7 135 (o_iw 136) := so_iw (by decide +kernel)
theorem t_98_136 : am_ok lw_Ts cX7_findFirsts 6 RX7 136 (o_ii 139 2 (1)) := so_ii (by decide +kernel)
theorem t_98_139 : am_ok lw_Ts cX7_findFirsts 6 RX7 139 (o_go 28) := so_go (off := (-111)) (by decide +kernel) rfl
theorem t_98_142 : am_ok lw_Ts cX7_findFirsts 6 RX7 142 (o_ii 145 1 (1)) := so_ii (by decide +kernel)
theorem t_98_145 : am_ok lw_Ts cX7_findFirsts 6 RX7 145 (o_go 9) := so_go (off := (-136)) (by decide +kernel) rfl
theorem t_98_148 : am_okr cX7_findFirsts 148 0 := (show decode cX7_findFirsts 148 = .ok (.return_, 1) by decide +kernel)
set_option maxRecDepth 20000 in
theorem ok_98 : am_okL gm_mi gm_mt lw_Ts lw_Ns 98 cd_98 := ⟨t_98_0, t_98_1, t_98_4, t_98_5, t_98_6, t_98_7, t_98_8, t_98_9, t_98_10, t_98_11, t_98_12, t_98_15, t_98_16, t_98_19, t_98_20, t_98_23, t_98_24, t_98_25, t_98_26, t_98_27, t_98_28, t_98_29, t_98_30, t_98_33, t_98_36, t_98_37, t_98_38, t_98_39, t_98_40, t_98_41, t_98_44, t_98_47, t_98_48, t_98_49, t_98_50, t_98_51, t_98_52, t_98_53, t_98_54, t_98_57, t_98_58, t_98_61, t_98_62, t_98_64, t_98_65, t_98_67, t_98_69, t_98_70, t_98_73, t_98_76, t_98_78, t_98_81, t_98_82, t_98_85, t_98_86, t_98_87, t_98_89, t_98_90, t_98_91, t_98_92, t_98_93, t_98_96, t_98_97, t_98_98, t_98_100, t_98_103, t_98_106, t_98_107, t_98_110, t_98_111, t_98_113, t_98_116, t_98_119, t_98_121, t_98_124, t_98_125, t_98_128, t_98_129, t_98_130, t_98_131, t_98_132, t_98_133, t_98_134, t_98_135, t_98_136, t_98_139, t_98_142, t_98_145, t_98_148, trivial⟩
theorem t_99_0 : am_ok lw_Ts cX7_mayBe 7 RX7 0 (o_k 1 (vI (0))) := so_k (by decide +kernel)
theorem t_99_1 : am_ok lw_Ts cX7_mayBe 7 RX7 1 (o_is 3 4) := so_is (Or.inr ⟨rfl, rfl⟩) (by decide +kernel)
theorem t_99_3 : am_ok lw_Ts cX7_mayBe 7 RX7 3 (o_k 4 (vI (0))) := so_k (by decide +kernel)
theorem t_99_4 : am_ok lw_Ts cX7_mayBe 7 RX7 4 (o_is 6 5) := so_is (Or.inr ⟨rfl, rfl⟩) (by decide +kernel)
theorem t_99_6 : am_ok lw_Ts cX7_mayBe 7 RX7 6 (o_k 7 (vI (0))) := so_k (by decide +kernel)
theorem t_99_7 : am_ok lw_Ts cX7_mayBe 7 RX7 7 (o_is 9 6) := so_is (Or.inr ⟨rfl, rfl⟩) (by decide +kernel)
theorem t_99_9 : am_ok lw_Ts cX7_mayBe 7 RX7 9 (o_il 11 6) := so_il (Or.inr ⟨rfl, rfl⟩) (by decide +kernel)
theorem t_99_11 : am_ok lw_Ts cX7_mayBe 7 RX7 11 (o_al 12 0) := so_al (Or.inl ⟨0, rfl, rfl, rfl⟩) (by decide +kernel)
theorem t_99_12 : am_ok lw_Ts cX7_mayBe 7 RX7 12 (o_gf 15 7 19) := so_gf cl_X7 (by decide) wt_728 (by decide +kernel)
theorem t_99_15 : am_ok lw_Ts cX7_mayBe 7 RX7 15 (o_ic 93 18 r_ge) := so_ic_ge (off := 78) (by decide +kernel) rfl
theorem t_99_18 : am_ok lw_Ts cX7_mayBe 7 RX7 18 (o_il 19 1) := so_il (Or.inl ⟨1, rfl, rfl, rfl⟩) (by decide +kernel)
theorem t_99_19 : am_ok lw_Ts cX7_mayBe 7 RX7 19 (o_il 21 6) := so_il (Or.inr ⟨rfl, rfl⟩) (by decide +kernel)
theorem t_99_21 : am_ok lw_Ts cX7_mayBe 7 RX7 21 (o_ib 22 f_shr) := so_ishr (by decide +kernel)
theorem t_99_22 : am_ok lw_Ts cX7_mayBe 7 RX7 22 (o_k 23 (vI (1))) := so_k (by decide +kernel)
theorem t_99_23 : am_ok lw_Ts cX7_mayBe 7 RX7 23 (o_ib 24 f_and) := so_iand (by decide +kernel)
theorem t_99_24 : am_ok lw_Ts cX7_mayBe 7 RX7 24 (o_if 30 27 q_ne) := so_if_ne (off := 6) (by decide +kernel) rfl
theorem t_99_27 : am_ok lw_Ts cX7_mayBe 7 RX7 27 (o_go 87) := so_go (off := 60) (by decide +kernel) rfl
theorem t_99_30 : am_ok lw_Ts cX7_mayBe 7 RX7 30 (o_il 32 4) := so_il (Or.inr ⟨rfl, rfl⟩) (by decide +kernel)
theorem t_99_32 : am_ok lw_Ts cX7_mayBe 7 RX7 32 (o_al 33 0) := so_al (Or.inl ⟨0, rfl, rfl, rfl⟩) (by decide +kernel)
theorem t_99_33 : am_ok lw_Ts cX7_mayBe 7 RX7 33 (o_gf 36 7 15) := so_gf cl_X7 (by decide) wt_724 (by decide +kernel)
theorem t_99_36 : am_ok lw_Ts cX7_mayBe 7 RX7 36 (o_il 38 6) := so_il (Or.inr ⟨rfl, rfl⟩) (by decide +kernel)
theorem t_99_38 : am_ok lw_Ts cX7_mayBe 7 RX7 38 (o_ia 39) := so_ia (by decide +kernel)
theorem t_99_39 : am_ok lw_Ts cX7_mayBe 7 RX7 39 (o_ib 40 f_add) := so_iadd (by decide +kernel)
theorem t_99_40 : am_ok lw_Ts cX7_mayBe 7 RX7 40 (o_is 42 4) := so_is (Or.inr ⟨rfl, rfl⟩) (by decide +kernel)
theorem t_99_42 : am_ok lw_Ts cX7_mayBe 7 RX7 42 (o_al 43 0) := so_al (Or.inl ⟨0, rfl, rfl, rfl⟩) (by decide +kernel)
theorem t_99_43 : am_ok lw_Ts cX7_mayBe 7 RX7 43 (o_gf 46 7 17) := so_gf cl_X7 (by decide) wt_726 (by decide +kernel)
theorem t_99_46 : am_ok lw_Ts cX7_mayBe 7 RX7 46 (o_il 48 6) := so_il (Or.inr ⟨rfl, rfl⟩) (by decide +kernel)
theorem t_99_48 : am_ok lw_Ts cX7_mayBe 7 RX7 48 (o_ba 49) := so_ba (by decide +kernel)
theorem t_99_49 : am_ok lw_Ts cX7_mayBe 7 RX7 49 (o_if 55 52 q_eq) := so_if_eq (off := 6) (by decide +kernel) rfl
theorem t_99_52 : am_ok lw_Ts cX7_mayBe 7 RX7 52 (o_ii 55 5 (1)) := so_ii (by decide +kernel)
theorem t_99_55 : am_ok lw_Ts cX7_mayBe 7 RX7 55 (o_al 56 0) := so_al (Or.inl ⟨0, rfl, rfl, rfl⟩) (by decide +kernel)
theorem t_99_56 : am_ok lw_Ts cX7_mayBe 7 RX7 56 (o_gf 59 7 18) := so_gf cl_X7 (by decide) wt_727 (by decide +kernel)
theorem t_99_59 : am_ok lw_Ts cX7_mayBe 7 RX7 59 (o_il 61 6) := so_il (Or.inr ⟨rfl, rfl⟩) (by decide +kernel)
theorem t_99_61 : am_ok lw_Ts cX7_mayBe 7 RX7 61 (o_ia 62) := so_ia (by decide +kernel)
theorem t_99_62 : am_ok lw_Ts cX7_mayBe 7 RX7 62 (o_k 63 (vI (-1))) := so_k (by decide +kernel)
theorem t_99_63 : am_ok lw_Ts cX7_mayBe 7 RX7 63 (o_ic 87 66 r_eq) := so_ic_eq (off := 24) (by decide +kernel) rfl
theorem t_99_66 : am_ok lw_Ts cX7_mayBe 7 RX7 66 (o_al 67 0) := so_al (Or.inl ⟨0, rfl, rfl, rfl⟩) (by decide +kernel)
theorem t_99_67 : am_ok lw_Ts cX7_mayBe 7 RX7 67 (o_gf 70 7 18) := so_gf cl_X7 (by decide) wt_727 (by decide +kernel)
theorem t_99_70 : am_ok lw_Ts cX7_mayBe 7 RX7 70 (o_il 72 6) := so_il (Or.inr ⟨rfl, rfl⟩) (by decide +kernel)
theorem t_99_72 : am_ok lw_Ts cX7_mayBe 7 RX7 72 (o_ia 73) := so_ia (by decide +kernel)
theorem t_99_73 : am_ok lw_Ts cX7_mayBe 7 RX7 73 (o_il 74 2) := so_il (Or.inl ⟨2, rfl, rfl, rfl⟩) (by decide +kernel)
theorem t_99_74 : am_ok lw_Ts cX7_mayBe 7 RX7 74 (o_ib 75 f_sub) := so_isub (by decide +kernel)
theorem t_99_75 : am_okc gm_mi gm_mt lw_Ts lw_Ns cX7_mayBe RX7 75 114 1 := ⟨178, cf_114.1, cf_114.2.1, cf_114.2.2.1, cf_114.2.2.2, Or.inl ⟨rfl, (by decide +kernel), wt_535, by decide +kernel, (Or.inl wt_948)⟩⟩
theorem t_99_78 : am_ok lw_Ts cX7_mayBe 7 RX7 78 (o_al 79 0) := so_al (Or.inl ⟨0, rfl, rfl, rfl⟩) (by decide +kernel)
theorem t_99_79 : am_ok lw_Ts cX7_mayBe 7 RX7 79 (o_gf 82 7 9) := so_gf cl_X7 (by decide) wt_718 (by decide +kernel)
theorem t_99_82 : am_ok lw_Ts cX7_mayBe 7 RX7 82 (o_ic 87 85 r_ge) := so_ic_ge (off := 5) (by decide +kernel) rfl
theorem t_99_85 : am_ok lw_Ts cX7_mayBe 7 RX7 85 (o_k 86 (vI (0))) := so_k (by decide +kernel)
theorem t_99_86 : am_okr cX7_mayBe 86 2 := (show decode cX7_mayBe 86 = .ok (.ireturn, 1) by decide +kernel)
theorem t_99_87 : am_ok lw_Ts cX7_mayBe 7 RX7 87 (o_ii 90 6 (1)) := so_ii (by decide +kernel)
theorem t_99_90 : am_ok lw_Ts cX7_mayBe 7 RX7 90 (o_go 9) := so_go (off := (-81)) (by decide +kernel) rfl
theorem t_99_93 : am_ok lw_Ts cX7_mayBe 7 RX7 93 (o_il 95 4) := so_il (Or.inr ⟨rfl, rfl⟩) (by decide +kernel)
theorem t_99_95 : am_ok lw_Ts cX7_mayBe 7 RX7 95 (o_il 96 3) := so_il (Or.inl ⟨3, rfl, rfl, rfl⟩) (by decide +kernel)
theorem t_99_96 : am_ok lw_Ts cX7_mayBe 7 RX7 96 (o_ic 118 99 r_gt) := so_ic_gt (off := 22) (by decide +kernel) rfl
theorem t_99_99 : am_ok lw_Ts cX7_mayBe 7 RX7 99 (o_il 101 5) := so_il (Or.inr ⟨rfl, rfl⟩) (by decide +kernel)
theorem t_99_101 : am_ok lw_Ts cX7_mayBe 7 RX7 101 (o_k 102 (vI (1))) := so_k (by decide +kernel)
theorem t_99_102 : am_ok lw_Ts cX7_mayBe 7 RX7 102 (o_ic 118 105 r_ne) := so_ic_ne (off := 16) (by decide +kernel) rfl
theorem t_99_105 : am_ok lw_Ts cX7_mayBe 7 RX7 105 (o_al 106 0) := so_al (Or.inl ⟨0, rfl, rfl, rfl⟩) (by decide +kernel)
theorem t_99_106 : am_ok lw_Ts cX7_mayBe 7 RX7 106 (o_gf 109 7 34) := so_gf cl_X7 (by decide) wt_743 (by decide +kernel)
theorem t_99_109 : am_ok lw_Ts cX7_mayBe 7 RX7 109 (o_il 110 1) := so_il (Or.inl ⟨1, rfl, rfl, rfl⟩) (by decide +kernel)
theorem t_99_110 : am_ok lw_Ts cX7_mayBe 7 RX7 110 (o_ia 111) := so_ia (by decide +kernel)
theorem t_99_111 : am_ok lw_Ts cX7_mayBe 7 RX7 111 (o_if 118 114 q_eq) := so_if_eq (off := 7) (by decide +kernel) rfl
theorem t_99_114 : am_ok lw_Ts cX7_mayBe 7 RX7 114 (o_k 115 (vI (1))) := so_k (by decide +kernel)
theorem t_99_115 : am_ok lw_Ts cX7_mayBe 7 RX7 115 (o_go 119) := so_go (off := 4) (by decide +kernel) rfl
theorem t_99_118 : am_ok lw_Ts cX7_mayBe 7 RX7 118 (o_k 119 (vI (0))) := so_k (by decide +kernel)
theorem t_99_119 : am_okr cX7_mayBe 119 2 := (show decode cX7_mayBe 119 = .ok (.ireturn, 1) by decide +kernel)
set_option maxRecDepth 20000 in
theorem ok_99 : am_okL gm_mi gm_mt lw_Ts lw_Ns 99 cd_99 := ⟨t_99_0, t_99_1, t_99_3, t_99_4, t_99_6, t_99_7, t_99_9, t_99_11, t_99_12, t_99_15, t_99_18, t_99_19, t_99_21, t_99_22, t_99_23, t_99_24, t_99_27, t_99_30, t_99_32, t_99_33, t_99_36, t_99_38, t_99_39, t_99_40, t_99_42, t_99_43, t_99_46, t_99_48, t_99_49, t_99_52, t_99_55, t_99_56, t_99_59, t_99_61, t_99_62, t_99_63, t_99_66, t_99_67, t_99_70, t_99_72, t_99_73, t_99_74, t_99_75, t_99_78, t_99_79, t_99_82, t_99_85, t_99_86, t_99_87, t_99_90, t_99_93, t_99_95, t_99_96, t_99_99, t_99_101, t_99_102, t_99_105, t_99_106, t_99_109, t_99_110, t_99_111, t_99_114, t_99_115, t_99_118, t_99_119, trivial⟩
theorem t_100_0 : am_ok lw_Ts cX7_sum 4 RX7 0 (o_k 1 (vI (0))) := so_k (by decide +kernel)
theorem t_100_1 : am_ok lw_Ts cX7_sum 4 RX7 1 (o_is 2 2) := so_is (Or.inl ⟨2, rfl, rfl, rfl⟩) (by decide +kernel)
theorem t_100_2 : am_ok lw_Ts cX7_sum 4 RX7 2 (o_k 3 (vI (0))) := so_k (by decide +kernel)
theorem t_100_3 : am_ok lw_Ts cX7_sum 4 RX7 3 (o_is 4 3) := so_is (Or.inl ⟨3, rfl, rfl, rfl⟩) (by decide +kernel)
theorem t_100_4 : am_ok lw_Ts cX7_sum 4 RX7 4 (o_il 5 3) := so_il (Or.inl ⟨3, rfl, rfl, rfl⟩) (by decide +kernel)
theorem t_100_5 : am_ok lw_Ts cX7_sum 4 RX7 5 (o_al 6 0) := so_al (Or.inl ⟨0, rfl, rfl, rfl⟩) (by decide +kernel)
theorem t_100_6 : am_ok lw_Ts cX7_sum 4 RX7 6 (o_gf 9 7 19) := so_gf cl_X7 (by decide) wt_728 (by decide +kernel)
theorem t_100_9 : am_ok lw_Ts cX7_sum 4 RX7 9 (o_ic 36 12 r_ge) := so_ic_ge (off := 27) (by decide +kernel) rfl
theorem t_100_12 : am_ok lw_Ts cX7_sum 4 RX7 12 (o_il 13 1) := so_il (Or.inl ⟨1, rfl, rfl, rfl⟩) (by decide +kernel)
theorem t_100_13 : am_ok lw_Ts cX7_sum 4 RX7 13 (o_il 14 3) := so_il (Or.inl ⟨3, rfl, rfl, rfl⟩) (by decide +kernel)
theorem t_100_14 : am_ok lw_Ts cX7_sum 4 RX7 14 (o_ib 15 f_shr) := so_ishr (by decide +kernel)
theorem t_100_15 : am_ok lw_Ts cX7_sum 4 RX7 15 (o_k 16 (vI (1))) := so_k (by decide +kernel)
theorem t_100_16 : am_ok lw_Ts cX7_sum 4 RX7 16 (o_ib 17 f_and) := so_iand (by decide +kernel)
theorem t_100_17 : am_ok lw_Ts cX7_sum 4 RX7 17 (o_k 18 (vI (1))) := so_k (by decide +kernel)
theorem t_100_18 : am_ok lw_Ts cX7_sum 4 RX7 18 (o_ic 30 21 r_ne) := so_ic_ne (off := 12) (by decide +kernel) rfl
theorem t_100_21 : am_ok lw_Ts cX7_sum 4 RX7 21 (o_il 22 2) := so_il (Or.inl ⟨2, rfl, rfl, rfl⟩) (by decide +kernel)
theorem t_100_22 : am_ok lw_Ts cX7_sum 4 RX7 22 (o_al 23 0) := so_al (Or.inl ⟨0, rfl, rfl, rfl⟩) (by decide +kernel)
theorem t_100_23 : am_ok lw_Ts cX7_sum 4 RX7 23 (o_gf 26 7 16) := so_gf cl_X7 (by decide) wt_725 (by decide +kernel)
theorem t_100_26 : am_ok lw_Ts cX7_sum 4 RX7 26 (o_il 27 3) := so_il (Or.inl ⟨3, rfl, rfl, rfl⟩) (by decide +kernel)
theorem t_100_27 : am_ok lw_Ts cX7_sum 4 RX7 27 (o_ia 28) := so_ia (by decide +kernel)
theorem t_100_28 : am_ok lw_Ts cX7_sum 4 RX7 28 (o_ib 29 f_add) := so_iadd (by decide +kernel)
theorem t_100_29 : am_ok lw_Ts cX7_sum 4 RX7 29 (o_is 30 2) := so_is (Or.inl ⟨2, rfl, rfl, rfl⟩) (by decide +kernel)
theorem t_100_30 : am_ok lw_Ts cX7_sum 4 RX7 30 (o_ii 33 3 (1)) := so_ii (by decide +kernel)
theorem t_100_33 : am_ok lw_Ts cX7_sum 4 RX7 33 (o_go 4) := so_go (off := (-29)) (by decide +kernel) rfl
theorem t_100_36 : am_ok lw_Ts cX7_sum 4 RX7 36 (o_il 37 2) := so_il (Or.inl ⟨2, rfl, rfl, rfl⟩) (by decide +kernel)
theorem t_100_37 : am_okr cX7_sum 37 1 := (show decode cX7_sum 37 = .ok (.ireturn, 1) by decide +kernel)
set_option maxRecDepth 20000 in
theorem ok_100 : am_okL gm_mi gm_mt lw_Ts lw_Ns 100 cd_100 := ⟨t_100_0, t_100_1, t_100_2, t_100_3, t_100_4, t_100_5, t_100_6, t_100_9, t_100_12, t_100_13, t_100_14, t_100_15, t_100_16, t_100_17, t_100_18, t_100_21, t_100_22, t_100_23, t_100_26, t_100_27, t_100_28, t_100_29, t_100_30, t_100_33, t_100_36, t_100_37, trivial⟩
theorem t_101_0 : am_ok lw_Ts cX7_layRow 5 RX7 0 (o_il 1 1) := so_il (Or.inl ⟨1, rfl, rfl, rfl⟩) (by decide +kernel)
theorem t_101_1 : am_ok lw_Ts cX7_layRow 5 RX7 1 (o_is 2 2) := so_is (Or.inl ⟨2, rfl, rfl, rfl⟩) (by decide +kernel)
theorem t_101_2 : am_ok lw_Ts cX7_layRow 5 RX7 2 (o_k 3 (vI (0))) := so_k (by decide +kernel)
theorem t_101_3 : am_ok lw_Ts cX7_layRow 5 RX7 3 (o_is 4 3) := so_is (Or.inl ⟨3, rfl, rfl, rfl⟩) (by decide +kernel)
theorem t_101_4 : am_ok lw_Ts cX7_layRow 5 RX7 4 (o_il 5 2) := so_il (Or.inl ⟨2, rfl, rfl, rfl⟩) (by decide +kernel)
theorem t_101_5 : am_ok lw_Ts cX7_layRow 5 RX7 5 (o_if 73 8 q_eq) := so_if_eq (off := 68) (by decide +kernel) rfl
theorem t_101_8 : am_ok lw_Ts cX7_layRow 5 RX7 8 (o_k 9 (vI (0))) := so_k (by decide +kernel)
theorem t_101_9 : am_ok lw_Ts cX7_layRow 5 RX7 9 (o_is 11 4) := so_is (Or.inr ⟨rfl, rfl⟩) (by decide +kernel)
theorem t_101_11 : am_ok lw_Ts cX7_layRow 5 RX7 11 (o_al 12 0) := so_al (Or.inl ⟨0, rfl, rfl, rfl⟩) (by decide +kernel)
theorem t_101_12 : am_ok lw_Ts cX7_layRow 5 RX7 12 (o_gf 15 7 34) := so_gf cl_X7 (by decide) wt_743 (by decide +kernel)
theorem t_101_15 : am_ok lw_Ts cX7_layRow 5 RX7 15 (o_il 16 2) := so_il (Or.inl ⟨2, rfl, rfl, rfl⟩) (by decide +kernel)
theorem t_101_16 : am_ok lw_Ts cX7_layRow 5 RX7 16 (o_ia 17) := so_ia (by decide +kernel)
theorem t_101_17 : am_ok lw_Ts cX7_layRow 5 RX7 17 (o_il 19 4) := so_il (Or.inr ⟨rfl, rfl⟩) (by decide +kernel)
theorem t_101_19 : am_ok lw_Ts cX7_layRow 5 RX7 19 (o_ib 20 f_shr) := so_ishr (by decide +kernel)
theorem t_101_20 : am_ok lw_Ts cX7_layRow 5 RX7 20 (o_k 21 (vI (1))) := so_k (by decide +kernel)
theorem t_101_21 : am_ok lw_Ts cX7_layRow 5 RX7 21 (o_ib 22 f_and) := so_iand (by decide +kernel)
theorem t_101_22 : am_ok lw_Ts cX7_layRow 5 RX7 22 (o_if 46 25 q_eq) := so_if_eq (off := 24) (by decide +kernel) rfl
theorem t_101_25 : am_ok lw_Ts cX7_layRow 5 RX7 25 (o_il 26 3) := so_il (Or.inl ⟨3, rfl, rfl, rfl⟩) (by decide +kernel)
theorem t_101_26 : am_ok lw_Ts cX7_layRow 5 RX7 26 (o_if 52 29 q_le) := so_if_le (off := 26) (by decide +kernel) rfl
theorem t_101_29 : am_ok lw_Ts cX7_layRow 5 RX7 29 (o_al 30 0) := so_al (Or.inl ⟨0, rfl, rfl, rfl⟩) (by decide +kernel)
theorem t_101_30 : am_ok lw_Ts cX7_layRow 5 RX7 30 (o_al 31 0) := so_al (Or.inl ⟨0, rfl, rfl, rfl⟩) (by decide +kernel)
theorem t_101_31 : am_ok lw_Ts cX7_layRow 5 RX7 31 (o_gf 34 7 35) := so_gf cl_X7 (by decide) wt_744 (by decide +kernel)
theorem t_101_34 : am_ok lw_Ts cX7_layRow 5 RX7 34 (o_il 35 3) := so_il (Or.inl ⟨3, rfl, rfl, rfl⟩) (by decide +kernel)
theorem t_101_35 : am_ok lw_Ts cX7_layRow 5 RX7 35 (o_k 36 (vI (1))) := so_k (by decide +kernel)
theorem t_101_36 : am_ok lw_Ts cX7_layRow 5 RX7 36 (o_ib 37 f_sub) := so_isub (by decide +kernel)
theorem t_101_37 : am_ok lw_Ts cX7_layRow 5 RX7 37 (o_ia 38) := so_ia (by decide +kernel)
theorem t_101_38 : am_ok lw_Ts cX7_layRow 5 RX7 38 (o_il 40 4) := so_il (Or.inr ⟨rfl, rfl⟩) (by decide +kernel)
theorem t_101_40 : am_okc gm_mi gm_mt lw_Ts lw_Ns cX7_layRow RX7 40 97 3 := ⟨175, cf_97.1, cf_97.2.1, cf_97.2.2.1, cf_97.2.2.2, Or.inr ⟨7, 2, TX7, 37, rfl, rfl, rfl, (by decide +kernel), wt_942, wt_36, wt_940, by decide +kernel⟩⟩
theorem t_101_43 : am_ok lw_Ts cX7_layRow 5 RX7 43 (o_if 52 46 q_ne) := so_if_ne (off := 9) (by decide +kernel) rfl
theorem t_101_46 : am_ok lw_Ts cX7_layRow 5 RX7 46 (o_ii 49 4 (1)) := so_ii (by decide +kernel)
theorem t_101_49 : am_ok lw_Ts cX7_layRow 5 RX7 49 (o_go 11) := so_go (off := (-38)) (by decide +kernel) rfl
theorem t_101_52 : am_ok lw_Ts cX7_layRow 5 RX7 52 (o_al 53 0) := so_al (Or.inl ⟨0, rfl, rfl, rfl⟩) (by decide +kernel)
theorem t_101_53 : am_ok lw_Ts cX7_layRow 5 RX7 53 (o_gf 56 7 35) := so_gf cl_X7 (by decide) wt_744 (by decide +kernel)
theorem t_101_56 : am_ok lw_Ts cX7_layRow 5 RX7 56 (o_il 57 3) := so_il (Or.inl ⟨3, rfl, rfl, rfl⟩) (by decide +kernel)
theorem t_101_57 : am_ok lw_Ts cX7_layRow 5 RX7 57 (o_il 59 4) := so_il (Or.inr ⟨rfl, rfl⟩) (by decide +kernel)
theorem t_101_59 : am_ok lw_Ts cX7_layRow 5 RX7 59 (o_iw 60) := so_iw (by decide +kernel)
theorem t_101_60 : am_ok lw_Ts cX7_layRow 5 RX7 60 (o_ii 63 3 (1)) := so_ii (by decide +kernel)
theorem t_101_63 : am_ok lw_Ts cX7_layRow 5 RX7 63 (o_il 64 2) := so_il (Or.inl ⟨2, rfl, rfl, rfl⟩) (by decide +kernel)
theorem t_101_64 : am_ok lw_Ts cX7_layRow 5 RX7 64 (o_k 65 (vI (1))) := so_k (by decide +kernel)
theorem t_101_65 : am_ok lw_Ts cX7_layRow 5 RX7 65 (o_il 67 4) := so_il (Or.inr ⟨rfl, rfl⟩) (by decide +kernel)
theorem t_101_67 : am_ok lw_Ts cX7_layRow 5 RX7 67 (o_ib 68 f_shl) := so_ishl (by decide +kernel)
theorem t_101_68 : am_ok lw_Ts cX7_layRow 5 RX7 68 (o_ib 69 f_xor) := so_ixor (by decide +kernel)
theorem t_101_69 : am_ok lw_Ts cX7_layRow 5 RX7 69 (o_is 70 2) := so_is (Or.inl ⟨2, rfl, rfl, rfl⟩) (by decide +kernel)
theorem t_101_70 : am_ok lw_Ts cX7_layRow 5 RX7 70 (o_go 4) := so_go (off := (-66)) (by decide +kernel) rfl
theorem t_101_73 : am_okr cX7_layRow 73 0 := (show decode cX7_layRow 73 = .ok (.return_, 1) by decide +kernel)
set_option maxRecDepth 20000 in
theorem ok_101 : am_okL gm_mi gm_mt lw_Ts lw_Ns 101 cd_101 := ⟨t_101_0, t_101_1, t_101_2, t_101_3, t_101_4, t_101_5, t_101_8, t_101_9, t_101_11, t_101_12, t_101_15, t_101_16, t_101_17, t_101_19, t_101_20, t_101_21, t_101_22, t_101_25, t_101_26, t_101_29, t_101_30, t_101_31, t_101_34, t_101_35, t_101_36, t_101_37, t_101_38, t_101_40, t_101_43, t_101_46, t_101_49, t_101_52, t_101_53, t_101_56, t_101_57, t_101_59, t_101_60, t_101_63, t_101_64, t_101_65, t_101_67, t_101_68, t_101_69, t_101_70, t_101_73, trivial⟩
theorem t_102_0 : am_ok lw_Ts cX7_isRowAhead 4 RX7 0 (o_k 1 (vI (0))) := so_k (by decide +kernel)
theorem t_102_1 : am_ok lw_Ts cX7_isRowAhead 4 RX7 1 (o_is 2 3) := so_is (Or.inl ⟨3, rfl, rfl, rfl⟩) (by decide +kernel)
theorem t_102_2 : am_ok lw_Ts cX7_isRowAhead 4 RX7 2 (o_il 3 3) := so_il (Or.inl ⟨3, rfl, rfl, rfl⟩) (by decide +kernel)
theorem t_102_3 : am_ok lw_Ts cX7_isRowAhead 4 RX7 3 (o_il 4 1) := so_il (Or.inl ⟨1, rfl, rfl, rfl⟩) (by decide +kernel)
theorem t_102_4 : am_ok lw_Ts cX7_isRowAhead 4 RX7 4 (o_ic 43 7 r_ge) := so_ic_ge (off := 39) (by decide +kernel) rfl
theorem t_102_7 : am_ok lw_Ts cX7_isRowAhead 4 RX7 7 (o_al 8 0) := so_al (Or.inl ⟨0, rfl, rfl, rfl⟩) (by decide +kernel)
theorem t_102_8 : am_ok lw_Ts cX7_isRowAhead 4 RX7 8 (o_gf 11 7 35) := so_gf cl_X7 (by decide) wt_744 (by decide +kernel)
theorem t_102_11 : am_ok lw_Ts cX7_isRowAhead 4 RX7 11 (o_il 12 3) := so_il (Or.inl ⟨3, rfl, rfl, rfl⟩) (by decide +kernel)
theorem t_102_12 : am_ok lw_Ts cX7_isRowAhead 4 RX7 12 (o_ia 13) := so_ia (by decide +kernel)
theorem t_102_13 : am_ok lw_Ts cX7_isRowAhead 4 RX7 13 (o_al 14 2) := so_al (Or.inl ⟨2, rfl, rfl, rfl⟩) (by decide +kernel)
theorem t_102_14 : am_ok lw_Ts cX7_isRowAhead 4 RX7 14 (o_il 15 3) := so_il (Or.inl ⟨3, rfl, rfl, rfl⟩) (by decide +kernel)
theorem t_102_15 : am_ok lw_Ts cX7_isRowAhead 4 RX7 15 (o_ia 16) := so_ia (by decide +kernel)
theorem t_102_16 : am_ok lw_Ts cX7_isRowAhead 4 RX7 16 (o_ic 37 19 r_eq) := so_ic_eq (off := 21) (by decide +kernel) rfl
theorem t_102_19 : am_ok lw_Ts cX7_isRowAhead 4 RX7 19 (o_al 20 0) := so_al (Or.inl ⟨0, rfl, rfl, rfl⟩) (by decide +kernel)
theorem t_102_20 : am_ok lw_Ts cX7_isRowAhead 4 RX7 20 (o_gf 23 7 35) := so_gf cl_X7 (by decide) wt_744 (by decide +kernel)
theorem t_102_23 : am_ok lw_Ts cX7_isRowAhead 4 RX7 23 (o_il 24 3) := so_il (Or.inl ⟨3, rfl, rfl, rfl⟩) (by decide +kernel)
theorem t_102_24 : am_ok lw_Ts cX7_isRowAhead 4 RX7 24 (o_ia 25) := so_ia (by decide +kernel)
theorem t_102_25 : am_ok lw_Ts cX7_isRowAhead 4 RX7 25 (o_al 26 2) := so_al (Or.inl ⟨2, rfl, rfl, rfl⟩) (by decide +kernel)
theorem t_102_26 : am_ok lw_Ts cX7_isRowAhead 4 RX7 26 (o_il 27 3) := so_il (Or.inl ⟨3, rfl, rfl, rfl⟩) (by decide +kernel)
theorem t_102_27 : am_ok lw_Ts cX7_isRowAhead 4 RX7 27 (o_ia 28) := so_ia (by decide +kernel)
theorem t_102_28 : am_ok lw_Ts cX7_isRowAhead 4 RX7 28 (o_ic 35 31 r_ge) := so_ic_ge (off := 7) (by decide +kernel) rfl
theorem t_102_31 : am_ok lw_Ts cX7_isRowAhead 4 RX7 31 (o_k 32 (vI (1))) := so_k (by decide +kernel)
theorem t_102_32 : am_ok lw_Ts cX7_isRowAhead 4 RX7 32 (o_go 36) := so_go (off := 4) (by decide +kernel) rfl
theorem t_102_35 : am_ok lw_Ts cX7_isRowAhead 4 RX7 35 (o_k 36 (vI (0))) := so_k (by decide +kernel)
theorem t_102_36 : am_okr cX7_isRowAhead 36 2 := (show decode cX7_isRowAhead 36 = .ok (.ireturn, 1) by decide +kernel)
theorem t_102_37 : am_ok lw_Ts cX7_isRowAhead 4 RX7 37 (o_ii 40 3 (1)) := so_ii (by decide +kernel)
theorem t_102_40 : am_ok lw_Ts cX7_isRowAhead 4 RX7 40 (o_go 2) := so_go (off := (-38)) (by decide +kernel) rfl
theorem t_102_43 : am_ok lw_Ts cX7_isRowAhead 4 RX7 43 (o_k 44 (vI (0))) := so_k (by decide +kernel)
theorem t_102_44 : am_okr cX7_isRowAhead 44 2 := (show decode cX7_isRowAhead 44 = .ok (.ireturn, 1) by decide +kernel)
set_option maxRecDepth 20000 in
theorem ok_102 : am_okL gm_mi gm_mt lw_Ts lw_Ns 102 cd_102 := ⟨t_102_0, t_102_1, t_102_2, t_102_3, t_102_4, t_102_7, t_102_8, t_102_11, t_102_12, t_102_13, t_102_14, t_102_15, t_102_16, t_102_19, t_102_20, t_102_23, t_102_24, t_102_25, t_102_26, t_102_27, t_102_28, t_102_31, t_102_32, t_102_35, t_102_36, t_102_37, t_102_40, t_102_43, t_102_44, trivial⟩
end
section
theorem t_103_0 : am_ok lw_Ts cX7_row 7 RX7 0 (o_al 1 0) := so_al (Or.inl ⟨0, rfl, rfl, rfl⟩) (by decide +kernel)
theorem t_103_1 : am_ok lw_Ts cX7_row 7 RX7 1 (o_k 2 (vI (0))) := so_k (by decide +kernel)
theorem t_103_2 : am_ok lw_Ts cX7_row 7 RX7 2 (o_pf 5 7 25) := so_pf cl_X7 tyX7_ok nmX7 (by decide) rfl rfl wt_734 (by decide +kernel)
theorem t_103_5 : am_ok lw_Ts cX7_row 7 RX7 5 (o_il 6 1) := so_il (Or.inl ⟨1, rfl, rfl, rfl⟩) (by decide +kernel)
theorem t_103_6 : am_ok lw_Ts cX7_row 7 RX7 6 (o_k 7 (vI (0))) := so_k (by decide +kernel)
theorem t_103_7 : am_ok lw_Ts cX7_row 7 RX7 7 (o_k 10 (vI (400))) := so_sp rfl (by decide +kernel)
theorem t_103_10 : am_okc gm_mi gm_mt lw_Ts lw_Ns cX7_row RX7 10 70 3 := ⟨114, cf_70.1, cf_70.2.1, cf_70.2.2.1, cf_70.2.2.2, Or.inl ⟨rfl, (by decide +kernel), wt_831, by decide +kernel, (Or.inl wt_830)⟩⟩
theorem t_103_13 : am_ok lw_Ts cX7_row 7 RX7 13 (o_if 27 16 q_eq) := so_if_eq (off := 14) (by decide +kernel) rfl
theorem t_103_16 : am_ok lw_Ts cX7_row 7 RX7 16 (o_il 17 2) := so_il (Or.inl ⟨2, rfl, rfl, rfl⟩) (by decide +kernel)
theorem t_103_17 : am_ok lw_Ts cX7_row 7 RX7 17 (o_k 18 (vI (1))) := so_k (by decide +kernel)
theorem t_103_18 : am_ok lw_Ts cX7_row 7 RX7 18 (o_k 21 (vI (300))) := so_sp rfl (by decide +kernel)
theorem t_103_21 : am_okc gm_mi gm_mt lw_Ts lw_Ns cX7_row RX7 21 70 3 := ⟨114, cf_70.1, cf_70.2.1, cf_70.2.2.1, cf_70.2.2.2, Or.inl ⟨rfl, (by decide +kernel), wt_831, by decide +kernel, (Or.inl wt_830)⟩⟩
theorem t_103_24 : am_ok lw_Ts cX7_row 7 RX7 24 (o_if 29 27 q_ne) := so_if_ne (off := 5) (by decide +kernel) rfl
theorem t_103_27 : am_ok lw_Ts cX7_row 7 RX7 27 (o_k 28 (vI (-1))) := so_k (by decide +kernel)
theorem t_103_28 : am_okr cX7_row 28 1 := (show decode cX7_row 28 = .ok (.ireturn, 1) by decide +kernel)
theorem t_103_29 : am_ok lw_Ts cX7_row 7 RX7 29 (o_al 30 0) := so_al (Or.inl ⟨0, rfl, rfl, rfl⟩) (by decide +kernel)
theorem t_103_30 : am_okc gm_mi gm_mt lw_Ts lw_Ns cX7_row RX7 30 98 1 := ⟨183, cf_98.1, cf_98.2.1, cf_98.2.2.1, cf_98.2.2.2, Or.inr ⟨7, 0, TX7, 37, rfl, rfl, rfl, (by decide +kernel), wt_938, wt_35, wt_936, by decide +kernel⟩⟩
theorem t_103_33 : am_ok lw_Ts cX7_row 7 RX7 33 (o_k 34 (vI (0))) := so_k (by decide +kernel)
theorem t_103_34 : am_ok lw_Ts cX7_row 7 RX7 34 (o_is 35 3) := so_is (Or.inl ⟨3, rfl, rfl, rfl⟩) (by decide +kernel)
theorem t_103_35 : am_ok lw_Ts cX7_row 7 RX7 35 (o_k 36 (vI (1))) := so_k (by decide +kernel)
theorem t_103_36 : am_ok lw_Ts cX7_row 7 RX7 36 (o_is 38 4) := so_is (Or.inr ⟨rfl, rfl⟩) (by decide +kernel)
theorem t_103_38 : am_ok lw_Ts cX7_row 7 RX7 38 (o_il 40 4) := so_il (Or.inr ⟨rfl, rfl⟩) (by decide +kernel)
theorem t_103_40 : am_ok lw_Ts cX7_row 7 RX7 40 (o_k 41 (vI (1))) := so_k (by decide +kernel)
theorem t_103_41 : am_ok lw_Ts cX7_row 7 RX7 41 (o_al 42 0) := so_al (Or.inl ⟨0, rfl, rfl, rfl⟩) (by decide +kernel)
theorem t_103_42 : am_ok lw_Ts cX7_row 7 RX7 42 (o_gf 45 7 19) := so_gf cl_X7 (by decide) wt_728 (by decide +kernel)
theorem t_103_45 : am_ok lw_Ts cX7_row 7 RX7 45 (o_ib 46 f_shl) := so_ishl (by decide +kernel)
theorem t_103_46 : am_ok lw_Ts cX7_row 7 RX7 46 (o_ic 179 49 r_ge) := so_ic_ge (off := 133) (by decide +kernel) rfl
theorem t_103_49 : am_ok lw_Ts cX7_row 7 RX7 49 (o_al 50 0) := so_al (Or.inl ⟨0, rfl, rfl, rfl⟩) (by decide +kernel)
theorem t_103_50 : am_ok lw_Ts cX7_row 7 RX7 50 (o_il 52 4) := so_il (Or.inr ⟨rfl, rfl⟩) (by decide +kernel)
theorem t_103_52 : am_ok lw_Ts cX7_row 7 RX7 52 (o_il 53 1) := so_il (Or.inl ⟨1, rfl, rfl, rfl⟩) (by decide +kernel)
theorem t_103_53 : am_ok lw_Ts cX7_row 7 RX7 53 (o_il 54 2) := so_il (Or.inl ⟨2, rfl, rfl, rfl⟩) (by decide +kernel)
theorem t_103_54 : am_okc gm_mi gm_mt lw_Ts lw_Ns cX7_row RX7 54 99 4 := ⟨186, cf_99.1, cf_99.2.1, cf_99.2.2.1, cf_99.2.2.2, Or.inr ⟨7, 3, TX7, 37, rfl, rfl, rfl, (by decide +kernel), wt_946, wt_37, wt_944, by decide +kernel⟩⟩
theorem t_103_57 : am_ok lw_Ts cX7_row 7 RX7 57 (o_if 63 60 q_ne) := so_if_ne (off := 6) (by decide +kernel) rfl
theorem t_103_60 : am_ok lw_Ts cX7_row 7 RX7 60 (o_go 173) := so_go (off := 113) (by decide +kernel) rfl
theorem t_103_63 : am_ok lw_Ts cX7_row 7 RX7 63 (o_il 64 3) := so_il (Or.inl ⟨3, rfl, rfl, rfl⟩) (by decide +kernel)
theorem t_103_64 : am_ok lw_Ts cX7_row 7 RX7 64 (o_if 71 67 q_ne) := so_if_ne (off := 7) (by decide +kernel) rfl
theorem t_103_67 : am_ok lw_Ts cX7_row 7 RX7 67 (o_k 68 (vI (1))) := so_k (by decide +kernel)
theorem t_103_68 : am_ok lw_Ts cX7_row 7 RX7 68 (o_go 83) := so_go (off := 15) (by decide +kernel) rfl
theorem t_103_71 : am_ok lw_Ts cX7_row 7 RX7 71 (o_al 72 0) := so_al (Or.inl ⟨0, rfl, rfl, rfl⟩) (by decide +kernel)
theorem t_103_72 : am_ok lw_Ts cX7_row 7 RX7 72 (o_il 74 4) := so_il (Or.inr ⟨rfl, rfl⟩) (by decide +kernel)
theorem t_103_74 : am_okc gm_mi gm_mt lw_Ts lw_Ns cX7_row RX7 74 100 2 := ⟨189, cf_100.1, cf_100.2.1, cf_100.2.2.1, cf_100.2.2.2, Or.inr ⟨7, 1, TX7, 37, rfl, rfl, rfl, (by decide +kernel), wt_951, wt_38, wt_949, by decide +kernel⟩⟩
theorem t_103_77 : am_ok lw_Ts cX7_row 7 RX7 77 (o_al 78 0) := so_al (Or.inl ⟨0, rfl, rfl, rfl⟩) (by decide +kernel)
theorem t_103_78 : am_ok lw_Ts cX7_row 7 RX7 78 (o_il 79 3) := so_il (Or.inl ⟨3, rfl, rfl, rfl⟩) (by decide +kernel)
theorem t_103_79 : am_okc gm_mi gm_mt lw_Ts lw_Ns cX7_row RX7 79 100 2 := ⟨189, cf_100.1, cf_100.2.1, cf_100.2.2.1, cf_100.2.2.2, Or.inr ⟨7, 1, TX7, 37, rfl, rfl, rfl, (by decide +kernel), wt_951, wt_38, wt_949, by decide +kernel⟩⟩
theorem t_103_82 : am_ok lw_Ts cX7_row 7 RX7 82 (o_ib 83 f_sub) := so_isub (by decide +kernel)
theorem t_103_83 : am_ok lw_Ts cX7_row 7 RX7 83 (o_is 85 5) := so_is (Or.inr ⟨rfl, rfl⟩) (by decide +kernel)
theorem t_103_85 : am_ok lw_Ts cX7_row 7 RX7 85 (o_il 87 5) := so_il (Or.inr ⟨rfl, rfl⟩) (by decide +kernel)
theorem t_103_87 : am_ok lw_Ts cX7_row 7 RX7 87 (o_if 102 90 q_ne) := so_if_ne (off := 15) (by decide +kernel) rfl
theorem t_103_90 : am_ok lw_Ts cX7_row 7 RX7 90 (o_il 91 3) := so_il (Or.inl ⟨3, rfl, rfl, rfl⟩) (by decide +kernel)
theorem t_103_91 : am_okc gm_mi gm_mt lw_Ts lw_Ns cX7_row RX7 91 112 1 := ⟨128, cf_112.1, cf_112.2.1, cf_112.2.2.1, cf_112.2.2.2, Or.inl ⟨rfl, (by decide +kernel), wt_369, by decide +kernel, (Or.inl wt_873)⟩⟩
theorem t_103_94 : am_ok lw_Ts cX7_row 7 RX7 94 (o_il 96 4) := so_il (Or.inr ⟨rfl, rfl⟩) (by decide +kernel)
theorem t_103_96 : am_okc gm_mi gm_mt lw_Ts lw_Ns cX7_row RX7 96 112 1 := ⟨128, cf_112.1, cf_112.2.1, cf_112.2.2.1, cf_112.2.2.2, Or.inl ⟨rfl, (by decide +kernel), wt_369, by decide +kernel, (Or.inl wt_873)⟩⟩
theorem t_103_99 : am_ok lw_Ts cX7_row 7 RX7 99 (o_ib 100 f_sub) := so_isub (by decide +kernel)
theorem t_103_100 : am_ok lw_Ts cX7_row 7 RX7 100 (o_is 102 5) := so_is (Or.inr ⟨rfl, rfl⟩) (by decide +kernel)
theorem t_103_102 : am_ok lw_Ts cX7_row 7 RX7 102 (o_il 104 5) := so_il (Or.inr ⟨rfl, rfl⟩) (by decide +kernel)
theorem t_103_104 : am_ok lw_Ts cX7_row 7 RX7 104 (o_if 110 107 q_ge) := so_if_ge (off := 6) (by decide +kernel) rfl
theorem t_103_107 : am_ok lw_Ts cX7_row 7 RX7 107 (o_go 173) := so_go (off := 66) (by decide +kernel) rfl
theorem t_103_110 : am_ok lw_Ts cX7_row 7 RX7 110 (o_al 111 0) := so_al (Or.inl ⟨0, rfl, rfl, rfl⟩) (by decide +kernel)
theorem t_103_111 : am_ok lw_Ts cX7_row 7 RX7 111 (o_il 113 4) := so_il (Or.inr ⟨rfl, rfl⟩) (by decide +kernel)
theorem t_103_113 : am_okc gm_mi gm_mt lw_Ts lw_Ns cX7_row RX7 113 101 2 := ⟨192, cf_101.1, cf_101.2.1, cf_101.2.2.1, cf_101.2.2.2, Or.inr ⟨7, 1, TX7, 37, rfl, rfl, rfl, (by decide +kernel), wt_955, wt_39, wt_953, by decide +kernel⟩⟩
theorem t_103_116 : am_ok lw_Ts cX7_row 7 RX7 116 (o_il 118 5) := so_il (Or.inr ⟨rfl, rfl⟩) (by decide +kernel)
theorem t_103_118 : am_ok lw_Ts cX7_row 7 RX7 118 (o_if 140 121 q_ne) := so_if_ne (off := 22) (by decide +kernel) rfl
theorem t_103_121 : am_ok lw_Ts cX7_row 7 RX7 121 (o_al 122 0) := so_al (Or.inl ⟨0, rfl, rfl, rfl⟩) (by decide +kernel)
theorem t_103_122 : am_ok lw_Ts cX7_row 7 RX7 122 (o_il 124 4) := so_il (Or.inr ⟨rfl, rfl⟩) (by decide +kernel)
theorem t_103_124 : am_okc gm_mi gm_mt lw_Ts lw_Ns cX7_row RX7 124 112 1 := ⟨128, cf_112.1, cf_112.2.1, cf_112.2.2.1, cf_112.2.2.2, Or.inl ⟨rfl, (by decide +kernel), wt_369, by decide +kernel, (Or.inl wt_873)⟩⟩
theorem t_103_127 : am_ok lw_Ts cX7_row 7 RX7 127 (o_al 128 0) := so_al (Or.inl ⟨0, rfl, rfl, rfl⟩) (by decide +kernel)
theorem t_103_128 : am_ok lw_Ts cX7_row 7 RX7 128 (o_gf 131 7 36) := so_gf cl_X7 (by decide) wt_745 (by decide +kernel)
theorem t_103_131 : am_okc gm_mi gm_mt lw_Ts lw_Ns cX7_row RX7 131 102 3 := ⟨196, cf_102.1, cf_102.2.1, cf_102.2.2.1, cf_102.2.2.2, Or.inr ⟨7, 2, TX7, 37, rfl, rfl, rfl, (by decide +kernel), wt_959, wt_40, wt_957, by decide +kernel⟩⟩
theorem t_103_134 : am_ok lw_Ts cX7_row 7 RX7 134 (o_if 140 137 q_ne) := so_if_ne (off := 6) (by decide +kernel) rfl
theorem t_103_137 : am_ok lw_Ts cX7_row 7 RX7 137 (o_go 173) := so_go (off := 36) (by decide +kernel) rfl
theorem t_103_140 : am_ok lw_Ts cX7_row 7 RX7 140 (o_il 142 4) := so_il (Or.inr ⟨rfl, rfl⟩) (by decide +kernel)
theorem t_103_142 : am_ok lw_Ts cX7_row 7 RX7 142 (o_is 143 3) := so_is (Or.inl ⟨3, rfl, rfl, rfl⟩) (by decide +kernel)
theorem t_103_143 : am_ok lw_Ts cX7_row 7 RX7 143 (o_k 144 (vI (0))) := so_k (by decide +kernel)
theorem t_103_144 : am_ok lw_Ts cX7_row 7 RX7 144 (o_is 146 6) := so_is (Or.inr ⟨rfl, rfl⟩) (by decide +kernel)
theorem t_103_146 : am_ok lw_Ts cX7_row 7 RX7 146 (o_il 148 6) := so_il (Or.inr ⟨rfl, rfl⟩) (by decide +kernel)
theorem t_103_148 : am_ok lw_Ts cX7_row 7 RX7 148 (o_k 150 (vI (10))) := so_bp rfl (by decide +kernel)
theorem t_103_150 : am_ok lw_Ts cX7_row 7 RX7 150 (o_ic 173 153 r_ge) := so_ic_ge (off := 23) (by decide +kernel) rfl
theorem t_103_153 : am_ok lw_Ts cX7_row 7 RX7 153 (o_al 154 0) := so_al (Or.inl ⟨0, rfl, rfl, rfl⟩) (by decide +kernel)
theorem t_103_154 : am_ok lw_Ts cX7_row 7 RX7 154 (o_gf 157 7 36) := so_gf cl_X7 (by decide) wt_745 (by decide +kernel)
theorem t_103_157 : am_ok lw_Ts cX7_row 7 RX7 157 (o_il 159 6) := so_il (Or.inr ⟨rfl, rfl⟩) (by decide +kernel)
theorem t_103_159 : am_ok lw_Ts cX7_row 7 RX7 159 (o_al 160 0) := so_al (Or.inl ⟨0, rfl, rfl, rfl⟩) (by decide +kernel)
theorem t_103_160 : am_ok lw_Ts cX7_row 7 RX7 160 (o_gf 163 7 35) := so_gf cl_X7 (by decide) wt_744 (by decide +kernel)
theorem t_103_163 : am_ok lw_Ts cX7_row 7 RX7 163 (o_il 165 6) := so_il (Or.inr ⟨rfl, rfl⟩) (by decide +kernel)
theorem t_103_165 : am_ok lw_Ts cX7_row 7 RX7 165 (o_ia 166) := so_ia (by decide +kernel)
theorem t_103_166 : am_ok lw_Ts cX7_row 7 RX7 166 (o_iw 167) := so_iw (by decide +kernel)
theorem t_103_167 : am_ok lw_Ts cX7_row 7 RX7 167 (o_ii 170 6 (1)) := so_ii (by decide +kernel)
theorem t_103_170 : am_ok lw_Ts cX7_row 7 RX7 170 (o_go 146) := so_go (off := (-24)) (by decide +kernel) rfl
theorem t_103_173 : am_ok lw_Ts cX7_row 7 RX7 173 (o_ii 176 4 (1)) := so_ii (by decide +kernel)
theorem t_103_176 : am_ok lw_Ts cX7_row 7 RX7 176 (o_go 38) := so_go (off := (-138)) (by decide +kernel) rfl
theorem t_103_179 : am_ok lw_Ts cX7_row 7 RX7 179 (o_il 180 3) := so_il (Or.inl ⟨3, rfl, rfl, rfl⟩) (by decide +kernel)
theorem t_103_180 : am_ok lw_Ts cX7_row 7 RX7 180 (o_if 185 183 q_ne) := so_if_ne (off := 5) (by decide +kernel) rfl
theorem t_103_183 : am_ok lw_Ts cX7_row 7 RX7 183 (o_k 184 (vI (-1))) := so_k (by decide +kernel)
theorem t_103_184 : am_okr cX7_row 184 1 := (show decode cX7_row 184 = .ok (.ireturn, 1) by decide +kernel)
theorem t_103_185 : am_ok lw_Ts cX7_row 7 RX7 185 (o_al 186 0) := so_al (Or.inl ⟨0, rfl, rfl, rfl⟩) (by decide +kernel)
theorem t_103_186 : am_ok lw_Ts cX7_row 7 RX7 186 (o_il 187 3) := so_il (Or.inl ⟨3, rfl, rfl, rfl⟩) (by decide +kernel)
theorem t_103_187 : am_okc gm_mi gm_mt lw_Ts lw_Ns cX7_row RX7 187 112 1 := ⟨128, cf_112.1, cf_112.2.1, cf_112.2.2.1, cf_112.2.2.2, Or.inl ⟨rfl, (by decide +kernel), wt_369, by decide +kernel, (Or.inl wt_873)⟩⟩
theorem t_103_190 : am_ok lw_Ts cX7_row 7 RX7 190 (o_pf 193 7 21) := so_pf cl_X7 tyX7_ok nmX7 (by decide) rfl rfl wt_730 (by decide +kernel)
theorem t_103_193 : am_ok lw_Ts cX7_row 7 RX7 193 (o_k 194 (vI (0))) := so_k (by decide +kernel)
theorem t_103_194 : am_ok lw_Ts cX7_row 7 RX7 194 (o_is 196 4) := so_is (Or.inr ⟨rfl, rfl⟩) (by decide +kernel)
theorem t_103_196 : am_ok lw_Ts cX7_row 7 RX7 196 (o_il 198 4) := so_il (Or.inr ⟨rfl, rfl⟩) (by decide +kernel)
theorem t_103_198 : am_ok lw_Ts cX7_row 7 RX7 198 (o_al 199 0) := so_al (Or.inl ⟨0, rfl, rfl, rfl⟩) (by decide +kernel)
theorem t_103_199 : am_ok lw_Ts cX7_row 7 RX7 199 (o_gf 202 7 21) := so_gf cl_X7 (by decide) wt_730 (by decide +kernel)
theorem t_103_202 : am_ok lw_Ts cX7_row 7 RX7 202 (o_ic 225 205 r_ge) := so_ic_ge (off := 23) (by decide +kernel) rfl
theorem t_103_205 : am_ok lw_Ts cX7_row 7 RX7 205 (o_al 206 0) := so_al (Or.inl ⟨0, rfl, rfl, rfl⟩) (by decide +kernel)
theorem t_103_206 : am_ok lw_Ts cX7_row 7 RX7 206 (o_gf 209 7 20) := so_gf cl_X7 (by decide) wt_729 (by decide +kernel)
theorem t_103_209 : am_ok lw_Ts cX7_row 7 RX7 209 (o_il 211 4) := so_il (Or.inr ⟨rfl, rfl⟩) (by decide +kernel)
theorem t_103_211 : am_ok lw_Ts cX7_row 7 RX7 211 (o_al 212 0) := so_al (Or.inl ⟨0, rfl, rfl, rfl⟩) (by decide +kernel)
theorem t_103_212 : am_ok lw_Ts cX7_row 7 RX7 212 (o_gf 215 7 36) := so_gf cl_X7 (by decide) wt_745 (by decide +kernel)
theorem t_103_215 : am_ok lw_Ts cX7_row 7 RX7 215 (o_il 217 4) := so_il (Or.inr ⟨rfl, rfl⟩) (by decide +kernel)
theorem t_103_217 : am_ok lw_Ts cX7_row 7 RX7 217 (o_ia 218) := so_ia (by decide +kernel)
theorem t_103_218 : am_ok lw_Ts cX7_row 7 RX7 218 (o_iw 219) := so_iw (by decide +kernel)
theorem t_103_219 : am_ok lw_Ts cX7_row 7 RX7 219 (o_ii 222 4 (1)) := so_ii (by decide +kernel)
theorem t_103_222 : am_ok lw_Ts cX7_row 7 RX7 222 (o_go 196) := so_go (off := (-26)) (by decide +kernel) rfl
theorem t_103_225 : am_ok lw_Ts cX7_row 7 RX7 225 (o_al 226 0) := so_al (Or.inl ⟨0, rfl, rfl, rfl⟩) (by decide +kernel)
theorem t_103_226 : am_ok lw_Ts cX7_row 7 RX7 226 (o_il 227 3) := so_il (Or.inl ⟨3, rfl, rfl, rfl⟩) (by decide +kernel)
theorem t_103_227 : am_okc gm_mi gm_mt lw_Ts lw_Ns cX7_row RX7 227 100 2 := ⟨189, cf_100.1, cf_100.2.1, cf_100.2.2.1, cf_100.2.2.2, Or.inr ⟨7, 1, TX7, 37, rfl, rfl, rfl, (by decide +kernel), wt_951, wt_38, wt_949, by decide +kernel⟩⟩
theorem t_103_230 : am_okr cX7_row 230 1 := (show decode cX7_row 230 = .ok (.ireturn, 1) by decide +kernel)
set_option maxRecDepth 20000 in
theorem ok_103 : am_okL gm_mi gm_mt lw_Ts lw_Ns 103 cd_103 := ⟨t_103_0, t_103_1, t_103_2, t_103_5, t_103_6, t_103_7, t_103_10, t_103_13, t_103_16, t_103_17, t_103_18, t_103_21, t_103_24, t_103_27, t_103_28, t_103_29, t_103_30, t_103_33, t_103_34, t_103_35, t_103_36, t_103_38, t_103_40, t_103_41, t_103_42, t_103_45, t_103_46, t_103_49, t_103_50, t_103_52, t_103_53, t_103_54, t_103_57, t_103_60, t_103_63, t_103_64, t_103_67, t_103_68, t_103_71, t_103_72, t_103_74, t_103_77, t_103_78, t_103_79, t_103_82, t_103_83, t_103_85, t_103_87, t_103_90, t_103_91, t_103_94, t_103_96, t_103_99, t_103_100, t_103_102, t_103_104, t_103_107, t_103_110, t_103_111, t_103_113, t_103_116, t_103_118, t_103_121, t_103_122, t_103_124, t_103_127, t_103_128, t_103_131, t_103_134, t_103_137, t_103_140, t_103_142, t_103_143, t_103_144, t_103_146, t_103_148, t_103_150, t_103_153, t_103_154, t_103_157, t_103_159, t_103_160, t_103_163, t_103_165, t_103_166, t_103_167, t_103_170, t_103_173, t_103_176, t_103_179, t_103_180, t_103_183, t_103_184, t_103_185, t_103_186, t_103_187, t_103_190, t_103_193, t_103_194, t_103_196, t_103_198, t_103_199, t_103_202, t_103_205, t_103_206, t_103_209, t_103_211, t_103_212, t_103_215, t_103_217, t_103_218, t_103_219, t_103_222, t_103_225, t_103_226, t_103_227, t_103_230, trivial⟩
theorem t_104_0 : am_ok lw_Ts cX7_told 2 RX7 0 (o_al 1 0) := so_al (Or.inl ⟨0, rfl, rfl, rfl⟩) (by decide +kernel)
theorem t_104_1 : am_ok lw_Ts cX7_told 2 RX7 1 (o_k 2 (vI (0))) := so_k (by decide +kernel)
theorem t_104_2 : am_ok lw_Ts cX7_told 2 RX7 2 (o_pf 5 7 25) := so_pf cl_X7 tyX7_ok nmX7 (by decide) rfl rfl wt_734 (by decide +kernel)
theorem t_104_5 : am_ok lw_Ts cX7_told 2 RX7 5 (o_il 6 1) := so_il (Or.inl ⟨1, rfl, rfl, rfl⟩) (by decide +kernel)
theorem t_104_6 : am_ok lw_Ts cX7_told 2 RX7 6 (o_k 7 (vI (0))) := so_k (by decide +kernel)
theorem t_104_7 : am_ok lw_Ts cX7_told 2 RX7 7 (o_al 8 0) := so_al (Or.inl ⟨0, rfl, rfl, rfl⟩) (by decide +kernel)
theorem t_104_8 : am_ok lw_Ts cX7_told 2 RX7 8 (o_gf 11 7 21) := so_gf cl_X7 (by decide) wt_730 (by decide +kernel)
theorem t_104_11 : am_ok lw_Ts cX7_told 2 RX7 11 (o_k 12 (vI (1))) := so_k (by decide +kernel)
theorem t_104_12 : am_ok lw_Ts cX7_told 2 RX7 12 (o_ib 13 f_sub) := so_isub (by decide +kernel)
theorem t_104_13 : am_okc gm_mi gm_mt lw_Ts lw_Ns cX7_told RX7 13 70 3 := ⟨114, cf_70.1, cf_70.2.1, cf_70.2.2.1, cf_70.2.2.2, Or.inl ⟨rfl, (by decide +kernel), wt_831, by decide +kernel, (Or.inl wt_830)⟩⟩
theorem t_104_16 : am_ok lw_Ts cX7_told 2 RX7 16 (o_if 28 19 q_eq) := so_if_eq (off := 12) (by decide +kernel) rfl
theorem t_104_19 : am_ok lw_Ts cX7_told 2 RX7 19 (o_al 20 0) := so_al (Or.inl ⟨0, rfl, rfl, rfl⟩) (by decide +kernel)
theorem t_104_20 : am_ok lw_Ts cX7_told 2 RX7 20 (o_gf 23 7 20) := so_gf cl_X7 (by decide) wt_729 (by decide +kernel)
theorem t_104_23 : am_ok lw_Ts cX7_told 2 RX7 23 (o_il 24 1) := so_il (Or.inl ⟨1, rfl, rfl, rfl⟩) (by decide +kernel)
theorem t_104_24 : am_ok lw_Ts cX7_told 2 RX7 24 (o_ia 25) := so_ia (by decide +kernel)
theorem t_104_25 : am_ok lw_Ts cX7_told 2 RX7 25 (o_go 29) := so_go (off := 4) (by decide +kernel) rfl
theorem t_104_28 : am_ok lw_Ts cX7_told 2 RX7 28 (o_k 29 (vI (-1))) := so_k (by decide +kernel)
theorem t_104_29 : am_okr cX7_told 29 1 := (show decode cX7_told 29 = .ok (.ireturn, 1) by decide +kernel)
set_option maxRecDepth 20000 in
theorem ok_104 : am_okL gm_mi gm_mt lw_Ts lw_Ns 104 cd_104 := ⟨t_104_0, t_104_1, t_104_2, t_104_5, t_104_6, t_104_7, t_104_8, t_104_11, t_104_12, t_104_13, t_104_16, t_104_19, t_104_20, t_104_23, t_104_24, t_104_25, t_104_28, t_104_29, trivial⟩
theorem t_105_0 : am_ok lw_Ts cX7_vote 4 RX7 0 (o_al 1 0) := so_al (Or.inl ⟨0, rfl, rfl, rfl⟩) (by decide +kernel)
theorem t_105_1 : am_ok lw_Ts cX7_vote 4 RX7 1 (o_k 2 (vI (0))) := so_k (by decide +kernel)
theorem t_105_2 : am_ok lw_Ts cX7_vote 4 RX7 2 (o_pf 5 7 25) := so_pf cl_X7 tyX7_ok nmX7 (by decide) rfl rfl wt_734 (by decide +kernel)
theorem t_105_5 : am_ok lw_Ts cX7_vote 4 RX7 5 (o_il 6 1) := so_il (Or.inl ⟨1, rfl, rfl, rfl⟩) (by decide +kernel)
theorem t_105_6 : am_ok lw_Ts cX7_vote 4 RX7 6 (o_k 7 (vI (0))) := so_k (by decide +kernel)
theorem t_105_7 : am_ok lw_Ts cX7_vote 4 RX7 7 (o_k 9 (vI (6))) := so_bp rfl (by decide +kernel)
theorem t_105_9 : am_okc gm_mi gm_mt lw_Ts lw_Ns cX7_vote RX7 9 70 3 := ⟨114, cf_70.1, cf_70.2.1, cf_70.2.2.1, cf_70.2.2.2, Or.inl ⟨rfl, (by decide +kernel), wt_831, by decide +kernel, (Or.inl wt_830)⟩⟩
theorem t_105_12 : am_ok lw_Ts cX7_vote 4 RX7 12 (o_if 23 15 q_eq) := so_if_eq (off := 11) (by decide +kernel) rfl
theorem t_105_15 : am_ok lw_Ts cX7_vote 4 RX7 15 (o_al 16 0) := so_al (Or.inl ⟨0, rfl, rfl, rfl⟩) (by decide +kernel)
theorem t_105_16 : am_ok lw_Ts cX7_vote 4 RX7 16 (o_il 17 2) := so_il (Or.inl ⟨2, rfl, rfl, rfl⟩) (by decide +kernel)
theorem t_105_17 : am_okc gm_mi gm_mt lw_Ts lw_Ns cX7_vote RX7 17 73 2 := ⟨121, cf_73.1, cf_73.2.1, cf_73.2.2.1, cf_73.2.2.2, Or.inr ⟨7, 1, TX7, 37, rfl, rfl, rfl, (by decide +kernel), wt_843, wt_26, wt_841, by decide +kernel⟩⟩
theorem t_105_20 : am_ok lw_Ts cX7_vote 4 RX7 20 (o_if 25 23 q_ne) := so_if_ne (off := 5) (by decide +kernel) rfl
theorem t_105_23 : am_ok lw_Ts cX7_vote 4 RX7 23 (o_k 24 (vI (-1))) := so_k (by decide +kernel)
theorem t_105_24 : am_okr cX7_vote 24 1 := (show decode cX7_vote 24 = .ok (.ireturn, 1) by decide +kernel)
theorem t_105_25 : am_ok lw_Ts cX7_vote 4 RX7 25 (o_k 26 (vI (0))) := so_k (by decide +kernel)
theorem t_105_26 : am_ok lw_Ts cX7_vote 4 RX7 26 (o_is 27 3) := so_is (Or.inl ⟨3, rfl, rfl, rfl⟩) (by decide +kernel)
theorem t_105_27 : am_ok lw_Ts cX7_vote 4 RX7 27 (o_il 28 3) := so_il (Or.inl ⟨3, rfl, rfl, rfl⟩) (by decide +kernel)
theorem t_105_28 : am_ok lw_Ts cX7_vote 4 RX7 28 (o_al 29 0) := so_al (Or.inl ⟨0, rfl, rfl, rfl⟩) (by decide +kernel)
theorem t_105_29 : am_ok lw_Ts cX7_vote 4 RX7 29 (o_gf 32 7 23) := so_gf cl_X7 (by decide) wt_732 (by decide +kernel)
theorem t_105_32 : am_ok lw_Ts cX7_vote 4 RX7 32 (o_il 33 1) := so_il (Or.inl ⟨1, rfl, rfl, rfl⟩) (by decide +kernel)
theorem t_105_33 : am_ok lw_Ts cX7_vote 4 RX7 33 (o_ia 34) := so_ia (by decide +kernel)
theorem t_105_34 : am_ok lw_Ts cX7_vote 4 RX7 34 (o_ic 60 37 r_ge) := so_ic_ge (off := 26) (by decide +kernel) rfl
theorem t_105_37 : am_ok lw_Ts cX7_vote 4 RX7 37 (o_al 38 0) := so_al (Or.inl ⟨0, rfl, rfl, rfl⟩) (by decide +kernel)
theorem t_105_38 : am_ok lw_Ts cX7_vote 4 RX7 38 (o_gf 41 7 22) := so_gf cl_X7 (by decide) wt_731 (by decide +kernel)
theorem t_105_41 : am_ok lw_Ts cX7_vote 4 RX7 41 (o_k 43 (vI (6))) := so_bp rfl (by decide +kernel)
theorem t_105_43 : am_ok lw_Ts cX7_vote 4 RX7 43 (o_il 44 1) := so_il (Or.inl ⟨1, rfl, rfl, rfl⟩) (by decide +kernel)
theorem t_105_44 : am_ok lw_Ts cX7_vote 4 RX7 44 (o_ib 45 f_mul) := so_imul (by decide +kernel)
theorem t_105_45 : am_ok lw_Ts cX7_vote 4 RX7 45 (o_il 46 3) := so_il (Or.inl ⟨3, rfl, rfl, rfl⟩) (by decide +kernel)
theorem t_105_46 : am_ok lw_Ts cX7_vote 4 RX7 46 (o_ib 47 f_add) := so_iadd (by decide +kernel)
theorem t_105_47 : am_ok lw_Ts cX7_vote 4 RX7 47 (o_ia 48) := so_ia (by decide +kernel)
theorem t_105_48 : am_ok lw_Ts cX7_vote 4 RX7 48 (o_il 49 2) := so_il (Or.inl ⟨2, rfl, rfl, rfl⟩) (by decide +kernel)
theorem t_105_49 : am_ok lw_Ts cX7_vote 4 RX7 49 (o_ic 54 52 r_ne) := so_ic_ne (off := 5) (by decide +kernel) rfl
theorem t_105_52 : am_ok lw_Ts cX7_vote 4 RX7 52 (o_k 53 (vI (-1))) := so_k (by decide +kernel)
theorem t_105_53 : am_okr cX7_vote 53 1 := (show decode cX7_vote 53 = .ok (.ireturn, 1) by decide +kernel)
theorem t_105_54 : am_ok lw_Ts cX7_vote 4 RX7 54 (o_ii 57 3 (1)) := so_ii (by decide +kernel)
theorem t_105_57 : am_ok lw_Ts cX7_vote 4 RX7 57 (o_go 27) := so_go (off := (-30)) (by decide +kernel) rfl
theorem t_105_60 : am_ok lw_Ts cX7_vote 4 RX7 60 (o_al 61 0) := so_al (Or.inl ⟨0, rfl, rfl, rfl⟩) (by decide +kernel)
theorem t_105_61 : am_ok lw_Ts cX7_vote 4 RX7 61 (o_gf 64 7 22) := so_gf cl_X7 (by decide) wt_731 (by decide +kernel)
theorem t_105_64 : am_ok lw_Ts cX7_vote 4 RX7 64 (o_k 66 (vI (6))) := so_bp rfl (by decide +kernel)
theorem t_105_66 : am_ok lw_Ts cX7_vote 4 RX7 66 (o_il 67 1) := so_il (Or.inl ⟨1, rfl, rfl, rfl⟩) (by decide +kernel)
theorem t_105_67 : am_ok lw_Ts cX7_vote 4 RX7 67 (o_ib 68 f_mul) := so_imul (by decide +kernel)
theorem t_105_68 : am_ok lw_Ts cX7_vote 4 RX7 68 (o_al 69 0) := so_al (Or.inl ⟨0, rfl, rfl, rfl⟩) (by decide +kernel)
theorem t_105_69 : am_ok lw_Ts cX7_vote 4 RX7 69 (o_gf 72 7 23) := so_gf cl_X7 (by decide) wt_732 (by decide +kernel)
theorem t_105_72 : am_ok lw_Ts cX7_vote 4 RX7 72 (o_il 73 1) := so_il (Or.inl ⟨1, rfl, rfl, rfl⟩) (by decide +kernel)
theorem t_105_73 : am_ok lw_Ts cX7_vote 4 RX7 73 (o_ia 74) := so_ia (by decide +kernel)
theorem t_105_74 : am_ok lw_Ts cX7_vote 4 RX7 74 (o_ib 75 f_add) := so_iadd (by decide +kernel)
theorem t_105_75 : am_ok lw_Ts cX7_vote 4 RX7 75 (o_il 76 2) := so_il (Or.inl ⟨2, rfl, rfl, rfl⟩) (by decide +kernel)
theorem t_105_76 : am_ok lw_Ts cX7_vote 4 RX7 76 (o_iw 77) := so_iw (by decide +kernel)
theorem t_105_77 : am_ok lw_Ts cX7_vote 4 RX7 77 (o_al 78 0) := so_al (Or.inl ⟨0, rfl, rfl, rfl⟩) (by decide +kernel)
theorem t_105_78 : am_ok lw_Ts cX7_vote 4 RX7 78 (o_gf 81 7 23) := so_gf cl_X7 (by decide) wt_732 (by decide +kernel)
theorem t_105_81 : am_ok lw_Ts cX7_vote 4 RX7 81 (o_il 82 1) := so_il (Or.inl ⟨1, rfl, rfl, rfl⟩) (by decide +kernel)
theorem t_105_82 : am_ok lw_Ts cX7_vote 4 RX7 82 (o_dup2 83) := so_dup2 (by decide +kernel)
theorem t_105_83 : am_ok lw_Ts cX7_vote 4 RX7 83 (o_ia 84) := so_ia (by decide +kernel)
theorem t_105_84 : am_ok lw_Ts cX7_vote 4 RX7 84 (o_k 85 (vI (1))) := so_k (by decide +kernel)
theorem t_105_85 : am_ok lw_Ts cX7_vote 4 RX7 85 (o_ib 86 f_add) := so_iadd (by decide +kernel)
theorem t_105_86 : am_ok lw_Ts cX7_vote 4 RX7 86 (o_iw 87) := so_iw (by decide +kernel)
theorem t_105_87 : am_ok lw_Ts cX7_vote 4 RX7 87 (o_al 88 0) := so_al (Or.inl ⟨0, rfl, rfl, rfl⟩) (by decide +kernel)
theorem t_105_88 : am_ok lw_Ts cX7_vote 4 RX7 88 (o_gf 91 7 23) := so_gf cl_X7 (by decide) wt_732 (by decide +kernel)
theorem t_105_91 : am_ok lw_Ts cX7_vote 4 RX7 91 (o_il 92 1) := so_il (Or.inl ⟨1, rfl, rfl, rfl⟩) (by decide +kernel)
theorem t_105_92 : am_ok lw_Ts cX7_vote 4 RX7 92 (o_ia 93) := so_ia (by decide +kernel)
theorem t_105_93 : am_okr cX7_vote 93 1 := (show decode cX7_vote 93 = .ok (.ireturn, 1) by decide +kernel)
set_option maxRecDepth 20000 in
theorem ok_105 : am_okL gm_mi gm_mt lw_Ts lw_Ns 105 cd_105 := ⟨t_105_0, t_105_1, t_105_2, t_105_5, t_105_6, t_105_7, t_105_9, t_105_12, t_105_15, t_105_16, t_105_17, t_105_20, t_105_23, t_105_24, t_105_25, t_105_26, t_105_27, t_105_28, t_105_29, t_105_32, t_105_33, t_105_34, t_105_37, t_105_38, t_105_41, t_105_43, t_105_44, t_105_45, t_105_46, t_105_47, t_105_48, t_105_49, t_105_52, t_105_53, t_105_54, t_105_57, t_105_60, t_105_61, t_105_64, t_105_66, t_105_67, t_105_68, t_105_69, t_105_72, t_105_73, t_105_74, t_105_75, t_105_76, t_105_77, t_105_78, t_105_81, t_105_82, t_105_83, t_105_84, t_105_85, t_105_86, t_105_87, t_105_88, t_105_91, t_105_92, t_105_93, trivial⟩
theorem t_106_0 : am_ok lw_Ts cX7_kin 4 RX7 0 (o_al 1 0) := so_al (Or.inl ⟨0, rfl, rfl, rfl⟩) (by decide +kernel)
theorem t_106_1 : am_ok lw_Ts cX7_kin 4 RX7 1 (o_k 2 (vI (0))) := so_k (by decide +kernel)
theorem t_106_2 : am_ok lw_Ts cX7_kin 4 RX7 2 (o_pf 5 7 25) := so_pf cl_X7 tyX7_ok nmX7 (by decide) rfl rfl wt_734 (by decide +kernel)
theorem t_106_5 : am_ok lw_Ts cX7_kin 4 RX7 5 (o_il 6 1) := so_il (Or.inl ⟨1, rfl, rfl, rfl⟩) (by decide +kernel)
theorem t_106_6 : am_ok lw_Ts cX7_kin 4 RX7 6 (o_k 7 (vI (0))) := so_k (by decide +kernel)
theorem t_106_7 : am_ok lw_Ts cX7_kin 4 RX7 7 (o_k 9 (vI (6))) := so_bp rfl (by decide +kernel)
theorem t_106_9 : am_okc gm_mi gm_mt lw_Ts lw_Ns cX7_kin RX7 9 70 3 := ⟨114, cf_70.1, cf_70.2.1, cf_70.2.2.1, cf_70.2.2.2, Or.inl ⟨rfl, (by decide +kernel), wt_831, by decide +kernel, (Or.inl wt_830)⟩⟩
theorem t_106_12 : am_ok lw_Ts cX7_kin 4 RX7 12 (o_if 23 15 q_eq) := so_if_eq (off := 11) (by decide +kernel) rfl
theorem t_106_15 : am_ok lw_Ts cX7_kin 4 RX7 15 (o_al 16 0) := so_al (Or.inl ⟨0, rfl, rfl, rfl⟩) (by decide +kernel)
theorem t_106_16 : am_ok lw_Ts cX7_kin 4 RX7 16 (o_il 17 2) := so_il (Or.inl ⟨2, rfl, rfl, rfl⟩) (by decide +kernel)
theorem t_106_17 : am_okc gm_mi gm_mt lw_Ts lw_Ns cX7_kin RX7 17 73 2 := ⟨121, cf_73.1, cf_73.2.1, cf_73.2.2.1, cf_73.2.2.2, Or.inr ⟨7, 1, TX7, 37, rfl, rfl, rfl, (by decide +kernel), wt_843, wt_26, wt_841, by decide +kernel⟩⟩
theorem t_106_20 : am_ok lw_Ts cX7_kin 4 RX7 20 (o_if 25 23 q_ne) := so_if_ne (off := 5) (by decide +kernel) rfl
theorem t_106_23 : am_ok lw_Ts cX7_kin 4 RX7 23 (o_k 24 (vI (0))) := so_k (by decide +kernel)
theorem t_106_24 : am_okr cX7_kin 24 2 := (show decode cX7_kin 24 = .ok (.ireturn, 1) by decide +kernel)
theorem t_106_25 : am_ok lw_Ts cX7_kin 4 RX7 25 (o_al 26 0) := so_al (Or.inl ⟨0, rfl, rfl, rfl⟩) (by decide +kernel)
theorem t_106_26 : am_ok lw_Ts cX7_kin 4 RX7 26 (o_gf 29 7 24) := so_gf cl_X7 (by decide) wt_733 (by decide +kernel)
theorem t_106_29 : am_ok lw_Ts cX7_kin 4 RX7 29 (o_k 31 (vI (6))) := so_bp rfl (by decide +kernel)
theorem t_106_31 : am_ok lw_Ts cX7_kin 4 RX7 31 (o_il 32 1) := so_il (Or.inl ⟨1, rfl, rfl, rfl⟩) (by decide +kernel)
theorem t_106_32 : am_ok lw_Ts cX7_kin 4 RX7 32 (o_ib 33 f_mul) := so_imul (by decide +kernel)
theorem t_106_33 : am_ok lw_Ts cX7_kin 4 RX7 33 (o_il 34 2) := so_il (Or.inl ⟨2, rfl, rfl, rfl⟩) (by decide +kernel)
theorem t_106_34 : am_ok lw_Ts cX7_kin 4 RX7 34 (o_ib 35 f_add) := so_iadd (by decide +kernel)
theorem t_106_35 : am_ok lw_Ts cX7_kin 4 RX7 35 (o_il 36 3) := so_il (Or.inl ⟨3, rfl, rfl, rfl⟩) (by decide +kernel)
theorem t_106_36 : am_ok lw_Ts cX7_kin 4 RX7 36 (o_bw 37) := so_bw (by decide +kernel)
theorem t_106_37 : am_ok lw_Ts cX7_kin 4 RX7 37 (o_k 38 (vI (1))) := so_k (by decide +kernel)
theorem t_106_38 : am_okr cX7_kin 38 2 := (show decode cX7_kin 38 = .ok (.ireturn, 1) by decide +kernel)
set_option maxRecDepth 20000 in
theorem ok_106 : am_okL gm_mi gm_mt lw_Ts lw_Ns 106 cd_106 := ⟨t_106_0, t_106_1, t_106_2, t_106_5, t_106_6, t_106_7, t_106_9, t_106_12, t_106_15, t_106_16, t_106_17, t_106_20, t_106_23, t_106_24, t_106_25, t_106_26, t_106_29, t_106_31, t_106_32, t_106_33, t_106_34, t_106_35, t_106_36, t_106_37, t_106_38, trivial⟩
theorem t_107_0 : am_ok lw_Ts cX7_pointsOf 8 RX7 0 (o_k 1 (vI (0))) := so_k (by decide +kernel)
theorem t_107_1 : am_ok lw_Ts cX7_pointsOf 8 RX7 1 (o_is 2 2) := so_is (Or.inl ⟨2, rfl, rfl, rfl⟩) (by decide +kernel)
theorem t_107_2 : am_ok lw_Ts cX7_pointsOf 8 RX7 2 (o_k 3 (vI (0))) := so_k (by decide +kernel)
theorem t_107_3 : am_ok lw_Ts cX7_pointsOf 8 RX7 3 (o_is 4 3) := so_is (Or.inl ⟨3, rfl, rfl, rfl⟩) (by decide +kernel)
theorem t_107_4 : am_ok lw_Ts cX7_pointsOf 8 RX7 4 (o_il 5 3) := so_il (Or.inl ⟨3, rfl, rfl, rfl⟩) (by decide +kernel)
theorem t_107_5 : am_ok lw_Ts cX7_pointsOf 8 RX7 5 (o_k 7 (vI (7))) := so_bp rfl (by decide +kernel)
theorem t_107_7 : am_ok lw_Ts cX7_pointsOf 8 RX7 7 (o_ic 134 10 r_ge) := so_ic_ge (off := 127) (by decide +kernel) rfl
theorem t_107_10 : am_ok lw_Ts cX7_pointsOf 8 RX7 10 (o_al 11 0) := so_al (Or.inl ⟨0, rfl, rfl, rfl⟩) (by decide +kernel)
theorem t_107_11 : am_ok lw_Ts cX7_pointsOf 8 RX7 11 (o_gf 14 7 24) := so_gf cl_X7 (by decide) wt_733 (by decide +kernel)
theorem t_107_14 : am_ok lw_Ts cX7_pointsOf 8 RX7 14 (o_k 16 (vI (6))) := so_bp rfl (by decide +kernel)
theorem t_107_16 : am_ok lw_Ts cX7_pointsOf 8 RX7 16 (o_il 17 3) := so_il (Or.inl ⟨3, rfl, rfl, rfl⟩) (by decide +kernel)
theorem t_107_17 : am_ok lw_Ts cX7_pointsOf 8 RX7 17 (o_ib 18 f_mul) := so_imul (by decide +kernel)
theorem t_107_18 : am_ok lw_Ts cX7_pointsOf 8 RX7 18 (o_il 19 1) := so_il (Or.inl ⟨1, rfl, rfl, rfl⟩) (by decide +kernel)
theorem t_107_19 : am_ok lw_Ts cX7_pointsOf 8 RX7 19 (o_ib 20 f_add) := so_iadd (by decide +kernel)
theorem t_107_20 : am_ok lw_Ts cX7_pointsOf 8 RX7 20 (o_ba 21) := so_ba (by decide +kernel)
theorem t_107_21 : am_ok lw_Ts cX7_pointsOf 8 RX7 21 (o_if 27 24 q_eq) := so_if_eq (off := 6) (by decide +kernel) rfl
theorem t_107_24 : am_ok lw_Ts cX7_pointsOf 8 RX7 24 (o_go 128) := so_go (off := 104) (by decide +kernel) rfl
theorem t_107_27 : am_ok lw_Ts cX7_pointsOf 8 RX7 27 (o_k 28 (vI (0))) := so_k (by decide +kernel)
theorem t_107_28 : am_ok lw_Ts cX7_pointsOf 8 RX7 28 (o_is 30 4) := so_is (Or.inr ⟨rfl, rfl⟩) (by decide +kernel)
theorem t_107_30 : am_ok lw_Ts cX7_pointsOf 8 RX7 30 (o_k 31 (vI (0))) := so_k (by decide +kernel)
theorem t_107_31 : am_ok lw_Ts cX7_pointsOf 8 RX7 31 (o_is 33 5) := so_is (Or.inr ⟨rfl, rfl⟩) (by decide +kernel)
theorem t_107_33 : am_ok lw_Ts cX7_pointsOf 8 RX7 33 (o_k 34 (vI (0))) := so_k (by decide +kernel)
theorem t_107_34 : am_ok lw_Ts cX7_pointsOf 8 RX7 34 (o_is 36 6) := so_is (Or.inr ⟨rfl, rfl⟩) (by decide +kernel)
theorem t_107_36 : am_ok lw_Ts cX7_pointsOf 8 RX7 36 (o_il 38 6) := so_il (Or.inr ⟨rfl, rfl⟩) (by decide +kernel)
theorem t_107_38 : am_ok lw_Ts cX7_pointsOf 8 RX7 38 (o_al 39 0) := so_al (Or.inl ⟨0, rfl, rfl, rfl⟩) (by decide +kernel)
theorem t_107_39 : am_ok lw_Ts cX7_pointsOf 8 RX7 39 (o_gf 42 7 23) := so_gf cl_X7 (by decide) wt_732 (by decide +kernel)
theorem t_107_42 : am_ok lw_Ts cX7_pointsOf 8 RX7 42 (o_il 43 3) := so_il (Or.inl ⟨3, rfl, rfl, rfl⟩) (by decide +kernel)
theorem t_107_43 : am_ok lw_Ts cX7_pointsOf 8 RX7 43 (o_ia 44) := so_ia (by decide +kernel)
theorem t_107_44 : am_ok lw_Ts cX7_pointsOf 8 RX7 44 (o_ic 108 47 r_ge) := so_ic_ge (off := 64) (by decide +kernel) rfl
theorem t_107_47 : am_ok lw_Ts cX7_pointsOf 8 RX7 47 (o_il 49 5) := so_il (Or.inr ⟨rfl, rfl⟩) (by decide +kernel)
theorem t_107_49 : am_ok lw_Ts cX7_pointsOf 8 RX7 49 (o_if 108 52 q_ne) := so_if_ne (off := 59) (by decide +kernel) rfl
theorem t_107_52 : am_ok lw_Ts cX7_pointsOf 8 RX7 52 (o_al 53 0) := so_al (Or.inl ⟨0, rfl, rfl, rfl⟩) (by decide +kernel)
theorem t_107_53 : am_ok lw_Ts cX7_pointsOf 8 RX7 53 (o_gf 56 7 22) := so_gf cl_X7 (by decide) wt_731 (by decide +kernel)
theorem t_107_56 : am_ok lw_Ts cX7_pointsOf 8 RX7 56 (o_k 58 (vI (6))) := so_bp rfl (by decide +kernel)
theorem t_107_58 : am_ok lw_Ts cX7_pointsOf 8 RX7 58 (o_il 59 3) := so_il (Or.inl ⟨3, rfl, rfl, rfl⟩) (by decide +kernel)
theorem t_107_59 : am_ok lw_Ts cX7_pointsOf 8 RX7 59 (o_ib 60 f_mul) := so_imul (by decide +kernel)
theorem t_107_60 : am_ok lw_Ts cX7_pointsOf 8 RX7 60 (o_il 62 6) := so_il (Or.inr ⟨rfl, rfl⟩) (by decide +kernel)
theorem t_107_62 : am_ok lw_Ts cX7_pointsOf 8 RX7 62 (o_ib 63 f_add) := so_iadd (by decide +kernel)
theorem t_107_63 : am_ok lw_Ts cX7_pointsOf 8 RX7 63 (o_ia 64) := so_ia (by decide +kernel)
theorem t_107_64 : am_ok lw_Ts cX7_pointsOf 8 RX7 64 (o_is 66 7) := so_is (Or.inr ⟨rfl, rfl⟩) (by decide +kernel)
theorem t_107_66 : am_ok lw_Ts cX7_pointsOf 8 RX7 66 (o_il 68 7) := so_il (Or.inr ⟨rfl, rfl⟩) (by decide +kernel)
theorem t_107_68 : am_ok lw_Ts cX7_pointsOf 8 RX7 68 (o_il 69 1) := so_il (Or.inl ⟨1, rfl, rfl, rfl⟩) (by decide +kernel)
theorem t_107_69 : am_ok lw_Ts cX7_pointsOf 8 RX7 69 (o_ic 76 72 r_ne) := so_ic_ne (off := 7) (by decide +kernel) rfl
theorem t_107_72 : am_ok lw_Ts cX7_pointsOf 8 RX7 72 (o_k 73 (vI (1))) := so_k (by decide +kernel)
theorem t_107_73 : am_ok lw_Ts cX7_pointsOf 8 RX7 73 (o_go 77) := so_go (off := 4) (by decide +kernel) rfl
theorem t_107_76 : am_ok lw_Ts cX7_pointsOf 8 RX7 76 (o_k 77 (vI (0))) := so_k (by decide +kernel)
theorem t_107_77 : am_ok lw_Ts cX7_pointsOf 8 RX7 77 (o_is 79 5) := so_is (Or.inr ⟨rfl, rfl⟩) (by decide +kernel)
theorem t_107_79 : am_ok lw_Ts cX7_pointsOf 8 RX7 79 (o_il 81 5) := so_il (Or.inr ⟨rfl, rfl⟩) (by decide +kernel)
theorem t_107_81 : am_ok lw_Ts cX7_pointsOf 8 RX7 81 (o_if 102 84 q_ne) := so_if_ne (off := 21) (by decide +kernel) rfl
theorem t_107_84 : am_ok lw_Ts cX7_pointsOf 8 RX7 84 (o_al 85 0) := so_al (Or.inl ⟨0, rfl, rfl, rfl⟩) (by decide +kernel)
theorem t_107_85 : am_ok lw_Ts cX7_pointsOf 8 RX7 85 (o_gf 88 7 24) := so_gf cl_X7 (by decide) wt_733 (by decide +kernel)
theorem t_107_88 : am_ok lw_Ts cX7_pointsOf 8 RX7 88 (o_k 90 (vI (6))) := so_bp rfl (by decide +kernel)
theorem t_107_90 : am_ok lw_Ts cX7_pointsOf 8 RX7 90 (o_il 91 3) := so_il (Or.inl ⟨3, rfl, rfl, rfl⟩) (by decide +kernel)
theorem t_107_91 : am_ok lw_Ts cX7_pointsOf 8 RX7 91 (o_ib 92 f_mul) := so_imul (by decide +kernel)
theorem t_107_92 : am_ok lw_Ts cX7_pointsOf 8 RX7 92 (o_il 94 7) := so_il (Or.inr ⟨rfl, rfl⟩) (by decide +kernel)
theorem t_107_94 : am_ok lw_Ts cX7_pointsOf 8 RX7 94 (o_ib 95 f_add) := so_iadd (by decide +kernel)
theorem t_107_95 : am_ok lw_Ts cX7_pointsOf 8 RX7 95 (o_ba 96) := so_ba (by decide +kernel)
theorem t_107_96 : am_ok lw_Ts cX7_pointsOf 8 RX7 96 (o_if 102 99 q_ne) := so_if_ne (off := 6) (by decide +kernel) rfl
theorem t_107_99 : am_ok lw_Ts cX7_pointsOf 8 RX7 99 (o_ii 102 4 (1)) := so_ii (by decide +kernel)
theorem t_107_102 : am_ok lw_Ts cX7_pointsOf 8 RX7 102 (o_ii 105 6 (1)) := so_ii (by decide +kernel)
theorem t_107_105 : am_ok lw_Ts cX7_pointsOf 8 RX7 105 (o_go 36) := so_go (off := (-69)) (by decide +kernel) rfl
theorem t_107_108 : am_ok lw_Ts cX7_pointsOf 8 RX7 108 (o_il 110 5) := so_il (Or.inr ⟨rfl, rfl⟩) (by decide +kernel)
theorem t_107_110 : am_ok lw_Ts cX7_pointsOf 8 RX7 110 (o_if 128 113 q_eq) := so_if_eq (off := 18) (by decide +kernel) rfl
theorem t_107_113 : am_ok lw_Ts cX7_pointsOf 8 RX7 113 (o_il 115 4) := so_il (Or.inr ⟨rfl, rfl⟩) (by decide +kernel)
theorem t_107_115 : am_ok lw_Ts cX7_pointsOf 8 RX7 115 (o_k 117 (vI (6))) := so_bp rfl (by decide +kernel)
theorem t_107_117 : am_ok lw_Ts cX7_pointsOf 8 RX7 117 (o_ic 128 120 r_ge) := so_ic_ge (off := 11) (by decide +kernel) rfl
theorem t_107_120 : am_ok lw_Ts cX7_pointsOf 8 RX7 120 (o_il 121 2) := so_il (Or.inl ⟨2, rfl, rfl, rfl⟩) (by decide +kernel)
theorem t_107_121 : am_ok lw_Ts cX7_pointsOf 8 RX7 121 (o_k 123 (vI (6))) := so_bp rfl (by decide +kernel)
theorem t_107_123 : am_ok lw_Ts cX7_pointsOf 8 RX7 123 (o_il 125 4) := so_il (Or.inr ⟨rfl, rfl⟩) (by decide +kernel)
theorem t_107_125 : am_ok lw_Ts cX7_pointsOf 8 RX7 125 (o_ib 126 f_sub) := so_isub (by decide +kernel)
theorem t_107_126 : am_ok lw_Ts cX7_pointsOf 8 RX7 126 (o_ib 127 f_add) := so_iadd (by decide +kernel)
theorem t_107_127 : am_ok lw_Ts cX7_pointsOf 8 RX7 127 (o_is 128 2) := so_is (Or.inl ⟨2, rfl, rfl, rfl⟩) (by decide +kernel)
theorem t_107_128 : am_ok lw_Ts cX7_pointsOf 8 RX7 128 (o_ii 131 3 (1)) := so_ii (by decide +kernel)
theorem t_107_131 : am_ok lw_Ts cX7_pointsOf 8 RX7 131 (o_go 4) := so_go (off := (-127)) (by decide +kernel) rfl
theorem t_107_134 : am_ok lw_Ts cX7_pointsOf 8 RX7 134 (o_il 135 2) := so_il (Or.inl ⟨2, rfl, rfl, rfl⟩) (by decide +kernel)
theorem t_107_135 : am_okr cX7_pointsOf 135 1 := (show decode cX7_pointsOf 135 = .ok (.ireturn, 1) by decide +kernel)
set_option maxRecDepth 20000 in
theorem ok_107 : am_okL gm_mi gm_mt lw_Ts lw_Ns 107 cd_107 := ⟨t_107_0, t_107_1, t_107_2, t_107_3, t_107_4, t_107_5, t_107_7, t_107_10, t_107_11, t_107_14, t_107_16, t_107_17, t_107_18, t_107_19, t_107_20, t_107_21, t_107_24, t_107_27, t_107_28, t_107_30, t_107_31, t_107_33, t_107_34, t_107_36, t_107_38, t_107_39, t_107_42, t_107_43, t_107_44, t_107_47, t_107_49, t_107_52, t_107_53, t_107_56, t_107_58, t_107_59, t_107_60, t_107_62, t_107_63, t_107_64, t_107_66, t_107_68, t_107_69, t_107_72, t_107_73, t_107_76, t_107_77, t_107_79, t_107_81, t_107_84, t_107_85, t_107_88, t_107_90, t_107_91, t_107_92, t_107_94, t_107_95, t_107_96, t_107_99, t_107_102, t_107_105, t_107_108, t_107_110, t_107_113, t_107_115, t_107_117, t_107_120, t_107_121, t_107_123, t_107_125, t_107_126, t_107_127, t_107_128, t_107_131, t_107_134, t_107_135, trivial⟩
theorem t_108_0 : am_ok lw_Ts cX7_points 2 RX7 0 (o_al 1 0) := so_al (Or.inl ⟨0, rfl, rfl, rfl⟩) (by decide +kernel)
theorem t_108_1 : am_ok lw_Ts cX7_points 2 RX7 1 (o_k 2 (vI (0))) := so_k (by decide +kernel)
theorem t_108_2 : am_ok lw_Ts cX7_points 2 RX7 2 (o_pf 5 7 25) := so_pf cl_X7 tyX7_ok nmX7 (by decide) rfl rfl wt_734 (by decide +kernel)
theorem t_108_5 : am_ok lw_Ts cX7_points 2 RX7 5 (o_al 6 0) := so_al (Or.inl ⟨0, rfl, rfl, rfl⟩) (by decide +kernel)
theorem t_108_6 : am_ok lw_Ts cX7_points 2 RX7 6 (o_il 7 1) := so_il (Or.inl ⟨1, rfl, rfl, rfl⟩) (by decide +kernel)
theorem t_108_7 : am_okc gm_mi gm_mt lw_Ts lw_Ns cX7_points RX7 7 73 2 := ⟨121, cf_73.1, cf_73.2.1, cf_73.2.2.1, cf_73.2.2.2, Or.inr ⟨7, 1, TX7, 37, rfl, rfl, rfl, (by decide +kernel), wt_843, wt_26, wt_841, by decide +kernel⟩⟩
theorem t_108_10 : am_ok lw_Ts cX7_points 2 RX7 10 (o_if 21 13 q_eq) := so_if_eq (off := 11) (by decide +kernel) rfl
theorem t_108_13 : am_ok lw_Ts cX7_points 2 RX7 13 (o_al 14 0) := so_al (Or.inl ⟨0, rfl, rfl, rfl⟩) (by decide +kernel)
theorem t_108_14 : am_ok lw_Ts cX7_points 2 RX7 14 (o_il 15 1) := so_il (Or.inl ⟨1, rfl, rfl, rfl⟩) (by decide +kernel)
theorem t_108_15 : am_okc gm_mi gm_mt lw_Ts lw_Ns cX7_points RX7 15 107 2 := ⟨200, cf_107.1, cf_107.2.1, cf_107.2.2.1, cf_107.2.2.2, Or.inr ⟨7, 1, TX7, 37, rfl, rfl, rfl, (by decide +kernel), wt_979, wt_41, wt_977, by decide +kernel⟩⟩
theorem t_108_18 : am_ok lw_Ts cX7_points 2 RX7 18 (o_go 22) := so_go (off := 4) (by decide +kernel) rfl
theorem t_108_21 : am_ok lw_Ts cX7_points 2 RX7 21 (o_k 22 (vI (-1))) := so_k (by decide +kernel)
theorem t_108_22 : am_okr cX7_points 22 1 := (show decode cX7_points 22 = .ok (.ireturn, 1) by decide +kernel)
set_option maxRecDepth 20000 in
theorem ok_108 : am_okL gm_mi gm_mt lw_Ts lw_Ns 108 cd_108 := ⟨t_108_0, t_108_1, t_108_2, t_108_5, t_108_6, t_108_7, t_108_10, t_108_13, t_108_14, t_108_15, t_108_18, t_108_21, t_108_22, trivial⟩
theorem t_109_0 : am_ok lw_Ts cX7_stands 3 RX7 0 (o_al 1 0) := so_al (Or.inl ⟨0, rfl, rfl, rfl⟩) (by decide +kernel)
theorem t_109_1 : am_ok lw_Ts cX7_stands 3 RX7 1 (o_il 2 1) := so_il (Or.inl ⟨1, rfl, rfl, rfl⟩) (by decide +kernel)
theorem t_109_2 : am_okc gm_mi gm_mt lw_Ts lw_Ns cX7_stands RX7 2 107 2 := ⟨200, cf_107.1, cf_107.2.1, cf_107.2.2.1, cf_107.2.2.2, Or.inr ⟨7, 1, TX7, 37, rfl, rfl, rfl, (by decide +kernel), wt_979, wt_41, wt_977, by decide +kernel⟩⟩
theorem t_109_5 : am_ok lw_Ts cX7_stands 3 RX7 5 (o_al 6 0) := so_al (Or.inl ⟨0, rfl, rfl, rfl⟩) (by decide +kernel)
theorem t_109_6 : am_ok lw_Ts cX7_stands 3 RX7 6 (o_il 7 2) := so_il (Or.inl ⟨2, rfl, rfl, rfl⟩) (by decide +kernel)
theorem t_109_7 : am_okc gm_mi gm_mt lw_Ts lw_Ns cX7_stands RX7 7 107 2 := ⟨200, cf_107.1, cf_107.2.1, cf_107.2.2.1, cf_107.2.2.2, Or.inr ⟨7, 1, TX7, 37, rfl, rfl, rfl, (by decide +kernel), wt_979, wt_41, wt_977, by decide +kernel⟩⟩
theorem t_109_10 : am_ok lw_Ts cX7_stands 3 RX7 10 (o_ic 32 13 r_eq) := so_ic_eq (off := 22) (by decide +kernel) rfl
theorem t_109_13 : am_ok lw_Ts cX7_stands 3 RX7 13 (o_al 14 0) := so_al (Or.inl ⟨0, rfl, rfl, rfl⟩) (by decide +kernel)
theorem t_109_14 : am_ok lw_Ts cX7_stands 3 RX7 14 (o_il 15 1) := so_il (Or.inl ⟨1, rfl, rfl, rfl⟩) (by decide +kernel)
theorem t_109_15 : am_okc gm_mi gm_mt lw_Ts lw_Ns cX7_stands RX7 15 107 2 := ⟨200, cf_107.1, cf_107.2.1, cf_107.2.2.1, cf_107.2.2.2, Or.inr ⟨7, 1, TX7, 37, rfl, rfl, rfl, (by decide +kernel), wt_979, wt_41, wt_977, by decide +kernel⟩⟩
theorem t_109_18 : am_ok lw_Ts cX7_stands 3 RX7 18 (o_al 19 0) := so_al (Or.inl ⟨0, rfl, rfl, rfl⟩) (by decide +kernel)
theorem t_109_19 : am_ok lw_Ts cX7_stands 3 RX7 19 (o_il 20 2) := so_il (Or.inl ⟨2, rfl, rfl, rfl⟩) (by decide +kernel)
theorem t_109_20 : am_okc gm_mi gm_mt lw_Ts lw_Ns cX7_stands RX7 20 107 2 := ⟨200, cf_107.1, cf_107.2.1, cf_107.2.2.1, cf_107.2.2.2, Or.inr ⟨7, 1, TX7, 37, rfl, rfl, rfl, (by decide +kernel), wt_979, wt_41, wt_977, by decide +kernel⟩⟩
theorem t_109_23 : am_ok lw_Ts cX7_stands 3 RX7 23 (o_ic 30 26 r_le) := so_ic_le (off := 7) (by decide +kernel) rfl
theorem t_109_26 : am_ok lw_Ts cX7_stands 3 RX7 26 (o_k 27 (vI (1))) := so_k (by decide +kernel)
theorem t_109_27 : am_ok lw_Ts cX7_stands 3 RX7 27 (o_go 31) := so_go (off := 4) (by decide +kernel) rfl
theorem t_109_30 : am_ok lw_Ts cX7_stands 3 RX7 30 (o_k 31 (vI (0))) := so_k (by decide +kernel)
theorem t_109_31 : am_okr cX7_stands 31 2 := (show decode cX7_stands 31 = .ok (.ireturn, 1) by decide +kernel)
theorem t_109_32 : am_ok lw_Ts cX7_stands 3 RX7 32 (o_al 33 0) := so_al (Or.inl ⟨0, rfl, rfl, rfl⟩) (by decide +kernel)
theorem t_109_33 : am_ok lw_Ts cX7_stands 3 RX7 33 (o_gf 36 7 3) := so_gf cl_X7 (by decide) wt_712 (by decide +kernel)
theorem t_109_36 : am_ok lw_Ts cX7_stands 3 RX7 36 (o_il 37 1) := so_il (Or.inl ⟨1, rfl, rfl, rfl⟩) (by decide +kernel)
theorem t_109_37 : am_ok lw_Ts cX7_stands 3 RX7 37 (o_ia 38) := so_ia (by decide +kernel)
theorem t_109_38 : am_ok lw_Ts cX7_stands 3 RX7 38 (o_al 39 0) := so_al (Or.inl ⟨0, rfl, rfl, rfl⟩) (by decide +kernel)
theorem t_109_39 : am_ok lw_Ts cX7_stands 3 RX7 39 (o_gf 42 7 3) := so_gf cl_X7 (by decide) wt_712 (by decide +kernel)
theorem t_109_42 : am_ok lw_Ts cX7_stands 3 RX7 42 (o_il 43 2) := so_il (Or.inl ⟨2, rfl, rfl, rfl⟩) (by decide +kernel)
theorem t_109_43 : am_ok lw_Ts cX7_stands 3 RX7 43 (o_ia 44) := so_ia (by decide +kernel)
theorem t_109_44 : am_ok lw_Ts cX7_stands 3 RX7 44 (o_ic 68 47 r_eq) := so_ic_eq (off := 24) (by decide +kernel) rfl
theorem t_109_47 : am_ok lw_Ts cX7_stands 3 RX7 47 (o_al 48 0) := so_al (Or.inl ⟨0, rfl, rfl, rfl⟩) (by decide +kernel)
theorem t_109_48 : am_ok lw_Ts cX7_stands 3 RX7 48 (o_gf 51 7 3) := so_gf cl_X7 (by decide) wt_712 (by decide +kernel)
theorem t_109_51 : am_ok lw_Ts cX7_stands 3 RX7 51 (o_il 52 1) := so_il (Or.inl ⟨1, rfl, rfl, rfl⟩) (by decide +kernel)
theorem t_109_52 : am_ok lw_Ts cX7_stands 3 RX7 52 (o_ia 53) := so_ia (by decide +kernel)
theorem t_109_53 : am_ok lw_Ts cX7_stands 3 RX7 53 (o_al 54 0) := so_al (Or.inl ⟨0, rfl, rfl, rfl⟩) (by decide +kernel)
theorem t_109_54 : am_ok lw_Ts cX7_stands 3 RX7 54 (o_gf 57 7 3) := so_gf cl_X7 (by decide) wt_712 (by decide +kernel)
theorem t_109_57 : am_ok lw_Ts cX7_stands 3 RX7 57 (o_il 58 2) := so_il (Or.inl ⟨2, rfl, rfl, rfl⟩) (by decide +kernel)
theorem t_109_58 : am_ok lw_Ts cX7_stands 3 RX7 58 (o_ia 59) := so_ia (by decide +kernel)
theorem t_109_59 : am_ok lw_Ts cX7_stands 3 RX7 59 (o_ic 66 62 r_le) := so_ic_le (off := 7) (by decide +kernel) rfl
theorem t_109_62 : am_ok lw_Ts cX7_stands 3 RX7 62 (o_k 63 (vI (1))) := so_k (by decide +kernel)
theorem t_109_63 : am_ok lw_Ts cX7_stands 3 RX7 63 (o_go 67) := so_go (off := 4) (by decide +kernel) rfl
theorem t_109_66 : am_ok lw_Ts cX7_stands 3 RX7 66 (o_k 67 (vI (0))) := so_k (by decide +kernel)
theorem t_109_67 : am_okr cX7_stands 67 2 := (show decode cX7_stands 67 = .ok (.ireturn, 1) by decide +kernel)
theorem t_109_68 : am_ok lw_Ts cX7_stands 3 RX7 68 (o_il 69 1) := so_il (Or.inl ⟨1, rfl, rfl, rfl⟩) (by decide +kernel)
theorem t_109_69 : am_ok lw_Ts cX7_stands 3 RX7 69 (o_il 70 2) := so_il (Or.inl ⟨2, rfl, rfl, rfl⟩) (by decide +kernel)
theorem t_109_70 : am_ok lw_Ts cX7_stands 3 RX7 70 (o_ic 77 73 r_ge) := so_ic_ge (off := 7) (by decide +kernel) rfl
theorem t_109_73 : am_ok lw_Ts cX7_stands 3 RX7 73 (o_k 74 (vI (1))) := so_k (by decide +kernel)
theorem t_109_74 : am_ok lw_Ts cX7_stands 3 RX7 74 (o_go 78) := so_go (off := 4) (by decide +kernel) rfl
theorem t_109_77 : am_ok lw_Ts cX7_stands 3 RX7 77 (o_k 78 (vI (0))) := so_k (by decide +kernel)
theorem t_109_78 : am_okr cX7_stands 78 2 := (show decode cX7_stands 78 = .ok (.ireturn, 1) by decide +kernel)
set_option maxRecDepth 20000 in
theorem ok_109 : am_okL gm_mi gm_mt lw_Ts lw_Ns 109 cd_109 := ⟨t_109_0, t_109_1, t_109_2, t_109_5, t_109_6, t_109_7, t_109_10, t_109_13, t_109_14, t_109_15, t_109_18, t_109_19, t_109_20, t_109_23, t_109_26, t_109_27, t_109_30, t_109_31, t_109_32, t_109_33, t_109_36, t_109_37, t_109_38, t_109_39, t_109_42, t_109_43, t_109_44, t_109_47, t_109_48, t_109_51, t_109_52, t_109_53, t_109_54, t_109_57, t_109_58, t_109_59, t_109_62, t_109_63, t_109_66, t_109_67, t_109_68, t_109_69, t_109_70, t_109_73, t_109_74, t_109_77, t_109_78, trivial⟩
theorem t_110_0 : am_ok lw_Ts cX7_prize 5 RX7 0 (o_al 1 0) := so_al (Or.inl ⟨0, rfl, rfl, rfl⟩) (by decide +kernel)
theorem t_110_1 : am_ok lw_Ts cX7_prize 5 RX7 1 (o_k 2 (vI (0))) := so_k (by decide +kernel)
theorem t_110_2 : am_ok lw_Ts cX7_prize 5 RX7 2 (o_pf 5 7 25) := so_pf cl_X7 tyX7_ok nmX7 (by decide) rfl rfl wt_734 (by decide +kernel)
theorem t_110_5 : am_ok lw_Ts cX7_prize 5 RX7 5 (o_k 6 (vI (0))) := so_k (by decide +kernel)
theorem t_110_6 : am_ok lw_Ts cX7_prize 5 RX7 6 (o_is 7 2) := so_is (Or.inl ⟨2, rfl, rfl, rfl⟩) (by decide +kernel)
theorem t_110_7 : am_ok lw_Ts cX7_prize 5 RX7 7 (o_il 8 2) := so_il (Or.inl ⟨2, rfl, rfl, rfl⟩) (by decide +kernel)
theorem t_110_8 : am_ok lw_Ts cX7_prize 5 RX7 8 (o_al 9 0) := so_al (Or.inl ⟨0, rfl, rfl, rfl⟩) (by decide +kernel)
theorem t_110_9 : am_ok lw_Ts cX7_prize 5 RX7 9 (o_gf 12 7 7) := so_gf cl_X7 (by decide) wt_716 (by decide +kernel)
theorem t_110_12 : am_ok lw_Ts cX7_prize 5 RX7 12 (o_ic 67 15 r_ge) := so_ic_ge (off := 55) (by decide +kernel) rfl
theorem t_110_15 : am_ok lw_Ts cX7_prize 5 RX7 15 (o_k 16 (vI (0))) := so_k (by decide +kernel)
theorem t_110_16 : am_ok lw_Ts cX7_prize 5 RX7 16 (o_is 17 3) := so_is (Or.inl ⟨3, rfl, rfl, rfl⟩) (by decide +kernel)
theorem t_110_17 : am_ok lw_Ts cX7_prize 5 RX7 17 (o_k 18 (vI (0))) := so_k (by decide +kernel)
theorem t_110_18 : am_ok lw_Ts cX7_prize 5 RX7 18 (o_is 20 4) := so_is (Or.inr ⟨rfl, rfl⟩) (by decide +kernel)
theorem t_110_20 : am_ok lw_Ts cX7_prize 5 RX7 20 (o_il 22 4) := so_il (Or.inr ⟨rfl, rfl⟩) (by decide +kernel)
theorem t_110_22 : am_ok lw_Ts cX7_prize 5 RX7 22 (o_al 23 0) := so_al (Or.inl ⟨0, rfl, rfl, rfl⟩) (by decide +kernel)
theorem t_110_23 : am_ok lw_Ts cX7_prize 5 RX7 23 (o_gf 26 7 7) := so_gf cl_X7 (by decide) wt_716 (by decide +kernel)
theorem t_110_26 : am_ok lw_Ts cX7_prize 5 RX7 26 (o_ic 54 29 r_ge) := so_ic_ge (off := 28) (by decide +kernel) rfl
theorem t_110_29 : am_ok lw_Ts cX7_prize 5 RX7 29 (o_il 31 4) := so_il (Or.inr ⟨rfl, rfl⟩) (by decide +kernel)
theorem t_110_31 : am_ok lw_Ts cX7_prize 5 RX7 31 (o_il 32 2) := so_il (Or.inl ⟨2, rfl, rfl, rfl⟩) (by decide +kernel)
theorem t_110_32 : am_ok lw_Ts cX7_prize 5 RX7 32 (o_ic 48 35 r_eq) := so_ic_eq (off := 16) (by decide +kernel) rfl
theorem t_110_35 : am_ok lw_Ts cX7_prize 5 RX7 35 (o_al 36 0) := so_al (Or.inl ⟨0, rfl, rfl, rfl⟩) (by decide +kernel)
theorem t_110_36 : am_ok lw_Ts cX7_prize 5 RX7 36 (o_il 38 4) := so_il (Or.inr ⟨rfl, rfl⟩) (by decide +kernel)
theorem t_110_38 : am_ok lw_Ts cX7_prize 5 RX7 38 (o_il 39 2) := so_il (Or.inl ⟨2, rfl, rfl, rfl⟩) (by decide +kernel)
theorem t_110_39 : am_okc gm_mi gm_mt lw_Ts lw_Ns cX7_prize RX7 39 109 3 := ⟨203, cf_109.1, cf_109.2.1, cf_109.2.2.1, cf_109.2.2.2, Or.inr ⟨7, 2, TX7, 37, rfl, rfl, rfl, (by decide +kernel), wt_987, wt_42, wt_985, by decide +kernel⟩⟩
theorem t_110_42 : am_ok lw_Ts cX7_prize 5 RX7 42 (o_if 48 45 q_eq) := so_if_eq (off := 6) (by decide +kernel) rfl
theorem t_110_45 : am_ok lw_Ts cX7_prize 5 RX7 45 (o_ii 48 3 (1)) := so_ii (by decide +kernel)
theorem t_110_48 : am_ok lw_Ts cX7_prize 5 RX7 48 (o_ii 51 4 (1)) := so_ii (by decide +kernel)
theorem t_110_51 : am_ok lw_Ts cX7_prize 5 RX7 51 (o_go 20) := so_go (off := (-31)) (by decide +kernel) rfl
theorem t_110_54 : am_ok lw_Ts cX7_prize 5 RX7 54 (o_il 55 3) := so_il (Or.inl ⟨3, rfl, rfl, rfl⟩) (by decide +kernel)
theorem t_110_55 : am_ok lw_Ts cX7_prize 5 RX7 55 (o_il 56 1) := so_il (Or.inl ⟨1, rfl, rfl, rfl⟩) (by decide +kernel)
theorem t_110_56 : am_ok lw_Ts cX7_prize 5 RX7 56 (o_ic 61 59 r_ne) := so_ic_ne (off := 5) (by decide +kernel) rfl
theorem t_110_59 : am_ok lw_Ts cX7_prize 5 RX7 59 (o_il 60 2) := so_il (Or.inl ⟨2, rfl, rfl, rfl⟩) (by decide +kernel)
theorem t_110_60 : am_okr cX7_prize 60 1 := (show decode cX7_prize 60 = .ok (.ireturn, 1) by decide +kernel)
theorem t_110_61 : am_ok lw_Ts cX7_prize 5 RX7 61 (o_ii 64 2 (1)) := so_ii (by decide +kernel)
theorem t_110_64 : am_ok lw_Ts cX7_prize 5 RX7 64 (o_go 7) := so_go (off := (-57)) (by decide +kernel) rfl
theorem t_110_67 : am_ok lw_Ts cX7_prize 5 RX7 67 (o_k 68 (vI (-1))) := so_k (by decide +kernel)
theorem t_110_68 : am_okr cX7_prize 68 1 := (show decode cX7_prize 68 = .ok (.ireturn, 1) by decide +kernel)
set_option maxRecDepth 20000 in
theorem ok_110 : am_okL gm_mi gm_mt lw_Ts lw_Ns 110 cd_110 := ⟨t_110_0, t_110_1, t_110_2, t_110_5, t_110_6, t_110_7, t_110_8, t_110_9, t_110_12, t_110_15, t_110_16, t_110_17, t_110_18, t_110_20, t_110_22, t_110_23, t_110_26, t_110_29, t_110_31, t_110_32, t_110_35, t_110_36, t_110_38, t_110_39, t_110_42, t_110_45, t_110_48, t_110_51, t_110_54, t_110_55, t_110_56, t_110_59, t_110_60, t_110_61, t_110_64, t_110_67, t_110_68, trivial⟩
theorem t_111_0 : am_ok lw_Ts cJ6_numberOfTrailingZeros_0f7a4 2 RJ6 0 (o_il 1 0) := so_il (Or.inl ⟨0, rfl, rfl, rfl⟩) (by decide +kernel)
theorem t_111_1 : am_ok lw_Ts cJ6_numberOfTrailingZeros_0f7a4 2 RJ6 1 (o_k 2 (vI (-1))) := so_k (by decide +kernel)
theorem t_111_2 : am_ok lw_Ts cJ6_numberOfTrailingZeros_0f7a4 2 RJ6 2 (o_ib 3 f_xor) := so_ixor (by decide +kernel)
theorem t_111_3 : am_ok lw_Ts cJ6_numberOfTrailingZeros_0f7a4 2 RJ6 3 (o_il 4 0) := so_il (Or.inl ⟨0, rfl, rfl, rfl⟩) (by decide +kernel)
theorem t_111_4 : am_ok lw_Ts cJ6_numberOfTrailingZeros_0f7a4 2 RJ6 4 (o_k 5 (vI (1))) := so_k (by decide +kernel)
theorem t_111_5 : am_ok lw_Ts cJ6_numberOfTrailingZeros_0f7a4 2 RJ6 5 (o_ib 6 f_sub) := so_isub (by decide +kernel)
theorem t_111_6 : am_ok lw_Ts cJ6_numberOfTrailingZeros_0f7a4 2 RJ6 6 (o_ib 7 f_and) := so_iand (by decide +kernel)
theorem t_111_7 : am_ok lw_Ts cJ6_numberOfTrailingZeros_0f7a4 2 RJ6 7 (o_is 8 0) := so_is (Or.inl ⟨0, rfl, rfl, rfl⟩) (by decide +kernel)
theorem t_111_8 : am_ok lw_Ts cJ6_numberOfTrailingZeros_0f7a4 2 RJ6 8 (o_il 9 0) := so_il (Or.inl ⟨0, rfl, rfl, rfl⟩) (by decide +kernel)
theorem t_111_9 : am_ok lw_Ts cJ6_numberOfTrailingZeros_0f7a4 2 RJ6 9 (o_if 17 12 q_gt) := so_if_gt (off := 8) (by decide +kernel) rfl
theorem t_111_12 : am_ok lw_Ts cJ6_numberOfTrailingZeros_0f7a4 2 RJ6 12 (o_il 13 0) := so_il (Or.inl ⟨0, rfl, rfl, rfl⟩) (by decide +kernel)
theorem t_111_13 : am_ok lw_Ts cJ6_numberOfTrailingZeros_0f7a4 2 RJ6 13 (o_k 15 (vI (32))) := so_bp rfl (by decide +kernel)
theorem t_111_15 : am_ok lw_Ts cJ6_numberOfTrailingZeros_0f7a4 2 RJ6 15 (o_ib 16 f_and) := so_iand (by decide +kernel)
theorem t_111_16 : am_okr cJ6_numberOfTrailingZeros_0f7a4 16 1 := (show decode cJ6_numberOfTrailingZeros_0f7a4 16 = .ok (.ireturn, 1) by decide +kernel)
theorem t_111_17 : am_ok lw_Ts cJ6_numberOfTrailingZeros_0f7a4 2 RJ6 17 (o_k 18 (vI (1))) := so_k (by decide +kernel)
theorem t_111_18 : am_ok lw_Ts cJ6_numberOfTrailingZeros_0f7a4 2 RJ6 18 (o_is 19 1) := so_is (Or.inl ⟨1, rfl, rfl, rfl⟩) (by decide +kernel)
theorem t_111_19 : am_ok lw_Ts cJ6_numberOfTrailingZeros_0f7a4 2 RJ6 19 (o_il 20 0) := so_il (Or.inl ⟨0, rfl, rfl, rfl⟩) (by decide +kernel)
theorem t_111_20 : am_ok lw_Ts cJ6_numberOfTrailingZeros_0f7a4 2 RJ6 20 (o_k 23 (vI (65536))) := so_ldcw wt_567 (by decide +kernel)
theorem t_111_23 : am_ok lw_Ts cJ6_numberOfTrailingZeros_0f7a4 2 RJ6 23 (o_ic 34 26 r_le) := so_ic_le (off := 11) (by decide +kernel) rfl
theorem t_111_26 : am_ok lw_Ts cJ6_numberOfTrailingZeros_0f7a4 2 RJ6 26 (o_ii 29 1 (16)) := so_ii (by decide +kernel)
theorem t_111_29 : am_ok lw_Ts cJ6_numberOfTrailingZeros_0f7a4 2 RJ6 29 (o_il 30 0) := so_il (Or.inl ⟨0, rfl, rfl, rfl⟩) (by decide +kernel)
theorem t_111_30 : am_ok lw_Ts cJ6_numberOfTrailingZeros_0f7a4 2 RJ6 30 (o_k 32 (vI (16))) := so_bp rfl (by decide +kernel)
theorem t_111_32 : am_ok lw_Ts cJ6_numberOfTrailingZeros_0f7a4 2 RJ6 32 (o_ib 33 f_ushr) := so_iushr (by decide +kernel)
theorem t_111_33 : am_ok lw_Ts cJ6_numberOfTrailingZeros_0f7a4 2 RJ6 33 (o_is 34 0) := so_is (Or.inl ⟨0, rfl, rfl, rfl⟩) (by decide +kernel)
theorem t_111_34 : am_ok lw_Ts cJ6_numberOfTrailingZeros_0f7a4 2 RJ6 34 (o_il 35 0) := so_il (Or.inl ⟨0, rfl, rfl, rfl⟩) (by decide +kernel)
theorem t_111_35 : am_ok lw_Ts cJ6_numberOfTrailingZeros_0f7a4 2 RJ6 35 (o_k 38 (vI (256))) := so_sp rfl (by decide +kernel)
theorem t_111_38 : am_ok lw_Ts cJ6_numberOfTrailingZeros_0f7a4 2 RJ6 38 (o_ic 49 41 r_le) := so_ic_le (off := 11) (by decide +kernel) rfl
theorem t_111_41 : am_ok lw_Ts cJ6_numberOfTrailingZeros_0f7a4 2 RJ6 41 (o_ii 44 1 (8)) := so_ii (by decide +kernel)
theorem t_111_44 : am_ok lw_Ts cJ6_numberOfTrailingZeros_0f7a4 2 RJ6 44 (o_il 45 0) := so_il (Or.inl ⟨0, rfl, rfl, rfl⟩) (by decide +kernel)
theorem t_111_45 : am_ok lw_Ts cJ6_numberOfTrailingZeros_0f7a4 2 RJ6 45 (o_k 47 (vI (8))) := so_bp rfl (by decide +kernel)
theorem t_111_47 : am_ok lw_Ts cJ6_numberOfTrailingZeros_0f7a4 2 RJ6 47 (o_ib 48 f_ushr) := so_iushr (by decide +kernel)
theorem t_111_48 : am_ok lw_Ts cJ6_numberOfTrailingZeros_0f7a4 2 RJ6 48 (o_is 49 0) := so_is (Or.inl ⟨0, rfl, rfl, rfl⟩) (by decide +kernel)
theorem t_111_49 : am_ok lw_Ts cJ6_numberOfTrailingZeros_0f7a4 2 RJ6 49 (o_il 50 0) := so_il (Or.inl ⟨0, rfl, rfl, rfl⟩) (by decide +kernel)
theorem t_111_50 : am_ok lw_Ts cJ6_numberOfTrailingZeros_0f7a4 2 RJ6 50 (o_k 52 (vI (16))) := so_bp rfl (by decide +kernel)
theorem t_111_52 : am_ok lw_Ts cJ6_numberOfTrailingZeros_0f7a4 2 RJ6 52 (o_ic 62 55 r_le) := so_ic_le (off := 10) (by decide +kernel) rfl
theorem t_111_55 : am_ok lw_Ts cJ6_numberOfTrailingZeros_0f7a4 2 RJ6 55 (o_ii 58 1 (4)) := so_ii (by decide +kernel)
theorem t_111_58 : am_ok lw_Ts cJ6_numberOfTrailingZeros_0f7a4 2 RJ6 58 (o_il 59 0) := so_il (Or.inl ⟨0, rfl, rfl, rfl⟩) (by decide +kernel)
theorem t_111_59 : am_ok lw_Ts cJ6_numberOfTrailingZeros_0f7a4 2 RJ6 59 (o_k 60 (vI (4))) := so_k (by decide +kernel)
theorem t_111_60 : am_ok lw_Ts cJ6_numberOfTrailingZeros_0f7a4 2 RJ6 60 (o_ib 61 f_ushr) := so_iushr (by decide +kernel)
theorem t_111_61 : am_ok lw_Ts cJ6_numberOfTrailingZeros_0f7a4 2 RJ6 61 (o_is 62 0) := so_is (Or.inl ⟨0, rfl, rfl, rfl⟩) (by decide +kernel)
theorem t_111_62 : am_ok lw_Ts cJ6_numberOfTrailingZeros_0f7a4 2 RJ6 62 (o_il 63 0) := so_il (Or.inl ⟨0, rfl, rfl, rfl⟩) (by decide +kernel)
theorem t_111_63 : am_ok lw_Ts cJ6_numberOfTrailingZeros_0f7a4 2 RJ6 63 (o_k 64 (vI (4))) := so_k (by decide +kernel)
theorem t_111_64 : am_ok lw_Ts cJ6_numberOfTrailingZeros_0f7a4 2 RJ6 64 (o_ic 74 67 r_le) := so_ic_le (off := 10) (by decide +kernel) rfl
theorem t_111_67 : am_ok lw_Ts cJ6_numberOfTrailingZeros_0f7a4 2 RJ6 67 (o_ii 70 1 (2)) := so_ii (by decide +kernel)
theorem t_111_70 : am_ok lw_Ts cJ6_numberOfTrailingZeros_0f7a4 2 RJ6 70 (o_il 71 0) := so_il (Or.inl ⟨0, rfl, rfl, rfl⟩) (by decide +kernel)
theorem t_111_71 : am_ok lw_Ts cJ6_numberOfTrailingZeros_0f7a4 2 RJ6 71 (o_k 72 (vI (2))) := so_k (by decide +kernel)
theorem t_111_72 : am_ok lw_Ts cJ6_numberOfTrailingZeros_0f7a4 2 RJ6 72 (o_ib 73 f_ushr) := so_iushr (by decide +kernel)
theorem t_111_73 : am_ok lw_Ts cJ6_numberOfTrailingZeros_0f7a4 2 RJ6 73 (o_is 74 0) := so_is (Or.inl ⟨0, rfl, rfl, rfl⟩) (by decide +kernel)
theorem t_111_74 : am_ok lw_Ts cJ6_numberOfTrailingZeros_0f7a4 2 RJ6 74 (o_il 75 1) := so_il (Or.inl ⟨1, rfl, rfl, rfl⟩) (by decide +kernel)
theorem t_111_75 : am_ok lw_Ts cJ6_numberOfTrailingZeros_0f7a4 2 RJ6 75 (o_il 76 0) := so_il (Or.inl ⟨0, rfl, rfl, rfl⟩) (by decide +kernel)
theorem t_111_76 : am_ok lw_Ts cJ6_numberOfTrailingZeros_0f7a4 2 RJ6 76 (o_k 77 (vI (1))) := so_k (by decide +kernel)
theorem t_111_77 : am_ok lw_Ts cJ6_numberOfTrailingZeros_0f7a4 2 RJ6 77 (o_ib 78 f_ushr) := so_iushr (by decide +kernel)
theorem t_111_78 : am_ok lw_Ts cJ6_numberOfTrailingZeros_0f7a4 2 RJ6 78 (o_ib 79 f_add) := so_iadd (by decide +kernel)
theorem t_111_79 : am_okr cJ6_numberOfTrailingZeros_0f7a4 79 1 := (show decode cJ6_numberOfTrailingZeros_0f7a4 79 = .ok (.ireturn, 1) by decide +kernel)
set_option maxRecDepth 20000 in
theorem ok_111 : am_okL gm_mi gm_mt lw_Ts lw_Ns 111 cd_111 := ⟨t_111_0, t_111_1, t_111_2, t_111_3, t_111_4, t_111_5, t_111_6, t_111_7, t_111_8, t_111_9, t_111_12, t_111_13, t_111_15, t_111_16, t_111_17, t_111_18, t_111_19, t_111_20, t_111_23, t_111_26, t_111_29, t_111_30, t_111_32, t_111_33, t_111_34, t_111_35, t_111_38, t_111_41, t_111_44, t_111_45, t_111_47, t_111_48, t_111_49, t_111_50, t_111_52, t_111_55, t_111_58, t_111_59, t_111_60, t_111_61, t_111_62, t_111_63, t_111_64, t_111_67, t_111_70, t_111_71, t_111_72, t_111_73, t_111_74, t_111_75, t_111_76, t_111_77, t_111_78, t_111_79, trivial⟩
theorem t_112_0 : am_ok lw_Ts cJ6_bitCount_0f7a4 1 RJ6 0 (o_il 1 0) := so_il (Or.inl ⟨0, rfl, rfl, rfl⟩) (by decide +kernel)
theorem t_112_1 : am_ok lw_Ts cJ6_bitCount_0f7a4 1 RJ6 1 (o_il 2 0) := so_il (Or.inl ⟨0, rfl, rfl, rfl⟩) (by decide +kernel)
theorem t_112_2 : am_ok lw_Ts cJ6_bitCount_0f7a4 1 RJ6 2 (o_k 3 (vI (1))) := so_k (by decide +kernel)
theorem t_112_3 : am_ok lw_Ts cJ6_bitCount_0f7a4 1 RJ6 3 (o_ib 4 f_ushr) := so_iushr (by decide +kernel)
theorem t_112_4 : am_ok lw_Ts cJ6_bitCount_0f7a4 1 RJ6 4 (o_k 7 (vI (1431655765))) := so_ldcw wt_371 (by decide +kernel)
theorem t_112_7 : am_ok lw_Ts cJ6_bitCount_0f7a4 1 RJ6 7 (o_ib 8 f_and) := so_iand (by decide +kernel)
theorem t_112_8 : am_ok lw_Ts cJ6_bitCount_0f7a4 1 RJ6 8 (o_ib 9 f_sub) := so_isub (by decide +kernel)
theorem t_112_9 : am_ok lw_Ts cJ6_bitCount_0f7a4 1 RJ6 9 (o_is 10 0) := so_is (Or.inl ⟨0, rfl, rfl, rfl⟩) (by decide +kernel)
theorem t_112_10 : am_ok lw_Ts cJ6_bitCount_0f7a4 1 RJ6 10 (o_il 11 0) := so_il (Or.inl ⟨0, rfl, rfl, rfl⟩) (by decide +kernel)
theorem t_112_11 : am_ok lw_Ts cJ6_bitCount_0f7a4 1 RJ6 11 (o_k 14 (vI (858993459))) := so_ldcw wt_372 (by decide +kernel)
theorem t_112_14 : am_ok lw_Ts cJ6_bitCount_0f7a4 1 RJ6 14 (o_ib 15 f_and) := so_iand (by decide +kernel)
theorem t_112_15 : am_ok lw_Ts cJ6_bitCount_0f7a4 1 RJ6 15 (o_il 16 0) := so_il (Or.inl ⟨0, rfl, rfl, rfl⟩) (by decide +kernel)
theorem t_112_16 : am_ok lw_Ts cJ6_bitCount_0f7a4 1 RJ6 16 (o_k 17 (vI (2))) := so_k (by decide +kernel)
theorem t_112_17 : am_ok lw_Ts cJ6_bitCount_0f7a4 1 RJ6 17 (o_ib 18 f_ushr) := so_iushr (by decide +kernel)
theorem t_112_18 : am_ok lw_Ts cJ6_bitCount_0f7a4 1 RJ6 18 (o_k 21 (vI (858993459))) := so_ldcw wt_372 (by decide +kernel)
theorem t_112_21 : am_ok lw_Ts cJ6_bitCount_0f7a4 1 RJ6 21 (o_ib 22 f_and) := so_iand (by decide +kernel)
theorem t_112_22 : am_ok lw_Ts cJ6_bitCount_0f7a4 1 RJ6 22 (o_ib 23 f_add) := so_iadd (by decide +kernel)
theorem t_112_23 : am_ok lw_Ts cJ6_bitCount_0f7a4 1 RJ6 23 (o_is 24 0) := so_is (Or.inl ⟨0, rfl, rfl, rfl⟩) (by decide +kernel)
theorem t_112_24 : am_ok lw_Ts cJ6_bitCount_0f7a4 1 RJ6 24 (o_il 25 0) := so_il (Or.inl ⟨0, rfl, rfl, rfl⟩) (by decide +kernel)
theorem t_112_25 : am_ok lw_Ts cJ6_bitCount_0f7a4 1 RJ6 25 (o_il 26 0) := so_il (Or.inl ⟨0, rfl, rfl, rfl⟩) (by decide +kernel)
theorem t_112_26 : am_ok lw_Ts cJ6_bitCount_0f7a4 1 RJ6 26 (o_k 27 (vI (4))) := so_k (by decide +kernel)
theorem t_112_27 : am_ok lw_Ts cJ6_bitCount_0f7a4 1 RJ6 27 (o_ib 28 f_ushr) := so_iushr (by decide +kernel)
theorem t_112_28 : am_ok lw_Ts cJ6_bitCount_0f7a4 1 RJ6 28 (o_ib 29 f_add) := so_iadd (by decide +kernel)
theorem t_112_29 : am_ok lw_Ts cJ6_bitCount_0f7a4 1 RJ6 29 (o_k 32 (vI (252645135))) := so_ldcw wt_373 (by decide +kernel)
theorem t_112_32 : am_ok lw_Ts cJ6_bitCount_0f7a4 1 RJ6 32 (o_ib 33 f_and) := so_iand (by decide +kernel)
theorem t_112_33 : am_ok lw_Ts cJ6_bitCount_0f7a4 1 RJ6 33 (o_is 34 0) := so_is (Or.inl ⟨0, rfl, rfl, rfl⟩) (by decide +kernel)
theorem t_112_34 : am_ok lw_Ts cJ6_bitCount_0f7a4 1 RJ6 34 (o_il 35 0) := so_il (Or.inl ⟨0, rfl, rfl, rfl⟩) (by decide +kernel)
theorem t_112_35 : am_ok lw_Ts cJ6_bitCount_0f7a4 1 RJ6 35 (o_il 36 0) := so_il (Or.inl ⟨0, rfl, rfl, rfl⟩) (by decide +kernel)
theorem t_112_36 : am_ok lw_Ts cJ6_bitCount_0f7a4 1 RJ6 36 (o_k 38 (vI (8))) := so_bp rfl (by decide +kernel)
theorem t_112_38 : am_ok lw_Ts cJ6_bitCount_0f7a4 1 RJ6 38 (o_ib 39 f_ushr) := so_iushr (by decide +kernel)
theorem t_112_39 : am_ok lw_Ts cJ6_bitCount_0f7a4 1 RJ6 39 (o_ib 40 f_add) := so_iadd (by decide +kernel)
theorem t_112_40 : am_ok lw_Ts cJ6_bitCount_0f7a4 1 RJ6 40 (o_is 41 0) := so_is (Or.inl ⟨0, rfl, rfl, rfl⟩) (by decide +kernel)
theorem t_112_41 : am_ok lw_Ts cJ6_bitCount_0f7a4 1 RJ6 41 (o_il 42 0) := so_il (Or.inl ⟨0, rfl, rfl, rfl⟩) (by decide +kernel)
theorem t_112_42 : am_ok lw_Ts cJ6_bitCount_0f7a4 1 RJ6 42 (o_il 43 0) := so_il (Or.inl ⟨0, rfl, rfl, rfl⟩) (by decide +kernel)
theorem t_112_43 : am_ok lw_Ts cJ6_bitCount_0f7a4 1 RJ6 43 (o_k 45 (vI (16))) := so_bp rfl (by decide +kernel)
theorem t_112_45 : am_ok lw_Ts cJ6_bitCount_0f7a4 1 RJ6 45 (o_ib 46 f_ushr) := so_iushr (by decide +kernel)
theorem t_112_46 : am_ok lw_Ts cJ6_bitCount_0f7a4 1 RJ6 46 (o_ib 47 f_add) := so_iadd (by decide +kernel)
theorem t_112_47 : am_ok lw_Ts cJ6_bitCount_0f7a4 1 RJ6 47 (o_is 48 0) := so_is (Or.inl ⟨0, rfl, rfl, rfl⟩) (by decide +kernel)
theorem t_112_48 : am_ok lw_Ts cJ6_bitCount_0f7a4 1 RJ6 48 (o_il 49 0) := so_il (Or.inl ⟨0, rfl, rfl, rfl⟩) (by decide +kernel)
theorem t_112_49 : am_ok lw_Ts cJ6_bitCount_0f7a4 1 RJ6 49 (o_k 51 (vI (63))) := so_bp rfl (by decide +kernel)
theorem t_112_51 : am_ok lw_Ts cJ6_bitCount_0f7a4 1 RJ6 51 (o_ib 52 f_and) := so_iand (by decide +kernel)
theorem t_112_52 : am_okr cJ6_bitCount_0f7a4 52 1 := (show decode cJ6_bitCount_0f7a4 52 = .ok (.ireturn, 1) by decide +kernel)
set_option maxRecDepth 20000 in
theorem ok_112 : am_okL gm_mi gm_mt lw_Ts lw_Ns 112 cd_112 := ⟨t_112_0, t_112_1, t_112_2, t_112_3, t_112_4, t_112_7, t_112_8, t_112_9, t_112_10, t_112_11, t_112_14, t_112_15, t_112_16, t_112_17, t_112_18, t_112_21, t_112_22, t_112_23, t_112_24, t_112_25, t_112_26, t_112_27, t_112_28, t_112_29, t_112_32, t_112_33, t_112_34, t_112_35, t_112_36, t_112_38, t_112_39, t_112_40, t_112_41, t_112_42, t_112_43, t_112_45, t_112_46, t_112_47, t_112_48, t_112_49, t_112_51, t_112_52, trivial⟩
theorem t_113_0 : am_ok lw_Ts cJ9_floorMod_f86c9 6 RJ9 0 (o_ll 1 0) := so_ll (Or.inl ⟨0, rfl, rfl, rfl⟩) (by decide +kernel)
theorem t_113_1 : am_ok lw_Ts cJ9_floorMod_f86c9 6 RJ9 1 (o_ll 2 2) := so_ll (Or.inl ⟨2, rfl, rfl, rfl⟩) (by decide +kernel)
theorem t_113_2 : am_ok lw_Ts cJ9_floorMod_f86c9 6 RJ9 2 (o_ld 3 f_lrem) := so_lrem (by decide +kernel)
theorem t_113_3 : am_ok lw_Ts cJ9_floorMod_f86c9 6 RJ9 3 (o_ls 5 4) := so_ls (Or.inr ⟨rfl, rfl⟩) (by decide +kernel)
theorem t_113_5 : am_ok lw_Ts cJ9_floorMod_f86c9 6 RJ9 5 (o_ll 6 0) := so_ll (Or.inl ⟨0, rfl, rfl, rfl⟩) (by decide +kernel)
theorem t_113_6 : am_ok lw_Ts cJ9_floorMod_f86c9 6 RJ9 6 (o_ll 7 2) := so_ll (Or.inl ⟨2, rfl, rfl, rfl⟩) (by decide +kernel)
theorem t_113_7 : am_ok lw_Ts cJ9_floorMod_f86c9 6 RJ9 7 (o_lb 8 f_lxor) := so_lxor (by decide +kernel)
theorem t_113_8 : am_ok lw_Ts cJ9_floorMod_f86c9 6 RJ9 8 (o_k 9 (vL (0))) := so_lk (n := 0) rfl (by decide +kernel)
theorem t_113_9 : am_ok lw_Ts cJ9_floorMod_f86c9 6 RJ9 9 (o_lcmp 10) := so_lcmp (by decide +kernel)
theorem t_113_10 : am_ok lw_Ts cJ9_floorMod_f86c9 6 RJ9 10 (o_if 25 13 q_ge) := so_if_ge (off := 15) (by decide +kernel) rfl
theorem t_113_13 : am_ok lw_Ts cJ9_floorMod_f86c9 6 RJ9 13 (o_ll 15 4) := so_ll (Or.inr ⟨rfl, rfl⟩) (by decide +kernel)
theorem t_113_15 : am_ok lw_Ts cJ9_floorMod_f86c9 6 RJ9 15 (o_k 16 (vL (0))) := so_lk (n := 0) rfl (by decide +kernel)
theorem t_113_16 : am_ok lw_Ts cJ9_floorMod_f86c9 6 RJ9 16 (o_lcmp 17) := so_lcmp (by decide +kernel)
theorem t_113_17 : am_ok lw_Ts cJ9_floorMod_f86c9 6 RJ9 17 (o_if 25 20 q_eq) := so_if_eq (off := 8) (by decide +kernel) rfl
theorem t_113_20 : am_ok lw_Ts cJ9_floorMod_f86c9 6 RJ9 20 (o_ll 22 4) := so_ll (Or.inr ⟨rfl, rfl⟩) (by decide +kernel)
theorem t_113_22 : am_ok lw_Ts cJ9_floorMod_f86c9 6 RJ9 22 (o_ll 23 2) := so_ll (Or.inl ⟨2, rfl, rfl, rfl⟩) (by decide +kernel)
theorem t_113_23 : am_ok lw_Ts cJ9_floorMod_f86c9 6 RJ9 23 (o_lb 24 f_add) := so_ladd (by decide +kernel)
theorem t_113_24 : am_okr cJ9_floorMod_f86c9 24 3 := (show decode cJ9_floorMod_f86c9 24 = .ok (.lreturn, 1) by decide +kernel)
theorem t_113_25 : am_ok lw_Ts cJ9_floorMod_f86c9 6 RJ9 25 (o_ll 27 4) := so_ll (Or.inr ⟨rfl, rfl⟩) (by decide +kernel)
theorem t_113_27 : am_okr cJ9_floorMod_f86c9 27 3 := (show decode cJ9_floorMod_f86c9 27 = .ok (.lreturn, 1) by decide +kernel)
set_option maxRecDepth 20000 in
theorem ok_113 : am_okL gm_mi gm_mt lw_Ts lw_Ns 113 cd_113 := ⟨t_113_0, t_113_1, t_113_2, t_113_3, t_113_5, t_113_6, t_113_7, t_113_8, t_113_9, t_113_10, t_113_13, t_113_15, t_113_16, t_113_17, t_113_20, t_113_22, t_113_23, t_113_24, t_113_25, t_113_27, trivial⟩
theorem t_114_0 : am_ok lw_Ts cJ9_abs_0f7a4 1 RJ9 0 (o_il 1 0) := so_il (Or.inl ⟨0, rfl, rfl, rfl⟩) (by decide +kernel)
theorem t_114_1 : am_ok lw_Ts cJ9_abs_0f7a4 1 RJ9 1 (o_if 9 4 q_ge) := so_if_ge (off := 8) (by decide +kernel) rfl
theorem t_114_4 : am_ok lw_Ts cJ9_abs_0f7a4 1 RJ9 4 (o_il 5 0) := so_il (Or.inl ⟨0, rfl, rfl, rfl⟩) (by decide +kernel)
theorem t_114_5 : am_ok lw_Ts cJ9_abs_0f7a4 1 RJ9 5 (o_iu 6 f_neg) := so_ineg (by decide +kernel)
theorem t_114_6 : am_ok lw_Ts cJ9_abs_0f7a4 1 RJ9 6 (o_go 10) := so_go (off := 4) (by decide +kernel) rfl
theorem t_114_9 : am_ok lw_Ts cJ9_abs_0f7a4 1 RJ9 9 (o_il 10 0) := so_il (Or.inl ⟨0, rfl, rfl, rfl⟩) (by decide +kernel)
theorem t_114_10 : am_okr cJ9_abs_0f7a4 10 1 := (show decode cJ9_abs_0f7a4 10 = .ok (.ireturn, 1) by decide +kernel)
set_option maxRecDepth 20000 in
theorem ok_114 : am_okL gm_mi gm_mt lw_Ts lw_Ns 114 cd_114 := ⟨t_114_0, t_114_1, t_114_4, t_114_5, t_114_6, t_114_9, t_114_10, trivial⟩
theorem t_115_0 : am_ok lw_Ts cJ9_max_7cf53 2 RJ9 0 (o_il 1 0) := so_il (Or.inl ⟨0, rfl, rfl, rfl⟩) (by decide +kernel)
theorem t_115_1 : am_ok lw_Ts cJ9_max_7cf53 2 RJ9 1 (o_il 2 1) := so_il (Or.inl ⟨1, rfl, rfl, rfl⟩) (by decide +kernel)
theorem t_115_2 : am_ok lw_Ts cJ9_max_7cf53 2 RJ9 2 (o_ic 9 5 r_lt) := so_ic_lt (off := 7) (by decide +kernel) rfl
theorem t_115_5 : am_ok lw_Ts cJ9_max_7cf53 2 RJ9 5 (o_il 6 0) := so_il (Or.inl ⟨0, rfl, rfl, rfl⟩) (by decide +kernel)
theorem t_115_6 : am_ok lw_Ts cJ9_max_7cf53 2 RJ9 6 (o_go 10) := so_go (off := 4) (by decide +kernel) rfl
theorem t_115_9 : am_ok lw_Ts cJ9_max_7cf53 2 RJ9 9 (o_il 10 1) := so_il (Or.inl ⟨1, rfl, rfl, rfl⟩) (by decide +kernel)
theorem t_115_10 : am_okr cJ9_max_7cf53 10 1 := (show decode cJ9_max_7cf53 10 = .ok (.ireturn, 1) by decide +kernel)
set_option maxRecDepth 20000 in
theorem ok_115 : am_okL gm_mi gm_mt lw_Ts lw_Ns 115 cd_115 := ⟨t_115_0, t_115_1, t_115_2, t_115_5, t_115_6, t_115_9, t_115_10, trivial⟩
theorem t_116_0 : am_ok lw_Ts cJ9_max_f86c9 4 RJ9 0 (o_ll 1 0) := so_ll (Or.inl ⟨0, rfl, rfl, rfl⟩) (by decide +kernel)
theorem t_116_1 : am_ok lw_Ts cJ9_max_f86c9 4 RJ9 1 (o_ll 2 2) := so_ll (Or.inl ⟨2, rfl, rfl, rfl⟩) (by decide +kernel)
theorem t_116_2 : am_ok lw_Ts cJ9_max_f86c9 4 RJ9 2 (o_lcmp 3) := so_lcmp (by decide +kernel)
theorem t_116_3 : am_ok lw_Ts cJ9_max_f86c9 4 RJ9 3 (o_if 10 6 q_lt) := so_if_lt (off := 7) (by decide +kernel) rfl
theorem t_116_6 : am_ok lw_Ts cJ9_max_f86c9 4 RJ9 6 (o_ll 7 0) := so_ll (Or.inl ⟨0, rfl, rfl, rfl⟩) (by decide +kernel)
theorem t_116_7 : am_ok lw_Ts cJ9_max_f86c9 4 RJ9 7 (o_go 11) := so_go (off := 4) (by decide +kernel) rfl
theorem t_116_10 : am_ok lw_Ts cJ9_max_f86c9 4 RJ9 10 (o_ll 11 2) := so_ll (Or.inl ⟨2, rfl, rfl, rfl⟩) (by decide +kernel)
theorem t_116_11 : am_okr cJ9_max_f86c9 11 3 := (show decode cJ9_max_f86c9 11 = .ok (.lreturn, 1) by decide +kernel)
set_option maxRecDepth 20000 in
theorem ok_116 : am_okL gm_mi gm_mt lw_Ts lw_Ns 116 cd_116 := ⟨t_116_0, t_116_1, t_116_2, t_116_3, t_116_6, t_116_7, t_116_10, t_116_11, trivial⟩
theorem t_117_0 : am_ok lw_Ts cJ7_fill_d0a16 5 RJ7 0 (o_k 1 (vI (0))) := so_k (by decide +kernel)
theorem t_117_1 : am_ok lw_Ts cJ7_fill_d0a16 5 RJ7 1 (o_is 2 3) := so_is (Or.inl ⟨3, rfl, rfl, rfl⟩) (by decide +kernel)
theorem t_117_2 : am_ok lw_Ts cJ7_fill_d0a16 5 RJ7 2 (o_al 3 0) := so_al (Or.inl ⟨0, rfl, rfl, rfl⟩) (by decide +kernel)
theorem t_117_3 : am_ok lw_Ts cJ7_fill_d0a16 5 RJ7 3 (o_len 4) := so_len (by decide +kernel)
theorem t_117_4 : am_ok lw_Ts cJ7_fill_d0a16 5 RJ7 4 (o_is 6 4) := so_is (Or.inr ⟨rfl, rfl⟩) (by decide +kernel)
theorem t_117_6 : am_ok lw_Ts cJ7_fill_d0a16 5 RJ7 6 (o_il 7 3) := so_il (Or.inl ⟨3, rfl, rfl, rfl⟩) (by decide +kernel)
theorem t_117_7 : am_ok lw_Ts cJ7_fill_d0a16 5 RJ7 7 (o_il 9 4) := so_il (Or.inr ⟨rfl, rfl⟩) (by decide +kernel)
theorem t_117_9 : am_ok lw_Ts cJ7_fill_d0a16 5 RJ7 9 (o_ic 22 12 r_ge) := so_ic_ge (off := 13) (by decide +kernel) rfl
theorem t_117_12 : am_ok lw_Ts cJ7_fill_d0a16 5 RJ7 12 (o_al 13 0) := so_al (Or.inl ⟨0, rfl, rfl, rfl⟩) (by decide +kernel)
theorem t_117_13 : am_ok lw_Ts cJ7_fill_d0a16 5 RJ7 13 (o_il 14 3) := so_il (Or.inl ⟨3, rfl, rfl, rfl⟩) (by decide +kernel)
theorem t_117_14 : am_ok lw_Ts cJ7_fill_d0a16 5 RJ7 14 (o_ll 15 1) := so_ll (Or.inl ⟨1, rfl, rfl, rfl⟩) (by decide +kernel)
theorem t_117_15 : am_ok lw_Ts cJ7_fill_d0a16 5 RJ7 15 (o_lw 16) := so_lw (by decide +kernel)
theorem t_117_16 : am_ok lw_Ts cJ7_fill_d0a16 5 RJ7 16 (o_ii 19 3 (1)) := so_ii (by decide +kernel)
theorem t_117_19 : am_ok lw_Ts cJ7_fill_d0a16 5 RJ7 19 (o_go 6) := so_go (off := (-13)) (by decide +kernel) rfl
theorem t_117_22 : am_okr cJ7_fill_d0a16 22 0 := (show decode cJ7_fill_d0a16 22 = .ok (.return_, 1) by decide +kernel)
set_option maxRecDepth 20000 in
theorem ok_117 : am_okL gm_mi gm_mt lw_Ts lw_Ns 117 cd_117 := ⟨t_117_0, t_117_1, t_117_2, t_117_3, t_117_4, t_117_6, t_117_7, t_117_9, t_117_12, t_117_13, t_117_14, t_117_15, t_117_16, t_117_19, t_117_22, trivial⟩
theorem t_118_0 : am_ok lw_Ts cJ7_fill_53178 4 RJ7 0 (o_k 1 (vI (0))) := so_k (by decide +kernel)
theorem t_118_1 : am_ok lw_Ts cJ7_fill_53178 4 RJ7 1 (o_is 2 2) := so_is (Or.inl ⟨2, rfl, rfl, rfl⟩) (by decide +kernel)
theorem t_118_2 : am_ok lw_Ts cJ7_fill_53178 4 RJ7 2 (o_al 3 0) := so_al (Or.inl ⟨0, rfl, rfl, rfl⟩) (by decide +kernel)
theorem t_118_3 : am_ok lw_Ts cJ7_fill_53178 4 RJ7 3 (o_len 4) := so_len (by decide +kernel)
theorem t_118_4 : am_ok lw_Ts cJ7_fill_53178 4 RJ7 4 (o_is 5 3) := so_is (Or.inl ⟨3, rfl, rfl, rfl⟩) (by decide +kernel)
theorem t_118_5 : am_ok lw_Ts cJ7_fill_53178 4 RJ7 5 (o_il 6 2) := so_il (Or.inl ⟨2, rfl, rfl, rfl⟩) (by decide +kernel)
theorem t_118_6 : am_ok lw_Ts cJ7_fill_53178 4 RJ7 6 (o_il 7 3) := so_il (Or.inl ⟨3, rfl, rfl, rfl⟩) (by decide +kernel)
theorem t_118_7 : am_ok lw_Ts cJ7_fill_53178 4 RJ7 7 (o_ic 20 10 r_ge) := so_ic_ge (off := 13) (by decide +kernel) rfl
theorem t_118_10 : am_ok lw_Ts cJ7_fill_53178 4 RJ7 10 (o_al 11 0) := so_al (Or.inl ⟨0, rfl, rfl, rfl⟩) (by decide +kernel)
theorem t_118_11 : am_ok lw_Ts cJ7_fill_53178 4 RJ7 11 (o_il 12 2) := so_il (Or.inl ⟨2, rfl, rfl, rfl⟩) (by decide +kernel)
theorem t_118_12 : am_ok lw_Ts cJ7_fill_53178 4 RJ7 12 (o_il 13 1) := so_il (Or.inl ⟨1, rfl, rfl, rfl⟩) (by decide +kernel)
theorem t_118_13 : am_ok lw_Ts cJ7_fill_53178 4 RJ7 13 (o_iw 14) := so_iw (by decide +kernel)
theorem t_118_14 : am_ok lw_Ts cJ7_fill_53178 4 RJ7 14 (o_ii 17 2 (1)) := so_ii (by decide +kernel)
theorem t_118_17 : am_ok lw_Ts cJ7_fill_53178 4 RJ7 17 (o_go 5) := so_go (off := (-12)) (by decide +kernel) rfl
theorem t_118_20 : am_okr cJ7_fill_53178 20 0 := (show decode cJ7_fill_53178 20 = .ok (.return_, 1) by decide +kernel)
set_option maxRecDepth 20000 in
theorem ok_118 : am_okL gm_mi gm_mt lw_Ts lw_Ns 118 cd_118 := ⟨t_118_0, t_118_1, t_118_2, t_118_3, t_118_4, t_118_5, t_118_6, t_118_7, t_118_10, t_118_11, t_118_12, t_118_13, t_118_14, t_118_17, t_118_20, trivial⟩
end
section
theorem gm_ok : am_okT gm_mi gm_mt lw_Ts lw_Ns := by
  intro k pc i h
  match k, h with
  | 0, h => exact ⟨rfl, rfl, am_okL_at ok_0 h⟩
  | 1, h => exact ⟨rfl, rfl, am_okL_at ok_1 h⟩
  | 2, h => exact ⟨rfl, rfl, am_okL_at ok_2 h⟩
  | 3, h => exact ⟨rfl, rfl, am_okL_at ok_3 h⟩
  | 4, h => exact ⟨rfl, rfl, am_okL_at ok_4 h⟩
  | 5, h => exact ⟨rfl, rfl, am_okL_at ok_5 h⟩
  | 6, h => exact ⟨rfl, rfl, am_okL_at ok_6 h⟩
  | 7, h => exact ⟨rfl, rfl, am_okL_at ok_7 h⟩
  | 8, h => exact ⟨rfl, rfl, am_okL_at ok_8 h⟩
  | 9, h => exact ⟨rfl, rfl, am_okL_at ok_9 h⟩
  | 10, h => exact ⟨rfl, rfl, am_okL_at ok_10 h⟩
  | 11, h => exact ⟨rfl, rfl, am_okL_at ok_11 h⟩
  | 12, h => exact ⟨rfl, rfl, am_okL_at ok_12 h⟩
  | 13, h => exact ⟨rfl, rfl, am_okL_at ok_13 h⟩
  | 14, h => exact ⟨rfl, rfl, am_okL_at ok_14 h⟩
  | 15, h => exact ⟨rfl, rfl, am_okL_at ok_15 h⟩
  | 16, h => exact ⟨rfl, rfl, am_okL_at ok_16 h⟩
  | 17, h => exact ⟨rfl, rfl, am_okL_at ok_17 h⟩
  | 18, h => exact ⟨rfl, rfl, am_okL_at ok_18 h⟩
  | 19, h => exact ⟨rfl, rfl, am_okL_at ok_19 h⟩
  | 20, h => exact ⟨rfl, rfl, am_okL_at ok_20 h⟩
  | 21, h => exact ⟨rfl, rfl, am_okL_at ok_21 h⟩
  | 22, h => exact ⟨rfl, rfl, am_okL_at ok_22 h⟩
  | 23, h => exact ⟨rfl, rfl, am_okL_at ok_23 h⟩
  | 24, h => exact ⟨rfl, rfl, am_okL_at ok_24 h⟩
  | 25, h => exact ⟨rfl, rfl, am_okL_at ok_25 h⟩
  | 26, h => exact ⟨rfl, rfl, am_okL_at ok_26 h⟩
  | 27, h => exact ⟨rfl, rfl, am_okL_at ok_27 h⟩
  | 28, h => exact ⟨rfl, rfl, am_okL_at ok_28 h⟩
  | 29, h => exact ⟨rfl, rfl, am_okL_at ok_29 h⟩
  | 30, h => exact ⟨rfl, rfl, am_okL_at ok_30 h⟩
  | 31, h => exact ⟨rfl, rfl, am_okL_at ok_31 h⟩
  | 32, h => exact ⟨rfl, rfl, am_okL_at ok_32 h⟩
  | 33, h => exact ⟨rfl, rfl, am_okL_at ok_33 h⟩
  | 34, h => exact ⟨rfl, rfl, am_okL_at ok_34 h⟩
  | 35, h => exact ⟨rfl, rfl, am_okL_at ok_35 h⟩
  | 36, h => exact ⟨rfl, rfl, am_okL_at ok_36 h⟩
  | 37, h => exact ⟨rfl, rfl, am_okL_at ok_37 h⟩
  | 38, h => exact ⟨rfl, rfl, am_okL_at ok_38 h⟩
  | 39, h => exact ⟨rfl, rfl, am_okL_at ok_39 h⟩
  | 40, h => exact ⟨rfl, rfl, am_okL_at ok_40 h⟩
  | 41, h => exact ⟨rfl, rfl, am_okL_at ok_41 h⟩
  | 42, h => exact ⟨rfl, rfl, am_okL_at ok_42 h⟩
  | 43, h => exact ⟨rfl, rfl, am_okL_at ok_43 h⟩
  | 44, h => exact ⟨rfl, rfl, am_okL_at ok_44 h⟩
  | 45, h => exact ⟨rfl, rfl, am_okL_at ok_45 h⟩
  | 46, h => exact ⟨rfl, rfl, am_okL_at ok_46 h⟩
  | 47, h => exact ⟨rfl, rfl, am_okL_at ok_47 h⟩
  | 48, h => exact ⟨rfl, rfl, am_okL_at ok_48 h⟩
  | 49, h => exact ⟨rfl, rfl, am_okL_at ok_49 h⟩
  | 50, h => exact ⟨rfl, rfl, am_okL_at ok_50 h⟩
  | 51, h => exact ⟨rfl, rfl, am_okL_at ok_51 h⟩
  | 52, h => exact ⟨rfl, rfl, am_okL_at ok_52 h⟩
  | 53, h => exact ⟨rfl, rfl, am_okL_at ok_53 h⟩
  | 54, h => exact ⟨rfl, rfl, am_okL_at ok_54 h⟩
  | 55, h => exact ⟨rfl, rfl, am_okL_at ok_55 h⟩
  | 56, h => exact ⟨rfl, rfl, am_okL_at ok_56 h⟩
  | 57, h => exact ⟨rfl, rfl, am_okL_at ok_57 h⟩
  | 58, h => exact ⟨rfl, rfl, am_okL_at ok_58 h⟩
  | 59, h => exact ⟨rfl, rfl, am_okL_at ok_59 h⟩
  | 60, h => exact ⟨rfl, rfl, am_okL_at ok_60 h⟩
  | 61, h => exact ⟨rfl, rfl, am_okL_at ok_61 h⟩
  | 62, h => exact ⟨rfl, rfl, am_okL_at ok_62 h⟩
  | 63, h => exact ⟨rfl, rfl, am_okL_at ok_63 h⟩
  | 64, h => exact ⟨rfl, rfl, am_okL_at ok_64 h⟩
  | 65, h => exact ⟨rfl, rfl, am_okL_at ok_65 h⟩
  | 66, h => exact ⟨rfl, rfl, am_okL_at ok_66 h⟩
  | 67, h => exact ⟨rfl, rfl, am_okL_at ok_67 h⟩
  | 68, h => exact ⟨rfl, rfl, am_okL_at ok_68 h⟩
  | 69, h => exact ⟨rfl, rfl, am_okL_at ok_69 h⟩
  | 70, h => exact ⟨rfl, rfl, am_okL_at ok_70 h⟩
  | 71, h => exact ⟨rfl, rfl, am_okL_at ok_71 h⟩
  | 72, h => exact ⟨rfl, rfl, am_okL_at ok_72 h⟩
  | 73, h => exact ⟨rfl, rfl, am_okL_at ok_73 h⟩
  | 74, h => exact ⟨rfl, rfl, am_okL_at ok_74 h⟩
  | 75, h => exact ⟨rfl, rfl, am_okL_at ok_75 h⟩
  | 76, h => exact ⟨rfl, rfl, am_okL_at ok_76 h⟩
  | 77, h => exact ⟨rfl, rfl, am_okL_at ok_77 h⟩
  | 78, h => exact ⟨rfl, rfl, am_okL_at ok_78 h⟩
  | 79, h => exact ⟨rfl, rfl, am_okL_at ok_79 h⟩
  | 80, h => exact ⟨rfl, rfl, am_okL_at ok_80 h⟩
  | 81, h => exact ⟨rfl, rfl, am_okL_at ok_81 h⟩
  | 82, h => exact ⟨rfl, rfl, am_okL_at ok_82 h⟩
  | 83, h => exact ⟨rfl, rfl, am_okL_at ok_83 h⟩
  | 84, h => exact ⟨rfl, rfl, am_okL_at ok_84 h⟩
  | 85, h => exact ⟨rfl, rfl, am_okL_at ok_85 h⟩
  | 86, h => exact ⟨rfl, rfl, am_okL_at ok_86 h⟩
  | 87, h => exact ⟨rfl, rfl, am_okL_at ok_87 h⟩
  | 88, h => exact ⟨rfl, rfl, am_okL_at ok_88 h⟩
  | 89, h => exact ⟨rfl, rfl, am_okL_at ok_89 h⟩
  | 90, h => exact ⟨rfl, rfl, am_okL_at ok_90 h⟩
  | 91, h => exact ⟨rfl, rfl, am_okL_at ok_91 h⟩
  | 92, h => exact ⟨rfl, rfl, am_okL_at ok_92 h⟩
  | 93, h => exact ⟨rfl, rfl, am_okL_at ok_93 h⟩
  | 94, h => exact ⟨rfl, rfl, am_okL_at ok_94 h⟩
  | 95, h => exact ⟨rfl, rfl, am_okL_at ok_95 h⟩
  | 96, h => exact ⟨rfl, rfl, am_okL_at ok_96 h⟩
  | 97, h => exact ⟨rfl, rfl, am_okL_at ok_97 h⟩
  | 98, h => exact ⟨rfl, rfl, am_okL_at ok_98 h⟩
  | 99, h => exact ⟨rfl, rfl, am_okL_at ok_99 h⟩
  | 100, h => exact ⟨rfl, rfl, am_okL_at ok_100 h⟩
  | 101, h => exact ⟨rfl, rfl, am_okL_at ok_101 h⟩
  | 102, h => exact ⟨rfl, rfl, am_okL_at ok_102 h⟩
  | 103, h => exact ⟨rfl, rfl, am_okL_at ok_103 h⟩
  | 104, h => exact ⟨rfl, rfl, am_okL_at ok_104 h⟩
  | 105, h => exact ⟨rfl, rfl, am_okL_at ok_105 h⟩
  | 106, h => exact ⟨rfl, rfl, am_okL_at ok_106 h⟩
  | 107, h => exact ⟨rfl, rfl, am_okL_at ok_107 h⟩
  | 108, h => exact ⟨rfl, rfl, am_okL_at ok_108 h⟩
  | 109, h => exact ⟨rfl, rfl, am_okL_at ok_109 h⟩
  | 110, h => exact ⟨rfl, rfl, am_okL_at ok_110 h⟩
  | 111, h => exact ⟨rfl, rfl, am_okL_at ok_111 h⟩
  | 112, h => exact ⟨rfl, rfl, am_okL_at ok_112 h⟩
  | 113, h => exact ⟨rfl, rfl, am_okL_at ok_113 h⟩
  | 114, h => exact ⟨rfl, rfl, am_okL_at ok_114 h⟩
  | 115, h => exact ⟨rfl, rfl, am_okL_at ok_115 h⟩
  | 116, h => exact ⟨rfl, rfl, am_okL_at ok_116 h⟩
  | 117, h => exact ⟨rfl, rfl, am_okL_at ok_117 h⟩
  | 118, h => exact ⟨rfl, rfl, am_okL_at ok_118 h⟩
  | k + 119, h => simp [gm_mt, am_at] at h
end
section
/-! the cells of the class and of the reference, by their places -/
def SKG : SK := [(0, 2, [2, 3, 0, 0]), (1, 6, []), (1, 6, []), (0, 0, [5, 6, 7, 0, 0]), (1, 6, []), (1, 6, []), (4, 6, [7, 8, 9, 10, 11, 12]), (1, 6, []), (1, 6, []), (1, 6, []), (1, 6, []), (1, 6, []), (1, 6, []), (0, 5, [1, 4, 15, 16, 0, 0, 0]), (1, 6, []), (1, 6, []), (0, 4, [1, 4, 14, 18, 25, 29, 30, 31, 32, 33, 0]), (5, 6, [18, 19, 20, 21, 22, 23]), (3, 37, []), (3, 37, []), (3, 37, []), (3, 37, []), (3, 37, []), (3, 37, []), (4, 3, [25, 26, 27]), (1, 36, []), (1, 36, []), (1, 36, []), (1, 3, []), (1, 6, []), (1, 6, []), (3, 64, []), (3, 64, []), (0, 3, [1, 35, 36, 37, 38, 39, 40, 41, 0, 0, 0, 0]), (1, 10, []), (1, 10, []), (1, 10, []), (1, 10, []), (1, 10, []), (1, 10, []), (1, 1024, []), (0, 1, [4, 43, 51, 52, 53]), (4, 7, [43, 44, 45, 46, 47, 48, 49]), (1, 6, []), (1, 6, []), (1, 6, []), (1, 6, []), (1, 6, []), (1, 6, []), (1, 6, []), (1, 7, []), (1, 7, []), (1, 6, []), (0, 6, [1, 4, 14, 17, 34, 42]), (0, 7, [56, 57, 0, 58, 59, 60, 61, 0, 0, 0, 0, 0, 62, 63, 64, 65, 66, 67, 68, 0, 69, 0, 70, 71, 72, 0, 73, 74, 75, 76, 77, 78, 79, 0, 80, 81, 82]), (1, 6, []), (1, 6, []), (1, 6, []), (2, 6, []), (1, 36, []), (2, 36, []), (1, 6, []), (1, 6, []), (1, 10, []), (1, 10, []), (1, 10, []), (2, 10, []), (1, 10, []), (1, 10, []), (1, 42, []), (1, 7, []), (2, 42, []), (1, 6, []), (1, 6, []), (1, 192, []), (1, 576, []), (1, 576, []), (1, 3, []), (1, 3, []), (1, 1024, []), (1, 10, []), (1, 10, [])]
theorem row_7 {i : Int} (h0 : 0 ≤ i) (h1 : i < 6) : SKG[7 + i.toNat]? = some (1, 6, []) := by
  rcases (show i = 0 ∨ i = 1 ∨ i = 2 ∨ i = 3 ∨ i = 4 ∨ i = 5 by omega) with rfl | rfl | rfl | rfl | rfl | rfl <;> rfl
theorem aa_7 {i : Int} (h0 : 0 ≤ i) (h1 : i < 6) : ([7, 8, 9, 10, 11, 12] : List Nat)[i.toNat]? = some (7 + i.toNat) := by
  rcases (show i = 0 ∨ i = 1 ∨ i = 2 ∨ i = 3 ∨ i = 4 ∨ i = 5 by omega) with rfl | rfl | rfl | rfl | rfl | rfl <;> rfl
theorem row_18 {i : Int} (h0 : 0 ≤ i) (h1 : i < 6) : SKG[18 + i.toNat]? = some (3, 37, []) := by
  rcases (show i = 0 ∨ i = 1 ∨ i = 2 ∨ i = 3 ∨ i = 4 ∨ i = 5 by omega) with rfl | rfl | rfl | rfl | rfl | rfl <;> rfl
theorem aa_18 {i : Int} (h0 : 0 ≤ i) (h1 : i < 6) : ([18, 19, 20, 21, 22, 23] : List Nat)[i.toNat]? = some (18 + i.toNat) := by
  rcases (show i = 0 ∨ i = 1 ∨ i = 2 ∨ i = 3 ∨ i = 4 ∨ i = 5 by omega) with rfl | rfl | rfl | rfl | rfl | rfl <;> rfl
theorem row_25 {i : Int} (h0 : 0 ≤ i) (h1 : i < 3) : SKG[25 + i.toNat]? = some (1, 36, []) := by
  rcases (show i = 0 ∨ i = 1 ∨ i = 2 by omega) with rfl | rfl | rfl <;> rfl
theorem aa_25 {i : Int} (h0 : 0 ≤ i) (h1 : i < 3) : ([25, 26, 27] : List Nat)[i.toNat]? = some (25 + i.toNat) := by
  rcases (show i = 0 ∨ i = 1 ∨ i = 2 by omega) with rfl | rfl | rfl <;> rfl
theorem row_43 {i : Int} (h0 : 0 ≤ i) (h1 : i < 7) : SKG[43 + i.toNat]? = some (1, 6, []) := by
  rcases (show i = 0 ∨ i = 1 ∨ i = 2 ∨ i = 3 ∨ i = 4 ∨ i = 5 ∨ i = 6 by omega) with rfl | rfl | rfl | rfl | rfl | rfl | rfl <;> rfl
theorem aa_43 {i : Int} (h0 : 0 ≤ i) (h1 : i < 7) : ([43, 44, 45, 46, 47, 48, 49] : List Nat)[i.toNat]? = some (43 + i.toNat) := by
  rcases (show i = 0 ∨ i = 1 ∨ i = 2 ∨ i = 3 ∨ i = 4 ∨ i = 5 ∨ i = 6 by omega) with rfl | rfl | rfl | rfl | rfl | rfl | rfl <;> rfl
end
section
/-! runs of the small machine, from the end backwards -/
theorem am_run_mono {mt : MT} {sk : SK} : ∀ (n d k pc : Nat) (ls st : List AV) (G : AG) (x : Option AV × AG), am_run mt sk n d k pc ls st G = some x → am_run mt sk (n + 1) d k pc ls st G = some x := by
  intro n
  induction n with
  | zero =>
    intro d k pc ls st G x h
    simp [am_run] at h
  | succ n ih =>
    intro d k pc ls st G x h
    unfold am_run at h ⊢
    split at h
    · cases h
    · rename_i op hat
      simp only [hat]
      split at h
      · cases h
      · rename_i pc' ls' st' G' hop
        simp only [hop]
        exact ih _ _ _ _ _ _ _ h
    · rename_i j na hat
      simp only [hat]
      split at h
      · cases h
      · rename_i d'
        split at h
        · rename_i hc
          simp only [hc, and_self, if_true]
          split at h
          · cases h
          · rename_i r G' h1
            simp only [ih _ _ _ _ _ _ _ h1]
            exact ih _ _ _ _ _ _ _ h
        · cases h
    · rename_i hat
      simp only [hat]
      exact h
theorem am_run_le {mt : MT} {sk : SK} {n d k pc : Nat} {ls st : List AV} {G : AG} {x : Option AV × AG} (h : am_run mt sk n d k pc ls st G = some x) : ∀ m, am_run mt sk (n + m) d k pc ls st G = some x
  | 0 => h
  | m + 1 => am_run_mono _ _ _ _ _ _ _ _ (am_run_le h m)
theorem am_run_one {mt : MT} {sk : SK} {n n' d k pc : Nat} {ls st : List AV} {G : AG} {x y : Option AV × AG} (h : am_run mt sk n d k pc ls st G = some x) (h' : am_run mt sk n' d k pc ls st G = some y) : x = y := by
  have h1 := am_run_le h n'
  have h2 := am_run_le h' n
  rw [Nat.add_comm n' n] at h2
  exact Option.some.inj (h1.symm.trans h2)
/-- from here the method ends, with Q -/
def Ends (d k pc : Nat) (ls st : List AV) (G : AG) (Q : Option AV → AG → Prop) : Prop := ∃ n r G', am_run gm_mt SKG n d k pc ls st G = some (r, G') ∧ Q r G'
section AmEnds
variable {d k pc : Nat} {ls st : List AV} {G : AG} {Q : Option AV → AG → Prop}
theorem e_op {op : OP} {pc' : Nat} {ls' st' : List AV} {G' : AG} (hf : am_at (gm_mt k).1 pc = some (.inl op)) (ho : op SKG ls st G = some (pc', ls', st', G')) : Ends d k pc ls st G Q ↔ Ends d k pc' ls' st' G' Q := by
  constructor
  · rintro ⟨n, r, G1, h, hq⟩
    cases n with
    | zero => simp [am_run] at h
    | succ n =>
      unfold am_run at h
      simp only [hf, ho] at h
      exact ⟨n, r, G1, h, hq⟩
  · rintro ⟨n, r, G1, h, hq⟩
    refine ⟨n + 1, r, G1, ?_, hq⟩
    unfold am_run
    simp only [hf, ho]
    exact h
theorem e_ret {r : Option AV} (hf : am_at (gm_mt k).1 pc = some (.inr (.inr ()))) (hr : am_ret (gm_mt k).2.2.1 st = some r) : Ends d k pc ls st G Q ↔ Q r G := by
  constructor
  · rintro ⟨n, r1, G1, h, hq⟩
    cases n with
    | zero => simp [am_run] at h
    | succ n =>
      unfold am_run at h
      simp only [hf, hr] at h
      cases h
      exact hq
  · intro hq
    refine ⟨1, r, G, ?_, hq⟩
    unfold am_run
    simp only [hf, hr]
/-- the method ends from its start, with this answer -/
def Ret (d j : Nat) (ls : List AV) (G : AG) (r : Option AV) (G' : AG) : Prop := Ends d j 0 ls [] G (fun r1 G1 => r1 = r ∧ G1 = G')
theorem e_call {j na : Nat} {r : Option AV} {G' : AG} (hf : am_at (gm_mt k).1 pc = some (.inr (.inl (j, na)))) (hc : na ≤ st.length ∧ am_cats (st.drop na) ≤ 8 ∧ am_recv SKG (gm_mt j).2.2.2 (st.take na).reverse = true ∧ am_vals (st.take na) = true ∧ (am_slots (st.take na).reverse).length ≤ (gm_mt j).2.1)
    (h : Ret d j (am_ent (gm_mt j).2.1 (st.take na).reverse) G r G') : Ends (d + 1) k pc ls st G Q ↔ Ends (d + 1) k (pc + 3) ls (r.toList ++ st.drop na) G' Q := by
  obtain ⟨n1, r1, G1, h1, rfl, rfl⟩ := h
  constructor
  · rintro ⟨n, r2, G2, h2, hq⟩
    cases n with
    | zero => simp [am_run] at h2
    | succ n =>
      unfold am_run at h2
      simp only [hf, if_pos hc] at h2
      split at h2
      · cases h2
      · rename_i r3 G3 h3
        have e := am_run_one h3 h1
        cases e
        exact ⟨n, r2, G2, h2, hq⟩
  · rintro ⟨n, r2, G2, h2, hq⟩
    refine ⟨n1 + n + 1, r2, G2, ?_, hq⟩
    unfold am_run
    simp only [hf, if_pos hc, am_run_le h1 n]
    rw [Nat.add_comm n1 n]
    exact am_run_le h2 n1
/-- deeper is as good -/
theorem am_run_d {mt : MT} {sk : SK} : ∀ (n d k pc : Nat) (ls st : List AV) (G : AG) (x : Option AV × AG), am_run mt sk n d k pc ls st G = some x → am_run mt sk n (d + 1) k pc ls st G = some x := by
  intro n
  induction n with
  | zero =>
    intro d k pc ls st G x h
    simp [am_run] at h
  | succ n ih =>
    intro d k pc ls st G x h
    unfold am_run at h ⊢
    split at h
    · cases h
    · rename_i op hat
      simp only [hat]
      split at h
      · cases h
      · rename_i pc' ls' st' G' hop
        simp only [hop]
        exact ih _ _ _ _ _ _ _ h
    · rename_i j na hat
      simp only [hat]
      split at h
      · cases h
      · rename_i d'
        split at h
        · rename_i hc
          simp only [hc, and_self, if_true]
          split at h
          · cases h
          · rename_i r G' h1
            simp only [ih _ _ _ _ _ _ _ h1]
            exact ih _ _ _ _ _ _ _ h
        · cases h
    · rename_i hat
      simp only [hat]
      exact h
theorem Ends.up (h : Ends d k pc ls st G Q) : Ends (d + 1) k pc ls st G Q := by
  obtain ⟨n, r, G', h1, h2⟩ := h
  exact ⟨n, r, G', am_run_d _ _ _ _ _ _ _ _ h1, h2⟩
theorem Ends.post {Q' : Option AV → AG → Prop} (h : Ends d k pc ls st G Q) (hq : ∀ r G', Q r G' → Q' r G') : Ends d k pc ls st G Q' := by
  obtain ⟨n, r, G', h1, h2⟩ := h
  exact ⟨n, r, G', h1, hq _ _ h2⟩
theorem Ret.use {r : Option AV} {G' : AG} (h : Ret d k ls G r G') (hq : Q r G') : Ends d k 0 ls [] G Q := Ends.post h (fun _ _ e => by rw [e.1, e.2]; exact hq)
/-- a value that is had is one answer -/
theorem Ends.ret (h : Ends d k 0 ls [] G Q) : ∃ r G', Ret d k ls G r G' ∧ Q r G' := by
  obtain ⟨n, r, G', h1, h2⟩ := h
  exact ⟨r, G', ⟨n, r, G', h1, rfl, rfl⟩, h2⟩
/-! numbers in their ranges -/
theorem am_it {a : Int} (h1 : -2147483648 ≤ a) (h2 : a < 2147483648) : (am_i a).toInt = a := by
  rw [am_i, Int32.toInt_ofInt]
  exact Int.bmod_eq_of_le (by have : ((2 ^ 32 : Nat) : Int) = 4294967296 := rfl; simp only [Int32.size]; omega) (by simp only [Int32.size]; omega)
theorem am_lt {a : Int} (h1 : -9223372036854775808 ≤ a) (h2 : a < 9223372036854775808) : (am_l a).toInt = a := by
  rw [am_l, Int64.toInt_ofInt]
  exact Int.bmod_eq_of_le (by simp only [Int64.size]; omega) (by simp only [Int64.size]; omega)
theorem e_if {op : OP} {t n : Nat} {q : Int32 → Bool} {a : Int} {c : Prop} (ic : Decidable c) (hf : am_at (gm_mt k).1 pc = some (.inl op)) (ho : op = o_if t n q) (hc : q (am_i a) = true ↔ c) : Ends d k pc ls (vI a :: st) G Q ↔ if c then Ends d k t ls st G Q else Ends d k n ls st G Q := by
  subst ho
  have h := e_op (d := d) (Q := Q) (ls := ls) (st := vI a :: st) (G := G) hf rfl
  rw [h]
  by_cases hq : q (am_i a) = true
  · rw [if_pos hq, if_pos (hc.mp hq)]
  · rw [if_neg hq, if_neg (fun z => hq (hc.mpr z))]
theorem e_ic {op : OP} {t n : Nat} {q : Int32 → Int32 → Bool} {a b : Int} {c : Prop} (ic : Decidable c) (hf : am_at (gm_mt k).1 pc = some (.inl op)) (ho : op = o_ic t n q) (hc : q (am_i a) (am_i b) = true ↔ c) : Ends d k pc ls (vI b :: vI a :: st) G Q ↔ if c then Ends d k t ls st G Q else Ends d k n ls st G Q := by
  subst ho
  have h := e_op (d := d) (Q := Q) (ls := ls) (st := vI b :: vI a :: st) (G := G) hf rfl
  rw [h]
  by_cases hq : q (am_i a) (am_i b) = true
  · rw [if_pos hq, if_pos (hc.mp hq)]
  · rw [if_neg hq, if_neg (fun z => hq (hc.mpr z))]
end AmEnds
section AmNum
variable {a b : Int}
theorem am_ile (ha : -2147483648 ≤ a) (ha2 : a < 2147483648) (hb : -2147483648 ≤ b) (hb2 : b < 2147483648) : am_i a ≤ am_i b ↔ a ≤ b := by
  rw [Int32.le_iff_toInt_le, am_it ha ha2, am_it hb hb2]
theorem am_ilt (ha : -2147483648 ≤ a) (ha2 : a < 2147483648) (hb : -2147483648 ≤ b) (hb2 : b < 2147483648) : am_i a < am_i b ↔ a < b := by
  rw [Int32.lt_iff_toInt_lt, am_it ha ha2, am_it hb hb2]
theorem am_ieq (ha : -2147483648 ≤ a) (ha2 : a < 2147483648) (hb : -2147483648 ≤ b) (hb2 : b < 2147483648) : am_i a = am_i b ↔ a = b := by
  rw [← Int32.toInt_inj, am_it ha ha2, am_it hb hb2]
theorem am_i0 : (0 : Int32) = am_i 0 := rfl
end AmNum
end
section
section AmEnds2
variable {d k pc : Nat} {ls st : List AV} {G : AG} {Q : Option AV → AG → Prop}
theorem e_is {n i : Nat} {z : Int} (hf : am_at (gm_mt k).1 pc = some (.inl (o_is n i))) (h : am_okst ls i = true) : Ends d k pc ls (vI z :: st) G Q ↔ Ends d k n (ls.set i (vI z)) st G Q := e_op hf (by simp only [o_is, h, if_true])
theorem e_as {n i : Nat} {r : Nat} (hf : am_at (gm_mt k).1 pc = some (.inl (o_as n i))) (h : am_okst ls i = true) : Ends d k pc ls (vR r :: st) G Q ↔ Ends d k n (ls.set i (vR r)) st G Q := e_op hf (by simp only [o_as, h, if_true])
theorem e_ls {n i : Nat} {z : Int} (hf : am_at (gm_mt k).1 pc = some (.inl (o_ls n i))) (h : am_okst ls i = true) (h2 : i + 1 < ls.length) : Ends d k pc ls (vL z :: st) G Q ↔ Ends d k n ((ls.set i (vL z)).set (i + 1) vU) st G Q := e_op hf (by simp only [o_ls, h, h2, if_true])
theorem am_ine {b : Int} (h3 : 0 < b) (h4 : b < 2147483648) : ¬ am_i b = 0 := by
  rw [am_i0, am_ieq (by omega) h4 (by decide) (by decide)]
  omega
theorem am_lne {b : Int} (h3 : 0 < b) (h4 : b < 9223372036854775808) : ¬ am_l b = 0 := by
  intro h
  have h1 := congrArg Int64.toInt h
  rw [am_lt (by omega) h4] at h1
  have h2 : (0 : Int64).toInt = 0 := rfl
  omega
theorem am_iinj {x y : Int32} (h : x.toInt = y.toInt) : x = y := Int32.toInt_inj.mp h
theorem am_div {a b : Int} (h1 : 0 ≤ a) (h2 : a < 2147483648) (h3 : 0 < b) (h4 : b < 2147483648) : am_i a / am_i b = am_i (a / b) := by
  apply am_iinj
  have h5 : a / b ≤ a := Int.ediv_le_self _ h1
  have h6 : 0 ≤ a / b := Int.ediv_nonneg h1 (by omega)
  rw [Int32.toInt_div, am_it (by omega) h2, am_it (by omega) h4, am_it (by omega) (by omega), Int.tdiv_eq_ediv_of_nonneg h1]
  exact Int.bmod_eq_of_le (by omega) (by omega)
theorem am_rem {a b : Int} (h1 : 0 ≤ a) (h2 : a < 2147483648) (h3 : 0 < b) (h4 : b < 2147483648) : am_i a - am_i a / am_i b * am_i b = am_i (a % b) := by
  rw [am_div h1 h2 h3 h4, ← am_i_mul, ← am_i_sub]
  congr 1
  have h5 := Int.emod_add_mul_ediv a b
  have h6 : a / b * b = b * (a / b) := Int.mul_comm _ _
  omega
theorem am_ldiv {a b : Int} (h1 : 0 ≤ a) (h2 : a < 9223372036854775808) (h3 : 0 < b) (h4 : b < 9223372036854775808) : am_l a / am_l b = am_l (a / b) := by
  apply Int64.toInt_inj.mp
  have h5 : a / b ≤ a := Int.ediv_le_self _ h1
  have h6 : 0 ≤ a / b := Int.ediv_nonneg h1 (by omega)
  rw [Int64.toInt_div, am_lt (by omega) h2, am_lt (by omega) h4, am_lt (by omega) (by omega), Int.tdiv_eq_ediv_of_nonneg h1]
  exact Int.bmod_eq_of_le (by omega) (by omega)
theorem am_lrem {a b : Int} (h1 : 0 ≤ a) (h2 : a < 9223372036854775808) (h3 : 0 < b) (h4 : b < 9223372036854775808) : am_l a - am_l a / am_l b * am_l b = am_l (a % b) := by
  rw [am_ldiv h1 h2 h3 h4, ← am_l_mul, ← am_l_sub]
  congr 1
  have h5 := Int.emod_add_mul_ediv a b
  have h6 : a / b * b = b * (a / b) := Int.mul_comm _ _
  omega
theorem e_div {n : Nat} {a b : Int} (hf : am_at (gm_mt k).1 pc = some (.inl (o_id n f_div))) (h1 : 0 ≤ a) (h2 : a < 2147483648) (h3 : 0 < b) (h4 : b < 2147483648) : Ends d k pc ls (vI b :: vI a :: st) G Q ↔ Ends d k n ls (vI (a / b) :: st) G Q := e_op hf (by
  have h6 : 0 ≤ a / b := Int.ediv_nonneg h1 (by omega)
  have h5 : a / b ≤ a := Int.ediv_le_self _ h1
  simp only [o_id, am_ine h3 h4, if_false, f_div, am_div h1 h2 h3 h4, am_it (show -2147483648 ≤ a / b by omega) (by omega)])
theorem e_rem {n : Nat} {a b : Int} (hf : am_at (gm_mt k).1 pc = some (.inl (o_id n f_rem))) (h1 : 0 ≤ a) (h2 : a < 2147483648) (h3 : 0 < b) (h4 : b < 2147483648) : Ends d k pc ls (vI b :: vI a :: st) G Q ↔ Ends d k n ls (vI (a % b) :: st) G Q := e_op hf (by
  have h6 : 0 ≤ a % b := Int.emod_nonneg a (by omega)
  have h5 : a % b < b := Int.emod_lt_of_pos a h3
  simp only [o_id, am_ine h3 h4, if_false, f_rem, am_rem h1 h2 h3 h4, am_it (show -2147483648 ≤ a % b by omega) (by omega)])
theorem e_ldiv {n : Nat} {a b : Int} (hf : am_at (gm_mt k).1 pc = some (.inl (o_ld n f_ldiv))) (h1 : 0 ≤ a) (h2 : a < 9223372036854775808) (h3 : 0 < b) (h4 : b < 9223372036854775808) : Ends d k pc ls (vL b :: vL a :: st) G Q ↔ Ends d k n ls (vL (a / b) :: st) G Q := e_op hf (by
  have h6 : 0 ≤ a / b := Int.ediv_nonneg h1 (by omega)
  have h5 : a / b ≤ a := Int.ediv_le_self _ h1
  simp only [o_ld, am_lne h3 h4, if_false, f_ldiv, am_ldiv h1 h2 h3 h4, am_lt (show -9223372036854775808 ≤ a / b by omega) (by omega)])
theorem e_lrem {n : Nat} {a b : Int} (hf : am_at (gm_mt k).1 pc = some (.inl (o_ld n f_lrem))) (h1 : 0 ≤ a) (h2 : a < 9223372036854775808) (h3 : 0 < b) (h4 : b < 9223372036854775808) : Ends d k pc ls (vL b :: vL a :: st) G Q ↔ Ends d k n ls (vL (a % b) :: st) G Q := e_op hf (by
  have h6 : 0 ≤ a % b := Int.emod_nonneg a (by omega)
  have h5 : a % b < b := Int.emod_lt_of_pos a h3
  simp only [o_ld, am_lne h3 h4, if_false, f_lrem, am_lrem h1 h2 h3 h4, am_lt (show -9223372036854775808 ≤ a % b by omega) (by omega)])
theorem e_lrem0 {n : Nat} {a b : Int} (hf : am_at (gm_mt k).1 pc = some (.inl (o_ld n f_lrem))) (h3 : 0 < b) (h4 : b < 9223372036854775808) : Ends d k pc ls (vL b :: vL a :: st) G Q ↔ Ends d k n ls (vL (f_lrem a b) :: st) G Q := e_op hf (by
  simp only [o_ld, am_lne h3 h4, if_false])
theorem e_i2l {n : Nat} {a : Int} (hf : am_at (gm_mt k).1 pc = some (.inl (o_i2l n))) (h1 : -2147483648 ≤ a) (h2 : a < 2147483648) : Ends d k pc ls (vI a :: st) G Q ↔ Ends d k n ls (vL a :: st) G Q := e_op hf (by
  simp only [o_i2l, am_it h1 h2])
def f_cmp (a b : Int) : Int := if a < b then -1 else if a = b then 0 else 1
theorem am_llt {a b : Int} (h1 : -9223372036854775808 ≤ a) (h2 : a < 9223372036854775808) (h3 : -9223372036854775808 ≤ b) (h4 : b < 9223372036854775808) : am_l a < am_l b ↔ a < b := by
  rw [Int64.lt_iff_toInt_lt, am_lt h1 h2, am_lt h3 h4]
theorem am_leq {a b : Int} (h1 : -9223372036854775808 ≤ a) (h2 : a < 9223372036854775808) (h3 : -9223372036854775808 ≤ b) (h4 : b < 9223372036854775808) : am_l a = am_l b ↔ a = b := by
  rw [← Int64.toInt_inj, am_lt h1 h2, am_lt h3 h4]
theorem e_lcmp {n : Nat} {a b : Int} (hf : am_at (gm_mt k).1 pc = some (.inl (o_lcmp n))) (h1 : -9223372036854775808 ≤ a) (h2 : a < 9223372036854775808) (h3 : -9223372036854775808 ≤ b) (h4 : b < 9223372036854775808) : Ends d k pc ls (vL b :: vL a :: st) G Q ↔ Ends d k n ls (vI (f_cmp a b) :: st) G Q := e_op hf (by
  have e1 : (lg_cmp (am_l a) (am_l b)).toInt = f_cmp a b := by
    unfold lg_cmp f_cmp
    simp only [am_llt h1 h2 h3 h4, am_leq h1 h2 h3 h4]
    repeat' split
    all_goals first | rfl | omega
  simp only [o_lcmp, e1])
theorem e_sw {f : Int → Nat} {a : Int} (hf : am_at (gm_mt k).1 pc = some (.inl (o_sw f))) (h1 : -2147483648 ≤ a) (h2 : a < 2147483648) : Ends d k pc ls (vI a :: st) G Q ↔ Ends d k (f a) ls st G Q := e_op hf (by
  simp only [o_sw, am_it h1 h2])
theorem am_in_of {i : Int} {n : Nat} (h0 : 0 ≤ i) (h1 : i < n) (hn : (n : Int) ≤ 2147483647) : am_in i n = true := by
  rw [am_in, am_it (by omega) (by omega), Bool.and_eq_true, decide_eq_true_iff, decide_eq_true_iff]
  exact ⟨h0, h1⟩
theorem e_ia {x r n : Nat} {fl : List Nat} {i : Int} (hf : am_at (gm_mt k).1 pc = some (.inl (o_ia x))) (hs : SKG[r]? = some (1, n, fl)) (h0 : 0 ≤ i) (h1 : i < n) (hn : (n : Int) < 2147483648) : Ends d k pc ls (vI i :: vR r :: st) G Q ↔ Ends d k x ls (vI (G r i) :: st) G Q := e_op hf (by
  simp only [o_ia, hs, am_in_of h0 h1 (by omega), if_true, am_it (show -2147483648 ≤ i by omega) (by omega)])
theorem e_ba {x r n : Nat} {fl : List Nat} {i : Int} (hf : am_at (gm_mt k).1 pc = some (.inl (o_ba x))) (hs : SKG[r]? = some (2, n, fl)) (h0 : 0 ≤ i) (h1 : i < n) (hn : (n : Int) < 2147483648) : Ends d k pc ls (vI i :: vR r :: st) G Q ↔ Ends d k x ls (vI (G r i) :: st) G Q := e_op hf (by
  simp only [o_ba, hs, am_in_of h0 h1 (by omega), if_true, am_it (show -2147483648 ≤ i by omega) (by omega)])
theorem e_la {x r n : Nat} {fl : List Nat} {i : Int} (hf : am_at (gm_mt k).1 pc = some (.inl (o_la x))) (hs : SKG[r]? = some (3, n, fl)) (h0 : 0 ≤ i) (h1 : i < n) (hn : (n : Int) < 2147483648) : Ends d k pc ls (vI i :: vR r :: st) G Q ↔ Ends d k x ls (vL (G r i) :: st) G Q := e_op hf (by
  simp only [o_la, hs, am_in_of h0 h1 (by omega), if_true, am_it (show -2147483648 ≤ i by omega) (by omega)])
def f_pl (i : Int) : Int := if i = 0 then 69343957 else if i = 1 then 1874161 else if i = 2 then 50653 else if i = 3 then 1369 else if i = 4 then 37 else 1
theorem e_pl {x : Nat} {i : Int} (hf : am_at (gm_mt k).1 pc = some (.inl (o_la x))) (h0 : 0 ≤ i) (h1 : i < 6) : Ends d k pc ls (vI i :: vR 1000 :: st) G Q ↔ Ends d k x ls (vL (f_pl i) :: st) G Q := e_op hf (by
  have hs : SKG[1000]? = none := rfl
  have e1 : am_pl.getD i.toNat 0 = f_pl i := by rcases (show i = 0 ∨ i = 1 ∨ i = 2 ∨ i = 3 ∨ i = 4 ∨ i = 5 by omega) with rfl | rfl | rfl | rfl | rfl | rfl <;> rfl
  simp only [o_la, hs, am_in_of h0 (show i < ((6 : Nat) : Int) from h1) (by decide), if_true, am_it (show -2147483648 ≤ i by omega) (show i < 2147483648 by omega), e1])
theorem e_aa {x r n b : Nat} {fl : List Nat} {i : Int} (hf : am_at (gm_mt k).1 pc = some (.inl (o_aa x))) (hs : SKG[r]? = some (4, n, fl)) (h0 : 0 ≤ i) (h1 : i < n) (hn : (n : Int) < 2147483648) (hb : fl[i.toNat]? = some b) : Ends d k pc ls (vI i :: vR r :: st) G Q ↔ Ends d k x ls (vR b :: st) G Q := e_op hf (by
  simp only [o_aa, hs, am_in_of h0 h1 (by omega), if_true, am_it (show -2147483648 ≤ i by omega) (show i < 2147483648 by omega), hb])
theorem e_aa5 {x r n b : Nat} {fl : List Nat} {i : Int} (hf : am_at (gm_mt k).1 pc = some (.inl (o_aa x))) (hs : SKG[r]? = some (5, n, fl)) (h0 : 0 ≤ i) (h1 : i < n) (hn : (n : Int) < 2147483648) (hb : fl[i.toNat]? = some b) : Ends d k pc ls (vI i :: vR r :: st) G Q ↔ Ends d k x ls (vR b :: st) G Q := e_op hf (by
  simp only [o_aa, hs, am_in_of h0 h1 (by omega), if_true, am_it (show -2147483648 ≤ i by omega) (show i < 2147483648 by omega), hb])
theorem e_iw {x r n : Nat} {fl : List Nat} {i z : Int} (hf : am_at (gm_mt k).1 pc = some (.inl (o_iw x))) (hs : SKG[r]? = some (1, n, fl)) (h0 : 0 ≤ i) (h1 : i < n) (hn : (n : Int) < 2147483648) : Ends d k pc ls (vI z :: vI i :: vR r :: st) G Q ↔ Ends d k x ls st (am_up G r i z) Q := e_op hf (by
  simp only [o_iw, hs, am_in_of h0 h1 (by omega), if_true, am_it (show -2147483648 ≤ i by omega) (by omega)])
theorem e_bw {x r n : Nat} {fl : List Nat} {i z : Int} (hf : am_at (gm_mt k).1 pc = some (.inl (o_bw x))) (hs : SKG[r]? = some (2, n, fl)) (h0 : 0 ≤ i) (h1 : i < n) (hn : (n : Int) < 2147483648) (hz : z = 0 ∨ z = 1) : Ends d k pc ls (vI z :: vI i :: vR r :: st) G Q ↔ Ends d k x ls st (am_up G r i z) Q := e_op hf (by
  simp only [o_bw, hs, am_in_of h0 h1 (by omega), if_true, am_it (show -2147483648 ≤ i by omega) (by omega), if_pos hz])
theorem e_lw {x r n : Nat} {fl : List Nat} {i z : Int} (hf : am_at (gm_mt k).1 pc = some (.inl (o_lw x))) (hs : SKG[r]? = some (3, n, fl)) (h0 : 0 ≤ i) (h1 : i < n) (hn : (n : Int) < 2147483648) : Ends d k pc ls (vL z :: vI i :: vR r :: st) G Q ↔ Ends d k x ls st (am_up G r i z) Q := e_op hf (by
  simp only [o_lw, hs, am_in_of h0 h1 (by omega), if_true, am_it (show -2147483648 ≤ i by omega) (by omega)])
theorem e_len1 {x r n : Nat} {fl : List Nat} (hf : am_at (gm_mt k).1 pc = some (.inl (o_len x))) (hs : SKG[r]? = some (1, n, fl)) : Ends d k pc ls (vR r :: st) G Q ↔ Ends d k x ls (vI n :: st) G Q := e_op hf (by
  simp only [o_len, hs])
theorem e_len3 {x r n : Nat} {fl : List Nat} (hf : am_at (gm_mt k).1 pc = some (.inl (o_len x))) (hs : SKG[r]? = some (3, n, fl)) : Ends d k pc ls (vR r :: st) G Q ↔ Ends d k x ls (vI n :: st) G Q := e_op hf (by
  simp only [o_len, hs])
end AmEnds2
end
