section
-- ===== PART A: goes FIRST, ahead of the names: the tables' words, and 'selects' of the private methods out of them =====
/-- a private method of a class that the tables say can be made, by its rows of tables_1 -/
def lw_okq (q : MethodName × Nat) : Prop := (q.1.cls ≠ "java/lang/invoke/MethodHandle" ∧ q.1.cls ≠ "java/lang/invoke/VarHandle") ∧ Cond.instantiable q.1.cls q.2 ∈ tables_1 ∧ Cond.privateMethod q.1 ∈ tables_1 ∧ Cond.instanceMethod q.1 ∈ tables_1
theorem lw_p0 : lw_okq (⟨"SeasonOfHours$Programme", "isFault", "(II)Z"⟩, 7) := ⟨⟨by decide +kernel, by decide +kernel⟩, List.mem_of_getElem? (i := 89) (by decide +kernel), List.mem_of_getElem? (i := 373) (by decide +kernel), List.mem_of_getElem? (i := 374) (by decide +kernel)⟩
theorem lw_p1 : lw_okq (⟨"SeasonOfHours$Programme", "isArtistAhead", "(I)Z"⟩, 7) := ⟨⟨by decide +kernel, by decide +kernel⟩, List.mem_of_getElem? (i := 89) (by decide +kernel), List.mem_of_getElem? (i := 380) (by decide +kernel), List.mem_of_getElem? (i := 381) (by decide +kernel)⟩
theorem lw_p2 : lw_okq (⟨"SeasonOfHours$Programme", "isTooNearOneAhead", "(I)Z"⟩, 7) := ⟨⟨by decide +kernel, by decide +kernel⟩, List.mem_of_getElem? (i := 89) (by decide +kernel), List.mem_of_getElem? (i := 384) (by decide +kernel), List.mem_of_getElem? (i := 385) (by decide +kernel)⟩
theorem lw_p3 : lw_okq (⟨"SeasonOfHours$Programme", "clashesInEvening", "(II)Z"⟩, 7) := ⟨⟨by decide +kernel, by decide +kernel⟩, List.mem_of_getElem? (i := 89) (by decide +kernel), List.mem_of_getElem? (i := 393) (by decide +kernel), List.mem_of_getElem? (i := 394) (by decide +kernel)⟩
theorem lw_p4 : lw_okq (⟨"SeasonOfHours$Programme", "clash", "(III)Z"⟩, 7) := ⟨⟨by decide +kernel, by decide +kernel⟩, List.mem_of_getElem? (i := 89) (by decide +kernel), List.mem_of_getElem? (i := 397) (by decide +kernel), List.mem_of_getElem? (i := 398) (by decide +kernel)⟩
theorem lw_p5 : lw_okq (⟨"SeasonOfHours$Planner", "weighOptions", "(II)V"⟩, 11) := ⟨⟨by decide +kernel, by decide +kernel⟩, List.mem_of_getElem? (i := 130) (by decide +kernel), List.mem_of_getElem? (i := 409) (by decide +kernel), List.mem_of_getElem? (i := 410) (by decide +kernel)⟩
theorem lw_p6 : lw_okq (⟨"SeasonOfHours$Planner", "listChoices", "(I)V"⟩, 11) := ⟨⟨by decide +kernel, by decide +kernel⟩, List.mem_of_getElem? (i := 130) (by decide +kernel), List.mem_of_getElem? (i := 416) (by decide +kernel), List.mem_of_getElem? (i := 417) (by decide +kernel)⟩
theorem lw_p7 : lw_okq (⟨"SeasonOfHours$Planner", "listFollowers", "()V"⟩, 11) := ⟨⟨by decide +kernel, by decide +kernel⟩, List.mem_of_getElem? (i := 130) (by decide +kernel), List.mem_of_getElem? (i := 421) (by decide +kernel), List.mem_of_getElem? (i := 422) (by decide +kernel)⟩
theorem lw_p8 : lw_okq (⟨"SeasonOfHours$Planner", "listFarModes", "()V"⟩, 11) := ⟨⟨by decide +kernel, by decide +kernel⟩, List.mem_of_getElem? (i := 130) (by decide +kernel), List.mem_of_getElem? (i := 426) (by decide +kernel), List.mem_of_getElem? (i := 427) (by decide +kernel)⟩
theorem lw_p9 : lw_okq (⟨"SeasonOfHours$Planner", "fillFrom", "(IIIIIJ)V"⟩, 11) := ⟨⟨by decide +kernel, by decide +kernel⟩, List.mem_of_getElem? (i := 130) (by decide +kernel), List.mem_of_getElem? (i := 435) (by decide +kernel), List.mem_of_getElem? (i := 436) (by decide +kernel)⟩
theorem lw_p10 : lw_okq (⟨"SeasonOfHours$Planner", "fillWith", "(IIIIIJ)V"⟩, 11) := ⟨⟨by decide +kernel, by decide +kernel⟩, List.mem_of_getElem? (i := 130) (by decide +kernel), List.mem_of_getElem? (i := 442) (by decide +kernel), List.mem_of_getElem? (i := 443) (by decide +kernel)⟩
theorem lw_p11 : lw_okq (⟨"SeasonOfHours$Planner", "joinEvening", "()V"⟩, 11) := ⟨⟨by decide +kernel, by decide +kernel⟩, List.mem_of_getElem? (i := 130) (by decide +kernel), List.mem_of_getElem? (i := 446) (by decide +kernel), List.mem_of_getElem? (i := 447) (by decide +kernel)⟩
theorem lw_p12 : lw_okq (⟨"SeasonOfHours$Planner", "carryOut", "(J)I"⟩, 11) := ⟨⟨by decide +kernel, by decide +kernel⟩, List.mem_of_getElem? (i := 130) (by decide +kernel), List.mem_of_getElem? (i := 450) (by decide +kernel), List.mem_of_getElem? (i := 451) (by decide +kernel)⟩
theorem lw_p13 : lw_okq (⟨"SeasonOfHours$Pieces", "readyOn", "(I)I"⟩, 12) := ⟨⟨by decide +kernel, by decide +kernel⟩, List.mem_of_getElem? (i := 174) (by decide +kernel), List.mem_of_getElem? (i := 488) (by decide +kernel), List.mem_of_getElem? (i := 489) (by decide +kernel)⟩
theorem lw_p14 : lw_okq (⟨"SeasonOfHours$Pieces", "listFollowers", "()V"⟩, 12) := ⟨⟨by decide +kernel, by decide +kernel⟩, List.mem_of_getElem? (i := 174) (by decide +kernel), List.mem_of_getElem? (i := 495) (by decide +kernel), List.mem_of_getElem? (i := 496) (by decide +kernel)⟩
theorem lw_p15 : lw_okq (⟨"SeasonOfHours$Pieces", "firstsOf", "(I)I"⟩, 12) := ⟨⟨by decide +kernel, by decide +kernel⟩, List.mem_of_getElem? (i := 174) (by decide +kernel), List.mem_of_getElem? (i := 500) (by decide +kernel), List.mem_of_getElem? (i := 501) (by decide +kernel)⟩
def lw_privs_1 : List (MethodName × Nat) := [(⟨"SeasonOfHours$Programme", "isFault", "(II)Z"⟩, 7), (⟨"SeasonOfHours$Programme", "isArtistAhead", "(I)Z"⟩, 7), (⟨"SeasonOfHours$Programme", "isTooNearOneAhead", "(I)Z"⟩, 7), (⟨"SeasonOfHours$Programme", "clashesInEvening", "(II)Z"⟩, 7), (⟨"SeasonOfHours$Programme", "clash", "(III)Z"⟩, 7), (⟨"SeasonOfHours$Planner", "weighOptions", "(II)V"⟩, 11), (⟨"SeasonOfHours$Planner", "listChoices", "(I)V"⟩, 11), (⟨"SeasonOfHours$Planner", "listFollowers", "()V"⟩, 11), (⟨"SeasonOfHours$Planner", "listFarModes", "()V"⟩, 11), (⟨"SeasonOfHours$Planner", "fillFrom", "(IIIIIJ)V"⟩, 11), (⟨"SeasonOfHours$Planner", "fillWith", "(IIIIIJ)V"⟩, 11), (⟨"SeasonOfHours$Planner", "joinEvening", "()V"⟩, 11), (⟨"SeasonOfHours$Planner", "carryOut", "(J)I"⟩, 11), (⟨"SeasonOfHours$Pieces", "readyOn", "(I)I"⟩, 12), (⟨"SeasonOfHours$Pieces", "listFollowers", "()V"⟩, 12), (⟨"SeasonOfHours$Pieces", "firstsOf", "(I)I"⟩, 12)]
theorem lw_r1 : ∀ q ∈ lw_privs_1, lw_okq q := List.forall_mem_cons.mpr ⟨lw_p0, List.forall_mem_cons.mpr ⟨lw_p1, List.forall_mem_cons.mpr ⟨lw_p2, List.forall_mem_cons.mpr ⟨lw_p3, List.forall_mem_cons.mpr ⟨lw_p4, List.forall_mem_cons.mpr ⟨lw_p5, List.forall_mem_cons.mpr ⟨lw_p6, List.forall_mem_cons.mpr ⟨lw_p7, List.forall_mem_cons.mpr ⟨lw_p8, List.forall_mem_cons.mpr ⟨lw_p9, List.forall_mem_cons.mpr ⟨lw_p10, List.forall_mem_cons.mpr ⟨lw_p11, List.forall_mem_cons.mpr ⟨lw_p12, List.forall_mem_cons.mpr ⟨lw_p13, List.forall_mem_cons.mpr ⟨lw_p14, List.forall_mem_cons.mpr ⟨lw_p15, fun _ h => absurd h List.not_mem_nil⟩⟩⟩⟩⟩⟩⟩⟩⟩⟩⟩⟩⟩⟩⟩⟩
theorem lw_p16 : lw_okq (⟨"SeasonOfHours$Pieces", "isGood", "(II)Z"⟩, 12) := ⟨⟨by decide +kernel, by decide +kernel⟩, List.mem_of_getElem? (i := 174) (by decide +kernel), List.mem_of_getElem? (i := 505) (by decide +kernel), List.mem_of_getElem? (i := 506) (by decide +kernel)⟩
theorem lw_p17 : lw_okq (⟨"SeasonOfHours$Pieces", "sum", "([II)I"⟩, 12) := ⟨⟨by decide +kernel, by decide +kernel⟩, List.mem_of_getElem? (i := 174) (by decide +kernel), List.mem_of_getElem? (i := 510) (by decide +kernel), List.mem_of_getElem? (i := 511) (by decide +kernel)⟩
theorem lw_p18 : lw_okq (⟨"SeasonOfHours$Pieces", "isBetter", "(II)Z"⟩, 12) := ⟨⟨by decide +kernel, by decide +kernel⟩, List.mem_of_getElem? (i := 174) (by decide +kernel), List.mem_of_getElem? (i := 514) (by decide +kernel), List.mem_of_getElem? (i := 515) (by decide +kernel)⟩
theorem lw_p19 : lw_okq (⟨"SeasonOfHours$Pieces", "firstRow", "(I)J"⟩, 12) := ⟨⟨by decide +kernel, by decide +kernel⟩, List.mem_of_getElem? (i := 174) (by decide +kernel), List.mem_of_getElem? (i := 518) (by decide +kernel), List.mem_of_getElem? (i := 519) (by decide +kernel)⟩
theorem lw_p20 : lw_okq (⟨"SeasonOfHours$Pieces", "writeLatest", "(I)V"⟩, 12) := ⟨⟨by decide +kernel, by decide +kernel⟩, List.mem_of_getElem? (i := 174) (by decide +kernel), List.mem_of_getElem? (i := 527) (by decide +kernel), List.mem_of_getElem? (i := 528) (by decide +kernel)⟩
theorem lw_p21 : lw_okq (⟨"SeasonOfHours$Jury", "fromJudge", "(II)I"⟩, 5) := ⟨⟨by decide +kernel, by decide +kernel⟩, List.mem_of_getElem? (i := 222) (by decide +kernel), List.mem_of_getElem? (i := 556) (by decide +kernel), List.mem_of_getElem? (i := 557) (by decide +kernel)⟩
theorem lw_p22 : lw_okq (⟨"SeasonOfHours$Jury", "placeOf", "(I)I"⟩, 5) := ⟨⟨by decide +kernel, by decide +kernel⟩, List.mem_of_getElem? (i := 222) (by decide +kernel), List.mem_of_getElem? (i := 572) (by decide +kernel), List.mem_of_getElem? (i := 573) (by decide +kernel)⟩
theorem lw_p23 : lw_okq (⟨"SeasonOfHours$Jury", "isAhead", "(II)Z"⟩, 5) := ⟨⟨by decide +kernel, by decide +kernel⟩, List.mem_of_getElem? (i := 222) (by decide +kernel), List.mem_of_getElem? (i := 576) (by decide +kernel), List.mem_of_getElem? (i := 577) (by decide +kernel)⟩
theorem lw_p24 : lw_okq (⟨"java/lang/Throwable", "fillInStackTrace", "(I)Ljava/lang/Throwable;"⟩, 6) := ⟨⟨by decide +kernel, by decide +kernel⟩, List.mem_of_getElem? (i := 624) (by decide +kernel), List.mem_of_getElem? (i := 622) (by decide +kernel), List.mem_of_getElem? (i := 623) (by decide +kernel)⟩
theorem lw_p25 : lw_okq (⟨"SeasonOfHoursModel", "empty", "()V"⟩, 37) := ⟨⟨by decide +kernel, by decide +kernel⟩, List.mem_of_getElem? (i := 657) (by decide +kernel), List.mem_of_getElem? (i := 663) (by decide +kernel), List.mem_of_getElem? (i := 664) (by decide +kernel)⟩
theorem lw_p26 : lw_okq (⟨"SeasonOfHoursModel", "isArtist", "(I)Z"⟩, 37) := ⟨⟨by decide +kernel, by decide +kernel⟩, List.mem_of_getElem? (i := 657) (by decide +kernel), List.mem_of_getElem? (i := 799) (by decide +kernel), List.mem_of_getElem? (i := 800) (by decide +kernel)⟩
theorem lw_p27 : lw_okq (⟨"SeasonOfHoursModel", "isMode", "(I)Z"⟩, 37) := ⟨⟨by decide +kernel, by decide +kernel⟩, List.mem_of_getElem? (i := 657) (by decide +kernel), List.mem_of_getElem? (i := 803) (by decide +kernel), List.mem_of_getElem? (i := 804) (by decide +kernel)⟩
theorem lw_p28 : lw_okq (⟨"SeasonOfHoursModel", "share", "(II)I"⟩, 37) := ⟨⟨by decide +kernel, by decide +kernel⟩, List.mem_of_getElem? (i := 657) (by decide +kernel), List.mem_of_getElem? (i := 827) (by decide +kernel), List.mem_of_getElem? (i := 828) (by decide +kernel)⟩
theorem lw_p29 : lw_okq (⟨"SeasonOfHoursModel", "all", "()I"⟩, 37) := ⟨⟨by decide +kernel, by decide +kernel⟩, List.mem_of_getElem? (i := 657) (by decide +kernel), List.mem_of_getElem? (i := 836) (by decide +kernel), List.mem_of_getElem? (i := 837) (by decide +kernel)⟩
theorem lw_p30 : lw_okq (⟨"SeasonOfHoursModel", "holds", "(II)Z"⟩, 37) := ⟨⟨by decide +kernel, by decide +kernel⟩, List.mem_of_getElem? (i := 657) (by decide +kernel), List.mem_of_getElem? (i := 852) (by decide +kernel), List.mem_of_getElem? (i := 853) (by decide +kernel)⟩
theorem lw_p31 : lw_okq (⟨"SeasonOfHoursModel", "search", "(Z)V"⟩, 37) := ⟨⟨by decide +kernel, by decide +kernel⟩, List.mem_of_getElem? (i := 657) (by decide +kernel), List.mem_of_getElem? (i := 860) (by decide +kernel), List.mem_of_getElem? (i := 861) (by decide +kernel)⟩
def lw_privs_2 : List (MethodName × Nat) := [(⟨"SeasonOfHours$Pieces", "isGood", "(II)Z"⟩, 12), (⟨"SeasonOfHours$Pieces", "sum", "([II)I"⟩, 12), (⟨"SeasonOfHours$Pieces", "isBetter", "(II)Z"⟩, 12), (⟨"SeasonOfHours$Pieces", "firstRow", "(I)J"⟩, 12), (⟨"SeasonOfHours$Pieces", "writeLatest", "(I)V"⟩, 12), (⟨"SeasonOfHours$Jury", "fromJudge", "(II)I"⟩, 5), (⟨"SeasonOfHours$Jury", "placeOf", "(I)I"⟩, 5), (⟨"SeasonOfHours$Jury", "isAhead", "(II)Z"⟩, 5), (⟨"java/lang/Throwable", "fillInStackTrace", "(I)Ljava/lang/Throwable;"⟩, 6), (⟨"SeasonOfHoursModel", "empty", "()V"⟩, 37), (⟨"SeasonOfHoursModel", "isArtist", "(I)Z"⟩, 37), (⟨"SeasonOfHoursModel", "isMode", "(I)Z"⟩, 37), (⟨"SeasonOfHoursModel", "share", "(II)I"⟩, 37), (⟨"SeasonOfHoursModel", "all", "()I"⟩, 37), (⟨"SeasonOfHoursModel", "holds", "(II)Z"⟩, 37), (⟨"SeasonOfHoursModel", "search", "(Z)V"⟩, 37)]
theorem lw_r2 : ∀ q ∈ lw_privs_2, lw_okq q := List.forall_mem_cons.mpr ⟨lw_p16, List.forall_mem_cons.mpr ⟨lw_p17, List.forall_mem_cons.mpr ⟨lw_p18, List.forall_mem_cons.mpr ⟨lw_p19, List.forall_mem_cons.mpr ⟨lw_p20, List.forall_mem_cons.mpr ⟨lw_p21, List.forall_mem_cons.mpr ⟨lw_p22, List.forall_mem_cons.mpr ⟨lw_p23, List.forall_mem_cons.mpr ⟨lw_p24, List.forall_mem_cons.mpr ⟨lw_p25, List.forall_mem_cons.mpr ⟨lw_p26, List.forall_mem_cons.mpr ⟨lw_p27, List.forall_mem_cons.mpr ⟨lw_p28, List.forall_mem_cons.mpr ⟨lw_p29, List.forall_mem_cons.mpr ⟨lw_p30, List.forall_mem_cons.mpr ⟨lw_p31, fun _ h => absurd h List.not_mem_nil⟩⟩⟩⟩⟩⟩⟩⟩⟩⟩⟩⟩⟩⟩⟩⟩
theorem lw_p32 : lw_okq (⟨"SeasonOfHoursModel", "go", "(IIIIZ)V"⟩, 37) := ⟨⟨by decide +kernel, by decide +kernel⟩, List.mem_of_getElem? (i := 657) (by decide +kernel), List.mem_of_getElem? (i := 865) (by decide +kernel), List.mem_of_getElem? (i := 866) (by decide +kernel)⟩
theorem lw_p33 : lw_okq (⟨"SeasonOfHoursModel", "join", "(III)V"⟩, 37) := ⟨⟨by decide +kernel, by decide +kernel⟩, List.mem_of_getElem? (i := 657) (by decide +kernel), List.mem_of_getElem? (i := 869) (by decide +kernel), List.mem_of_getElem? (i := 870) (by decide +kernel)⟩
theorem lw_p34 : lw_okq (⟨"SeasonOfHoursModel", "isAhead", "()Z"⟩, 37) := ⟨⟨by decide +kernel, by decide +kernel⟩, List.mem_of_getElem? (i := 657) (by decide +kernel), List.mem_of_getElem? (i := 873) (by decide +kernel), List.mem_of_getElem? (i := 874) (by decide +kernel)⟩
theorem lw_p35 : lw_okq (⟨"SeasonOfHoursModel", "findFirsts", "()V"⟩, 37) := ⟨⟨by decide +kernel, by decide +kernel⟩, List.mem_of_getElem? (i := 657) (by decide +kernel), List.mem_of_getElem? (i := 894) (by decide +kernel), List.mem_of_getElem? (i := 895) (by decide +kernel)⟩
theorem lw_p36 : lw_okq (⟨"SeasonOfHoursModel", "canFollow", "(II)Z"⟩, 37) := ⟨⟨by decide +kernel, by decide +kernel⟩, List.mem_of_getElem? (i := 657) (by decide +kernel), List.mem_of_getElem? (i := 898) (by decide +kernel), List.mem_of_getElem? (i := 899) (by decide +kernel)⟩
theorem lw_p37 : lw_okq (⟨"SeasonOfHoursModel", "mayBe", "(III)Z"⟩, 37) := ⟨⟨by decide +kernel, by decide +kernel⟩, List.mem_of_getElem? (i := 657) (by decide +kernel), List.mem_of_getElem? (i := 902) (by decide +kernel), List.mem_of_getElem? (i := 903) (by decide +kernel)⟩
theorem lw_p38 : lw_okq (⟨"SeasonOfHoursModel", "sum", "(I)I"⟩, 37) := ⟨⟨by decide +kernel, by decide +kernel⟩, List.mem_of_getElem? (i := 657) (by decide +kernel), List.mem_of_getElem? (i := 907) (by decide +kernel), List.mem_of_getElem? (i := 908) (by decide +kernel)⟩
theorem lw_p39 : lw_okq (⟨"SeasonOfHoursModel", "layRow", "(I)V"⟩, 37) := ⟨⟨by decide +kernel, by decide +kernel⟩, List.mem_of_getElem? (i := 657) (by decide +kernel), List.mem_of_getElem? (i := 911) (by decide +kernel), List.mem_of_getElem? (i := 912) (by decide +kernel)⟩
theorem lw_p40 : lw_okq (⟨"SeasonOfHoursModel", "isRowAhead", "(I[I)Z"⟩, 37) := ⟨⟨by decide +kernel, by decide +kernel⟩, List.mem_of_getElem? (i := 657) (by decide +kernel), List.mem_of_getElem? (i := 915) (by decide +kernel), List.mem_of_getElem? (i := 916) (by decide +kernel)⟩
theorem lw_p41 : lw_okq (⟨"SeasonOfHoursModel", "pointsOf", "(I)I"⟩, 37) := ⟨⟨by decide +kernel, by decide +kernel⟩, List.mem_of_getElem? (i := 657) (by decide +kernel), List.mem_of_getElem? (i := 935) (by decide +kernel), List.mem_of_getElem? (i := 936) (by decide +kernel)⟩
theorem lw_p42 : lw_okq (⟨"SeasonOfHoursModel", "stands", "(II)Z"⟩, 37) := ⟨⟨by decide +kernel, by decide +kernel⟩, List.mem_of_getElem? (i := 657) (by decide +kernel), List.mem_of_getElem? (i := 943) (by decide +kernel), List.mem_of_getElem? (i := 944) (by decide +kernel)⟩
def lw_privs_3 : List (MethodName × Nat) := [(⟨"SeasonOfHoursModel", "go", "(IIIIZ)V"⟩, 37), (⟨"SeasonOfHoursModel", "join", "(III)V"⟩, 37), (⟨"SeasonOfHoursModel", "isAhead", "()Z"⟩, 37), (⟨"SeasonOfHoursModel", "findFirsts", "()V"⟩, 37), (⟨"SeasonOfHoursModel", "canFollow", "(II)Z"⟩, 37), (⟨"SeasonOfHoursModel", "mayBe", "(III)Z"⟩, 37), (⟨"SeasonOfHoursModel", "sum", "(I)I"⟩, 37), (⟨"SeasonOfHoursModel", "layRow", "(I)V"⟩, 37), (⟨"SeasonOfHoursModel", "isRowAhead", "(I[I)Z"⟩, 37), (⟨"SeasonOfHoursModel", "pointsOf", "(I)I"⟩, 37), (⟨"SeasonOfHoursModel", "stands", "(II)Z"⟩, 37)]
theorem lw_r3 : ∀ q ∈ lw_privs_3, lw_okq q := List.forall_mem_cons.mpr ⟨lw_p32, List.forall_mem_cons.mpr ⟨lw_p33, List.forall_mem_cons.mpr ⟨lw_p34, List.forall_mem_cons.mpr ⟨lw_p35, List.forall_mem_cons.mpr ⟨lw_p36, List.forall_mem_cons.mpr ⟨lw_p37, List.forall_mem_cons.mpr ⟨lw_p38, List.forall_mem_cons.mpr ⟨lw_p39, List.forall_mem_cons.mpr ⟨lw_p40, List.forall_mem_cons.mpr ⟨lw_p41, List.forall_mem_cons.mpr ⟨lw_p42, fun _ h => absurd h List.not_mem_nil⟩⟩⟩⟩⟩⟩⟩⟩⟩⟩⟩
def lw_privs : List (MethodName × Nat) := lw_privs_1 ++ (lw_privs_2 ++ (lw_privs_3))
def lw_tbl : List Cond := k2_sels lw_privs ++ tables_1
theorem lw_privs_ok : ∀ q ∈ lw_privs, lw_okq q := by
  show ∀ q ∈ lw_privs_1 ++ (lw_privs_2 ++ (lw_privs_3)), lw_okq q
  exact List.forall_mem_append.mpr ⟨lw_r1, List.forall_mem_append.mpr ⟨lw_r2, lw_r3⟩⟩
end
section
def RX0 : String := "SeasonOfHours$Artists"
def TX0 : u_T := fun k => match k with
  | 0 => ("SeasonOfHours$Artists", "ranks", "[I", true)
  | 1 => ("SeasonOfHours$Artists", "rivals", "[I", true)
  | 2 => ("SeasonOfHours$Artists", "likings", "[[I", true)
  | 3 => ("SeasonOfHours$Artists", "sick", "I", false)
  | _ => ("SeasonOfHours$Artists", "size", "I", false)
def tyX0 : Nat → FieldType := fun k => match k with
  | 0 => .array .int
  | 1 => .array .int
  | 2 => .array (.array .int)
  | 3 => .int
  | _ => .int
abbrev wsX00 : List Cond := u_ws RX0 TX0 5
theorem nmX0 : ∀ a, a < 5 → ∀ b, b < 5 → a ≠ b → (TX0 a).2.1 ≠ (TX0 b).2.1 := by decide +kernel
theorem tyX0_ok : ∀ k, k < 5 → parseFieldDescriptor (TX0 k).2.2.1 = some (tyX0 k) := by decide +kernel
abbrev cX0_init : ByteArray := prog_2_method_1_code
def yX0_init : MethodName := ⟨RX0, "<init>", "()V"⟩
abbrev cX0_has : ByteArray := prog_2_method_2_code
def yX0_has : MethodName := ⟨RX0, "has", "(I)Z"⟩
abbrev cX0_add : ByteArray := prog_2_method_3_code
def yX0_add : MethodName := ⟨RX0, "add", "(I)I"⟩
def RX1 : String := "SeasonOfHours$Jury"
def TX1 : u_T := fun k => match k with
  | 0 => ("SeasonOfHours$Jury", "artists", "LSeasonOfHours$Artists;", true)
  | 1 => ("SeasonOfHours$Jury", "rows", "[[I", true)
  | 2 => ("SeasonOfHours$Jury", "sizes", "[I", true)
  | 3 => ("SeasonOfHours$Jury", "families", "[I", true)
  | _ => ("SeasonOfHours$Jury", "sums", "[I", true)
def tyX1 : Nat → FieldType := fun k => match k with
  | 0 => .object "SeasonOfHours$Artists"
  | 1 => .array (.array .int)
  | 2 => .array .int
  | 3 => .array .int
  | _ => .array .int
abbrev wsX10 : List Cond := u_ws RX1 TX1 5
theorem nmX1 : ∀ a, a < 5 → ∀ b, b < 5 → a ≠ b → (TX1 a).2.1 ≠ (TX1 b).2.1 := by decide +kernel
theorem tyX1_ok : ∀ k, k < 5 → parseFieldDescriptor (TX1 k).2.2.1 = some (tyX1 k) := by decide +kernel
abbrev cX1_init : ByteArray := prog_3_method_1_code
def yX1_init : MethodName := ⟨RX1, "<init>", "(LSeasonOfHours$Artists;)V"⟩
abbrev cX1_append : ByteArray := prog_3_method_2_code
def yX1_append : MethodName := ⟨RX1, "append", "(II)I"⟩
abbrev cX1_sumFor : ByteArray := prog_3_method_3_code
def yX1_sumFor : MethodName := ⟨RX1, "sumFor", "(I)I"⟩
abbrev cX1_fromJudge : ByteArray := prog_3_method_4_code
def yX1_fromJudge : MethodName := ⟨RX1, "fromJudge", "(II)I"⟩
abbrev cX1_artistAtPlace : ByteArray := prog_3_method_5_code
def yX1_artistAtPlace : MethodName := ⟨RX1, "artistAtPlace", "(I)I"⟩
abbrev cX1_placeOf : ByteArray := prog_3_method_6_code
def yX1_placeOf : MethodName := ⟨RX1, "placeOf", "(I)I"⟩
abbrev cX1_isAhead : ByteArray := prog_3_method_7_code
def yX1_isAhead : MethodName := ⟨RX1, "isAhead", "(II)Z"⟩
def RX2 : String := "SeasonOfHours$Modes"
def TX2 : u_T := fun k => match k with
  | 0 => ("SeasonOfHours$Modes", "notes", "[I", true)
  | 1 => ("SeasonOfHours$Modes", "hours", "[I", true)
  | 2 => ("SeasonOfHours$Modes", "size", "I", false)
  | _ => ("SeasonOfHours$Modes", "limit", "I", false)
def tyX2 : Nat → FieldType := fun k => match k with
  | 0 => .array .int
  | 1 => .array .int
  | 2 => .int
  | _ => .int
abbrev wsX20 : List Cond := u_ws RX2 TX2 4
theorem nmX2 : ∀ a, a < 4 → ∀ b, b < 4 → a ≠ b → (TX2 a).2.1 ≠ (TX2 b).2.1 := by decide +kernel
theorem tyX2_ok : ∀ k, k < 4 → parseFieldDescriptor (TX2 k).2.2.1 = some (tyX2 k) := by decide +kernel
abbrev cX2_init : ByteArray := prog_4_method_1_code
def yX2_init : MethodName := ⟨RX2, "<init>", "()V"⟩
abbrev cX2_has : ByteArray := prog_4_method_2_code
def yX2_has : MethodName := ⟨RX2, "has", "(I)Z"⟩
abbrev cX2_add : ByteArray := prog_4_method_3_code
def yX2_add : MethodName := ⟨RX2, "add", "(II)I"⟩
abbrev cX2_shared : ByteArray := prog_4_method_4_code
def yX2_shared : MethodName := ⟨RX2, "shared", "(II)I"⟩
abbrev cX2_areTooNear : ByteArray := prog_4_method_5_code
def yX2_areTooNear : MethodName := ⟨RX2, "areTooNear", "(II)Z"⟩
def RX3 : String := "SeasonOfHours$Pieces"
def TX3 : u_T := fun k => match k with
  | 0 => ("SeasonOfHours$Pieces", "modes", "LSeasonOfHours$Modes;", true)
  | 1 => ("SeasonOfHours$Pieces", "modeOf", "[I", true)
  | 2 => ("SeasonOfHours$Pieces", "minutes", "[I", true)
  | 3 => ("SeasonOfHours$Pieces", "likings", "[I", true)
  | 4 => ("SeasonOfHours$Pieces", "lastDays", "[I", true)
  | 5 => ("SeasonOfHours$Pieces", "followers", "[I", true)
  | 6 => ("SeasonOfHours$Pieces", "latest", "[I", true)
  | 7 => ("SeasonOfHours$Pieces", "firsts", "[I", true)
  | 8 => ("SeasonOfHours$Pieces", "mains", "I", false)
  | 9 => ("SeasonOfHours$Pieces", "size", "I", false)
  | 10 => ("SeasonOfHours$Pieces", "rest", "I", false)
  | _ => ("SeasonOfHours$Pieces", "latestSize", "I", false)
def tyX3 : Nat → FieldType := fun k => match k with
  | 0 => .object "SeasonOfHours$Modes"
  | 1 => .array .int
  | 2 => .array .int
  | 3 => .array .int
  | 4 => .array .int
  | 5 => .array .int
  | 6 => .array .int
  | 7 => .array .int
  | 8 => .int
  | 9 => .int
  | 10 => .int
  | _ => .int
abbrev wsX30 : List Cond := u_ws RX3 TX3 12
theorem nmX3 : ∀ a, a < 12 → ∀ b, b < 12 → a ≠ b → (TX3 a).2.1 ≠ (TX3 b).2.1 := by decide +kernel
theorem tyX3_ok : ∀ k, k < 12 → parseFieldDescriptor (TX3 k).2.2.1 = some (tyX3 k) := by decide +kernel
abbrev cX3_init : ByteArray := prog_5_method_1_code
def yX3_init : MethodName := ⟨RX3, "<init>", "(LSeasonOfHours$Modes;)V"⟩
abbrev cX3_has : ByteArray := prog_5_method_2_code
def yX3_has : MethodName := ⟨RX3, "has", "(I)Z"⟩
abbrev cX3_add : ByteArray := prog_5_method_3_code
def yX3_add : MethodName := ⟨RX3, "add", "(IIIZ)I"⟩
abbrev cX3_findRow : ByteArray := prog_5_method_4_code
def yX3_findRow : MethodName := ⟨RX3, "findRow", "(II)I"⟩
abbrev cX3_readyOn : ByteArray := prog_5_method_5_code
def yX3_readyOn : MethodName := ⟨RX3, "readyOn", "(I)I"⟩
abbrev cX3_listFollowers : ByteArray := prog_5_method_6_code
def yX3_listFollowers : MethodName := ⟨RX3, "listFollowers", "()V"⟩
abbrev cX3_firstsOf : ByteArray := prog_5_method_7_code
def yX3_firstsOf : MethodName := ⟨RX3, "firstsOf", "(I)I"⟩
abbrev cX3_isGood : ByteArray := prog_5_method_8_code
def yX3_isGood : MethodName := ⟨RX3, "isGood", "(II)Z"⟩
abbrev cX3_isBetter : ByteArray := prog_5_method_9_code
def yX3_isBetter : MethodName := ⟨RX3, "isBetter", "(II)Z"⟩
abbrev cX3_sum : ByteArray := prog_5_method_10_code
def yX3_sum : MethodName := ⟨RX3, "sum", "([II)I"⟩
abbrev cX3_firstRow : ByteArray := prog_5_method_11_code
def yX3_firstRow : MethodName := ⟨RX3, "firstRow", "(I)J"⟩
abbrev cX3_writeLatest : ByteArray := prog_5_method_12_code
def yX3_writeLatest : MethodName := ⟨RX3, "writeLatest", "(I)V"⟩
def RX4 : String := "SeasonOfHours$Planner"
def TX4 : u_T := fun k => match k with
  | 0 => ("SeasonOfHours$Planner", "modes", "LSeasonOfHours$Modes;", true)
  | 1 => ("SeasonOfHours$Planner", "artists", "LSeasonOfHours$Artists;", true)
  | 2 => ("SeasonOfHours$Planner", "programme", "LSeasonOfHours$Programme;", true)
  | 3 => ("SeasonOfHours$Planner", "values", "[[J", true)
  | 4 => ("SeasonOfHours$Planner", "choices", "[[I", true)
  | 5 => ("SeasonOfHours$Planner", "choiceCounts", "[I", true)
  | 6 => ("SeasonOfHours$Planner", "followers", "[I", true)
  | 7 => ("SeasonOfHours$Planner", "farModes", "[I", true)
  | 8 => ("SeasonOfHours$Planner", "ofCompany", "[J", true)
  | 9 => ("SeasonOfHours$Planner", "ofLater", "[J", true)
  | _ => ("SeasonOfHours$Planner", "firstSlot", "I", false)
def tyX4 : Nat → FieldType := fun k => match k with
  | 0 => .object "SeasonOfHours$Modes"
  | 1 => .object "SeasonOfHours$Artists"
  | 2 => .object "SeasonOfHours$Programme"
  | 3 => .array (.array .long)
  | 4 => .array (.array .int)
  | 5 => .array .int
  | 6 => .array .int
  | 7 => .array .int
  | 8 => .array .long
  | 9 => .array .long
  | _ => .int
abbrev wsX40 : List Cond := u_ws RX4 TX4 11
theorem nmX4 : ∀ a, a < 11 → ∀ b, b < 11 → a ≠ b → (TX4 a).2.1 ≠ (TX4 b).2.1 := by decide +kernel
theorem tyX4_ok : ∀ k, k < 11 → parseFieldDescriptor (TX4 k).2.2.1 = some (tyX4 k) := by decide +kernel
abbrev cX4_init : ByteArray := prog_6_method_1_code
def yX4_init : MethodName := ⟨RX4, "<init>", "(LSeasonOfHours$Modes;LSeasonOfHours$Artists;LSeasonOfHours$Programme;)V"⟩
abbrev cX4_plan : ByteArray := prog_6_method_2_code
def yX4_plan : MethodName := ⟨RX4, "plan", "(I)I"⟩
abbrev cX4_weighOptions : ByteArray := prog_6_method_3_code
def yX4_weighOptions : MethodName := ⟨RX4, "weighOptions", "(II)V"⟩
abbrev cX4_listChoices : ByteArray := prog_6_method_4_code
def yX4_listChoices : MethodName := ⟨RX4, "listChoices", "(I)V"⟩
abbrev cX4_listFollowers : ByteArray := prog_6_method_5_code
def yX4_listFollowers : MethodName := ⟨RX4, "listFollowers", "()V"⟩
abbrev cX4_listFarModes : ByteArray := prog_6_method_6_code
def yX4_listFarModes : MethodName := ⟨RX4, "listFarModes", "()V"⟩
abbrev cX4_fillFrom : ByteArray := prog_6_method_7_code
def yX4_fillFrom : MethodName := ⟨RX4, "fillFrom", "(IIIIIJ)V"⟩
abbrev cX4_fillWith : ByteArray := prog_6_method_8_code
def yX4_fillWith : MethodName := ⟨RX4, "fillWith", "(IIIIIJ)V"⟩
abbrev cX4_joinEvening : ByteArray := prog_6_method_9_code
def yX4_joinEvening : MethodName := ⟨RX4, "joinEvening", "()V"⟩
abbrev cX4_carryOut : ByteArray := prog_6_method_10_code
def yX4_carryOut : MethodName := ⟨RX4, "carryOut", "(J)I"⟩
def RX5 : String := "SeasonOfHours$Programme"
def TX5 : u_T := fun k => match k with
  | 0 => ("SeasonOfHours$Programme", "modes", "LSeasonOfHours$Modes;", true)
  | 1 => ("SeasonOfHours$Programme", "artists", "LSeasonOfHours$Artists;", true)
  | 2 => ("SeasonOfHours$Programme", "options", "[I", true)
  | 3 => ("SeasonOfHours$Programme", "hourOf", "[I", true)
  | 4 => ("SeasonOfHours$Programme", "evenings", "I", false)
  | 5 => ("SeasonOfHours$Programme", "hours", "I", false)
  | _ => ("SeasonOfHours$Programme", "slots", "I", false)
def tyX5 : Nat → FieldType := fun k => match k with
  | 0 => .object "SeasonOfHours$Modes"
  | 1 => .object "SeasonOfHours$Artists"
  | 2 => .array .int
  | 3 => .array .int
  | 4 => .int
  | 5 => .int
  | _ => .int
abbrev wsX50 : List Cond := u_ws RX5 TX5 7
theorem nmX5 : ∀ a, a < 7 → ∀ b, b < 7 → a ≠ b → (TX5 a).2.1 ≠ (TX5 b).2.1 := by decide +kernel
theorem tyX5_ok : ∀ k, k < 7 → parseFieldDescriptor (TX5 k).2.2.1 = some (tyX5 k) := by decide +kernel
abbrev cX5_init : ByteArray := prog_7_method_1_code
def yX5_init : MethodName := ⟨RX5, "<init>", "(LSeasonOfHours$Modes;LSeasonOfHours$Artists;)V"⟩
abbrev cX5_begin : ByteArray := prog_7_method_2_code
def yX5_begin : MethodName := ⟨RX5, "begin", "(II)V"⟩
abbrev cX5_hasSlot : ByteArray := prog_7_method_3_code
def yX5_hasSlot : MethodName := ⟨RX5, "hasSlot", "(I)Z"⟩
abbrev cX5_isFilled : ByteArray := prog_7_method_4_code
def yX5_isFilled : MethodName := ⟨RX5, "isFilled", "(I)Z"⟩
abbrev cX5_artistAt : ByteArray := prog_7_method_5_code
def yX5_artistAt : MethodName := ⟨RX5, "artistAt", "(I)I"⟩
abbrev cX5_modeAt : ByteArray := prog_7_method_6_code
def yX5_modeAt : MethodName := ⟨RX5, "modeAt", "(I)I"⟩
abbrev cX5_filledSlots : ByteArray := prog_7_method_7_code
def yX5_filledSlots : MethodName := ⟨RX5, "filledSlots", "()I"⟩
abbrev cX5_worth : ByteArray := prog_7_method_8_code
def yX5_worth : MethodName := ⟨RX5, "worth", "()I"⟩
abbrev cX5_firstFault : ByteArray := prog_7_method_9_code
def yX5_firstFault : MethodName := ⟨RX5, "firstFault", "()I"⟩
abbrev cX5_isFault : ByteArray := prog_7_method_10_code
def yX5_isFault : MethodName := ⟨RX5, "isFault", "(II)Z"⟩
abbrev cX5_isArtistAhead : ByteArray := prog_7_method_11_code
def yX5_isArtistAhead : MethodName := ⟨RX5, "isArtistAhead", "(I)Z"⟩
abbrev cX5_clashesInEvening : ByteArray := prog_7_method_12_code
def yX5_clashesInEvening : MethodName := ⟨RX5, "clashesInEvening", "(II)Z"⟩
abbrev cX5_clash : ByteArray := prog_7_method_13_code
def yX5_clash : MethodName := ⟨RX5, "clash", "(III)Z"⟩
abbrev cX5_isTooNearOneAhead : ByteArray := prog_7_method_14_code
def yX5_isTooNearOneAhead : MethodName := ⟨RX5, "isTooNearOneAhead", "(I)Z"⟩
def RX6 : String := "SeasonOfHours"
def TX6 : u_T := fun k => match k with
  | 0 => ("SeasonOfHours", "modes", "LSeasonOfHours$Modes;", true)
  | 1 => ("SeasonOfHours", "artists", "LSeasonOfHours$Artists;", true)
  | 2 => ("SeasonOfHours", "programme", "LSeasonOfHours$Programme;", true)
  | 3 => ("SeasonOfHours", "planner", "LSeasonOfHours$Planner;", true)
  | 4 => ("SeasonOfHours", "pieces", "LSeasonOfHours$Pieces;", true)
  | _ => ("SeasonOfHours", "jury", "LSeasonOfHours$Jury;", true)
def tyX6 : Nat → FieldType := fun k => match k with
  | 0 => .object "SeasonOfHours$Modes"
  | 1 => .object "SeasonOfHours$Artists"
  | 2 => .object "SeasonOfHours$Programme"
  | 3 => .object "SeasonOfHours$Planner"
  | 4 => .object "SeasonOfHours$Pieces"
  | _ => .object "SeasonOfHours$Jury"
abbrev wsX60 : List Cond := u_ws RX6 TX6 6
theorem nmX6 : ∀ a, a < 6 → ∀ b, b < 6 → a ≠ b → (TX6 a).2.1 ≠ (TX6 b).2.1 := by decide +kernel
theorem tyX6_ok : ∀ k, k < 6 → parseFieldDescriptor (TX6 k).2.2.1 = some (tyX6 k) := by decide +kernel
abbrev cX6_init : ByteArray := prog_1_method_1_code
def yX6_init : MethodName := ⟨RX6, "<init>", "()V"⟩
abbrev cX6_mode : ByteArray := prog_1_method_2_code
def yX6_mode : MethodName := ⟨RX6, "mode", "(II)I"⟩
abbrev cX6_artist : ByteArray := prog_1_method_3_code
def yX6_artist : MethodName := ⟨RX6, "artist", "(I)I"⟩
abbrev cX6_like : ByteArray := prog_1_method_4_code
def yX6_like : MethodName := ⟨RX6, "like", "(III)Z"⟩
abbrev cX6_rival : ByteArray := prog_1_method_5_code
def yX6_rival : MethodName := ⟨RX6, "rival", "(IIZ)Z"⟩
abbrev cX6_ill : ByteArray := prog_1_method_6_code
def yX6_ill : MethodName := ⟨RX6, "ill", "(IZ)Z"⟩
abbrev cX6_set : ByteArray := prog_1_method_7_code
def yX6_set : MethodName := ⟨RX6, "set", "(II)I"⟩
abbrev cX6_season : ByteArray := prog_1_method_8_code
def yX6_season : MethodName := ⟨RX6, "season", "(II)Z"⟩
abbrev cX6_near : ByteArray := prog_1_method_9_code
def yX6_near : MethodName := ⟨RX6, "near", "(II)I"⟩
abbrev cX6_count : ByteArray := prog_1_method_10_code
def yX6_count : MethodName := ⟨RX6, "count", "(I)I"⟩
abbrev cX6_put : ByteArray := prog_1_method_11_code
def yX6_put : MethodName := ⟨RX6, "put", "(III)Z"⟩
abbrev cX6_at : ByteArray := prog_1_method_12_code
def yX6_at : MethodName := ⟨RX6, "at", "(II)I"⟩
abbrev cX6_wrong : ByteArray := prog_1_method_13_code
def yX6_wrong : MethodName := ⟨RX6, "wrong", "()I"⟩
abbrev cX6_best : ByteArray := prog_1_method_14_code
def yX6_best : MethodName := ⟨RX6, "best", "()I"⟩
abbrev cX6_mend : ByteArray := prog_1_method_15_code
def yX6_mend : MethodName := ⟨RX6, "mend", "()I"⟩
abbrev cX6_piece : ByteArray := prog_1_method_16_code
def yX6_piece : MethodName := ⟨RX6, "piece", "(IIIZ)I"⟩
abbrev cX6_played : ByteArray := prog_1_method_17_code
def yX6_played : MethodName := ⟨RX6, "played", "(II)Z"⟩
abbrev cX6_row : ByteArray := prog_1_method_18_code
def yX6_row : MethodName := ⟨RX6, "row", "(II)I"⟩
abbrev cX6_told : ByteArray := prog_1_method_19_code
def yX6_told : MethodName := ⟨RX6, "told", "(I)I"⟩
abbrev cX6_vote : ByteArray := prog_1_method_20_code
def yX6_vote : MethodName := ⟨RX6, "vote", "(II)I"⟩
abbrev cX6_kin : ByteArray := prog_1_method_21_code
def yX6_kin : MethodName := ⟨RX6, "kin", "(IIZ)Z"⟩
abbrev cX6_points : ByteArray := prog_1_method_22_code
def yX6_points : MethodName := ⟨RX6, "points", "(I)I"⟩
abbrev cX6_prize : ByteArray := prog_1_method_23_code
def yX6_prize : MethodName := ⟨RX6, "prize", "(I)I"⟩
abbrev cX6_isWithin : ByteArray := prog_1_method_24_code
def yX6_isWithin : MethodName := ⟨RX6, "isWithin", "(III)Z"⟩
abbrev cX6_hasBit : ByteArray := prog_1_method_25_code
def yX6_hasBit : MethodName := ⟨RX6, "hasBit", "(II)Z"⟩
abbrev cX6_withBit : ByteArray := prog_1_method_26_code
def yX6_withBit : MethodName := ⟨RX6, "withBit", "(IIZ)I"⟩
def RX7 : String := "SeasonOfHoursModel"
def TX7 : u_T := fun k => match k with
  | 0 => ("SeasonOfHoursModel", "notes", "[I", true)
  | 1 => ("SeasonOfHoursModel", "hours", "[I", true)
  | 2 => ("SeasonOfHoursModel", "modes", "I", false)
  | 3 => ("SeasonOfHoursModel", "rank", "[I", true)
  | 4 => ("SeasonOfHoursModel", "ill", "[Z", true)
  | 5 => ("SeasonOfHoursModel", "liking", "[I", true)
  | 6 => ("SeasonOfHoursModel", "rivals", "[Z", true)
  | 7 => ("SeasonOfHoursModel", "artists", "I", false)
  | 8 => ("SeasonOfHoursModel", "limit", "I", false)
  | 9 => ("SeasonOfHoursModel", "rest", "I", false)
  | 10 => ("SeasonOfHoursModel", "evenings", "I", false)
  | 11 => ("SeasonOfHoursModel", "slots", "I", false)
  | 12 => ("SeasonOfHoursModel", "who", "[I", true)
  | 13 => ("SeasonOfHoursModel", "what", "[I", true)
  | 14 => ("SeasonOfHoursModel", "pieceMode", "[I", true)
  | 15 => ("SeasonOfHoursModel", "minutes", "[I", true)
  | 16 => ("SeasonOfHoursModel", "worth", "[I", true)
  | 17 => ("SeasonOfHoursModel", "isMain", "[Z", true)
  | 18 => ("SeasonOfHoursModel", "last", "[I", true)
  | 19 => ("SeasonOfHoursModel", "pieces", "I", false)
  | 20 => ("SeasonOfHoursModel", "row", "[I", true)
  | 21 => ("SeasonOfHoursModel", "rowMany", "I", false)
  | 22 => ("SeasonOfHoursModel", "votes", "[I", true)
  | 23 => ("SeasonOfHoursModel", "voted", "[I", true)
  | 24 => ("SeasonOfHoursModel", "kin", "[Z", true)
  | 25 => ("SeasonOfHoursModel", "thrown", "I", false)
  | 26 => ("SeasonOfHoursModel", "wasWho", "[I", true)
  | 27 => ("SeasonOfHoursModel", "wasWhat", "[I", true)
  | 28 => ("SeasonOfHoursModel", "value", "[I", true)
  | 29 => ("SeasonOfHoursModel", "bestWho", "[I", true)
  | 30 => ("SeasonOfHoursModel", "bestWhat", "[I", true)
  | 31 => ("SeasonOfHoursModel", "trySet", "[I", true)
  | 32 => ("SeasonOfHoursModel", "foundSet", "[I", true)
  | 33 => ("SeasonOfHoursModel", "found", "I", false)
  | 34 => ("SeasonOfHoursModel", "firsts", "[I", true)
  | 35 => ("SeasonOfHoursModel", "tryRow", "[I", true)
  | _ => ("SeasonOfHoursModel", "goodRow", "[I", true)
def tyX7 : Nat → FieldType := fun k => match k with
  | 0 => .array .int
  | 1 => .array .int
  | 2 => .int
  | 3 => .array .int
  | 4 => .array .boolean
  | 5 => .array .int
  | 6 => .array .boolean
  | 7 => .int
  | 8 => .int
  | 9 => .int
  | 10 => .int
  | 11 => .int
  | 12 => .array .int
  | 13 => .array .int
  | 14 => .array .int
  | 15 => .array .int
  | 16 => .array .int
  | 17 => .array .boolean
  | 18 => .array .int
  | 19 => .int
  | 20 => .array .int
  | 21 => .int
  | 22 => .array .int
  | 23 => .array .int
  | 24 => .array .boolean
  | 25 => .int
  | 26 => .array .int
  | 27 => .array .int
  | 28 => .array .int
  | 29 => .array .int
  | 30 => .array .int
  | 31 => .array .int
  | 32 => .array .int
  | 33 => .int
  | 34 => .array .int
  | 35 => .array .int
  | _ => .array .int
abbrev wsX70 : List Cond := u_ws RX7 TX7 37
theorem nmX7 : ∀ a, a < 37 → ∀ b, b < 37 → a ≠ b → (TX7 a).2.1 ≠ (TX7 b).2.1 := by decide +kernel
theorem tyX7_ok : ∀ k, k < 37 → parseFieldDescriptor (TX7 k).2.2.1 = some (tyX7 k) := by decide +kernel
abbrev cX7_init : ByteArray := prog_9_method_1_code
def yX7_init : MethodName := ⟨RX7, "<init>", "()V"⟩
abbrev cX7_thrown : ByteArray := prog_9_method_2_code
def yX7_thrown : MethodName := ⟨RX7, "thrown", "()I"⟩
abbrev cX7_in : ByteArray := prog_9_method_3_code
def yX7_in : MethodName := ⟨RX7, "in", "(III)Z"⟩
abbrev cX7_empty : ByteArray := prog_9_method_4_code
def yX7_empty : MethodName := ⟨RX7, "empty", "()V"⟩
abbrev cX7_isMode : ByteArray := prog_9_method_5_code
def yX7_isMode : MethodName := ⟨RX7, "isMode", "(I)Z"⟩
abbrev cX7_isArtist : ByteArray := prog_9_method_6_code
def yX7_isArtist : MethodName := ⟨RX7, "isArtist", "(I)Z"⟩
abbrev cX7_mode : ByteArray := prog_9_method_7_code
def yX7_mode : MethodName := ⟨RX7, "mode", "(II)I"⟩
abbrev cX7_artist : ByteArray := prog_9_method_8_code
def yX7_artist : MethodName := ⟨RX7, "artist", "(I)I"⟩
abbrev cX7_like : ByteArray := prog_9_method_9_code
def yX7_like : MethodName := ⟨RX7, "like", "(III)Z"⟩
abbrev cX7_rival : ByteArray := prog_9_method_10_code
def yX7_rival : MethodName := ⟨RX7, "rival", "(IIZ)Z"⟩
abbrev cX7_ill : ByteArray := prog_9_method_11_code
def yX7_ill : MethodName := ⟨RX7, "ill", "(IZ)Z"⟩
abbrev cX7_set : ByteArray := prog_9_method_12_code
def yX7_set : MethodName := ⟨RX7, "set", "(II)I"⟩
abbrev cX7_season : ByteArray := prog_9_method_13_code
def yX7_season : MethodName := ⟨RX7, "season", "(II)Z"⟩
abbrev cX7_share : ByteArray := prog_9_method_14_code
def yX7_share : MethodName := ⟨RX7, "share", "(II)I"⟩
abbrev cX7_near : ByteArray := prog_9_method_15_code
def yX7_near : MethodName := ⟨RX7, "near", "(II)I"⟩
abbrev cX7_all : ByteArray := prog_9_method_16_code
def yX7_all : MethodName := ⟨RX7, "all", "()I"⟩
abbrev cX7_count : ByteArray := prog_9_method_17_code
def yX7_count : MethodName := ⟨RX7, "count", "(I)I"⟩
abbrev cX7_put : ByteArray := prog_9_method_18_code
def yX7_put : MethodName := ⟨RX7, "put", "(III)Z"⟩
abbrev cX7_at : ByteArray := prog_9_method_19_code
def yX7_at : MethodName := ⟨RX7, "at", "(II)I"⟩
abbrev cX7_holds : ByteArray := prog_9_method_20_code
def yX7_holds : MethodName := ⟨RX7, "holds", "(II)Z"⟩
abbrev cX7_wrong : ByteArray := prog_9_method_21_code
def yX7_wrong : MethodName := ⟨RX7, "wrong", "()I"⟩
abbrev cX7_go : ByteArray := prog_9_method_22_code
def yX7_go : MethodName := ⟨RX7, "go", "(IIIIZ)V"⟩
abbrev cX7_join : ByteArray := prog_9_method_23_code
def yX7_join : MethodName := ⟨RX7, "join", "(III)V"⟩
abbrev cX7_isAhead : ByteArray := prog_9_method_24_code
def yX7_isAhead : MethodName := ⟨RX7, "isAhead", "()Z"⟩
abbrev cX7_search : ByteArray := prog_9_method_25_code
def yX7_search : MethodName := ⟨RX7, "search", "(Z)V"⟩
abbrev cX7_best : ByteArray := prog_9_method_26_code
def yX7_best : MethodName := ⟨RX7, "best", "()I"⟩
abbrev cX7_mend : ByteArray := prog_9_method_27_code
def yX7_mend : MethodName := ⟨RX7, "mend", "()I"⟩
abbrev cX7_piece : ByteArray := prog_9_method_28_code
def yX7_piece : MethodName := ⟨RX7, "piece", "(IIIZ)I"⟩
abbrev cX7_played : ByteArray := prog_9_method_29_code
def yX7_played : MethodName := ⟨RX7, "played", "(II)Z"⟩
abbrev cX7_canFollow : ByteArray := prog_9_method_30_code
def yX7_canFollow : MethodName := ⟨RX7, "canFollow", "(II)Z"⟩
abbrev cX7_findFirsts : ByteArray := prog_9_method_31_code
def yX7_findFirsts : MethodName := ⟨RX7, "findFirsts", "()V"⟩
abbrev cX7_mayBe : ByteArray := prog_9_method_32_code
def yX7_mayBe : MethodName := ⟨RX7, "mayBe", "(III)Z"⟩
abbrev cX7_sum : ByteArray := prog_9_method_33_code
def yX7_sum : MethodName := ⟨RX7, "sum", "(I)I"⟩
abbrev cX7_layRow : ByteArray := prog_9_method_34_code
def yX7_layRow : MethodName := ⟨RX7, "layRow", "(I)V"⟩
abbrev cX7_isRowAhead : ByteArray := prog_9_method_35_code
def yX7_isRowAhead : MethodName := ⟨RX7, "isRowAhead", "(I[I)Z"⟩
abbrev cX7_row : ByteArray := prog_9_method_36_code
def yX7_row : MethodName := ⟨RX7, "row", "(II)I"⟩
abbrev cX7_told : ByteArray := prog_9_method_37_code
def yX7_told : MethodName := ⟨RX7, "told", "(I)I"⟩
abbrev cX7_vote : ByteArray := prog_9_method_38_code
def yX7_vote : MethodName := ⟨RX7, "vote", "(II)I"⟩
abbrev cX7_kin : ByteArray := prog_9_method_39_code
def yX7_kin : MethodName := ⟨RX7, "kin", "(IIZ)Z"⟩
abbrev cX7_pointsOf : ByteArray := prog_9_method_40_code
def yX7_pointsOf : MethodName := ⟨RX7, "pointsOf", "(I)I"⟩
abbrev cX7_points : ByteArray := prog_9_method_41_code
def yX7_points : MethodName := ⟨RX7, "points", "(I)I"⟩
abbrev cX7_stands : ByteArray := prog_9_method_42_code
def yX7_stands : MethodName := ⟨RX7, "stands", "(II)Z"⟩
abbrev cX7_prize : ByteArray := prog_9_method_43_code
def yX7_prize : MethodName := ⟨RX7, "prize", "(I)I"⟩
def RJ6 : String := "java/lang/Integer"
def TJ6 : u_T := fun k => match k with
  | _ => ("", "", "", false)
def tyJ6 : Nat → FieldType := fun k => match k with
  | _ => .int
abbrev wsJ60 : List Cond := u_ws RJ6 TJ6 0
theorem nmJ6 : ∀ a, a < 0 → ∀ b, b < 0 → a ≠ b → (TJ6 a).2.1 ≠ (TJ6 b).2.1 := by decide +kernel
theorem tyJ6_ok : ∀ k, k < 0 → parseFieldDescriptor (TJ6 k).2.2.1 = some (tyJ6 k) := by decide +kernel
abbrev cJ6_numberOfTrailingZeros_0f7a4 : ByteArray := prog_11_method_48_code
def yJ6_numberOfTrailingZeros_0f7a4 : MethodName := ⟨RJ6, "numberOfTrailingZeros", "(I)I"⟩
abbrev cJ6_bitCount_0f7a4 : ByteArray := prog_11_method_49_code
def yJ6_bitCount_0f7a4 : MethodName := ⟨RJ6, "bitCount", "(I)I"⟩
def RJ9 : String := "java/lang/Math"
def TJ9 : u_T := fun k => match k with
  | _ => ("", "", "", false)
def tyJ9 : Nat → FieldType := fun k => match k with
  | _ => .int
abbrev wsJ90 : List Cond := u_ws RJ9 TJ9 0
theorem nmJ9 : ∀ a, a < 0 → ∀ b, b < 0 → a ≠ b → (TJ9 a).2.1 ≠ (TJ9 b).2.1 := by decide +kernel
theorem tyJ9_ok : ∀ k, k < 0 → parseFieldDescriptor (TJ9 k).2.2.1 = some (tyJ9 k) := by decide +kernel
abbrev cJ9_floorMod_f86c9 : ByteArray := prog_12_method_52_code
def yJ9_floorMod_f86c9 : MethodName := ⟨RJ9, "floorMod", "(JJ)J"⟩
abbrev cJ9_abs_0f7a4 : ByteArray := prog_12_method_59_code
def yJ9_abs_0f7a4 : MethodName := ⟨RJ9, "abs", "(I)I"⟩
abbrev cJ9_max_7cf53 : ByteArray := prog_12_method_65_code
def yJ9_max_7cf53 : MethodName := ⟨RJ9, "max", "(II)I"⟩
abbrev cJ9_max_f86c9 : ByteArray := prog_12_method_66_code
def yJ9_max_f86c9 : MethodName := ⟨RJ9, "max", "(JJ)J"⟩
def RJ0 : String := "java/lang/String"
def TJ0 : u_T := fun k => match k with
  | _ => ("", "", "", false)
def tyJ0 : Nat → FieldType := fun k => match k with
  | _ => .int
abbrev wsJ00 : List Cond := u_ws RJ0 TJ0 0
theorem nmJ0 : ∀ a, a < 0 → ∀ b, b < 0 → a ≠ b → (TJ0 a).2.1 ≠ (TJ0 b).2.1 := by decide +kernel
theorem tyJ0_ok : ∀ k, k < 0 → parseFieldDescriptor (TJ0 k).2.2.1 = some (tyJ0 k) := by decide +kernel
def RJ7 : String := "java/util/Arrays"
def TJ7 : u_T := fun k => match k with
  | _ => ("", "", "", false)
def tyJ7 : Nat → FieldType := fun k => match k with
  | _ => .int
abbrev wsJ70 : List Cond := u_ws RJ7 TJ7 0
theorem nmJ7 : ∀ a, a < 0 → ∀ b, b < 0 → a ≠ b → (TJ7 a).2.1 ≠ (TJ7 b).2.1 := by decide +kernel
theorem tyJ7_ok : ∀ k, k < 0 → parseFieldDescriptor (TJ7 k).2.2.1 = some (tyJ7 k) := by decide +kernel
abbrev cJ7_fill_d0a16 : ByteArray := prog_16_method_101_code
def yJ7_fill_d0a16 : MethodName := ⟨RJ7, "fill", "([JJ)V"⟩
abbrev cJ7_fill_53178 : ByteArray := prog_16_method_103_code
def yJ7_fill_53178 : MethodName := ⟨RJ7, "fill", "([II)V"⟩
def RL : String := "SeasonOfHoursLaw"
abbrev cL_at : ByteArray := method_3_code
def yL_at : MethodName := ⟨RL, "at", "(LSeasonOfHours;II[J)I"⟩
abbrev cL_law : ByteArray := code
def yL_law : MethodName := ⟨RL, "law", "([I)Z"⟩
abbrev classes : List vw_C := [(RX0, TX0, 5), (RX1, TX1, 5), (RX2, TX2, 4), (RX3, TX3, 12), (RX4, TX4, 11), (RX5, TX5, 7), (RX6, TX6, 6), (RX7, TX7, 37)]
end
section
/-! A small machine of numbers: its values, its steps, its runs (my own words for the class's bytecode) -/
abbrev AV : Type := Int ⊕ (Int ⊕ Option Nat)
abbrev vI (z : Int) : AV := Sum.inl z
abbrev vL (z : Int) : AV := Sum.inr (Sum.inl z)
abbrev vR (a : Nat) : AV := Sum.inr (Sum.inr (some a))
abbrev vU : AV := Sum.inr (Sum.inr none)
abbrev AG : Type := Nat → Int → Int
abbrev SK : Type := List (Nat × Nat × List Nat)
abbrev CF : Type := Nat × List AV × List AV × AG
abbrev OP : Type := SK → List AV → List AV → AG → Option CF
abbrev IN : Type := OP ⊕ ((Nat × Nat) ⊕ Unit)
abbrev CD : Type := List (Nat × IN)
def am_i (z : Int) : Int32 := Int32.ofInt z
def am_l (z : Int) : Int64 := Int64.ofInt z
def am_up (G : AG) (a : Nat) (i z : Int) : AG := fun b j => if b = a then (if j = i then z else G b j) else G b j
def am_nl : AV → Bool
  | .inr (.inl _) => false
  | _ => true
def am_okst (ls : List AV) (i : Nat) : Bool := decide (i < ls.length) && (match i with
  | 0 => true
  | j + 1 => match ls[j]? with
    | some v => am_nl v
    | none => true)
def am_cat : AV → Nat
  | .inr (.inl _) => 2
  | _ => 1
def am_cats : List AV → Nat
  | [] => 0
  | v :: r => am_cat v + am_cats r
/-- the steps; n is where they go on -/
def o_k (n : Nat) (v : AV) : OP := fun _ ls st G => some (n, ls, v :: st, G)
def o_il (n i : Nat) : OP := fun _ ls st G => match ls[i]? with
  | some (.inl z) => some (n, ls, vI z :: st, G)
  | _ => none
def o_ll (n i : Nat) : OP := fun _ ls st G => match ls[i]? with
  | some (.inr (.inl z)) => some (n, ls, vL z :: st, G)
  | _ => none
def o_al (n i : Nat) : OP := fun _ ls st G => match ls[i]? with
  | some (.inr (.inr (some a))) => some (n, ls, vR a :: st, G)
  | _ => none
def o_is (n i : Nat) : OP := fun _ ls st G => match st with
  | .inl z :: st' => if am_okst ls i = true then some (n, ls.set i (vI z), st', G) else none
  | _ => none
def o_as (n i : Nat) : OP := fun _ ls st G => match st with
  | .inr (.inr (some a)) :: st' => if am_okst ls i = true then some (n, ls.set i (vR a), st', G) else none
  | _ => none
def o_ls (n i : Nat) : OP := fun _ ls st G => match st with
  | .inr (.inl z) :: st' => if am_okst ls i = true then (if i + 1 < ls.length then some (n, (ls.set i (vL z)).set (i + 1) vU, st', G) else none) else none
  | _ => none
def o_ii (n i : Nat) (k : Int) : OP := fun _ ls st G => match ls[i]? with
  | some (.inl z) => some (n, ls.set i (vI (z + k)), st, G)
  | _ => none
def o_ib (n : Nat) (f : Int → Int → Int) : OP := fun _ ls st G => match st with
  | .inl b :: .inl a :: st' => some (n, ls, vI (f a b) :: st', G)
  | _ => none
def o_id (n : Nat) (f : Int → Int → Int) : OP := fun _ ls st G => match st with
  | .inl b :: .inl a :: st' => if am_i b = 0 then none else some (n, ls, vI (f a b) :: st', G)
  | _ => none
def o_lb (n : Nat) (f : Int → Int → Int) : OP := fun _ ls st G => match st with
  | .inr (.inl b) :: .inr (.inl a) :: st' => some (n, ls, vL (f a b) :: st', G)
  | _ => none
def o_ld (n : Nat) (f : Int → Int → Int) : OP := fun _ ls st G => match st with
  | .inr (.inl b) :: .inr (.inl a) :: st' => if am_l b = 0 then none else some (n, ls, vL (f a b) :: st', G)
  | _ => none
def o_iu (n : Nat) (f : Int → Int) : OP := fun _ ls st G => match st with
  | .inl a :: st' => some (n, ls, vI (f a) :: st', G)
  | _ => none
def o_lu (n : Nat) (f : Int → Int) : OP := fun _ ls st G => match st with
  | .inr (.inl a) :: st' => some (n, ls, vL (f a) :: st', G)
  | _ => none
def o_i2l (n : Nat) : OP := fun _ ls st G => match st with
  | .inl a :: st' => some (n, ls, vL ((am_i a).toInt) :: st', G)
  | _ => none
def o_l2i (n : Nat) : OP := fun _ ls st G => match st with
  | .inr (.inl a) :: st' => some (n, ls, vI a :: st', G)
  | _ => none
def o_lcmp (n : Nat) : OP := fun _ ls st G => match st with
  | .inr (.inl b) :: .inr (.inl a) :: st' => some (n, ls, vI (lg_cmp (am_l a) (am_l b)).toInt :: st', G)
  | _ => none
def o_dup (n : Nat) : OP := fun _ ls st G => match st with
  | v :: st' => if am_nl v = true then some (n, ls, v :: v :: st', G) else none
  | _ => none
def o_dup2 (n : Nat) : OP := fun _ ls st G => match st with
  | v :: w :: st' => if am_nl v = true then (if am_nl w = true then some (n, ls, v :: w :: v :: w :: st', G) else none) else none
  | _ => none
def o_pop (n : Nat) : OP := fun _ ls st G => match st with
  | v :: st' => if am_nl v = true then some (n, ls, st', G) else none
  | _ => none
def o_if (t n : Nat) (q : Int32 → Bool) : OP := fun _ ls st G => match st with
  | .inl a :: st' => some (if q (am_i a) = true then t else n, ls, st', G)
  | _ => none
def o_ic (t n : Nat) (q : Int32 → Int32 → Bool) : OP := fun _ ls st G => match st with
  | .inl b :: .inl a :: st' => some (if q (am_i a) (am_i b) = true then t else n, ls, st', G)
  | _ => none
def o_go (t : Nat) : OP := fun _ ls st G => some (t, ls, st, G)
def o_sw (f : Int → Nat) : OP := fun _ ls st G => match st with
  | .inl a :: st' => some (f (am_i a).toInt, ls, st', G)
  | _ => none
def o_gf (n ci f : Nat) : OP := fun sk ls st G => match st with
  | .inr (.inr (some a)) :: st' => match sk[a]? with
    | some (0, c, fl) => if c = ci then (match fl[f]? with
      | some 0 => some (n, ls, vI (G a f) :: st', G)
      | some (r + 1) => some (n, ls, vR r :: st', G)
      | none => none) else none
    | _ => none
  | _ => none
def o_pf (n ci f : Nat) : OP := fun sk ls st G => match st with
  | .inl z :: .inr (.inr (some a)) :: st' => match sk[a]? with
    | some (0, c, fl) => if c = ci then (match fl[f]? with
      | some 0 => some (n, ls, st', am_up G a f z)
      | _ => none) else none
    | _ => none
  | _ => none
/-- the class's one static row -/
def am_pl : List Int := [69343957, 1874161, 50653, 1369, 37, 1]
def am_in (z : Int) (n : Nat) : Bool := decide (0 ≤ (am_i z).toInt) && decide ((am_i z).toInt < n)
def o_ia (n : Nat) : OP := fun sk ls st G => match st with
  | .inl i :: .inr (.inr (some a)) :: st' => match sk[a]? with
    | some (1, len, _) => if am_in i len = true then some (n, ls, vI (G a (am_i i).toInt) :: st', G) else none
    | _ => none
  | _ => none
def o_ba (n : Nat) : OP := fun sk ls st G => match st with
  | .inl i :: .inr (.inr (some a)) :: st' => match sk[a]? with
    | some (2, len, _) => if am_in i len = true then some (n, ls, vI (G a (am_i i).toInt) :: st', G) else none
    | _ => none
  | _ => none
def o_la (n : Nat) : OP := fun sk ls st G => match st with
  | .inl i :: .inr (.inr (some a)) :: st' => match sk[a]? with
    | some (3, len, _) => if am_in i len = true then some (n, ls, vL (G a (am_i i).toInt) :: st', G) else none
    | none => if a = 1000 then (if am_in i 6 = true then some (n, ls, vL (am_pl.getD (am_i i).toInt.toNat 0) :: st', G) else none) else none
    | _ => none
  | _ => none
def o_aa (n : Nat) : OP := fun sk ls st G => match st with
  | .inl i :: .inr (.inr (some a)) :: st' => match sk[a]? with
    | some (4, len, fl) => if am_in i len = true then (match fl[(am_i i).toInt.toNat]? with
      | some r => some (n, ls, vR r :: st', G)
      | none => none) else none
    | some (5, len, fl) => if am_in i len = true then (match fl[(am_i i).toInt.toNat]? with
      | some r => some (n, ls, vR r :: st', G)
      | none => none) else none
    | _ => none
  | _ => none
def o_iw (n : Nat) : OP := fun sk ls st G => match st with
  | .inl z :: .inl i :: .inr (.inr (some a)) :: st' => match sk[a]? with
    | some (1, len, _) => if am_in i len = true then some (n, ls, st', am_up G a (am_i i).toInt z) else none
    | _ => none
  | _ => none
def o_bw (n : Nat) : OP := fun sk ls st G => match st with
  | .inl z :: .inl i :: .inr (.inr (some a)) :: st' => match sk[a]? with
    | some (2, len, _) => if am_in i len = true then (if z = 0 ∨ z = 1 then some (n, ls, st', am_up G a (am_i i).toInt z) else none) else none
    | _ => none
  | _ => none
def o_lw (n : Nat) : OP := fun sk ls st G => match st with
  | .inr (.inl z) :: .inl i :: .inr (.inr (some a)) :: st' => match sk[a]? with
    | some (3, len, _) => if am_in i len = true then some (n, ls, st', am_up G a (am_i i).toInt z) else none
    | _ => none
  | _ => none
def o_len (n : Nat) : OP := fun sk ls st G => match st with
  | .inr (.inr (some a)) :: st' => match sk[a]? with
    | some (1, len, _) => some (n, ls, vI len :: st', G)
    | some (3, len, _) => some (n, ls, vI len :: st', G)
    | _ => none
  | _ => none
/-- where the code stands -/
def am_at : CD → Nat → Option IN
  | [], _ => none
  | q :: r, pc => if q.1 = pc then some q.2 else am_at r pc
def am_slots : List AV → List AV
  | [] => []
  | .inr (.inl z) :: r => vL z :: vU :: am_slots r
  | v :: r => v :: am_slots r
def am_ent (n : Nat) (as : List AV) : List AV := am_slots as ++ List.replicate (n - (am_slots as).length) vU
/-- of a method: its code, its locals, what it answers (0: nothing, 1: an int, 2: a truth value, 3: a long), whether it has a receiver (its class + 1) -/
abbrev MT : Type := Nat → CD × Nat × Nat × Nat
def am_ret (q : Nat) (st : List AV) : Option (Option AV) := match q, st with
  | 0, [] => some none
  | 1, [.inl z] => some (some (vI z))
  | 2, [.inl z] => if z = 0 ∨ z = 1 then some (some (vI z)) else none
  | 3, [.inr (.inl z)] => some (some (vL z))
  | _, _ => none
def am_recv (sk : SK) (q : Nat) (as : List AV) : Bool := match q with
  | 0 => true
  | ci + 1 => match as with
    | .inr (.inr (some a)) :: _ => match sk[a]? with
      | some (0, c, _) => decide (c = ci)
      | _ => false
    | _ => false
/-- no value that isn't one -/
def am_vals : List AV → Bool
  | [] => true
  | .inr (.inr none) :: _ => false
  | _ :: r => am_vals r
def am_run (mt : MT) (sk : SK) : Nat → Nat → Nat → Nat → List AV → List AV → AG → Option (Option AV × AG)
  | 0, _, _, _, _, _, _ => none
  | n + 1, d, k, pc, ls, st, G => match am_at (mt k).1 pc with
    | none => none
    | some (.inl op) => match op sk ls st G with
      | none => none
      | some (pc', ls', st', G') => am_run mt sk n d k pc' ls' st' G'
    | some (.inr (.inl (j, na))) => match d with
      | 0 => none
      | d' + 1 => if na ≤ st.length ∧ am_cats (st.drop na) ≤ 8 ∧ am_recv sk (mt j).2.2.2 (st.take na).reverse = true ∧ am_vals (st.take na) = true ∧ (am_slots (st.take na).reverse).length ≤ (mt j).2.1 then
          match am_run mt sk n d' j 0 (am_ent (mt j).2.1 (st.take na).reverse) [] G with
          | none => none
          | some (r, G') => am_run mt sk n (d' + 1) k (pc + 3) ls (r.toList ++ st.drop na) G'
        else none
    | some (.inr (.inr ())) => match am_ret (mt k).2.2.1 st with
      | none => none
      | some r => some (r, G)
end
section
/-! How the small machine's values and cells stand in the machine -/
def am_rp (ad : Nat → Nat) : AV → Value
  | .inl z => .int (am_i z)
  | .inr (.inl z) => .long (am_l z)
  | .inr (.inr (some a)) => .ref (ad a)
  | .inr (.inr none) => .null
def am_fld (ad : Nat → Nat) (g : Int → Int) (j x : Nat) : Value := match x with
  | 0 => .int (am_i (g j))
  | r + 1 => .ref (ad r)
def am_cell (ad : Nat → Nat) (cA : Nat → ClassId) (c : Nat × Nat × List Nat) (g : Int → Int) : va_E := match c with
  | (0, ci, fl) => .inr (ci, fl.mapIdx (fun j x => am_fld ad g j x))
  | (1, n, _) => .inl (cA 0, n, .inl (fun j => am_i (g j)))
  | (2, n, _) => .inl (cA 1, n, .inl (fun j => am_i (g j)))
  | (3, n, _) => .inl (cA 2, n, .inr (.inl (fun j => am_l (g j))))
  | (4, n, fl) => .inl (cA 3, n, .inr (.inr (.inr (.inr (fun j => (fl[j]?).map ad)))))
  | (_, n, fl) => .inl (cA 4, n, .inr (.inr (.inr (.inr (fun j => (fl[j]?).map ad)))))
def am_wo (ad : Nat → Nat) (cA : Nat → ClassId) (sk : SK) (G : AG) : va_W := sk.mapIdx (fun k c => (ad k, am_cell ad cA c (G k)))
def am_tys (cA : Nat → ClassId) : List (ClassId × FieldType) := [(cA 0, .int), (cA 1, .boolean), (cA 2, .long), (cA 3, .array .int), (cA 4, .array .long)]
def am_A (ad : Nat → Nat) (sk : SK) : Nat → Prop := fun q => ∃ k, k < sk.length ∧ ad k = q
def am_inj (ad : Nat → Nat) (sk : SK) : Prop := ∀ i j, i < sk.length → j < sk.length → ad i = ad j → i = j
def am_Z (ad : Nat → Nat) (A : Nat → Prop) (U : State) (H : Heap) : Prop := va_Z "SeasonOfHours$Planner" "PLACES" "[J" (.ref (ad 1000)) A U H ∧ va_T .long (ad 1000) 6 (fun j => .long (am_l (am_pl.getD j 0))) A U H
def am_LR (ad : Nat → Nat) (nL : Nat) (al : List AV) (ls : Array Slot) : Prop := ls.size = nL ∧ al.length = nL ∧ lv_wf ls ∧ ∀ (i : Nat) (v : AV), al[i]? = some v → v ≠ vU → ls[i]? = some (.val (am_rp ad v))
abbrev NS : Type := List (String × Nat × MethodName × String)
def am_Cx (ad : Nat → Nat) (cA : Nat → ClassId) (D : va_G) (sk : SK) (Ts : List Cond) (Ns : NS) (p : Program) (s : State) (m : MethodId) (args : Array Value) (c : Code) (cc : ByteArray) (nL : Nat) (own : String) : Prop :=
  p.tables.exec = Jvm.exec ∧ c.code = cc ∧ c.maxLocals = nL ∧ s.vm.findClass own = some m.cls ∧ (∀ w ∈ Ts, w.before args s = true) ∧ (∀ q ∈ Ns, va_Nw (.methodLinkNest q.1 q.2.1 q.2.2.1 q.2.2.2) s) ∧ va_K D classes (am_tys cA) s ∧ am_Z ad (am_A ad sk) s s.heap
def am_St (ad : Nat → Nat) (cA : Nat → ClassId) (D : va_G) (sk : SK) (s : State) (nL : Nat) (al : List AV) (G : AG) (H : Heap) (locs : List Loc) (ls : Array Slot) : Prop :=
  va_P D classes (am_wo ad cA sk G) H ∧ va_S (am_A ad sk) s.heap H locs ∧ am_LR ad nL al ls
def am_ok (Ts : List Cond) (cc : ByteArray) (nL : Nat) (own : String) (pc : Nat) (op : OP) : Prop :=
  ∀ (ad : Nat → Nat) (cA : Nat → ClassId) (D : va_G) (sk : SK) (Ns : NS) (p : Program) (l : Launch) (e : Env) (R : Room) (s : State) (m : MethodId) (args : Array Value) (below : List Frame) (meth : Method) (c : Code) (H : Heap) (locs : List Loc) (Q : State → Prop) (ls : Array Slot) (al st : List AV) (G : AG) (cf : CF),
    am_inj ad sk → am_Cx ad cA D sk Ts Ns p s m args c cc nL own → am_St ad cA D sk s nL al G H locs ls → op sk al st G = some cf →
    (∀ (H' : Heap) (locs' : List Loc) (ls' : Array Slot), am_St ad cA D sk s nL cf.2.1 cf.2.2.2 H' locs' ls' → W p l e R s m args below meth c H' locs' 0 0 Q (F0 m cf.1 ls' (cf.2.2.1.map (am_rp ad)))) →
    W p l e R s m args below meth c H locs 0 0 Q (F0 m pc ls (st.map (am_rp ad)))
/-! numbers -/
theorem am_i_add (a b : Int) : am_i (a + b) = am_i a + am_i b := Int32.ofInt_add ..
theorem am_i_sub (a b : Int) : am_i (a - b) = am_i a - am_i b := Int32.ofInt_sub ..
theorem am_i_mul (a b : Int) : am_i (a * b) = am_i a * am_i b := Int32.ofInt_mul ..
theorem am_i_neg (a : Int) : am_i (-a) = -am_i a := Int32.ofInt_neg ..
theorem am_l_add (a b : Int) : am_l (a + b) = am_l a + am_l b := Int64.ofInt_add ..
theorem am_l_sub (a b : Int) : am_l (a - b) = am_l a - am_l b := Int64.ofInt_sub ..
theorem am_l_mul (a b : Int) : am_l (a * b) = am_l a * am_l b := Int64.ofInt_mul ..
theorem am_l_neg (a : Int) : am_l (-a) = -am_l a := Int64.ofInt_neg ..
theorem am_i_t (x : Int32) : am_i x.toInt = x := Int32.ofInt_toInt x
theorem am_l_t (x : Int64) : am_l x.toInt = x := Int64.ofInt_toInt x
/-! cells -/
theorem am_wo_at {ad : Nat → Nat} {cA : Nat → ClassId} {sk : SK} {G : AG} {a : Nat} {c : Nat × Nat × List Nat} (h : sk[a]? = some c) : (am_wo ad cA sk G)[a]? = some (ad a, am_cell ad cA c (G a)) := by
  simp [am_wo, List.getElem?_mapIdx, h]
theorem am_wo_get {ad : Nat → Nat} {cA : Nat → ClassId} {sk : SK} {G : AG} {a : Nat} {q : Nat × va_E} (h : (am_wo ad cA sk G)[a]? = some q) : a < sk.length ∧ q.1 = ad a := by
  simp only [am_wo, List.getElem?_mapIdx, Option.map_eq_some_iff] at h
  obtain ⟨c, h1, h2⟩ := h
  exact ⟨(List.getElem?_eq_some_iff.mp h1).1, by rw [← h2]⟩
theorem am_D {ad : Nat → Nat} {cA : Nat → ClassId} {sk : SK} (h : am_inj ad sk) (G : AG) : va_D (am_A ad sk) (am_wo ad cA sk G) := by
  refine ⟨fun i j p q hp hq e => ?_, fun k q hq => ?_⟩
  · obtain ⟨h1, h2⟩ := am_wo_get hp
    obtain ⟨h3, h4⟩ := am_wo_get hq
    exact h i j h1 h3 (by rw [← h2, ← h4]; exact e)
  · obtain ⟨h1, h2⟩ := am_wo_get hq
    exact ⟨k, h1, h2.symm⟩
theorem am_wo_set {ad : Nat → Nat} {cA : Nat → ClassId} {sk : SK} {G : AG} {a : Nat} {c : Nat × Nat × List Nat} {E : va_E} {G' : AG} (h : sk[a]? = some c) (he : am_cell ad cA c (G' a) = E) (ho : ∀ b, b ≠ a → G' b = G b) : (am_wo ad cA sk G).set a (ad a, E) = am_wo ad cA sk G' := by
  refine List.ext_getElem? fun k => ?_
  by_cases hk : k = a
  · subst hk
    rw [am_wo_at (G := G') h, he, List.getElem?_set_self]
    simp only [am_wo, List.length_mapIdx]
    exact (List.getElem?_eq_some_iff.mp h).1
  · rw [List.getElem?_set_ne (fun q => hk q.symm)]
    simp only [am_wo, List.getElem?_mapIdx, ho k hk]
theorem am_up_ne (G : AG) (a : Nat) (i z : Int) (b : Nat) (h : b ≠ a) : am_up G a i z b = G b := by
  funext j
  simp [am_up, h]
theorem am_in_iff {z : Int} {n : Nat} : am_in z n = true ↔ vp_in (am_i z) n := by
  rw [vp_in_iff, am_in, Bool.and_eq_true, decide_eq_true_iff, decide_eq_true_iff]
theorem am_clamp {z : Int} {n : Nat} (h : am_in z n = true) : ((am_i z).toNatClampNeg : Int) = (am_i z).toInt := by
  have h1 := (vp_in_iff.mp (am_in_iff.mp h)).1
  show (((am_i z).toInt.toNat : Nat) : Int) = _
  exact Int.toNat_of_nonneg h1
/-! locals -/
def am_toL (ad : Nat → Nat) (al : List AV) : List (Nat × Value) := (al.zipIdx).filterMap (fun q => match q.1 with
  | .inr (.inr none) => none
  | v => some (q.2, am_rp ad v))
theorem am_toL_mem {ad : Nat → Nat} {al : List AV} {q : Nat × Value} : q ∈ am_toL ad al ↔ ∃ (i : Nat) (v : AV), al[i]? = some v ∧ v ≠ vU ∧ q = (i, am_rp ad v) := by
  unfold am_toL
  rw [List.mem_filterMap]
  constructor
  · rintro ⟨⟨v, i⟩, h1, h2⟩
    have h3 := List.mem_zipIdx_iff_getElem?.mp h1
    refine ⟨i, v, h3, ?_⟩
    rcases v with z | z | _ | a
    · simp at h2; exact ⟨by simp, h2.symm⟩
    · simp at h2; exact ⟨by simp, h2.symm⟩
    · simp at h2
    · simp at h2; exact ⟨by simp, h2.symm⟩
  · rintro ⟨i, v, h1, h2, rfl⟩
    refine ⟨(v, i), List.mem_zipIdx_iff_getElem?.mpr h1, ?_⟩
    rcases v with z | z | _ | a
    · rfl
    · rfl
    · exact absurd rfl h2
    · rfl
theorem am_LR.has {ad : Nat → Nat} {nL : Nat} {al : List AV} {ls : Array Slot} (h : am_LR ad nL al ls) : lv_has ls nL (am_toL ad al) := by
  refine ⟨h.1, h.2.2.1, fun q hq => ?_⟩
  obtain ⟨i, v, h1, h2, rfl⟩ := am_toL_mem.mp hq
  exact h.2.2.2 i v h1 h2
theorem am_rp_cat {ad : Nat → Nat} {v : AV} (h : am_nl v = true) : (am_rp ad v).category = 1 := by
  rcases v with z | z | _ | a
  · rfl
  · simp [am_nl] at h
  · rfl
  · rfl
theorem am_okst_lt {al : List AV} {i : Nat} (h : am_okst al i = true) : i < al.length := by
  unfold am_okst at h
  rw [Bool.and_eq_true] at h
  exact of_decide_eq_true h.1
theorem am_okst_nl {al : List AV} {j : Nat} {v : AV} (h : am_okst al (j + 1) = true) (hv : al[j]? = some v) : am_nl v = true := by
  unfold am_okst at h
  rw [Bool.and_eq_true] at h
  have h2 := h.2
  simp only [hv] at h2
  exact h2
theorem am_LR.st1 {ad : Nat → Nat} {nL : Nat} {al : List AV} {ls ls' : Array Slot} {i : Nat} {v : AV} (h : am_LR ad nL al ls) (hi : am_okst al i = true)
    (h' : lv_has ls' nL ((i, am_rp ad v) :: (am_toL ad al).filter (fun q => !(q.1 == i) && !(q.1 + 1 == i && q.2.category == 2)))) : am_LR ad nL (al.set i v) ls' := by
  refine ⟨h'.1, by rw [List.length_set]; exact h.2.1, h'.2.1, fun j w hw hu => ?_⟩
  by_cases e : j = i
  · subst e
    rw [List.getElem?_set_self (am_okst_lt hi)] at hw
    cases hw
    exact h'.2.2 _ List.mem_cons_self
  · rw [List.getElem?_set_ne (fun q => e q.symm)] at hw
    refine h'.2.2 (j, am_rp ad w) (List.mem_cons_of_mem _ (List.mem_filter.mpr ⟨am_toL_mem.mpr ⟨j, w, hw, hu, rfl⟩, ?_⟩))
    have h2 : (j + 1 == i && (am_rp ad w).category == 2) = false := by
      by_cases e2 : j + 1 = i
      · subst e2
        rw [am_rp_cat (am_okst_nl hi hw)]
        simp
      · simp [e2]
    simp [e, h2]
theorem am_LR.st2 {ad : Nat → Nat} {nL : Nat} {al : List AV} {ls ls' : Array Slot} {i : Nat} {v : AV} (h : am_LR ad nL al ls) (hi : am_okst al i = true)
    (h' : lv_has ls' nL ((i, am_rp ad v) :: (am_toL ad al).filter (fun q => !(q.1 == i) && (!(q.1 == i + 1) && !(q.1 + 1 == i && q.2.category == 2))))) : am_LR ad nL ((al.set i v).set (i + 1) vU) ls' := by
  refine ⟨h'.1, by rw [List.length_set, List.length_set]; exact h.2.1, h'.2.1, fun j w hw hu => ?_⟩
  by_cases e1 : j = i + 1
  · subst e1
    by_cases hl : i + 1 < (al.set i v).length
    · rw [List.getElem?_set_self hl] at hw
      cases hw
      exact absurd rfl hu
    · rw [List.getElem?_eq_none (by rw [List.length_set]; omega)] at hw
      cases hw
  · rw [List.getElem?_set_ne (fun q => e1 q.symm)] at hw
    by_cases e : j = i
    · subst e
      rw [List.getElem?_set_self (am_okst_lt hi)] at hw
      cases hw
      exact h'.2.2 _ List.mem_cons_self
    · rw [List.getElem?_set_ne (fun q => e q.symm)] at hw
      refine h'.2.2 (j, am_rp ad w) (List.mem_cons_of_mem _ (List.mem_filter.mpr ⟨am_toL_mem.mpr ⟨j, w, hw, hu, rfl⟩, ?_⟩))
      have h2 : (j + 1 == i && (am_rp ad w).category == 2) = false := by
        by_cases e2 : j + 1 = i
        · subst e2
          rw [am_rp_cat (am_okst_nl hi hw)]
          simp
        · simp [e2]
      simp [e, e1, h2]
/-- at an int no wide value stands ahead -/
theorem am_LR.okst {ad : Nat → Nat} {nL : Nat} {al : List AV} {ls : Array Slot} {i : Nat} {z : Int} (h : am_LR ad nL al ls) (hz : al[i]? = some (vI z)) : am_okst al i = true := by
  have hl : i < al.length := (List.getElem?_eq_some_iff.mp hz).1
  have h1 := h.2.2.2 i _ hz (by simp)
  unfold am_okst
  rw [Bool.and_eq_true]
  refine ⟨decide_eq_true hl, ?_⟩
  cases i with
  | zero => rfl
  | succ j =>
    cases hj : al[j]? with
    | none => simp only [hj]
    | some v =>
      simp only [hj]
      rcases v with a | a | _ | a
      · rfl
      · have h2 := h.2.2.2 j _ hj (by simp)
        have h3 := h.2.2.1.1 j _ h2 rfl
        rw [h3] at h1
        cases h1
      · rfl
      · rfl
end
section
/-! each step of the small machine is the machine's -/
section AmOps
variable {Ts : List Cond} {cc : ByteArray} {nL pc : Nat} {own : String}
theorem so_k {v : Int} (hdg : decode cc pc = .ok (.iconst v, 1)) : am_ok Ts cc nL own pc (o_k (pc + 1) (vI v)) := by
  intro ad cA D sk Ns p l e R s m args below meth c H locs Q ls al st G cf hj hC hS ho k
  obtain ⟨hx, hb, -⟩ := hC
  cases ho
  exact lv_iconst (v := am_i v) hx hb hdg rfl (k H locs ls hS)
theorem so_bp {v : Int} (hv : (Int8.ofInt v).toInt32 = am_i v) (hdg : decode cc pc = .ok (.bipush v, 2)) : am_ok Ts cc nL own pc (o_k (pc + 2) (vI v)) := by
  intro ad cA D sk Ns p l e R s m args below meth c H locs Q ls al st G cf hj hC hS ho k
  obtain ⟨hx, hb, -⟩ := hC
  cases ho
  exact lv_bipush (v := am_i v) hx hb hdg hv (k H locs ls hS)
theorem so_sp {v : Int} (hv : (Int16.ofInt v).toInt32 = am_i v) (hdg : decode cc pc = .ok (.sipush v, 3)) : am_ok Ts cc nL own pc (o_k (pc + 3) (vI v)) := by
  intro ad cA D sk Ns p l e R s m args below meth c H locs Q ls al st G cf hj hC hS ho k
  obtain ⟨hx, hb, -⟩ := hC
  cases ho
  exact lv_sipush (v := am_i v) hx hb hdg hv (k H locs ls hS)
theorem so_lk {v : Int} {n : Fin 2} (hn : (Int64.ofNat n.val) = am_l v) (hdg : decode cc pc = .ok (.lconst n, 1)) : am_ok Ts cc nL own pc (o_k (pc + 1) (vL v)) := by
  intro ad cA D sk Ns p l e R s m args below meth c H locs Q ls al st G cf hj hC hS ho k
  obtain ⟨hx, hb, -⟩ := hC
  cases ho
  exact lv_lconst (v := am_l v) hx hb hdg hn (k H locs ls hS)
theorem so_ldc {v : Int} {ix : Nat} (hw : Cond.constant own ix (am_i v) ∈ Ts) (hdg : decode cc pc = .ok (.ldc ix, 2)) : am_ok Ts cc nL own pc (o_k (pc + 2) (vI v)) := by
  intro ad cA D sk Ns p l e R s m args below meth c H locs Q ls al st G cf hj hC hS ho k
  obtain ⟨hx, hb, -, hown, hts, -⟩ := hC
  cases ho
  exact lv_ldc hx hb hown (hts _ hw) hdg (k H locs ls hS)
theorem so_ldcw {v : Int} {ix : Nat} (hw : Cond.constant own ix (am_i v) ∈ Ts) (hdg : decode cc pc = .ok (.ldc_w ix, 3)) : am_ok Ts cc nL own pc (o_k (pc + 3) (vI v)) := by
  intro ad cA D sk Ns p l e R s m args below meth c H locs Q ls al st G cf hj hC hS ho k
  obtain ⟨hx, hb, -, hown, hts, -⟩ := hC
  cases ho
  exact lv_ldcw hx hb hown (hts _ hw) hdg (k H locs ls hS)
theorem so_ldc2 {v : Int} {ix : Nat} (hw : Cond.constantLong own ix (am_l v) ∈ Ts) (hdg : decode cc pc = .ok (.ldc2_w ix, 3)) : am_ok Ts cc nL own pc (o_k (pc + 3) (vL v)) := by
  intro ad cA D sk Ns p l e R s m args below meth c H locs Q ls al st G cf hj hC hS ho k
  obtain ⟨hx, hb, -, hown, hts, -⟩ := hC
  cases ho
  exact lv_ldc2 hx hb hown (hts _ hw) hdg (k H locs ls hS)
theorem so_gs {ix : Nat} (hw : Cond.fieldLink own ix "SeasonOfHours$Planner" "PLACES" "[J" ∈ Ts) (hdg : decode cc pc = .ok (.getstatic ix, 3)) : am_ok Ts cc nL own pc (o_k (pc + 3) (vR 1000)) := by
  intro ad cA D sk Ns p l e R s m args below meth c H locs Q ls al st G cf hj hC hS ho k
  obtain ⟨hx, hb, -, hown, hts, -, -, hZ⟩ := hC
  cases ho
  exact va_gets hx hb hZ.1 hS.2.1 hown (hts _ hw) (fun _ h => h) hdg (k H locs ls hS)
theorem so_il {i n : Nat} {q : Instr} (hi : (∃ f : Fin 4, q = .iload_n f ∧ (f : Nat) = i ∧ n = pc + 1) ∨ q = .iload i ∧ n = pc + 2) (hdg : decode cc pc = .ok (q, n - pc)) : am_ok Ts cc nL own pc (o_il n i) := by
  intro ad cA D sk Ns p l e R s m args below meth c H locs Q ls al st G cf hj hC hS ho k
  obtain ⟨hx, hb, -⟩ := hC
  unfold o_il at ho
  split at ho
  · rename_i z hz
    cases ho
    have h1 := hS.2.2.2.2.2 i _ hz (by simp)
    have k := k H locs ls hS
    rcases hi with ⟨f, rfl, hf, rfl⟩ | ⟨rfl, rfl⟩
    · rw [show pc + 1 - pc = 1 by omega] at hdg
      exact lv_iload_n hx hb hdg hf h1 k
    · rw [show pc + 2 - pc = 2 by omega] at hdg
      exact lv_iload hx hb hdg h1 k
  · cases ho
theorem so_ll {i n : Nat} {q : Instr} (hi : (∃ f : Fin 4, q = .lload_n f ∧ (f : Nat) = i ∧ n = pc + 1) ∨ q = .lload i ∧ n = pc + 2) (hdg : decode cc pc = .ok (q, n - pc)) : am_ok Ts cc nL own pc (o_ll n i) := by
  intro ad cA D sk Ns p l e R s m args below meth c H locs Q ls al st G cf hj hC hS ho k
  obtain ⟨hx, hb, -⟩ := hC
  unfold o_ll at ho
  split at ho
  · rename_i z hz
    cases ho
    have h1 := hS.2.2.2.2.2 i _ hz (by simp)
    have k := k H locs ls hS
    rcases hi with ⟨f, rfl, hf, rfl⟩ | ⟨rfl, rfl⟩
    · rw [show pc + 1 - pc = 1 by omega] at hdg
      exact lv_lload_n hx hb hdg hf h1 k
    · rw [show pc + 2 - pc = 2 by omega] at hdg
      exact lv_lload hx hb hdg h1 k
  · cases ho
theorem so_al {i n : Nat} {q : Instr} (hi : (∃ f : Fin 4, q = .aload_n f ∧ (f : Nat) = i ∧ n = pc + 1) ∨ q = .aload i ∧ n = pc + 2) (hdg : decode cc pc = .ok (q, n - pc)) : am_ok Ts cc nL own pc (o_al n i) := by
  intro ad cA D sk Ns p l e R s m args below meth c H locs Q ls al st G cf hj hC hS ho k
  obtain ⟨hx, hb, -⟩ := hC
  unfold o_al at ho
  split at ho
  · rename_i z hz
    cases ho
    have h1 := hS.2.2.2.2.2 i _ hz (by simp)
    have k := k H locs ls hS
    rcases hi with ⟨f, rfl, hf, rfl⟩ | ⟨rfl, rfl⟩
    · rw [show pc + 1 - pc = 1 by omega] at hdg
      exact lv_aload_n hx hb hdg hf h1 k
    · rw [show pc + 2 - pc = 2 by omega] at hdg
      exact lv_aload hx hb hdg h1 k
  · cases ho
theorem so_is {i n : Nat} {q : Instr} (hi : (∃ f : Fin 4, q = .istore_n f ∧ (f : Nat) = i ∧ n = pc + 1) ∨ q = .istore i ∧ n = pc + 2) (hdg : decode cc pc = .ok (q, n - pc)) : am_ok Ts cc nL own pc (o_is n i) := by
  intro ad cA D sk Ns p l e R s m args below meth c H locs Q ls al st G cf hj hC hS ho k
  obtain ⟨hx, hb, -⟩ := hC
  unfold o_is at ho
  split at ho
  · split at ho
    · rename_i z st' hok
      cases ho
      have hlt : i < nL := by rw [← hS.2.2.2.1]; exact am_okst_lt hok
      rcases hi with ⟨f, rfl, hf, rfl⟩ | ⟨rfl, rfl⟩
      · rw [show pc + 1 - pc = 1 by omega] at hdg
        exact lv_istore_n hx hb hdg hf hS.2.2.has hlt rfl (fun ls' hl => k H locs ls' ⟨hS.1, hS.2.1, hS.2.2.st1 (v := vI z) hok hl⟩)
      · rw [show pc + 2 - pc = 2 by omega] at hdg
        exact lv_istore hx hb hdg hS.2.2.has hlt rfl (fun ls' hl => k H locs ls' ⟨hS.1, hS.2.1, hS.2.2.st1 (v := vI z) hok hl⟩)
    · cases ho
  · cases ho
theorem so_as {i n : Nat} {q : Instr} (hi : (∃ f : Fin 4, q = .astore_n f ∧ (f : Nat) = i ∧ n = pc + 1) ∨ q = .astore i ∧ n = pc + 2) (hdg : decode cc pc = .ok (q, n - pc)) : am_ok Ts cc nL own pc (o_as n i) := by
  intro ad cA D sk Ns p l e R s m args below meth c H locs Q ls al st G cf hj hC hS ho k
  obtain ⟨hx, hb, -⟩ := hC
  unfold o_as at ho
  split at ho
  · split at ho
    · rename_i z st' hok
      cases ho
      have hlt : i < nL := by rw [← hS.2.2.2.1]; exact am_okst_lt hok
      rcases hi with ⟨f, rfl, hf, rfl⟩ | ⟨rfl, rfl⟩
      · rw [show pc + 1 - pc = 1 by omega] at hdg
        exact lv_astore_n hx hb hdg hf hS.2.2.has hlt rfl (fun ls' hl => k H locs ls' ⟨hS.1, hS.2.1, hS.2.2.st1 (v := vR z) hok hl⟩)
      · rw [show pc + 2 - pc = 2 by omega] at hdg
        exact lv_astore hx hb hdg hS.2.2.has hlt rfl (fun ls' hl => k H locs ls' ⟨hS.1, hS.2.1, hS.2.2.st1 (v := vR z) hok hl⟩)
    · cases ho
  · cases ho
theorem so_ls {i n : Nat} {q : Instr} (hi : (∃ f : Fin 4, q = .lstore_n f ∧ (f : Nat) = i ∧ n = pc + 1) ∨ q = .lstore i ∧ n = pc + 2) (hdg : decode cc pc = .ok (q, n - pc)) : am_ok Ts cc nL own pc (o_ls n i) := by
  intro ad cA D sk Ns p l e R s m args below meth c H locs Q ls al st G cf hj hC hS ho k
  obtain ⟨hx, hb, -⟩ := hC
  unfold o_ls at ho
  split at ho
  · split at ho
    · split at ho
      · rename_i z st' hok hlt
        cases ho
        have hlt : i + 1 < nL := by rw [← hS.2.2.2.1]; exact hlt
        rcases hi with ⟨f, rfl, hf, rfl⟩ | ⟨rfl, rfl⟩
        · rw [show pc + 1 - pc = 1 by omega] at hdg
          exact lv_lstore_n hx hb hdg hf hS.2.2.has hlt rfl (fun ls' hl => k H locs ls' ⟨hS.1, hS.2.1, hS.2.2.st2 (v := vL z) hok hl⟩)
        · rw [show pc + 2 - pc = 2 by omega] at hdg
          exact lv_lstore hx hb hdg hS.2.2.has hlt rfl (fun ls' hl => k H locs ls' ⟨hS.1, hS.2.1, hS.2.2.st2 (v := vL z) hok hl⟩)
      · cases ho
    · cases ho
  · cases ho
theorem so_ii {i : Nat} {v : Int} (hdg : decode cc pc = .ok (.iinc i v, 3)) : am_ok Ts cc nL own pc (o_ii (pc + 3) i v) := by
  intro ad cA D sk Ns p l e R s m args below meth c H locs Q ls al st G cf hj hC hS ho k
  obtain ⟨hx, hb, -⟩ := hC
  unfold o_ii at ho
  split at ho
  · rename_i z hz
    cases ho
    have hok := hS.2.2.okst hz
    have hlt : i < nL := by rw [← hS.2.2.2.1]; exact am_okst_lt hok
    obtain ⟨kk, hkk⟩ := List.getElem?_of_mem (am_toL_mem (ad := ad).mpr ⟨i, vI z, hz, by simp, rfl⟩)
    exact lv_iinc (v := am_i (z + v)) hx hb hdg hS.2.2.has hkk (am_i_add z v).symm hlt rfl (fun ls' hl => k H locs ls' ⟨hS.1, hS.2.1, hS.2.2.st1 (v := vI (z + v)) hok hl⟩)
  · cases ho
end AmOps
end
section
theorem fb_rng' (x : Int32) : -2147483648 ≤ x.toInt ∧ x.toInt < 2147483648 := by
  have h1 := Int32.le_toInt x
  have h2 := Int32.toInt_lt x
  omega
/-! arithmetic, compares, branches -/
section AmOps2
variable {Ts : List Cond} {cc : ByteArray} {nL pc : Nat} {own : String}
def f_and (a b : Int) : Int := (am_i a &&& am_i b).toInt
def f_or (a b : Int) : Int := (am_i a ||| am_i b).toInt
def f_xor (a b : Int) : Int := (am_i a ^^^ am_i b).toInt
def f_shl (a b : Int) : Int := (am_i a <<< (am_i b &&& 31)).toInt
def f_shr (a b : Int) : Int := (am_i a >>> (am_i b &&& 31)).toInt
def f_ushr (a b : Int) : Int := ((am_i a).toUInt32 >>> ((am_i b).toUInt32 &&& Int32.toUInt32 31)).toInt32.toInt
def f_div (a b : Int) : Int := (am_i a / am_i b).toInt
def f_rem (a b : Int) : Int := (am_i a - am_i a / am_i b * am_i b).toInt
def f_ldiv (a b : Int) : Int := (am_l a / am_l b).toInt
def f_lrem (a b : Int) : Int := (am_l a - am_l a / am_l b * am_l b).toInt
def f_lxor (a b : Int) : Int := (am_l a ^^^ am_l b).toInt
def f_add (a b : Int) : Int := a + b
def f_sub (a b : Int) : Int := a - b
def f_mul (a b : Int) : Int := a * b
theorem so_iadd (hdg : decode cc pc = .ok (.iadd, 1)) : am_ok Ts cc nL own pc (o_ib (pc + 1) f_add) := by
  intro ad cA D sk Ns p l e R s m args below meth c H locs Q ls al st G cf hj hC hS ho k
  obtain ⟨hx, hb, -⟩ := hC
  unfold o_ib at ho
  split at ho
  · rename_i b a st'
    cases ho
    have k := k H locs ls hS
    have e9 : am_rp ad (vI (f_add a b)) = .int (am_i a + am_i b) := congrArg _ (am_i_add a b)
    rw [List.map_cons, e9] at k
    exact lv_iadd hx hb hdg k
  · cases ho
theorem so_isub (hdg : decode cc pc = .ok (.isub, 1)) : am_ok Ts cc nL own pc (o_ib (pc + 1) f_sub) := by
  intro ad cA D sk Ns p l e R s m args below meth c H locs Q ls al st G cf hj hC hS ho k
  obtain ⟨hx, hb, -⟩ := hC
  unfold o_ib at ho
  split at ho
  · rename_i b a st'
    cases ho
    have k := k H locs ls hS
    have e9 : am_rp ad (vI (f_sub a b)) = .int (am_i a - am_i b) := congrArg _ (am_i_sub a b)
    rw [List.map_cons, e9] at k
    exact lv_isub hx hb hdg k
  · cases ho
theorem so_imul (hdg : decode cc pc = .ok (.imul, 1)) : am_ok Ts cc nL own pc (o_ib (pc + 1) f_mul) := by
  intro ad cA D sk Ns p l e R s m args below meth c H locs Q ls al st G cf hj hC hS ho k
  obtain ⟨hx, hb, -⟩ := hC
  unfold o_ib at ho
  split at ho
  · rename_i b a st'
    cases ho
    have k := k H locs ls hS
    have e9 : am_rp ad (vI (f_mul a b)) = .int (am_i a * am_i b) := congrArg _ (am_i_mul a b)
    rw [List.map_cons, e9] at k
    exact lv_imul hx hb hdg k
  · cases ho
theorem so_iand (hdg : decode cc pc = .ok (.iand, 1)) : am_ok Ts cc nL own pc (o_ib (pc + 1) f_and) := by
  intro ad cA D sk Ns p l e R s m args below meth c H locs Q ls al st G cf hj hC hS ho k
  obtain ⟨hx, hb, -⟩ := hC
  unfold o_ib at ho
  split at ho
  · rename_i b a st'
    cases ho
    have k := k H locs ls hS
    have e9 : am_rp ad (vI (f_and a b)) = .int (am_i a &&& am_i b) := congrArg _ (am_i_t _)
    rw [List.map_cons, e9] at k
    exact lv_iand hx hb hdg k
  · cases ho
theorem so_ior (hdg : decode cc pc = .ok (.ior, 1)) : am_ok Ts cc nL own pc (o_ib (pc + 1) f_or) := by
  intro ad cA D sk Ns p l e R s m args below meth c H locs Q ls al st G cf hj hC hS ho k
  obtain ⟨hx, hb, -⟩ := hC
  unfold o_ib at ho
  split at ho
  · rename_i b a st'
    cases ho
    have k := k H locs ls hS
    have e9 : am_rp ad (vI (f_or a b)) = .int (am_i a ||| am_i b) := congrArg _ (am_i_t _)
    rw [List.map_cons, e9] at k
    exact lv_ior hx hb hdg k
  · cases ho
theorem so_ixor (hdg : decode cc pc = .ok (.ixor, 1)) : am_ok Ts cc nL own pc (o_ib (pc + 1) f_xor) := by
  intro ad cA D sk Ns p l e R s m args below meth c H locs Q ls al st G cf hj hC hS ho k
  obtain ⟨hx, hb, -⟩ := hC
  unfold o_ib at ho
  split at ho
  · rename_i b a st'
    cases ho
    have k := k H locs ls hS
    have e9 : am_rp ad (vI (f_xor a b)) = .int (am_i a ^^^ am_i b) := congrArg _ (am_i_t _)
    rw [List.map_cons, e9] at k
    exact lv_ixor hx hb hdg k
  · cases ho
theorem so_ishl (hdg : decode cc pc = .ok (.ishl, 1)) : am_ok Ts cc nL own pc (o_ib (pc + 1) f_shl) := by
  intro ad cA D sk Ns p l e R s m args below meth c H locs Q ls al st G cf hj hC hS ho k
  obtain ⟨hx, hb, -⟩ := hC
  unfold o_ib at ho
  split at ho
  · rename_i b a st'
    cases ho
    have k := k H locs ls hS
    have e9 : am_rp ad (vI (f_shl a b)) = .int (am_i a <<< (am_i b &&& 31)) := congrArg _ (am_i_t _)
    rw [List.map_cons, e9] at k
    exact lv_ishl hx hb hdg k
  · cases ho
theorem so_ishr (hdg : decode cc pc = .ok (.ishr, 1)) : am_ok Ts cc nL own pc (o_ib (pc + 1) f_shr) := by
  intro ad cA D sk Ns p l e R s m args below meth c H locs Q ls al st G cf hj hC hS ho k
  obtain ⟨hx, hb, -⟩ := hC
  unfold o_ib at ho
  split at ho
  · rename_i b a st'
    cases ho
    have k := k H locs ls hS
    have e9 : am_rp ad (vI (f_shr a b)) = .int (am_i a >>> (am_i b &&& 31)) := congrArg _ (am_i_t _)
    rw [List.map_cons, e9] at k
    exact lv_ishr hx hb hdg k
  · cases ho
theorem so_iushr (hdg : decode cc pc = .ok (.iushr, 1)) : am_ok Ts cc nL own pc (o_ib (pc + 1) f_ushr) := by
  intro ad cA D sk Ns p l e R s m args below meth c H locs Q ls al st G cf hj hC hS ho k
  obtain ⟨hx, hb, -⟩ := hC
  unfold o_ib at ho
  split at ho
  · rename_i b a st'
    cases ho
    have k := k H locs ls hS
    have e9 : am_rp ad (vI (f_ushr a b)) = .int (((am_i a).toUInt32 >>> ((am_i b).toUInt32 &&& Int32.toUInt32 31)).toInt32) := congrArg _ (am_i_t _)
    rw [List.map_cons, e9] at k
    exact lv_iushr hx hb hdg rfl k
  · cases ho
theorem so_idiv (hdg : decode cc pc = .ok (.idiv, 1)) : am_ok Ts cc nL own pc (o_id (pc + 1) f_div) := by
  intro ad cA D sk Ns p l e R s m args below meth c H locs Q ls al st G cf hj hC hS ho k
  obtain ⟨hx, hb, -⟩ := hC
  unfold o_id at ho
  split at ho
  · split at ho
    · cases ho
    · rename_i b a st' hne
      cases ho
      have k := k H locs ls hS
      have e9 : am_rp ad (vI (f_div a b)) = .int (am_i a / am_i b) := congrArg _ (am_i_t _)
      rw [List.map_cons, e9] at k
      exact lv_idiv hx hb hdg hne k
  · cases ho
theorem so_irem (hdg : decode cc pc = .ok (.irem, 1)) : am_ok Ts cc nL own pc (o_id (pc + 1) f_rem) := by
  intro ad cA D sk Ns p l e R s m args below meth c H locs Q ls al st G cf hj hC hS ho k
  obtain ⟨hx, hb, -⟩ := hC
  unfold o_id at ho
  split at ho
  · split at ho
    · cases ho
    · rename_i b a st' hne
      cases ho
      have k := k H locs ls hS
      have e9 : am_rp ad (vI (f_rem a b)) = .int (am_i a - am_i a / am_i b * am_i b) := congrArg _ (am_i_t _)
      rw [List.map_cons, e9] at k
      exact lv_irem hx hb hdg hne k
  · cases ho
theorem so_ladd (hdg : decode cc pc = .ok (.ladd, 1)) : am_ok Ts cc nL own pc (o_lb (pc + 1) f_add) := by
  intro ad cA D sk Ns p l e R s m args below meth c H locs Q ls al st G cf hj hC hS ho k
  obtain ⟨hx, hb, -⟩ := hC
  unfold o_lb at ho
  split at ho
  · rename_i b a st'
    cases ho
    have k := k H locs ls hS
    have e9 : am_rp ad (vL (f_add a b)) = .long (am_l a + am_l b) := congrArg _ (am_l_add a b)
    rw [List.map_cons, e9] at k
    exact lv_ladd hx hb hdg k
  · cases ho
theorem so_lsub (hdg : decode cc pc = .ok (.lsub, 1)) : am_ok Ts cc nL own pc (o_lb (pc + 1) f_sub) := by
  intro ad cA D sk Ns p l e R s m args below meth c H locs Q ls al st G cf hj hC hS ho k
  obtain ⟨hx, hb, -⟩ := hC
  unfold o_lb at ho
  split at ho
  · rename_i b a st'
    cases ho
    have k := k H locs ls hS
    have e9 : am_rp ad (vL (f_sub a b)) = .long (am_l a - am_l b) := congrArg _ (am_l_sub a b)
    rw [List.map_cons, e9] at k
    exact lv_lsub hx hb hdg k
  · cases ho
theorem so_lmul (hdg : decode cc pc = .ok (.lmul, 1)) : am_ok Ts cc nL own pc (o_lb (pc + 1) f_mul) := by
  intro ad cA D sk Ns p l e R s m args below meth c H locs Q ls al st G cf hj hC hS ho k
  obtain ⟨hx, hb, -⟩ := hC
  unfold o_lb at ho
  split at ho
  · rename_i b a st'
    cases ho
    have k := k H locs ls hS
    have e9 : am_rp ad (vL (f_mul a b)) = .long (am_l a * am_l b) := congrArg _ (am_l_mul a b)
    rw [List.map_cons, e9] at k
    exact lv_lmul hx hb hdg k
  · cases ho
theorem so_lxor (hdg : decode cc pc = .ok (.lxor, 1)) : am_ok Ts cc nL own pc (o_lb (pc + 1) f_lxor) := by
  intro ad cA D sk Ns p l e R s m args below meth c H locs Q ls al st G cf hj hC hS ho k
  obtain ⟨hx, hb, -⟩ := hC
  unfold o_lb at ho
  split at ho
  · rename_i b a st'
    cases ho
    have k := k H locs ls hS
    have e9 : am_rp ad (vL (f_lxor a b)) = .long (am_l a ^^^ am_l b) := congrArg _ (am_l_t _)
    rw [List.map_cons, e9] at k
    exact lv_lxor hx hb hdg k
  · cases ho
theorem so_ldiv (hdg : decode cc pc = .ok (.ldiv, 1)) : am_ok Ts cc nL own pc (o_ld (pc + 1) f_ldiv) := by
  intro ad cA D sk Ns p l e R s m args below meth c H locs Q ls al st G cf hj hC hS ho k
  obtain ⟨hx, hb, -⟩ := hC
  unfold o_ld at ho
  split at ho
  · split at ho
    · cases ho
    · rename_i b a st' hne
      cases ho
      have k := k H locs ls hS
      have e9 : am_rp ad (vL (f_ldiv a b)) = .long (am_l a / am_l b) := congrArg _ (am_l_t _)
      rw [List.map_cons, e9] at k
      exact lv_ldiv hx hb hdg hne k
  · cases ho
theorem so_lrem (hdg : decode cc pc = .ok (.lrem, 1)) : am_ok Ts cc nL own pc (o_ld (pc + 1) f_lrem) := by
  intro ad cA D sk Ns p l e R s m args below meth c H locs Q ls al st G cf hj hC hS ho k
  obtain ⟨hx, hb, -⟩ := hC
  unfold o_ld at ho
  split at ho
  · split at ho
    · cases ho
    · rename_i b a st' hne
      cases ho
      have k := k H locs ls hS
      have e9 : am_rp ad (vL (f_lrem a b)) = .long (am_l a - am_l a / am_l b * am_l b) := congrArg _ (am_l_t _)
      rw [List.map_cons, e9] at k
      exact lv_lrem hx hb hdg hne k
  · cases ho
def f_neg (a : Int) : Int := -a
theorem so_ineg (hdg : decode cc pc = .ok (.ineg, 1)) : am_ok Ts cc nL own pc (o_iu (pc + 1) f_neg) := by
  intro ad cA D sk Ns p l e R s m args below meth c H locs Q ls al st G cf hj hC hS ho k
  obtain ⟨hx, hb, -⟩ := hC
  unfold o_iu at ho
  split at ho
  · rename_i a st'
    cases ho
    have k := k H locs ls hS
    have e9 : am_rp ad (vI (f_neg a)) = .int (-am_i a) := congrArg _ (am_i_neg a)
    rw [List.map_cons, e9] at k
    exact lv_ineg hx hb hdg k
  · cases ho
theorem so_lneg (hdg : decode cc pc = .ok (.lneg, 1)) : am_ok Ts cc nL own pc (o_lu (pc + 1) f_neg) := by
  intro ad cA D sk Ns p l e R s m args below meth c H locs Q ls al st G cf hj hC hS ho k
  obtain ⟨hx, hb, -⟩ := hC
  unfold o_lu at ho
  split at ho
  · rename_i a st'
    cases ho
    have k := k H locs ls hS
    have e9 : am_rp ad (vL (f_neg a)) = .long (-am_l a) := congrArg _ (am_l_neg a)
    rw [List.map_cons, e9] at k
    exact lv_lneg hx hb hdg k
  · cases ho
theorem am_i2l (x : Int32) : x.toInt64 = am_l x.toInt := by
  apply Int64.toInt_inj.mp
  have h1 := fb_rng' x
  rw [Int32.toInt_toInt64, am_l, Int64.toInt_ofInt]
  have h2 : (Int64.size : Int) = 18446744073709551616 := rfl
  exact (Int.bmod_eq_of_le (by omega) (by omega)).symm
theorem am_l2i (a : Int) : (am_l a).toInt32 = am_i a := by
  rw [am_l, am_i]
  exact Int64.toInt32_ofInt
theorem so_i2l (hdg : decode cc pc = .ok (.i2l, 1)) : am_ok Ts cc nL own pc (o_i2l (pc + 1)) := by
  intro ad cA D sk Ns p l e R s m args below meth c H locs Q ls al st G cf hj hC hS ho k
  obtain ⟨hx, hb, -⟩ := hC
  unfold o_i2l at ho
  split at ho
  · rename_i a st'
    cases ho
    exact lv_i2l hx hb hdg (am_i2l _) (k H locs ls hS)
  · cases ho
theorem so_l2i (hdg : decode cc pc = .ok (.l2i, 1)) : am_ok Ts cc nL own pc (o_l2i (pc + 1)) := by
  intro ad cA D sk Ns p l e R s m args below meth c H locs Q ls al st G cf hj hC hS ho k
  obtain ⟨hx, hb, -⟩ := hC
  unfold o_l2i at ho
  split at ho
  · rename_i a st'
    cases ho
    exact lv_l2i hx hb hdg (am_l2i a) (k H locs ls hS)
  · cases ho
theorem so_lcmp (hdg : decode cc pc = .ok (.lcmp, 1)) : am_ok Ts cc nL own pc (o_lcmp (pc + 1)) := by
  intro ad cA D sk Ns p l e R s m args below meth c H locs Q ls al st G cf hj hC hS ho k
  obtain ⟨hx, hb, -⟩ := hC
  unfold o_lcmp at ho
  split at ho
  · rename_i b a st'
    cases ho
    have k := k H locs ls hS
    have e9 : am_rp ad (vI (lg_cmp (am_l a) (am_l b)).toInt) = .int (lg_cmp (am_l a) (am_l b)) := congrArg _ (am_i_t _)
    rw [List.map_cons, e9] at k
    exact W.lcmp hx hb hdg k
  · cases ho
theorem so_dup (hdg : decode cc pc = .ok (.dup, 1)) : am_ok Ts cc nL own pc (o_dup (pc + 1)) := by
  intro ad cA D sk Ns p l e R s m args below meth c H locs Q ls al st G cf hj hC hS ho k
  obtain ⟨hx, hb, -⟩ := hC
  unfold o_dup at ho
  split at ho
  · split at ho
    · rename_i v st' hv
      cases ho
      exact lv_dup hx hb hdg (am_rp_cat hv) (k H locs ls hS)
    · cases ho
  · cases ho
theorem so_dup2 (hdg : decode cc pc = .ok (.dup2, 1)) : am_ok Ts cc nL own pc (o_dup2 (pc + 1)) := by
  intro ad cA D sk Ns p l e R s m args below meth c H locs Q ls al st G cf hj hC hS ho k
  obtain ⟨hx, hb, -⟩ := hC
  unfold o_dup2 at ho
  split at ho
  · split at ho
    · split at ho
      · rename_i v w st' hv hw
        cases ho
        exact lv_dup2_11 hx hb hdg (am_rp_cat hv) (am_rp_cat hw) (k H locs ls hS)
      · cases ho
    · cases ho
  · cases ho
theorem so_pop (hdg : decode cc pc = .ok (.pop, 1)) : am_ok Ts cc nL own pc (o_pop (pc + 1)) := by
  intro ad cA D sk Ns p l e R s m args below meth c H locs Q ls al st G cf hj hC hS ho k
  obtain ⟨hx, hb, -⟩ := hC
  unfold o_pop at ho
  split at ho
  · split at ho
    · rename_i v st' hv
      cases ho
      exact lv_pop hx hb hdg (am_rp_cat hv) (k H locs ls hS)
    · cases ho
  · cases ho
def q_eq (x : Int32) : Bool := decide (x = 0)
def r_eq (x y : Int32) : Bool := decide (x = y)
theorem so_if_eq {off : Int} {t : Nat} (hdg : decode cc pc = .ok (.ifCond .eq off, 3)) (ht : (pc : Int) + off = (t : Int)) : am_ok Ts cc nL own pc (o_if t (pc + 3) q_eq) := by
  intro ad cA D sk Ns p l e R s m args below meth c H locs Q ls al st G cf hj hC hS ho k
  obtain ⟨hx, hb, -⟩ := hC
  unfold o_if at ho
  split at ho
  · rename_i a st'
    cases ho
    have k := k H locs ls hS
    refine lv_if_eq hx hb hdg ht (fun h => ?_) (fun h => ?_)
    · rw [if_pos (show q_eq (am_i a) = true from decide_eq_true h)] at k
      exact k
    · rw [if_neg (show ¬ q_eq (am_i a) = true from fun q => h (of_decide_eq_true q))] at k
      exact k
  · cases ho
theorem so_ic_eq {off : Int} {t : Nat} (hdg : decode cc pc = .ok (.if_icmp .eq off, 3)) (ht : (pc : Int) + off = (t : Int)) : am_ok Ts cc nL own pc (o_ic t (pc + 3) r_eq) := by
  intro ad cA D sk Ns p l e R s m args below meth c H locs Q ls al st G cf hj hC hS ho k
  obtain ⟨hx, hb, -⟩ := hC
  unfold o_ic at ho
  split at ho
  · rename_i b a st'
    cases ho
    have k := k H locs ls hS
    refine lv_icmp_eq hx hb hdg ht (fun h => ?_) (fun h => ?_)
    · rw [if_pos (show r_eq (am_i a) (am_i b) = true from decide_eq_true h)] at k
      exact k
    · rw [if_neg (show ¬ r_eq (am_i a) (am_i b) = true from fun q => h (of_decide_eq_true q))] at k
      exact k
  · cases ho
def q_ne (x : Int32) : Bool := decide (x ≠ 0)
def r_ne (x y : Int32) : Bool := decide (x ≠ y)
theorem so_if_ne {off : Int} {t : Nat} (hdg : decode cc pc = .ok (.ifCond .ne off, 3)) (ht : (pc : Int) + off = (t : Int)) : am_ok Ts cc nL own pc (o_if t (pc + 3) q_ne) := by
  intro ad cA D sk Ns p l e R s m args below meth c H locs Q ls al st G cf hj hC hS ho k
  obtain ⟨hx, hb, -⟩ := hC
  unfold o_if at ho
  split at ho
  · rename_i a st'
    cases ho
    have k := k H locs ls hS
    refine lv_if_ne hx hb hdg ht (fun h => ?_) (fun h => ?_)
    · rw [if_pos (show q_ne (am_i a) = true from decide_eq_true h)] at k
      exact k
    · rw [if_neg (show ¬ q_ne (am_i a) = true from fun q => absurd h (of_decide_eq_true q))] at k
      exact k
  · cases ho
theorem so_ic_ne {off : Int} {t : Nat} (hdg : decode cc pc = .ok (.if_icmp .ne off, 3)) (ht : (pc : Int) + off = (t : Int)) : am_ok Ts cc nL own pc (o_ic t (pc + 3) r_ne) := by
  intro ad cA D sk Ns p l e R s m args below meth c H locs Q ls al st G cf hj hC hS ho k
  obtain ⟨hx, hb, -⟩ := hC
  unfold o_ic at ho
  split at ho
  · rename_i b a st'
    cases ho
    have k := k H locs ls hS
    refine lv_icmp_ne hx hb hdg ht (fun h => ?_) (fun h => ?_)
    · rw [if_pos (show r_ne (am_i a) (am_i b) = true from decide_eq_true h)] at k
      exact k
    · rw [if_neg (show ¬ r_ne (am_i a) (am_i b) = true from fun q => absurd h (of_decide_eq_true q))] at k
      exact k
  · cases ho
def q_lt (x : Int32) : Bool := decide (x < 0)
def r_lt (x y : Int32) : Bool := decide (x < y)
theorem so_if_lt {off : Int} {t : Nat} (hdg : decode cc pc = .ok (.ifCond .lt off, 3)) (ht : (pc : Int) + off = (t : Int)) : am_ok Ts cc nL own pc (o_if t (pc + 3) q_lt) := by
  intro ad cA D sk Ns p l e R s m args below meth c H locs Q ls al st G cf hj hC hS ho k
  obtain ⟨hx, hb, -⟩ := hC
  unfold o_if at ho
  split at ho
  · rename_i a st'
    cases ho
    have k := k H locs ls hS
    refine lv_if_lt hx hb hdg ht (fun h => ?_) (fun h => ?_)
    · rw [if_pos (show q_lt (am_i a) = true from decide_eq_true h)] at k
      exact k
    · rw [if_neg (show ¬ q_lt (am_i a) = true from fun q => h (of_decide_eq_true q))] at k
      exact k
  · cases ho
theorem so_ic_lt {off : Int} {t : Nat} (hdg : decode cc pc = .ok (.if_icmp .lt off, 3)) (ht : (pc : Int) + off = (t : Int)) : am_ok Ts cc nL own pc (o_ic t (pc + 3) r_lt) := by
  intro ad cA D sk Ns p l e R s m args below meth c H locs Q ls al st G cf hj hC hS ho k
  obtain ⟨hx, hb, -⟩ := hC
  unfold o_ic at ho
  split at ho
  · rename_i b a st'
    cases ho
    have k := k H locs ls hS
    refine lv_icmp_lt hx hb hdg ht (fun h => ?_) (fun h => ?_)
    · rw [if_pos (show r_lt (am_i a) (am_i b) = true from decide_eq_true h)] at k
      exact k
    · rw [if_neg (show ¬ r_lt (am_i a) (am_i b) = true from fun q => h (of_decide_eq_true q))] at k
      exact k
  · cases ho
def q_ge (x : Int32) : Bool := decide (0 ≤ x)
def r_ge (x y : Int32) : Bool := decide (y ≤ x)
theorem so_if_ge {off : Int} {t : Nat} (hdg : decode cc pc = .ok (.ifCond .ge off, 3)) (ht : (pc : Int) + off = (t : Int)) : am_ok Ts cc nL own pc (o_if t (pc + 3) q_ge) := by
  intro ad cA D sk Ns p l e R s m args below meth c H locs Q ls al st G cf hj hC hS ho k
  obtain ⟨hx, hb, -⟩ := hC
  unfold o_if at ho
  split at ho
  · rename_i a st'
    cases ho
    have k := k H locs ls hS
    refine lv_if_ge hx hb hdg ht (fun h => ?_) (fun h => ?_)
    · rw [if_pos (show q_ge (am_i a) = true from decide_eq_true h)] at k
      exact k
    · rw [if_neg (show ¬ q_ge (am_i a) = true from fun q => h (of_decide_eq_true q))] at k
      exact k
  · cases ho
theorem so_ic_ge {off : Int} {t : Nat} (hdg : decode cc pc = .ok (.if_icmp .ge off, 3)) (ht : (pc : Int) + off = (t : Int)) : am_ok Ts cc nL own pc (o_ic t (pc + 3) r_ge) := by
  intro ad cA D sk Ns p l e R s m args below meth c H locs Q ls al st G cf hj hC hS ho k
  obtain ⟨hx, hb, -⟩ := hC
  unfold o_ic at ho
  split at ho
  · rename_i b a st'
    cases ho
    have k := k H locs ls hS
    refine lv_icmp_ge hx hb hdg ht (fun h => ?_) (fun h => ?_)
    · rw [if_pos (show r_ge (am_i a) (am_i b) = true from decide_eq_true h)] at k
      exact k
    · rw [if_neg (show ¬ r_ge (am_i a) (am_i b) = true from fun q => h (of_decide_eq_true q))] at k
      exact k
  · cases ho
def q_gt (x : Int32) : Bool := decide (0 < x)
def r_gt (x y : Int32) : Bool := decide (y < x)
theorem so_if_gt {off : Int} {t : Nat} (hdg : decode cc pc = .ok (.ifCond .gt off, 3)) (ht : (pc : Int) + off = (t : Int)) : am_ok Ts cc nL own pc (o_if t (pc + 3) q_gt) := by
  intro ad cA D sk Ns p l e R s m args below meth c H locs Q ls al st G cf hj hC hS ho k
  obtain ⟨hx, hb, -⟩ := hC
  unfold o_if at ho
  split at ho
  · rename_i a st'
    cases ho
    have k := k H locs ls hS
    refine lv_if_gt hx hb hdg ht (fun h => ?_) (fun h => ?_)
    · rw [if_pos (show q_gt (am_i a) = true from decide_eq_true h)] at k
      exact k
    · rw [if_neg (show ¬ q_gt (am_i a) = true from fun q => h (of_decide_eq_true q))] at k
      exact k
  · cases ho
theorem so_ic_gt {off : Int} {t : Nat} (hdg : decode cc pc = .ok (.if_icmp .gt off, 3)) (ht : (pc : Int) + off = (t : Int)) : am_ok Ts cc nL own pc (o_ic t (pc + 3) r_gt) := by
  intro ad cA D sk Ns p l e R s m args below meth c H locs Q ls al st G cf hj hC hS ho k
  obtain ⟨hx, hb, -⟩ := hC
  unfold o_ic at ho
  split at ho
  · rename_i b a st'
    cases ho
    have k := k H locs ls hS
    refine lv_icmp_gt hx hb hdg ht (fun h => ?_) (fun h => ?_)
    · rw [if_pos (show r_gt (am_i a) (am_i b) = true from decide_eq_true h)] at k
      exact k
    · rw [if_neg (show ¬ r_gt (am_i a) (am_i b) = true from fun q => h (of_decide_eq_true q))] at k
      exact k
  · cases ho
def q_le (x : Int32) : Bool := decide (x ≤ 0)
def r_le (x y : Int32) : Bool := decide (x ≤ y)
theorem so_if_le {off : Int} {t : Nat} (hdg : decode cc pc = .ok (.ifCond .le off, 3)) (ht : (pc : Int) + off = (t : Int)) : am_ok Ts cc nL own pc (o_if t (pc + 3) q_le) := by
  intro ad cA D sk Ns p l e R s m args below meth c H locs Q ls al st G cf hj hC hS ho k
  obtain ⟨hx, hb, -⟩ := hC
  unfold o_if at ho
  split at ho
  · rename_i a st'
    cases ho
    have k := k H locs ls hS
    refine lv_if_le hx hb hdg ht (fun h => ?_) (fun h => ?_)
    · rw [if_pos (show q_le (am_i a) = true from decide_eq_true h)] at k
      exact k
    · rw [if_neg (show ¬ q_le (am_i a) = true from fun q => h (of_decide_eq_true q))] at k
      exact k
  · cases ho
theorem so_ic_le {off : Int} {t : Nat} (hdg : decode cc pc = .ok (.if_icmp .le off, 3)) (ht : (pc : Int) + off = (t : Int)) : am_ok Ts cc nL own pc (o_ic t (pc + 3) r_le) := by
  intro ad cA D sk Ns p l e R s m args below meth c H locs Q ls al st G cf hj hC hS ho k
  obtain ⟨hx, hb, -⟩ := hC
  unfold o_ic at ho
  split at ho
  · rename_i b a st'
    cases ho
    have k := k H locs ls hS
    refine lv_icmp_le hx hb hdg ht (fun h => ?_) (fun h => ?_)
    · rw [if_pos (show r_le (am_i a) (am_i b) = true from decide_eq_true h)] at k
      exact k
    · rw [if_neg (show ¬ r_le (am_i a) (am_i b) = true from fun q => h (of_decide_eq_true q))] at k
      exact k
  · cases ho
theorem so_go {off : Int} {t : Nat} (hdg : decode cc pc = .ok (.goto off, 3)) (ht : (pc : Int) + off = (t : Int)) : am_ok Ts cc nL own pc (o_go t) := by
  intro ad cA D sk Ns p l e R s m args below meth c H locs Q ls al st G cf hj hC hS ho k
  obtain ⟨hx, hb, -⟩ := hC
  cases ho
  exact lv_goto hx hb hdg ht (k H locs ls hS)
def f_sw (pc : Nat) (dflt lo hi : Int) (offs : Array Int) (x : Int) : Nat := if x < lo ∨ hi < x then (pc + dflt).toNat else (pc + offs.getD (x - lo).toNat 0).toNat
theorem so_sw {dflt lo hi : Int} {offs : Array Int} {len : Nat} (hdg : decode cc pc = .ok (.tableswitch dflt lo hi offs, len)) (h1 : 0 ≤ (pc : Int) + dflt) (h2 : ∀ o ∈ offs.toList, 0 ≤ (pc : Int) + o) (h3 : hi - lo < offs.size) : am_ok Ts cc nL own pc (o_sw (f_sw pc dflt lo hi offs)) := by
  intro ad cA D sk Ns p l e R s m args below meth c H locs Q ls al st G cf hj hC hS ho k
  obtain ⟨hx, hb, -⟩ := hC
  unfold o_sw at ho
  split at ho
  · rename_i a st'
    cases ho
    have k := k H locs ls hS
    by_cases h : (am_i a).toInt < lo ∨ hi < (am_i a).toInt
    · refine lv_tableOut hx hb hdg h ?_ k
      show _ = ((f_sw pc dflt lo hi offs (am_i a).toInt : Nat) : Int)
      rw [f_sw, if_pos h]
      exact (Int.toNat_of_nonneg h1).symm
    · have hlt : ((am_i a).toInt - lo).toNat < offs.size := by omega
      refine lv_tableIn hx hb hdg (fun q => h (Or.inl q)) (fun q => h (Or.inr q)) (Array.getElem?_eq_getElem hlt) ?_ k
      show _ = ((f_sw pc dflt lo hi offs (am_i a).toInt : Nat) : Int)
      rw [f_sw, if_neg h, Array.getD_eq_getD_getElem?, Array.getElem?_eq_getElem hlt]
      exact (Int.toNat_of_nonneg (h2 _ (by simp))).symm
  · cases ho
def f_lk (pc : Nat) (dflt : Int) (ps : List (Int × Int)) (x : Int) : Nat := (pc + Op.lookupswitch.offset ps dflt x).toNat
theorem so_lk2 {dflt : Int} {ps : Array (Int × Int)} {len : Nat} (hdg : decode cc pc = .ok (.lookupswitch dflt ps, len)) (hp : (ps.toList.zip (ps.toList.drop 1)).all (fun (a, next) => a.1 < next.1) = true) (h0 : ∀ x, 0 ≤ (pc : Int) + Op.lookupswitch.offset ps.toList dflt x) : am_ok Ts cc nL own pc (o_sw (f_lk pc dflt ps.toList)) := by
  intro ad cA D sk Ns p l e R s m args below meth c H locs Q ls al st G cf hj hC hS ho k
  obtain ⟨hx, hb, -⟩ := hC
  unfold o_sw at ho
  split at ho
  · rename_i a st'
    cases ho
    exact lv_lookup hx hb hdg hp rfl (Int.toNat_of_nonneg (h0 _)).symm (k H locs ls hS)
  · cases ho
end AmOps2
end
section
/-! fields and rows -/
section AmOps3
variable {Ts : List Cond} {cc : ByteArray} {nL pc : Nat} {own : String}
theorem am_fl_at {ad : Nat → Nat} {g : Int → Int} {fl : List Nat} {f x : Nat} (h : fl[f]? = some x) : (fl.mapIdx (fun j x => am_fld ad g j x))[f]? = some (am_fld ad g f x) := by
  simp [List.getElem?_mapIdx, h]
/-- what the table of a class says -/
def am_cl (Ts : List Cond) (ci : Nat) (C : String) (T : u_T) (N : Nat) : Prop := classes[ci]? = some (C, T, N) ∧ (∀ w ∈ u_ws C T N, w ∈ Ts)
theorem so_gf {ix ci f N : Nat} {C : String} {T : u_T} (hc : am_cl Ts ci C T N) (hf : f < N) (hw : Cond.fieldLink own ix (T f).1 (T f).2.1 (T f).2.2.1 ∈ Ts) (hdg : decode cc pc = .ok (.getfield ix, 3)) : am_ok Ts cc nL own pc (o_gf (pc + 3) ci f) := by
  intro ad cA D sk Ns p l e R s m args below meth c H locs Q ls al st G cf hj hC hS ho k
  obtain ⟨hx, hb, -, hown, hts, -, hK, -⟩ := hC
  unfold o_gf at ho
  split at ho
  · rename_i a st'
    split at ho
    · rename_i c0 fl hsk
      split at ho
      · rename_i hci
        subst hci
        have he := am_wo_at (ad := ad) (cA := cA) (G := G) hsk
        split at ho
        · rename_i hfl
          cases ho
          exact va_get hx hb hts hc.2 hown hK hS.1 a he hc.1 f hf (hts _ hw) (fun _ h => h) (am_fl_at hfl) hdg (k H locs ls hS)
        · rename_i r hfl
          cases ho
          exact va_get hx hb hts hc.2 hown hK hS.1 a he hc.1 f hf (hts _ hw) (fun _ h => h) (am_fl_at hfl) hdg (k H locs ls hS)
        · cases ho
      · cases ho
    · cases ho
  · cases ho
theorem am_obj_set {ad : Nat → Nat} {G : AG} {a f : Nat} {fl : List Nat} {z : Int} (h : fl[f]? = some 0) : fl.mapIdx (fun j x => am_fld ad (am_up G a f z a) j x) = (fl.mapIdx (fun j x => am_fld ad (G a) j x)).set f (.int (am_i z)) := by
  refine List.ext_getElem? fun j => ?_
  by_cases e : j = f
  · subst e
    rw [am_fl_at h, List.getElem?_set_self (by rw [List.length_mapIdx]; exact (List.getElem?_eq_some_iff.mp h).1)]
    simp [am_fld, am_up]
  · rw [List.getElem?_set_ne (fun q => e q.symm), List.getElem?_mapIdx, List.getElem?_mapIdx]
    cases fl[j]? with
    | none => rfl
    | some x =>
      cases x with
      | zero => simp [am_fld, am_up, show ¬ (j : Int) = (f : Int) by omega]
      | succ r => simp [am_fld]
theorem so_pf {ix ci f N : Nat} {C : String} {T : u_T} {ty : Nat → FieldType} (hc : am_cl Ts ci C T N) (hty : ∀ k, k < N → parseFieldDescriptor (T k).2.2.1 = some (ty k)) (hnm : ∀ a, a < N → ∀ b, b < N → a ≠ b → (T a).2.1 ≠ (T b).2.1) (hf : f < N) (hi : ty f = .int) (hfin : (T f).2.2.2 = false) (hw : Cond.fieldLink own ix (T f).1 (T f).2.1 (T f).2.2.1 ∈ Ts) (hdg : decode cc pc = .ok (.putfield ix, 3)) : am_ok Ts cc nL own pc (o_pf (pc + 3) ci f) := by
  intro ad cA D sk Ns p l e R s m args below meth c H locs Q ls al st G cf hj hC hS ho k
  obtain ⟨hx, hb, -, hown, hts, -, hK, -⟩ := hC
  unfold o_pf at ho
  split at ho
  · rename_i z a st'
    split at ho
    · rename_i c0 fl hsk
      split at ho
      · rename_i hci
        subst hci
        have he := am_wo_at (ad := ad) (cA := cA) (G := G) hsk
        split at ho
        · rename_i hfl
          cases ho
          have hd : parseFieldDescriptor (T f).2.2.1 = some .int := by rw [← hi]; exact hty f hf
          refine va_put hx hb hts hc.2 ty hty hnm hown hK hS.1 (am_D hj G) hS.2.1 a he hc.1 f hf (hts _ hw) (fun _ h => h) hfin hd (v := .int (am_i z)) rfl rfl (by rw [List.length_mapIdx]; exact (List.getElem?_eq_some_iff.mp hfl).1) hdg (fun H1 locs1 hP1 _ hS1 => ?_)
          refine k H1 locs1 ls ⟨?_, hS1, hS.2.2⟩
          rw [am_wo_set (G' := am_up G a f z) hsk (congrArg Sum.inr (congrArg (Prod.mk c0) (am_obj_set hfl))) (fun b hb => am_up_ne G a f z b hb)] at hP1
          exact hP1
        · cases ho
      · cases ho
    · cases ho
  · cases ho
theorem am_ix {i : Int} {n : Nat} (h : am_in i n = true) (g : Int → Int) : g ((am_i i).toNatClampNeg : Int) = g (am_i i).toInt := by rw [am_clamp h]
theorem so_ia (hdg : decode cc pc = .ok (.iaload, 1)) : am_ok Ts cc nL own pc (o_ia (pc + 1)) := by
  intro ad cA D sk Ns p l e R s m args below meth c H locs Q ls al st G cf hj hC hS ho k
  obtain ⟨hx, hb, -, hown, hts, -, hK, -⟩ := hC
  unfold o_ia at ho
  split at ho
  · rename_i i a st'
    split at ho
    · rename_i len fl hsk
      split at ho
      · rename_i hin
        cases ho
        have he := am_wo_at (ad := ad) (cA := cA) (G := G) hsk
        have k := k H locs ls hS
        refine va_iald hx hb hK hS.1 a 0 he rfl (am_in_iff.mp hin) hdg ?_
        have e9 : am_rp ad (vI (G a (am_i i).toInt)) = .int (am_i (G a ((am_i i).toNatClampNeg : Int))) := by rw [am_clamp hin]; rfl
        rw [List.map_cons, e9] at k
        exact k
      · cases ho
    · cases ho
  · cases ho
theorem so_ba (hdg : decode cc pc = .ok (.baload, 1)) : am_ok Ts cc nL own pc (o_ba (pc + 1)) := by
  intro ad cA D sk Ns p l e R s m args below meth c H locs Q ls al st G cf hj hC hS ho k
  obtain ⟨hx, hb, -, hown, hts, -, hK, -⟩ := hC
  unfold o_ba at ho
  split at ho
  · rename_i i a st'
    split at ho
    · rename_i len fl hsk
      split at ho
      · rename_i hin
        cases ho
        have he := am_wo_at (ad := ad) (cA := cA) (G := G) hsk
        have k := k H locs ls hS
        refine va_zald hx hb hK hS.1 a 1 he rfl (am_in_iff.mp hin) hdg ?_
        have e9 : am_rp ad (vI (G a (am_i i).toInt)) = .int (am_i (G a ((am_i i).toNatClampNeg : Int))) := by rw [am_clamp hin]; rfl
        rw [List.map_cons, e9] at k
        exact k
      · cases ho
    · cases ho
  · cases ho
theorem so_la (hdg : decode cc pc = .ok (.laload, 1)) : am_ok Ts cc nL own pc (o_la (pc + 1)) := by
  intro ad cA D sk Ns p l e R s m args below meth c H locs Q ls al st G cf hj hC hS ho k
  obtain ⟨hx, hb, -, hown, hts, -, hK, hZ⟩ := hC
  unfold o_la at ho
  split at ho
  · rename_i i a st'
    split at ho
    · rename_i len fl hsk
      split at ho
      · rename_i hin
        cases ho
        have he := am_wo_at (ad := ad) (cA := cA) (G := G) hsk
        have k := k H locs ls hS
        refine va_lald hx hb hK hS.1 a 2 he rfl (am_in_iff.mp hin) hdg ?_
        have e9 : am_rp ad (vL (G a (am_i i).toInt)) = .long (am_l (G a ((am_i i).toNatClampNeg : Int))) := by rw [am_clamp hin]; rfl
        rw [List.map_cons, e9] at k
        exact k
      · cases ho
    · split at ho
      · rename_i ha
        subst ha
        split at ho
        · rename_i hin
          cases ho
          have k := k H locs ls hS
          refine va_tl hx hb hZ.2 hS.2.1 (am_in_iff.mp hin) rfl hdg ?_
          exact k
        · cases ho
      · cases ho
    · cases ho
  · cases ho
theorem am_aald {ad : Nat → Nat} {cA : Nat → ClassId} {D : va_G} {p : Program} {l : Launch} {e : Env} {R : Room} {s : State} {m : MethodId} {args : Array Value} {below : List Frame} {meth : Method} {c : Code} {H : Heap} {locs : List Loc} {Q : State → Prop} {ls : Array Slot} {rest : List Value} {ws : va_W} {a len t0 r : Nat} {cls : ClassId} {ty : FieldType} {fl : List Nat} {i : Int} (hx : p.tables.exec = Jvm.exec) (hb : c.code = cc) (hK : va_K D classes (am_tys cA) s) (hP : va_P D classes ws H) (he : ws[a]? = some (ad a, .inl (cls, len, .inr (.inr (.inr (.inr (fun j => (fl[j]?).map ad))))))) (ht : (am_tys cA)[t0]? = some (cls, ty)) (hty : ty.isReference = true) (hin : am_in i len = true) (hfl : fl[(am_i i).toInt.toNat]? = some r) (hdg : decode cc pc = .ok (.aaload, 1))
    (k : W p l e R s m args below meth c H locs 0 0 Q (F0 m (pc + 1) ls (.ref (ad r) :: rest))) : W p l e R s m args below meth c H locs 0 0 Q (F0 m pc ls (.int (am_i i) :: .ref (ad a) :: rest)) := by
  refine W.aald hx hb (hP a _ he) ((hK.2 t0 _ ht).1 len (fun j => va_rf ((fl[j]?).map ad))) hty (fun q => by cases q) (by show ¬ (_ ∨ (arrV _ _ _).slots.size ≤ _); rw [arrV_size]; exact am_in_iff.mp hin) (v := .ref (ad r)) ?_ rfl rfl hdg k
  show (arrV _ _ _).slots[_]? = _
  have h1 := (vp_in_iff.mp (am_in_iff.mp hin))
  have hlt : (am_i i).toInt.toNat < len := by omega
  refine (arrV_read cls (fun j => va_rf ((fl[j]?).map ad)) hlt).trans ?_
  rw [hfl]
  rfl
theorem so_aa (hdg : decode cc pc = .ok (.aaload, 1)) : am_ok Ts cc nL own pc (o_aa (pc + 1)) := by
  intro ad cA D sk Ns p l e R s m args below meth c H locs Q ls al st G cf hj hC hS ho k
  obtain ⟨hx, hb, -, hown, hts, -, hK, -⟩ := hC
  unfold o_aa at ho
  split at ho
  · rename_i i a st'
    split at ho
    · rename_i len fl hsk
      split at ho
      · rename_i hin
        split at ho
        · rename_i r hfl
          cases ho
          exact am_aald (t0 := 3) hx hb hK hS.1 (am_wo_at hsk) rfl rfl hin hfl hdg (k H locs ls hS)
        · cases ho
      · cases ho
    · rename_i len fl hsk
      split at ho
      · rename_i hin
        split at ho
        · rename_i r hfl
          cases ho
          exact am_aald (t0 := 4) hx hb hK hS.1 (am_wo_at hsk) rfl rfl hin hfl hdg (k H locs ls hS)
        · cases ho
      · cases ho
    · cases ho
  · cases ho
theorem am_updI {G : AG} {a n : Nat} {i z : Int} (h : am_in i n = true) : (fun j : Nat => am_i (am_up G a (am_i i).toInt z a j)) = upd (fun j : Nat => am_i (G a j)) (am_i i).toNatClampNeg (am_i z) := by
  funext j
  have h1 := am_clamp h
  unfold upd am_up
  by_cases e : j = (am_i i).toNatClampNeg
  · rw [if_pos e, if_pos rfl, if_pos (by rw [e, h1])]
  · rw [if_neg e, if_pos rfl, if_neg (fun q => e (by omega))]
theorem am_updL {G : AG} {a n : Nat} {i z : Int} (h : am_in i n = true) : (fun j : Nat => am_l (am_up G a (am_i i).toInt z a j)) = vp_updL (fun j : Nat => am_l (G a j)) (am_i i).toNatClampNeg (am_l z) := by
  funext j
  have h1 := am_clamp h
  unfold vp_updL am_up
  by_cases e : j = (am_i i).toNatClampNeg
  · rw [if_pos e, if_pos rfl, if_pos (by rw [e, h1])]
  · rw [if_neg e, if_pos rfl, if_neg (fun q => e (by omega))]
theorem so_iw (hdg : decode cc pc = .ok (.iastore, 1)) : am_ok Ts cc nL own pc (o_iw (pc + 1)) := by
  intro ad cA D sk Ns p l e R s m args below meth c H locs Q ls al st G cf hj hC hS ho k
  obtain ⟨hx, hb, -, hown, hts, -, hK, -⟩ := hC
  unfold o_iw at ho
  split at ho
  · rename_i z i a st'
    split at ho
    · rename_i len fl hsk
      split at ho
      · rename_i hin
        cases ho
        have he := am_wo_at (ad := ad) (cA := cA) (G := G) hsk
        refine va_iast hx hb hK hS.1 (am_D hj G) hS.2.1 a 0 he rfl (am_in_iff.mp hin) hdg (fun H1 locs1 hP1 _ hS1 => ?_)
        refine k H1 locs1 ls ⟨?_, hS1, hS.2.2⟩
        rw [am_wo_set (G' := am_up G a (am_i i).toInt z) hsk (by rw [← am_updI hin]; rfl) (fun b hb => am_up_ne G a _ z b hb)] at hP1
        exact hP1
      · cases ho
    · cases ho
  · cases ho
theorem so_bw (hdg : decode cc pc = .ok (.bastore, 1)) : am_ok Ts cc nL own pc (o_bw (pc + 1)) := by
  intro ad cA D sk Ns p l e R s m args below meth c H locs Q ls al st G cf hj hC hS ho k
  obtain ⟨hx, hb, -, hown, hts, -, hK, -⟩ := hC
  unfold o_bw at ho
  split at ho
  · rename_i z i a st'
    split at ho
    · rename_i len fl hsk
      split at ho
      · rename_i hin
        split at ho
        · rename_i hz
          cases ho
          have he := am_wo_at (ad := ad) (cA := cA) (G := G) hsk
          have e8 : vp_nar .boolean (am_i z) = am_i z := by rcases hz with rfl | rfl <;> rfl
          refine va_zast hx hb hK hS.1 (am_D hj G) hS.2.1 a 1 he rfl (am_in_iff.mp hin) hdg (fun H1 locs1 hP1 _ hS1 => ?_)
          refine k H1 locs1 ls ⟨?_, hS1, hS.2.2⟩
          try rw [e8] at hP1
          rw [am_wo_set (G' := am_up G a (am_i i).toInt z) hsk (by rw [← am_updI hin]; rfl) (fun b hb => am_up_ne G a _ z b hb)] at hP1
          exact hP1
        · cases ho
      · cases ho
    · cases ho
  · cases ho
theorem so_lw (hdg : decode cc pc = .ok (.lastore, 1)) : am_ok Ts cc nL own pc (o_lw (pc + 1)) := by
  intro ad cA D sk Ns p l e R s m args below meth c H locs Q ls al st G cf hj hC hS ho k
  obtain ⟨hx, hb, -, hown, hts, -, hK, -⟩ := hC
  unfold o_lw at ho
  split at ho
  · rename_i z i a st'
    split at ho
    · rename_i len fl hsk
      split at ho
      · rename_i hin
        cases ho
        have he := am_wo_at (ad := ad) (cA := cA) (G := G) hsk
        refine va_last hx hb hK hS.1 (am_D hj G) hS.2.1 a 2 he rfl (am_in_iff.mp hin) hdg (fun H1 locs1 hP1 _ hS1 => ?_)
        refine k H1 locs1 ls ⟨?_, hS1, hS.2.2⟩
        rw [am_wo_set (G' := am_up G a (am_i i).toInt z) hsk (by rw [← am_updL hin]; rfl) (fun b hb => am_up_ne G a _ z b hb)] at hP1
        exact hP1
      · cases ho
    · cases ho
  · cases ho
theorem so_len (hdg : decode cc pc = .ok (.arraylength, 1)) : am_ok Ts cc nL own pc (o_len (pc + 1)) := by
  intro ad cA D sk Ns p l e R s m args below meth c H locs Q ls al st G cf hj hC hS ho k
  obtain ⟨hx, hb, -, hown, hts, -, hK, -⟩ := hC
  unfold o_len at ho
  split at ho
  · rename_i a st'
    split at ho
    · rename_i len fl hsk
      cases ho
      exact va_alen hx hb hK hS.1 a 0 (am_wo_at hsk) rfl (by show Int32.ofNat len = am_i len; rfl) hdg (k H locs ls hS)
    · rename_i len fl hsk
      cases ho
      exact va_alen hx hb hK hS.1 a 2 (am_wo_at hsk) rfl (by show Int32.ofNat len = am_i len; rfl) hdg (k H locs ls hS)
    · cases ho
  · cases ho
end AmOps3
end
section
/-! a run of the small machine is a run of the machine -/
theorem am_args_mem {ad : Nat → Nat} : ∀ (as : List AV) (i0 i : Nat) (v : AV), (am_slots as)[i]? = some v → v ≠ vU → (i0 + i, am_rp ad v) ∈ lv_args i0 (as.map (am_rp ad))
  | [], i0, i, v, h, _ => by simp [am_slots] at h
  | .inr (.inl z) :: r, i0, i, v, h, hu => by
    show _ ∈ (i0, am_rp ad (vL z)) :: lv_args (i0 + 2) (r.map (am_rp ad))
    match i, h with
    | 0, h => cases h; exact List.mem_cons_self
    | 1, h => cases h; exact absurd rfl hu
    | i + 2, h =>
      have h2 := am_args_mem (ad := ad) r (i0 + 2) i v h hu
      rw [show i0 + (i + 2) = i0 + 2 + i by omega]
      exact List.mem_cons_of_mem _ h2
  | .inl z :: r, i0, i, v, h, hu => by
    show _ ∈ (i0, am_rp ad (vI z)) :: lv_args (i0 + 1) (r.map (am_rp ad))
    match i, h with
    | 0, h => cases h; exact List.mem_cons_self
    | i + 1, h =>
      have h2 := am_args_mem (ad := ad) r (i0 + 1) i v h hu
      rw [show i0 + (i + 1) = i0 + 1 + i by omega]
      exact List.mem_cons_of_mem _ h2
  | .inr (.inr none) :: r, i0, i, v, h, hu => by
    show _ ∈ (i0, am_rp ad vU) :: lv_args (i0 + 1) (r.map (am_rp ad))
    match i, h with
    | 0, h => cases h; exact List.mem_cons_self
    | i + 1, h =>
      have h2 := am_args_mem (ad := ad) r (i0 + 1) i v h hu
      rw [show i0 + (i + 1) = i0 + 1 + i by omega]
      exact List.mem_cons_of_mem _ h2
  | .inr (.inr (some a)) :: r, i0, i, v, h, hu => by
    show _ ∈ (i0, am_rp ad (vR a)) :: lv_args (i0 + 1) (r.map (am_rp ad))
    match i, h with
    | 0, h => cases h; exact List.mem_cons_self
    | i + 1, h =>
      have h2 := am_args_mem (ad := ad) r (i0 + 1) i v h hu
      rw [show i0 + (i + 1) = i0 + 1 + i by omega]
      exact List.mem_cons_of_mem _ h2
theorem am_sl_len {ad : Nat → Nat} : ∀ as : List AV, (lg_sl (as.map (am_rp ad))).length = (am_slots as).length
  | [] => rfl
  | .inr (.inl z) :: r => by
    have h := am_sl_len (ad := ad) r
    simp only [List.map_cons, am_slots, lg_sl, am_rp, Value.category, List.length_cons] at h ⊢
    simp [h]
  | .inl z :: r => by
    have h := am_sl_len (ad := ad) r
    simp only [List.map_cons, am_slots, lg_sl, am_rp, Value.category, List.length_cons] at h ⊢
    simp [h]
  | .inr (.inr none) :: r => by
    have h := am_sl_len (ad := ad) r
    simp only [List.map_cons, am_slots, lg_sl, am_rp, Value.category, List.length_cons] at h ⊢
    simp [h]
  | .inr (.inr (some a)) :: r => by
    have h := am_sl_len (ad := ad) r
    simp only [List.map_cons, am_slots, lg_sl, am_rp, Value.category, List.length_cons] at h ⊢
    simp [h]
theorem am_LR_ent {ad : Nat → Nat} {n : Nat} {as : List AV} (h : (am_slots as).length ≤ n) : am_LR ad n (am_ent n as) ((lg_sl (as.map (am_rp ad)) ++ List.replicate (n - (lg_sl (as.map (am_rp ad))).length) Slot.unset).toArray) := by
  have hl := lv_entry (as.map (am_rp ad)) (n := n) (by rw [am_sl_len]; exact h)
  refine ⟨hl.1, by simp [am_ent]; omega, hl.2.1, fun i v hv hu => ?_⟩
  have h1 : (am_slots as)[i]? = some v := by
    unfold am_ent at hv
    rw [List.getElem?_append] at hv
    split at hv
    · exact hv
    · rw [List.getElem?_replicate] at hv
      split at hv
      · cases hv; exact absurd rfl hu
      · cases hv
  have h2 := am_args_mem (ad := ad) as 0 i v h1 hu
  rw [Nat.zero_add] at h2
  exact hl.2.2 _ h2
/-- of a method in the machine: its name, its bytes, its locals, what it answers -/
abbrev MI : Type := Nat → MethodName × ByteArray × Nat × Option FieldType
def am_rt (q : Nat) : Option FieldType := match q with
  | 0 => none
  | 1 => some .int
  | 2 => some .boolean
  | _ => some .long
/-- what a contract says of the end -/
def am_Q (ad : Nat → Nat) (cA : Nat → ClassId) (D : va_G) (sk : SK) (r : Option AV) (G : AG) : Array Value → State → Outcome → State → Prop := match r with
  | some (.inl z) => va_Qi (fun (x : Int32) (_ : Unit) => x = am_i z) (fun _ t => va_P D classes (am_wo ad cA sk G) t.heap) (am_A ad sk)
  | some (.inr (.inl z)) => va_Ql (fun (x : Int64) (_ : Unit) => x = am_l z) (fun _ t => va_P D classes (am_wo ad cA sk G) t.heap) (am_A ad sk)
  | none => va_Qv (fun (_ : Unit) => True) (fun _ t => va_P D classes (am_wo ad cA sk G) t.heap) (am_A ad sk)
  | _ => fun _ _ _ _ => False
def am_P (ad : Nat → Nat) (cA : Nat → ClassId) (D : va_G) (sk : SK) (Ns : NS) (as : List AV) (G : AG) : Array Value → State → Prop := va_Pc (as.map (am_rp ad)) (fun U => va_P D classes (am_wo ad cA sk G) U.heap ∧ va_K D classes (am_tys cA) U ∧ (∀ q ∈ Ns, va_Nw (.methodLinkNest q.1 q.2.1 q.2.2.1 q.2.2.2) U) ∧ am_Z ad (am_A ad sk) U U.heap)
def am_room (d : Nat) : Room := { frames := d, cells := 0, slots := 0, locals := 60 * d }
/-- what is to be known of a call -/
def am_okc (mi : MI) (mt : MT) (Ts : List Cond) (Ns : NS) (cc : ByteArray) (own : String) (pc j na : Nat) : Prop :=
  ∃ ix : Nat, ((mi j).1.cls ≠ "java/lang/invoke/MethodHandle" ∧ (mi j).1.cls ≠ "java/lang/invoke/VarHandle" ∧ plainName (mi j).1.cls = true) ∧ Cond.code (mi j).1 (mi j).2.1 (mi j).2.2.1 (mi j).2.2.2 ∈ Ts ∧ Cond.initialized (mi j).1.cls ∈ Ts ∧ (mi j).2.2.1 ≤ 40 ∧
    (((mt j).2.2.2 = 0 ∧ decode cc pc = .ok (.invokestatic ix, 3) ∧ Cond.static (mi j).1 ∈ Ts ∧ (parseMethodDescriptor (mi j).1.desc).map (fun d => d.parameters.length) = some na ∧ (Cond.methodLink own ix (mi j).1 ∈ Ts ∨ ∃ host, (own, ix, (mi j).1, host) ∈ Ns)) ∨
     (∃ (ci nb : Nat) (T : u_T) (N : Nat), (mt j).2.2.2 = ci + 1 ∧ na = nb + 1 ∧ classes[ci]? = some ((mi j).1.cls, T, N) ∧ decode cc pc = .ok (.invokevirtual ix, 3) ∧ Cond.instanceMethod (mi j).1 ∈ Ts ∧ Cond.selects (mi j).1.cls (mi j).1 (mi j).1 ∈ Ts ∧ Cond.methodLink own ix (mi j).1 ∈ Ts ∧ (parseMethodDescriptor (mi j).1.desc).map (fun d => d.parameters.length) = some nb))
def am_okr (cc : ByteArray) (pc q : Nat) : Prop := match q with
  | 0 => decode cc pc = .ok (.return_, 1)
  | 1 => decode cc pc = .ok (.ireturn, 1)
  | 2 => decode cc pc = .ok (.ireturn, 1)
  | _ => decode cc pc = .ok (.lreturn, 1)
def am_okI (mi : MI) (mt : MT) (Ts : List Cond) (Ns : NS) (k pc : Nat) (i : IN) : Prop := match i with
  | .inl op => am_ok Ts (mi k).2.1 (mi k).2.2.1 (mi k).1.cls pc op
  | .inr (.inl (j, na)) => am_okc mi mt Ts Ns (mi k).2.1 (mi k).1.cls pc j na
  | .inr (.inr ()) => am_okr (mi k).2.1 pc (mt k).2.2.1
def am_okT (mi : MI) (mt : MT) (Ts : List Cond) (Ns : NS) : Prop := ∀ k pc i, am_at (mt k).1 pc = some i → (mi k).2.2.1 = (mt k).2.1 ∧ (mi k).2.2.2 = am_rt (mt k).2.2.1 ∧ am_okI mi mt Ts Ns k pc i
theorem am_blind {ad : Nat → Nat} {cA : Nat → ClassId} {D : va_G} {sk : SK} {Ns : NS} {as : List AV} {G : AG} : FrameBlind (am_P ad cA D sk Ns as G) := by
  intro a U g mk q
  obtain ⟨q0, q1, q2, q3, q4⟩ := q
  exact ⟨q0, q1, va_K.moved (u := U) (U := U.calling g mk a) (Vm.Alike.refl U.vm) q2, fun w hw => va_Nw.same rfl (u := U) (U := U.calling g mk a) rfl (q3 w hw), va_Z.moved (u := U) (U := U.calling g mk a) (Vm.Alike.refl U.vm) q4.1, va_T.moved (u := U) (U := U.calling g mk a) (Vm.Alike.refl U.vm) q4.2⟩
end
section
theorem am_cats_eq {ad : Nat → Nat} : ∀ l : List AV, ((l.map (am_rp ad)).map fun v => v.category).sum = am_cats l
  | [] => rfl
  | .inl z :: r => by simp only [List.map_cons, List.sum_cons, am_cats, am_cats_eq r]; rfl
  | .inr (.inl z) :: r => by simp only [List.map_cons, List.sum_cons, am_cats, am_cats_eq r]; rfl
  | .inr (.inr none) :: r => by simp only [List.map_cons, List.sum_cons, am_cats, am_cats_eq r]; rfl
  | .inr (.inr (some a)) :: r => by simp only [List.map_cons, List.sum_cons, am_cats, am_cats_eq r]; rfl
/-- the statement of n steps -/
def am_SW (mi : MI) (mt : MT) (Ts : List Cond) (Ns : NS) (ad : Nat → Nat) (cA : Nat → ClassId) (D : va_G) (sk : SK) (n : Nat) : Prop :=
  ∀ (d k pc : Nat) (al st : List AV) (G : AG) (r : Option AV) (G' : AG), am_run mt sk n d k pc al st G = some (r, G') →
    ∀ (p : Program) (l : Launch) (e : Env) (R : Room) (s : State) (m : MethodId) (args : Array Value) (below : List Frame) (meth : Method) (c : Code) (H : Heap) (locs : List Loc) (ls : Array Slot),
      am_Cx ad cA D sk Ts Ns p s m args c (mi k).2.1 (mi k).2.2.1 (mi k).1.cls → am_St ad cA D sk s (mi k).2.2.1 al G H locs ls → meth.sig.returnType = (mi k).2.2.2 → meth.locks = false → d ≤ R.frames ∧ 60 * d ≤ R.locals →
      W p l e R s m args below meth c H locs 0 0 (MQ below (am_Q ad cA D sk r G') args s 0 0 (am_A ad sk)) (F0 m pc ls (st.map (am_rp ad)))
section AmSound
variable {mi : MI} {mt : MT} {Ts : List Cond} {Ns : NS} {ad : Nat → Nat} {cA : Nat → ClassId} {D : va_G} {sk : SK}
theorem am_met_of {n : Nat} (h : am_SW mi mt Ts Ns ad cA D sk n) (l : Launch) {d j : Nat} {as : List AV} {G : AG} {r : Option AV} {G' : AG} (hr : am_run mt sk n d j 0 (am_ent (mi j).2.2.1 as) [] G = some (r, G')) (hs : (am_slots as).length ≤ (mi j).2.2.1) (hy : plainName (mi j).1.cls = true) :
    Met l (mi j).1 (Cond.code (mi j).1 (mi j).2.1 (mi j).2.2.1 (mi j).2.2.2 :: Ts) (am_room d) (am_P ad cA D sk Ns as G) (am_Q ad cA D sk r G') 0 0 (am_A ad sk) := by
  refine Met.ofW (cc := (mi j).2.1) (maxL := (mi j).2.2.1) (ret := (mi j).2.2.2) hy rfl ?_
  intro p e s m args below meth c s₁ B hml hv
  obtain ⟨rfl, hP, hK, hN, hZ⟩ := hv
  have hts := atoms_spec (ws := Cond.code (mi j).1 (mi j).2.1 (mi j).2.2.1 (mi j).2.2.2 :: Ts) B.pre
  rw [lg_entry_eq]
  exact h d j 0 _ [] G r G' hr p l e (am_room d) s m _ below meth c s.heap [] _ ⟨B.exec, B.bytes, hml, findClass_of_methodNamed B.named, fun w hw => hts w (List.mem_cons_of_mem _ hw), hN, hK, hZ⟩ ⟨hP, va_S.rf, am_LR_ent hs⟩ B.returns B.notSynchronized ⟨Nat.le_refl _, Nat.le_refl _⟩
theorem am_Zk {s U : State} {H : Heap} {locs : List Loc} {A : Nat → Prop} (hZ : am_Z ad A s s.heap) (hS : va_S A s.heap H locs) (hU : U.heap = H) (hW : s.WarmedH U.vm) : am_Z ad A U U.heap := by
  rw [hU]
  exact ⟨va_Z.moved hW.alike (hZ.1.kept hS.2.1), va_T.moved hW.alike (hZ.2.kept hS.2.1)⟩
theorem am_call {n : Nat} (ih : am_SW mi mt Ts Ns ad cA D sk n) {d' k pc na : Nat} {al st : List AV} {r r' : Option AV} {G1 G' : AG} (h2 : am_run mt sk n (d' + 1) k (pc + 3) al (r'.toList ++ st.drop na) G1 = some (r, G'))
    {p : Program} {l : Launch} {e : Env} {R : Room} {s : State} {m : MethodId} {args : Array Value} {below : List Frame} {meth : Method} {c : Code} {H : Heap} {locs : List Loc} {ls : Array Slot} {a : Array Value} {stk : List Value}
    (hC : am_Cx ad cA D sk Ts Ns p s m args c (mi k).2.1 (mi k).2.2.1 (mi k).1.cls) {G : AG} (hS : am_St ad cA D sk s (mi k).2.2.1 al G H locs ls) (hret : meth.sig.returnType = (mi k).2.2.2) (hlk : meth.locks = false) (hR : d' + 1 ≤ R.frames ∧ 60 * (d' + 1) ≤ R.locals)
    (hrun : va_Run p l e R s m args below meth c H locs 0 0 0 0 (F0 m pc ls stk) ((st.drop na).map (am_rp ad)) (am_Q ad cA D sk r' G1 a) (am_A ad sk)) :
    W p l e R s m args below meth c H locs 0 0 (MQ below (am_Q ad cA D sk r G') args s 0 0 (am_A ad sk)) (F0 m pc ls stk) := by
  rcases r' with _ | z | z | _ | b
  · exact va_callv (a := a) hrun hS.2.1 (fun _ _ h => h) (fun _ h => h) (fun u t H1 locs1 ht hvm hw hB hz hk hS1 => ih _ _ _ _ _ _ _ _ h2 p l e R s m args below meth c H1 locs1 ls hC ⟨by rw [← ht]; exact hB, hS1, hS.2.2⟩ hret hlk hR)
  · refine va_calli hrun hS.2.1 (fun _ _ h => h) (fun _ h => h) (fun x u t H1 locs1 ht hvm hw hB hz hk hS1 => ?_)
    have hw : x = am_i z := hw
    subst hw
    exact ih _ _ _ _ _ _ _ _ h2 p l e R s m args below meth c H1 locs1 ls hC ⟨by rw [← ht]; exact hB, hS1, hS.2.2⟩ hret hlk hR
  · refine va_calll hrun hS.2.1 (fun _ _ h => h) (fun _ h => h) (fun x u t H1 locs1 ht hvm hw hB hz hk hS1 => ?_)
    have hw : x = am_l z := hw
    subst hw
    exact ih _ _ _ _ _ _ _ _ h2 p l e R s m args below meth c H1 locs1 ls hC ⟨by rw [← ht]; exact hB, hS1, hS.2.2⟩ hret hlk hR
  · intro T hT X
    obtain ⟨v, st₀, t, T', L, h0, X', hL, e1, e2, hf, st⟩ := hrun T hT X
    exact hf.elim
  · intro T hT X
    obtain ⟨v, st₀, t, T', L, h0, X', hL, e1, e2, hf, st⟩ := hrun T hT X
    exact hf.elim
theorem am_sound (hT : am_okT mi mt Ts Ns) (hg : ∀ w ∈ Ts, goodWord w = true) (hj : am_inj ad sk) : ∀ n, am_SW mi mt Ts Ns ad cA D sk n := by
  intro n
  induction n with
  | zero =>
    intro d k pc al st G r G' h
    simp [am_run] at h
  | succ n ih =>
    intro d k pc al st G r G' h p l e R s m args below meth c H locs ls hC hS hret hlk hR
    unfold am_run at h
    split at h
    · cases h
    · rename_i op hat
      obtain ⟨-, -, hok⟩ := hT k pc _ hat
      split at h
      · cases h
      · rename_i pc' ls' st' G1 hop
        exact hok ad cA D sk Ns p l e R s m args below meth c H locs _ ls al st G _ hj hC hS hop (fun H' locs' ls'' hS' => ih _ _ _ _ _ _ _ _ h p l e R s m args below meth c H' locs' ls'' hC hS' hret hlk hR)
    · rename_i j na hat
      obtain ⟨-, -, hok⟩ := hT k pc _ hat
      obtain ⟨ix, ⟨hy1, hy2, hy3⟩, hcode, hini, hml, hcase⟩ := hok
      split at h
      · cases h
      · rename_i d'
        split at h
        · rename_i hc
          obtain ⟨hna, hcat, hrecv, -, hslots⟩ := hc
          split at h
          · cases h
          · rename_i r' G1 h1
            obtain ⟨hx, hb, hmx, hown, hts, hN, hK, hZ⟩ := id hC
            have hmj : (mi j).2.2.1 = (mt j).2.1 := by
              cases n with
              | zero => simp [am_run] at h1
              | succ n =>
                cases ha : am_at (mt j).1 0 with
                | none => simp [am_run, ha] at h1
                | some i => exact (hT j 0 i ha).1
            rw [← hmj] at h1 hslots
            have hM := am_met_of ih l h1 hslots hy3
            have hGood : GoodIn Ts (Cond.code (mi j).1 (mi j).2.1 (mi j).2.2.1 (mi j).2.2.2 :: Ts) := by
              intro w hw
              rcases List.mem_cons.mp hw with rfl | hw
              · exact ⟨hcode, good_of_word (hg _ hcode)⟩
              · exact ⟨hw, good_of_word (hg _ hw)⟩
            have hRm : (am_room d').frames + 1 ≤ R.frames ∧ 8 + ((mi j).2.2.1 + 11) + (am_room d').locals ≤ R.locals := ⟨hR.1, by show 8 + ((mi j).2.2.1 + 11) + 60 * d' ≤ R.locals; omega⟩
            have hroom : (((st.drop na).map (am_rp ad)).map fun v => v.category).sum ≤ 8 := by rw [am_cats_eq]; exact hcat
            have hpre : ∀ U : State, U.heap = H → s.WarmedH U.vm → am_P ad cA D sk Ns (st.take na).reverse G (((st.take na).reverse).map (am_rp ad)).toArray U := fun U hU hW => ⟨rfl, by rw [hU]; exact hS.1, va_K.moved hW.alike hK, fun q hq => va_Nw.warmM hW (hN q hq), am_Zk hZ hS.2.1 hU hW⟩
            refine am_call (na := na) ih h hC hS hret hlk hR (a := (((st.take na).reverse).map (am_rp ad)).toArray) ?_
            rcases hcase with ⟨-, hdg, hstat, hpar, hlink⟩ | ⟨ci, nb, T, N, hq, hnb, hcl, hdg, hinst, hsel, hlink, hpar⟩
            · have hstack : st.map (am_rp ad) = (((st.take na).reverse).map (am_rp ad)).reverse ++ (st.drop na).map (am_rp ad) := by
                rw [List.map_reverse, List.reverse_reverse, ← List.map_append, List.take_append_drop]
              have hlen : (((st.take na).reverse).map (am_rp ad)).length = na := by simp; omega
              rcases hlink with hlink | ⟨host, hlink⟩
              · exact va_runS ⟨hx, hb, hmx, hown, hts⟩ hM ⟨callB_of na hts hGood rfl rfl rfl (hts _ hini) (hts _ hlink) ⟨hy1, hy2, hpar⟩ hRm, hts _ hstat⟩ ⟨am_blind, hpre⟩ rfl hlen hS.2.2.1 hstack (lv_room hroom) hdg ⟨Nat.zero_le _, Nat.zero_le _⟩
              · exact va_runSN ⟨hx, hb, hmx, hown, hts⟩ hM ⟨va_cnB na hts hGood rfl rfl rfl (hN _ hlink) (hts _ hini) ⟨hy1, hy2, hpar⟩ hRm, hts _ hstat, trivial⟩ ⟨am_blind, hpre⟩ rfl hlen hS.2.2.1 hstack (lv_room hroom) hdg ⟨Nat.zero_le _, Nat.zero_le _⟩
            · rw [hq] at hrecv
              cases has : (st.take na).reverse with
              | nil => rw [has] at hrecv; simp [am_recv] at hrecv
              | cons v as =>
                rw [has] at hrecv hpre hM
                rcases v with z | z | _ | b
                · simp [am_recv] at hrecv
                · simp [am_recv] at hrecv
                · simp [am_recv] at hrecv
                · simp only [am_recv] at hrecv
                  split at hrecv
                  · rename_i c0 fl hsk
                    have hc0 := of_decide_eq_true hrecv
                    subst hc0
                    have hlen : (as.map (am_rp ad)).length = nb := by
                      have h5 := congrArg List.length has
                      simp at h5
                      simp
                      omega
                    have hstack : st.map (am_rp ad) = (as.map (am_rp ad)).reverse ++ .ref (ad b) :: (st.drop na).map (am_rp ad) := by
                      have h5 : st.take na = (as.reverse ++ [vR b] : List AV) := by
                        have h6 := congrArg List.reverse has
                        rw [List.reverse_reverse, List.reverse_cons] at h6
                        exact h6
                      conv => lhs; rw [← List.take_append_drop na st, h5]
                      simp [am_rp]
                    have hcw : CallW R s args (mi k).1.cls (mi j).1.cls ix (mi j).1 (mi j).2.1 (mi j).2.2.1 (mi j).2.2.2 (Cond.code (mi j).1 (mi j).2.1 (mi j).2.2.1 (mi j).2.2.2 :: Ts) (am_room d') 0 0 nb := ⟨callB_of nb hts hGood rfl rfl rfl (hts _ hini) (hts _ hlink) ⟨hy1, hy2, hpar⟩ hRm, hts _ hinst, hts _ hsel⟩
                    exact va_runV ⟨hx, hb, hmx, hown, hts⟩ hM hcw ⟨am_blind, va_recv hK hS.1 hcl (am_wo_at hsk), hpre⟩ rfl hlen hS.2.2.1 hstack (lv_room hroom) hdg ⟨Nat.zero_le _, Nat.zero_le _⟩
                  · cases hrecv
        · cases h
    · rename_i hat
      obtain ⟨-, hrt, hok⟩ := hT k pc _ hat
      obtain ⟨hx, hb, -⟩ := id hC
      split at h
      · cases h
      · rename_i r0 hr0
        cases h
        rw [hrt] at hret
        have hok : am_okr (mi k).2.1 pc (mt k).2.2.1 := hok
        generalize (mt k).2.2.1 = q at hr0 hok hret
        unfold am_ret at hr0
        split at hr0
        · cases hr0
          exact W.vret hx hb hret (fun t ht hW => ⟨⟨(), rfl, trivial, by show va_P D classes (am_wo ad cA sk G) t.heap; rw [ht]; exact hS.1⟩, hS.2.1.F ht⟩) hS.2.1.2.2 hok hlk
        · rename_i z
          cases hr0
          exact W.iret (v := am_i z) hx hb hret (fun t ht hW => ⟨⟨am_i z, (), rfl, rfl, by show va_P D classes (am_wo ad cA sk G) t.heap; rw [ht]; exact hS.1⟩, hS.2.1.F ht⟩) hS.2.1.2.2 hok hlk
        · rename_i z
          split at hr0
          · rename_i hz
            cases hr0
            exact W.zret (v := am_i z) hx hb hret (by rcases hz with rfl | rfl <;> rfl) (fun t ht hW => ⟨⟨am_i z, (), rfl, rfl, by show va_P D classes (am_wo ad cA sk G) t.heap; rw [ht]; exact hS.1⟩, hS.2.1.F ht⟩) hS.2.1.2.2 hok hlk
          · cases hr0
        · rename_i z
          cases hr0
          exact W.lret (v := am_l z) hx hb hret (fun t ht hW => ⟨⟨am_l z, (), rfl, rfl, by show va_P D classes (am_wo ad cA sk G) t.heap; rw [ht]; exact hS.1⟩, hS.2.1.F ht⟩) hS.2.1.2.2 hok hlk
        · cases hr0
end AmSound
end
