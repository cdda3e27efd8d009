section
-- ===== PART A: goes FIRST, ahead of the names: the tables' words, and 'selects' of the private methods out of them =====
/-- a private method of a class that the tables say can be made, by its rows of tables_1 -/
def lw_okq (q : MethodName × Nat) : Prop := (q.1.cls ≠ "java/lang/invoke/MethodHandle" ∧ q.1.cls ≠ "java/lang/invoke/VarHandle") ∧ Cond.instantiable q.1.cls q.2 ∈ tables_1 ∧ Cond.privateMethod q.1 ∈ tables_1 ∧ Cond.instanceMethod q.1 ∈ tables_1
theorem lw_p0 : lw_okq (⟨"MoverRoom$Floor", "chart", "()V"⟩, 7) := ⟨⟨by decide +kernel, by decide +kernel⟩, List.mem_of_getElem? (i := 20) (by decide +kernel), List.mem_of_getElem? (i := 32) (by decide +kernel), List.mem_of_getElem? (i := 33) (by decide +kernel)⟩
theorem lw_p1 : lw_okq (⟨"MoverRoom$Floor", "chartCell", "(II)V"⟩, 7) := ⟨⟨by decide +kernel, by decide +kernel⟩, List.mem_of_getElem? (i := 20) (by decide +kernel), List.mem_of_getElem? (i := 36) (by decide +kernel), List.mem_of_getElem? (i := 37) (by decide +kernel)⟩
theorem lw_p2 : lw_okq (⟨"MoverRoom$Floor", "addStep", "(II)V"⟩, 7) := ⟨⟨by decide +kernel, by decide +kernel⟩, List.mem_of_getElem? (i := 20) (by decide +kernel), List.mem_of_getElem? (i := 40) (by decide +kernel), List.mem_of_getElem? (i := 41) (by decide +kernel)⟩
theorem lw_p3 : lw_okq (⟨"MoverRoom$Crew", "measure", "(I[I)V"⟩, 8) := ⟨⟨by decide +kernel, by decide +kernel⟩, List.mem_of_getElem? (i := 83) (by decide +kernel), List.mem_of_getElem? (i := 283) (by decide +kernel), List.mem_of_getElem? (i := 284) (by decide +kernel)⟩
theorem lw_p4 : lw_okq (⟨"MoverRoom$Crew", "spreadCounts", "()V"⟩, 8) := ⟨⟨by decide +kernel, by decide +kernel⟩, List.mem_of_getElem? (i := 83) (by decide +kernel), List.mem_of_getElem? (i := 316) (by decide +kernel), List.mem_of_getElem? (i := 317) (by decide +kernel)⟩
theorem lw_p5 : lw_okq (⟨"MoverRoom$Crew", "countsBeside", "(I)J"⟩, 8) := ⟨⟨by decide +kernel, by decide +kernel⟩, List.mem_of_getElem? (i := 83) (by decide +kernel), List.mem_of_getElem? (i := 321) (by decide +kernel), List.mem_of_getElem? (i := 322) (by decide +kernel)⟩
theorem lw_p6 : lw_okq (⟨"MoverRoom$Planner", "begin", "()V"⟩, 11) := ⟨⟨by decide +kernel, by decide +kernel⟩, List.mem_of_getElem? (i := 124) (by decide +kernel), List.mem_of_getElem? (i := 338) (by decide +kernel), List.mem_of_getElem? (i := 339) (by decide +kernel)⟩
theorem lw_p7 : lw_okq (⟨"MoverRoom$Planner", "canEnd", "(II)Z"⟩, 11) := ⟨⟨by decide +kernel, by decide +kernel⟩, List.mem_of_getElem? (i := 124) (by decide +kernel), List.mem_of_getElem? (i := 347) (by decide +kernel), List.mem_of_getElem? (i := 348) (by decide +kernel)⟩
theorem lw_p8 : lw_okq (⟨"MoverRoom$Planner", "startSearch", "(III)I"⟩, 11) := ⟨⟨by decide +kernel, by decide +kernel⟩, List.mem_of_getElem? (i := 124) (by decide +kernel), List.mem_of_getElem? (i := 351) (by decide +kernel), List.mem_of_getElem? (i := 352) (by decide +kernel)⟩
theorem lw_p9 : lw_okq (⟨"MoverRoom$Planner", "homeSince", "(II)I"⟩, 11) := ⟨⟨by decide +kernel, by decide +kernel⟩, List.mem_of_getElem? (i := 124) (by decide +kernel), List.mem_of_getElem? (i := 358) (by decide +kernel), List.mem_of_getElem? (i := 359) (by decide +kernel)⟩
theorem lw_p10 : lw_okq (⟨"MoverRoom$Planner", "wayLeft", "(II)I"⟩, 11) := ⟨⟨by decide +kernel, by decide +kernel⟩, List.mem_of_getElem? (i := 124) (by decide +kernel), List.mem_of_getElem? (i := 362) (by decide +kernel), List.mem_of_getElem? (i := 363) (by decide +kernel)⟩
theorem lw_p11 : lw_okq (⟨"MoverRoom$Planner", "reachesEnd", "(II)Z"⟩, 11) := ⟨⟨by decide +kernel, by decide +kernel⟩, List.mem_of_getElem? (i := 124) (by decide +kernel), List.mem_of_getElem? (i := 366) (by decide +kernel), List.mem_of_getElem? (i := 367) (by decide +kernel)⟩
theorem lw_p12 : lw_okq (⟨"MoverRoom$Planner", "stateAt", "(I)I"⟩, 11) := ⟨⟨by decide +kernel, by decide +kernel⟩, List.mem_of_getElem? (i := 124) (by decide +kernel), List.mem_of_getElem? (i := 370) (by decide +kernel), List.mem_of_getElem? (i := 371) (by decide +kernel)⟩
theorem lw_p13 : lw_okq (⟨"MoverRoom$Levels", "shiftOf", "(I)I"⟩, 1) := ⟨⟨by decide +kernel, by decide +kernel⟩, List.mem_of_getElem? (i := 130) (by decide +kernel), List.mem_of_getElem? (i := 378) (by decide +kernel), List.mem_of_getElem? (i := 379) (by decide +kernel)⟩
theorem lw_p14 : lw_okq (⟨"MoverRoom$Planner", "reachesEndMoving", "(IIII)Z"⟩, 11) := ⟨⟨by decide +kernel, by decide +kernel⟩, List.mem_of_getElem? (i := 124) (by decide +kernel), List.mem_of_getElem? (i := 382) (by decide +kernel), List.mem_of_getElem? (i := 383) (by decide +kernel)⟩
theorem lw_p15 : lw_okq (⟨"MoverRoom$Planner", "layOut", "()V"⟩, 11) := ⟨⟨by decide +kernel, by decide +kernel⟩, List.mem_of_getElem? (i := 124) (by decide +kernel), List.mem_of_getElem? (i := 395) (by decide +kernel), List.mem_of_getElem? (i := 396) (by decide +kernel)⟩
def lw_privs_1 : List (MethodName × Nat) := [(⟨"MoverRoom$Floor", "chart", "()V"⟩, 7), (⟨"MoverRoom$Floor", "chartCell", "(II)V"⟩, 7), (⟨"MoverRoom$Floor", "addStep", "(II)V"⟩, 7), (⟨"MoverRoom$Crew", "measure", "(I[I)V"⟩, 8), (⟨"MoverRoom$Crew", "spreadCounts", "()V"⟩, 8), (⟨"MoverRoom$Crew", "countsBeside", "(I)J"⟩, 8), (⟨"MoverRoom$Planner", "begin", "()V"⟩, 11), (⟨"MoverRoom$Planner", "canEnd", "(II)Z"⟩, 11), (⟨"MoverRoom$Planner", "startSearch", "(III)I"⟩, 11), (⟨"MoverRoom$Planner", "homeSince", "(II)I"⟩, 11), (⟨"MoverRoom$Planner", "wayLeft", "(II)I"⟩, 11), (⟨"MoverRoom$Planner", "reachesEnd", "(II)Z"⟩, 11), (⟨"MoverRoom$Planner", "stateAt", "(I)I"⟩, 11), (⟨"MoverRoom$Levels", "shiftOf", "(I)I"⟩, 1), (⟨"MoverRoom$Planner", "reachesEndMoving", "(IIII)Z"⟩, 11), (⟨"MoverRoom$Planner", "layOut", "()V"⟩, 11)]
theorem lw_r1 : ∀ q ∈ lw_privs_1, lw_okq q := List.forall_mem_cons.mpr ⟨lw_p0, List.forall_mem_cons.mpr ⟨lw_p1, List.forall_mem_cons.mpr ⟨lw_p2, List.forall_mem_cons.mpr ⟨lw_p3, List.forall_mem_cons.mpr ⟨lw_p4, List.forall_mem_cons.mpr ⟨lw_p5, List.forall_mem_cons.mpr ⟨lw_p6, List.forall_mem_cons.mpr ⟨lw_p7, List.forall_mem_cons.mpr ⟨lw_p8, List.forall_mem_cons.mpr ⟨lw_p9, List.forall_mem_cons.mpr ⟨lw_p10, List.forall_mem_cons.mpr ⟨lw_p11, List.forall_mem_cons.mpr ⟨lw_p12, List.forall_mem_cons.mpr ⟨lw_p13, List.forall_mem_cons.mpr ⟨lw_p14, List.forall_mem_cons.mpr ⟨lw_p15, fun _ h => absurd h List.not_mem_nil⟩⟩⟩⟩⟩⟩⟩⟩⟩⟩⟩⟩⟩⟩⟩⟩
theorem lw_p16 : lw_okq (⟨"MoverRoom$Planner", "isOver", "(I)Z"⟩, 11) := ⟨⟨by decide +kernel, by decide +kernel⟩, List.mem_of_getElem? (i := 124) (by decide +kernel), List.mem_of_getElem? (i := 399) (by decide +kernel), List.mem_of_getElem? (i := 400) (by decide +kernel)⟩
theorem lw_p17 : lw_okq (⟨"MoverRoom$Planner", "chooseNext", "(II)Z"⟩, 11) := ⟨⟨by decide +kernel, by decide +kernel⟩, List.mem_of_getElem? (i := 124) (by decide +kernel), List.mem_of_getElem? (i := 403) (by decide +kernel), List.mem_of_getElem? (i := 404) (by decide +kernel)⟩
theorem lw_p18 : lw_okq (⟨"MoverRoom$LaidPlan", "isTold", "(II)Z"⟩, 3) := ⟨⟨by decide +kernel, by decide +kernel⟩, List.mem_of_getElem? (i := 176) (by decide +kernel), List.mem_of_getElem? (i := 434) (by decide +kernel), List.mem_of_getElem? (i := 435) (by decide +kernel)⟩
theorem lw_p19 : lw_okq (⟨"MoverRoom$Verdict", "blame", "(IIII)V"⟩, 7) := ⟨⟨by decide +kernel, by decide +kernel⟩, List.mem_of_getElem? (i := 193) (by decide +kernel), List.mem_of_getElem? (i := 446) (by decide +kernel), List.mem_of_getElem? (i := 447) (by decide +kernel)⟩
theorem lw_p20 : lw_okq (⟨"MoverRoom$Verdict", "seekStrayed", "(I)V"⟩, 7) := ⟨⟨by decide +kernel, by decide +kernel⟩, List.mem_of_getElem? (i := 193) (by decide +kernel), List.mem_of_getElem? (i := 450) (by decide +kernel), List.mem_of_getElem? (i := 451) (by decide +kernel)⟩
theorem lw_p21 : lw_okq (⟨"MoverRoom$Verdict", "strays", "(II)Z"⟩, 7) := ⟨⟨by decide +kernel, by decide +kernel⟩, List.mem_of_getElem? (i := 193) (by decide +kernel), List.mem_of_getElem? (i := 454) (by decide +kernel), List.mem_of_getElem? (i := 455) (by decide +kernel)⟩
theorem lw_p22 : lw_okq (⟨"MoverRoom$Verdict", "seekMeeting", "(II)V"⟩, 7) := ⟨⟨by decide +kernel, by decide +kernel⟩, List.mem_of_getElem? (i := 193) (by decide +kernel), List.mem_of_getElem? (i := 471) (by decide +kernel), List.mem_of_getElem? (i := 472) (by decide +kernel)⟩
theorem lw_p23 : lw_okq (⟨"MoverRoom$Verdict", "share", "(III)Z"⟩, 7) := ⟨⟨by decide +kernel, by decide +kernel⟩, List.mem_of_getElem? (i := 193) (by decide +kernel), List.mem_of_getElem? (i := 475) (by decide +kernel), List.mem_of_getElem? (i := 476) (by decide +kernel)⟩
theorem lw_p24 : lw_okq (⟨"MoverRoom$Verdict", "exchange", "(III)Z"⟩, 7) := ⟨⟨by decide +kernel, by decide +kernel⟩, List.mem_of_getElem? (i := 193) (by decide +kernel), List.mem_of_getElem? (i := 479) (by decide +kernel), List.mem_of_getElem? (i := 480) (by decide +kernel)⟩
theorem lw_p25 : lw_okq (⟨"MoverRoomModel", "size", "()I"⟩, 33) := ⟨⟨by decide +kernel, by decide +kernel⟩, List.mem_of_getElem? (i := 483) (by decide +kernel), List.mem_of_getElem? (i := 594) (by decide +kernel), List.mem_of_getElem? (i := 595) (by decide +kernel)⟩
theorem lw_p26 : lw_okq (⟨"MoverRoomModel", "isCell", "(I)Z"⟩, 33) := ⟨⟨by decide +kernel, by decide +kernel⟩, List.mem_of_getElem? (i := 483) (by decide +kernel), List.mem_of_getElem? (i := 602) (by decide +kernel), List.mem_of_getElem? (i := 603) (by decide +kernel)⟩
theorem lw_p27 : lw_okq (⟨"MoverRoomModel", "isFree", "(I)Z"⟩, 33) := ⟨⟨by decide +kernel, by decide +kernel⟩, List.mem_of_getElem? (i := 483) (by decide +kernel), List.mem_of_getElem? (i := 610) (by decide +kernel), List.mem_of_getElem? (i := 611) (by decide +kernel)⟩
theorem lw_p28 : lw_okq (⟨"MoverRoomModel", "freeCells", "()I"⟩, 33) := ⟨⟨by decide +kernel, by decide +kernel⟩, List.mem_of_getElem? (i := 483) (by decide +kernel), List.mem_of_getElem? (i := 614) (by decide +kernel), List.mem_of_getElem? (i := 615) (by decide +kernel)⟩
theorem lw_p29 : lw_okq (⟨"MoverRoomModel", "isMover", "(I)Z"⟩, 33) := ⟨⟨by decide +kernel, by decide +kernel⟩, List.mem_of_getElem? (i := 483) (by decide +kernel), List.mem_of_getElem? (i := 626) (by decide +kernel), List.mem_of_getElem? (i := 627) (by decide +kernel)⟩
theorem lw_p30 : lw_okq (⟨"MoverRoomModel", "findFar", "(I)V"⟩, 33) := ⟨⟨by decide +kernel, by decide +kernel⟩, List.mem_of_getElem? (i := 483) (by decide +kernel), List.mem_of_getElem? (i := 630) (by decide +kernel), List.mem_of_getElem? (i := 631) (by decide +kernel)⟩
theorem lw_p31 : lw_okq (⟨"MoverRoomModel", "isBeside", "(II)Z"⟩, 33) := ⟨⟨by decide +kernel, by decide +kernel⟩, List.mem_of_getElem? (i := 483) (by decide +kernel), List.mem_of_getElem? (i := 634) (by decide +kernel), List.mem_of_getElem? (i := 635) (by decide +kernel)⟩
def lw_privs_2 : List (MethodName × Nat) := [(⟨"MoverRoom$Planner", "isOver", "(I)Z"⟩, 11), (⟨"MoverRoom$Planner", "chooseNext", "(II)Z"⟩, 11), (⟨"MoverRoom$LaidPlan", "isTold", "(II)Z"⟩, 3), (⟨"MoverRoom$Verdict", "blame", "(IIII)V"⟩, 7), (⟨"MoverRoom$Verdict", "seekStrayed", "(I)V"⟩, 7), (⟨"MoverRoom$Verdict", "strays", "(II)Z"⟩, 7), (⟨"MoverRoom$Verdict", "seekMeeting", "(II)V"⟩, 7), (⟨"MoverRoom$Verdict", "share", "(III)Z"⟩, 7), (⟨"MoverRoom$Verdict", "exchange", "(III)Z"⟩, 7), (⟨"MoverRoomModel", "size", "()I"⟩, 33), (⟨"MoverRoomModel", "isCell", "(I)Z"⟩, 33), (⟨"MoverRoomModel", "isFree", "(I)Z"⟩, 33), (⟨"MoverRoomModel", "freeCells", "()I"⟩, 33), (⟨"MoverRoomModel", "isMover", "(I)Z"⟩, 33), (⟨"MoverRoomModel", "findFar", "(I)V"⟩, 33), (⟨"MoverRoomModel", "isBeside", "(II)Z"⟩, 33)]
theorem lw_r2 : ∀ q ∈ lw_privs_2, lw_okq q := List.forall_mem_cons.mpr ⟨lw_p16, List.forall_mem_cons.mpr ⟨lw_p17, List.forall_mem_cons.mpr ⟨lw_p18, List.forall_mem_cons.mpr ⟨lw_p19, List.forall_mem_cons.mpr ⟨lw_p20, List.forall_mem_cons.mpr ⟨lw_p21, List.forall_mem_cons.mpr ⟨lw_p22, List.forall_mem_cons.mpr ⟨lw_p23, List.forall_mem_cons.mpr ⟨lw_p24, List.forall_mem_cons.mpr ⟨lw_p25, List.forall_mem_cons.mpr ⟨lw_p26, List.forall_mem_cons.mpr ⟨lw_p27, List.forall_mem_cons.mpr ⟨lw_p28, List.forall_mem_cons.mpr ⟨lw_p29, List.forall_mem_cons.mpr ⟨lw_p30, List.forall_mem_cons.mpr ⟨lw_p31, fun _ h => absurd h List.not_mem_nil⟩⟩⟩⟩⟩⟩⟩⟩⟩⟩⟩⟩⟩⟩⟩⟩
theorem lw_p32 : lw_okq (⟨"MoverRoomModel", "number", "()V"⟩, 33) := ⟨⟨by decide +kernel, by decide +kernel⟩, List.mem_of_getElem? (i := 483) (by decide +kernel), List.mem_of_getElem? (i := 648) (by decide +kernel), List.mem_of_getElem? (i := 649) (by decide +kernel)⟩
theorem lw_p33 : lw_okq (⟨"MoverRoomModel", "findPays", "(I)V"⟩, 33) := ⟨⟨by decide +kernel, by decide +kernel⟩, List.mem_of_getElem? (i := 483) (by decide +kernel), List.mem_of_getElem? (i := 652) (by decide +kernel), List.mem_of_getElem? (i := 653) (by decide +kernel)⟩
theorem lw_p34 : lw_okq (⟨"MoverRoomModel", "placesOf", "([I)I"⟩, 33) := ⟨⟨by decide +kernel, by decide +kernel⟩, List.mem_of_getElem? (i := 483) (by decide +kernel), List.mem_of_getElem? (i := 656) (by decide +kernel), List.mem_of_getElem? (i := 657) (by decide +kernel)⟩
theorem lw_p35 : lw_okq (⟨"MoverRoomModel", "relax", "(II)V"⟩, 33) := ⟨⟨by decide +kernel, by decide +kernel⟩, List.mem_of_getElem? (i := 483) (by decide +kernel), List.mem_of_getElem? (i := 660) (by decide +kernel), List.mem_of_getElem? (i := 661) (by decide +kernel)⟩
theorem lw_p36 : lw_okq (⟨"MoverRoomModel", "lower", "(III)V"⟩, 33) := ⟨⟨by decide +kernel, by decide +kernel⟩, List.mem_of_getElem? (i := 483) (by decide +kernel), List.mem_of_getElem? (i := 667) (by decide +kernel), List.mem_of_getElem? (i := 668) (by decide +kernel)⟩
theorem lw_p37 : lw_okq (⟨"MoverRoomModel", "open", "(I)V"⟩, 33) := ⟨⟨by decide +kernel, by decide +kernel⟩, List.mem_of_getElem? (i := 483) (by decide +kernel), List.mem_of_getElem? (i := 671) (by decide +kernel), List.mem_of_getElem? (i := 672) (by decide +kernel)⟩
theorem lw_p38 : lw_okq (⟨"MoverRoomModel", "firstChoice", "()V"⟩, 33) := ⟨⟨by decide +kernel, by decide +kernel⟩, List.mem_of_getElem? (i := 483) (by decide +kernel), List.mem_of_getElem? (i := 675) (by decide +kernel), List.mem_of_getElem? (i := 676) (by decide +kernel)⟩
theorem lw_p39 : lw_okq (⟨"MoverRoomModel", "choose", "(I)V"⟩, 33) := ⟨⟨by decide +kernel, by decide +kernel⟩, List.mem_of_getElem? (i := 483) (by decide +kernel), List.mem_of_getElem? (i := 679) (by decide +kernel), List.mem_of_getElem? (i := 680) (by decide +kernel)⟩
theorem lw_p40 : lw_okq (⟨"MoverRoomModel", "meet", "()Z"⟩, 33) := ⟨⟨by decide +kernel, by decide +kernel⟩, List.mem_of_getElem? (i := 483) (by decide +kernel), List.mem_of_getElem? (i := 683) (by decide +kernel), List.mem_of_getElem? (i := 684) (by decide +kernel)⟩
theorem lw_p41 : lw_okq (⟨"MoverRoomModel", "nextChoice", "(I)Z"⟩, 33) := ⟨⟨by decide +kernel, by decide +kernel⟩, List.mem_of_getElem? (i := 483) (by decide +kernel), List.mem_of_getElem? (i := 690) (by decide +kernel), List.mem_of_getElem? (i := 691) (by decide +kernel)⟩
theorem lw_p42 : lw_okq (⟨"MoverRoomModel", "choices", "(II)I"⟩, 33) := ⟨⟨by decide +kernel, by decide +kernel⟩, List.mem_of_getElem? (i := 483) (by decide +kernel), List.mem_of_getElem? (i := 694) (by decide +kernel), List.mem_of_getElem? (i := 695) (by decide +kernel)⟩
theorem lw_p43 : lw_okq (⟨"MoverRoomModel", "walk", "(I)V"⟩, 33) := ⟨⟨by decide +kernel, by decide +kernel⟩, List.mem_of_getElem? (i := 483) (by decide +kernel), List.mem_of_getElem? (i := 698) (by decide +kernel), List.mem_of_getElem? (i := 699) (by decide +kernel)⟩
theorem lw_p44 : lw_okq (⟨"MoverRoomModel", "mayRest", "(I[I)Z"⟩, 33) := ⟨⟨by decide +kernel, by decide +kernel⟩, List.mem_of_getElem? (i := 483) (by decide +kernel), List.mem_of_getElem? (i := 702) (by decide +kernel), List.mem_of_getElem? (i := 703) (by decide +kernel)⟩
theorem lw_p45 : lw_okq (⟨"MoverRoomModel", "write", "(I[I)V"⟩, 33) := ⟨⟨by decide +kernel, by decide +kernel⟩, List.mem_of_getElem? (i := 483) (by decide +kernel), List.mem_of_getElem? (i := 706) (by decide +kernel), List.mem_of_getElem? (i := 707) (by decide +kernel)⟩
theorem lw_p46 : lw_okq (⟨"MoverRoomModel", "goesOn", "(I)Z"⟩, 33) := ⟨⟨by decide +kernel, by decide +kernel⟩, List.mem_of_getElem? (i := 483) (by decide +kernel), List.mem_of_getElem? (i := 710) (by decide +kernel), List.mem_of_getElem? (i := 711) (by decide +kernel)⟩
theorem lw_p47 : lw_okq (⟨"MoverRoomModel", "stays", "(I)Z"⟩, 33) := ⟨⟨by decide +kernel, by decide +kernel⟩, List.mem_of_getElem? (i := 483) (by decide +kernel), List.mem_of_getElem? (i := 714) (by decide +kernel), List.mem_of_getElem? (i := 715) (by decide +kernel)⟩
def lw_privs_3 : List (MethodName × Nat) := [(⟨"MoverRoomModel", "number", "()V"⟩, 33), (⟨"MoverRoomModel", "findPays", "(I)V"⟩, 33), (⟨"MoverRoomModel", "placesOf", "([I)I"⟩, 33), (⟨"MoverRoomModel", "relax", "(II)V"⟩, 33), (⟨"MoverRoomModel", "lower", "(III)V"⟩, 33), (⟨"MoverRoomModel", "open", "(I)V"⟩, 33), (⟨"MoverRoomModel", "firstChoice", "()V"⟩, 33), (⟨"MoverRoomModel", "choose", "(I)V"⟩, 33), (⟨"MoverRoomModel", "meet", "()Z"⟩, 33), (⟨"MoverRoomModel", "nextChoice", "(I)Z"⟩, 33), (⟨"MoverRoomModel", "choices", "(II)I"⟩, 33), (⟨"MoverRoomModel", "walk", "(I)V"⟩, 33), (⟨"MoverRoomModel", "mayRest", "(I[I)Z"⟩, 33), (⟨"MoverRoomModel", "write", "(I[I)V"⟩, 33), (⟨"MoverRoomModel", "goesOn", "(I)Z"⟩, 33), (⟨"MoverRoomModel", "stays", "(I)Z"⟩, 33)]
theorem lw_r3 : ∀ q ∈ lw_privs_3, lw_okq q := List.forall_mem_cons.mpr ⟨lw_p32, List.forall_mem_cons.mpr ⟨lw_p33, List.forall_mem_cons.mpr ⟨lw_p34, List.forall_mem_cons.mpr ⟨lw_p35, List.forall_mem_cons.mpr ⟨lw_p36, List.forall_mem_cons.mpr ⟨lw_p37, List.forall_mem_cons.mpr ⟨lw_p38, List.forall_mem_cons.mpr ⟨lw_p39, List.forall_mem_cons.mpr ⟨lw_p40, List.forall_mem_cons.mpr ⟨lw_p41, List.forall_mem_cons.mpr ⟨lw_p42, List.forall_mem_cons.mpr ⟨lw_p43, List.forall_mem_cons.mpr ⟨lw_p44, List.forall_mem_cons.mpr ⟨lw_p45, List.forall_mem_cons.mpr ⟨lw_p46, List.forall_mem_cons.mpr ⟨lw_p47, fun _ h => absurd h List.not_mem_nil⟩⟩⟩⟩⟩⟩⟩⟩⟩⟩⟩⟩⟩⟩⟩⟩
theorem lw_p48 : lw_okq (⟨"MoverRoomModel", "look", "()V"⟩, 33) := ⟨⟨by decide +kernel, by decide +kernel⟩, List.mem_of_getElem? (i := 483) (by decide +kernel), List.mem_of_getElem? (i := 734) (by decide +kernel), List.mem_of_getElem? (i := 735) (by decide +kernel)⟩
theorem lw_p49 : lw_okq (⟨"MoverRoomModel", "isWrong", "(II)Z"⟩, 33) := ⟨⟨by decide +kernel, by decide +kernel⟩, List.mem_of_getElem? (i := 483) (by decide +kernel), List.mem_of_getElem? (i := 738) (by decide +kernel), List.mem_of_getElem? (i := 739) (by decide +kernel)⟩
theorem lw_p50 : lw_okq (⟨"MoverRoomModel", "place", "(II)I"⟩, 33) := ⟨⟨by decide +kernel, by decide +kernel⟩, List.mem_of_getElem? (i := 483) (by decide +kernel), List.mem_of_getElem? (i := 742) (by decide +kernel), List.mem_of_getElem? (i := 743) (by decide +kernel)⟩
theorem lw_p51 : lw_okq (⟨"MoverRoomModel", "wrong", "(IIII)V"⟩, 33) := ⟨⟨by decide +kernel, by decide +kernel⟩, List.mem_of_getElem? (i := 483) (by decide +kernel), List.mem_of_getElem? (i := 746) (by decide +kernel), List.mem_of_getElem? (i := 747) (by decide +kernel)⟩
def lw_privs_4 : List (MethodName × Nat) := [(⟨"MoverRoomModel", "look", "()V"⟩, 33), (⟨"MoverRoomModel", "isWrong", "(II)Z"⟩, 33), (⟨"MoverRoomModel", "place", "(II)I"⟩, 33), (⟨"MoverRoomModel", "wrong", "(IIII)V"⟩, 33)]
theorem lw_r4 : ∀ q ∈ lw_privs_4, lw_okq q := List.forall_mem_cons.mpr ⟨lw_p48, List.forall_mem_cons.mpr ⟨lw_p49, List.forall_mem_cons.mpr ⟨lw_p50, List.forall_mem_cons.mpr ⟨lw_p51, fun _ h => absurd h List.not_mem_nil⟩⟩⟩⟩
def lw_privs : List (MethodName × Nat) := lw_privs_1 ++ (lw_privs_2 ++ (lw_privs_3 ++ (lw_privs_4)))
def lw_tbl : List Cond := k2_sels lw_privs ++ tables_1
theorem lw_privs_ok : ∀ q ∈ lw_privs, lw_okq q := by
  show ∀ q ∈ lw_privs_1 ++ (lw_privs_2 ++ (lw_privs_3 ++ (lw_privs_4))), lw_okq q
  exact List.forall_mem_append.mpr ⟨lw_r1, List.forall_mem_append.mpr ⟨lw_r2, List.forall_mem_append.mpr ⟨lw_r3, lw_r4⟩⟩⟩
-- ===== end of PART A; then your names; then what follows =====
end
section
def R_cr : String := "MoverRoom$Crew"
def T_cr : u_T := fun k => match k with
  | 0 => ("MoverRoom$Crew", "floor", "LMoverRoom$Floor;", true)
  | 1 => ("MoverRoom$Crew", "count", "I", false)
  | 2 => ("MoverRoom$Crew", "starts", "[I", true)
  | 3 => ("MoverRoom$Crew", "goals", "[I", true)
  | 4 => ("MoverRoom$Crew", "toGoal", "[[I", true)
  | 5 => ("MoverRoom$Crew", "queue", "[I", true)
  | 6 => ("MoverRoom$Crew", "counts", "[J", false)
  | _ => ("MoverRoom$Crew", "nextCounts", "[J", false)
def t_cr : Nat → FieldType := fun k => match k with
  | 0 => (.object "MoverRoom$Floor")
  | 1 => .int
  | 2 => (.array .int)
  | 3 => (.array .int)
  | 4 => (.array (.array .int))
  | 5 => (.array .int)
  | 6 => (.array .long)
  | _ => (.array .long)
theorem n_cr : ∀ a, a < 8 → ∀ b, b < 8 → a ≠ b → (T_cr a).2.1 ≠ (T_cr b).2.1 := by decide +kernel
theorem t_cr_ok : ∀ k, k < 8 → parseFieldDescriptor (T_cr k).2.2.1 = some (t_cr k) := by decide +kernel
def R_fl : String := "MoverRoom$Floor"
def T_fl : u_T := fun k => match k with
  | 0 => ("MoverRoom$Floor", "width", "I", false)
  | 1 => ("MoverRoom$Floor", "height", "I", false)
  | 2 => ("MoverRoom$Floor", "walls", "[Z", true)
  | 3 => ("MoverRoom$Floor", "freeCount", "I", false)
  | 4 => ("MoverRoom$Floor", "rank", "[I", true)
  | 5 => ("MoverRoom$Floor", "stepCount", "[I", true)
  | _ => ("MoverRoom$Floor", "steps", "[[I", true)
def t_fl : Nat → FieldType := fun k => match k with
  | 0 => .int
  | 1 => .int
  | 2 => (.array .boolean)
  | 3 => .int
  | 4 => (.array .int)
  | 5 => (.array .int)
  | _ => (.array (.array .int))
theorem n_fl : ∀ a, a < 7 → ∀ b, b < 7 → a ≠ b → (T_fl a).2.1 ≠ (T_fl b).2.1 := by decide +kernel
theorem t_fl_ok : ∀ k, k < 7 → parseFieldDescriptor (T_fl k).2.2.1 = some (t_fl k) := by decide +kernel
def R_ld : String := "MoverRoom$LaidPlan"
def T_ld : u_T := fun k => match k with
  | 0 => ("MoverRoom$LaidPlan", "cells", "[[I", true)
  | 1 => ("MoverRoom$LaidPlan", "told", "[I", true)
  | _ => ("MoverRoom$LaidPlan", "length", "[I", true)
def t_ld : Nat → FieldType := fun k => match k with
  | 0 => (.array (.array .int))
  | 1 => (.array .int)
  | _ => (.array .int)
theorem n_ld : ∀ a, a < 3 → ∀ b, b < 3 → a ≠ b → (T_ld a).2.1 ≠ (T_ld b).2.1 := by decide +kernel
theorem t_ld_ok : ∀ k, k < 3 → parseFieldDescriptor (T_ld k).2.2.1 = some (t_ld k) := by decide +kernel
def R_le : String := "MoverRoom$Levels"
def T_le : u_T := fun k => match k with
  | _ => ("MoverRoom$Levels", "words", "[J", true)
def t_le : Nat → FieldType := fun k => match k with
  | _ => (.array .long)
theorem n_le : ∀ a, a < 1 → ∀ b, b < 1 → a ≠ b → (T_le a).2.1 ≠ (T_le b).2.1 := by decide +kernel
theorem t_le_ok : ∀ k, k < 1 → parseFieldDescriptor (T_le k).2.2.1 = some (t_le k) := by decide +kernel
def R_pn : String := "MoverRoom$Planner"
def T_pn : u_T := fun k => match k with
  | 0 => ("MoverRoom$Planner", "floor", "LMoverRoom$Floor;", true)
  | 1 => ("MoverRoom$Planner", "crew", "LMoverRoom$Crew;", true)
  | 2 => ("MoverRoom$Planner", "hopeless", "LMoverRoom$Levels;", true)
  | 3 => ("MoverRoom$Planner", "cells", "[[I", true)
  | 4 => ("MoverRoom$Planner", "settled", "[I", true)
  | 5 => ("MoverRoom$Planner", "plan", "[[I", true)
  | 6 => ("MoverRoom$Planner", "planEnd", "I", false)
  | 7 => ("MoverRoom$Planner", "planSum", "I", false)
  | 8 => ("MoverRoom$Planner", "nextMore", "I", false)
  | 9 => ("MoverRoom$Planner", "known", "Z", false)
  | _ => ("MoverRoom$Planner", "found", "Z", false)
def t_pn : Nat → FieldType := fun k => match k with
  | 0 => (.object "MoverRoom$Floor")
  | 1 => (.object "MoverRoom$Crew")
  | 2 => (.object "MoverRoom$Levels")
  | 3 => (.array (.array .int))
  | 4 => (.array .int)
  | 5 => (.array (.array .int))
  | 6 => .int
  | 7 => .int
  | 8 => .int
  | 9 => .boolean
  | _ => .boolean
theorem n_pn : ∀ a, a < 11 → ∀ b, b < 11 → a ≠ b → (T_pn a).2.1 ≠ (T_pn b).2.1 := by decide +kernel
theorem t_pn_ok : ∀ k, k < 11 → parseFieldDescriptor (T_pn k).2.2.1 = some (t_pn k) := by decide +kernel
def R_vd : String := "MoverRoom$Verdict"
def T_vd : u_T := fun k => match k with
  | 0 => ("MoverRoom$Verdict", "floor", "LMoverRoom$Floor;", true)
  | 1 => ("MoverRoom$Verdict", "crew", "LMoverRoom$Crew;", true)
  | 2 => ("MoverRoom$Verdict", "laid", "LMoverRoom$LaidPlan;", true)
  | 3 => ("MoverRoom$Verdict", "sort", "I", false)
  | 4 => ("MoverRoom$Verdict", "time", "I", false)
  | 5 => ("MoverRoom$Verdict", "lesser", "I", false)
  | _ => ("MoverRoom$Verdict", "greater", "I", false)
def t_vd : Nat → FieldType := fun k => match k with
  | 0 => (.object "MoverRoom$Floor")
  | 1 => (.object "MoverRoom$Crew")
  | 2 => (.object "MoverRoom$LaidPlan")
  | 3 => .int
  | 4 => .int
  | 5 => .int
  | _ => .int
theorem n_vd : ∀ a, a < 7 → ∀ b, b < 7 → a ≠ b → (T_vd a).2.1 ≠ (T_vd b).2.1 := by decide +kernel
theorem t_vd_ok : ∀ k, k < 7 → parseFieldDescriptor (T_vd k).2.2.1 = some (t_vd k) := by decide +kernel
def R_mr : String := "MoverRoom"
def T_mr : u_T := fun k => match k with
  | 0 => ("MoverRoom", "floor", "LMoverRoom$Floor;", true)
  | 1 => ("MoverRoom", "crew", "LMoverRoom$Crew;", true)
  | 2 => ("MoverRoom", "planner", "LMoverRoom$Planner;", true)
  | 3 => ("MoverRoom", "laid", "LMoverRoom$LaidPlan;", true)
  | _ => ("MoverRoom", "verdict", "LMoverRoom$Verdict;", true)
def t_mr : Nat → FieldType := fun k => match k with
  | 0 => (.object "MoverRoom$Floor")
  | 1 => (.object "MoverRoom$Crew")
  | 2 => (.object "MoverRoom$Planner")
  | 3 => (.object "MoverRoom$LaidPlan")
  | _ => (.object "MoverRoom$Verdict")
theorem n_mr : ∀ a, a < 5 → ∀ b, b < 5 → a ≠ b → (T_mr a).2.1 ≠ (T_mr b).2.1 := by decide +kernel
theorem t_mr_ok : ∀ k, k < 5 → parseFieldDescriptor (T_mr k).2.2.1 = some (t_mr k) := by decide +kernel
def R_md : String := "MoverRoomModel"
def T_md : u_T := fun k => match k with
  | 0 => ("MoverRoomModel", "wide", "I", false)
  | 1 => ("MoverRoomModel", "high", "I", false)
  | 2 => ("MoverRoomModel", "walls", "[Z", true)
  | 3 => ("MoverRoomModel", "movers", "I", false)
  | 4 => ("MoverRoomModel", "starts", "[I", true)
  | 5 => ("MoverRoomModel", "goals", "[I", true)
  | 6 => ("MoverRoomModel", "laid", "[I", true)
  | 7 => ("MoverRoomModel", "isTold", "[Z", true)
  | 8 => ("MoverRoomModel", "free", "I", false)
  | 9 => ("MoverRoomModel", "cells", "[I", true)
  | 10 => ("MoverRoomModel", "index", "[I", true)
  | 11 => ("MoverRoomModel", "near", "[I", true)
  | 12 => ("MoverRoomModel", "nearCount", "[I", true)
  | 13 => ("MoverRoomModel", "pay", "[I", true)
  | 14 => ("MoverRoomModel", "done", "[Z", true)
  | 15 => ("MoverRoomModel", "pile", "[I", true)
  | 16 => ("MoverRoomModel", "top", "I", false)
  | 17 => ("MoverRoomModel", "now", "[I", true)
  | 18 => ("MoverRoomModel", "then", "[I", true)
  | 19 => ("MoverRoomModel", "choice", "[I", true)
  | 20 => ("MoverRoomModel", "found", "Z", false)
  | 21 => ("MoverRoomModel", "length", "I", false)
  | 22 => ("MoverRoomModel", "plan", "[I", true)
  | 23 => ("MoverRoomModel", "costs", "[I", true)
  | 24 => ("MoverRoomModel", "paid", "[I", true)
  | 25 => ("MoverRoomModel", "after", "[I", true)
  | 26 => ("MoverRoomModel", "far", "[I", true)
  | 27 => ("MoverRoomModel", "many", "[J", true)
  | 28 => ("MoverRoomModel", "next", "[J", true)
  | 29 => ("MoverRoomModel", "sort", "I", false)
  | 30 => ("MoverRoomModel", "when", "I", false)
  | 31 => ("MoverRoomModel", "one", "I", false)
  | _ => ("MoverRoomModel", "two", "I", false)
def t_md : Nat → FieldType := fun k => match k with
  | 0 => .int
  | 1 => .int
  | 2 => (.array .boolean)
  | 3 => .int
  | 4 => (.array .int)
  | 5 => (.array .int)
  | 6 => (.array .int)
  | 7 => (.array .boolean)
  | 8 => .int
  | 9 => (.array .int)
  | 10 => (.array .int)
  | 11 => (.array .int)
  | 12 => (.array .int)
  | 13 => (.array .int)
  | 14 => (.array .boolean)
  | 15 => (.array .int)
  | 16 => .int
  | 17 => (.array .int)
  | 18 => (.array .int)
  | 19 => (.array .int)
  | 20 => .boolean
  | 21 => .int
  | 22 => (.array .int)
  | 23 => (.array .int)
  | 24 => (.array .int)
  | 25 => (.array .int)
  | 26 => (.array .int)
  | 27 => (.array .long)
  | 28 => (.array .long)
  | 29 => .int
  | 30 => .int
  | 31 => .int
  | _ => .int
theorem n_md : ∀ a, a < 33 → ∀ b, b < 33 → a ≠ b → (T_md a).2.1 ≠ (T_md b).2.1 := by decide +kernel
theorem t_md_ok : ∀ k, k < 33 → parseFieldDescriptor (T_md k).2.2.1 = some (t_md k) := by decide +kernel
def R_ar : String := "java/util/Arrays"
def R_lw : String := "MoverRoomLaw"
def R_ma : String := "java/lang/Math"
abbrev kls : List vw_C := [(R_cr, T_cr, 8), (R_fl, T_fl, 7), (R_ld, T_ld, 3), (R_le, T_le, 1), (R_pn, T_pn, 11), (R_vd, T_vd, 7), (R_mr, T_mr, 5), (R_md, T_md, 33)]
def gw : List Cond := lw_tbl.filter goodWord
theorem gw_of {w : Cond} (i : Nat) (h : tables_1[i]? = some w) (g : goodWord w = true) : w ∈ gw := List.mem_filter.mpr ⟨List.mem_append_right _ (List.mem_of_getElem? h), g⟩
theorem gw_sel {w : Cond} (h : w ∈ k2_sels lw_privs) (g : goodWord w = true) : w ∈ gw := List.mem_filter.mpr ⟨List.mem_append_left _ h, g⟩
theorem gw_good {w : Cond} (h : w ∈ gw) : (w.onTables && w.keeps) = true ∨ ∃ ty, w = .arrayClass ty := good_of_word (List.mem_filter.mp h).2
theorem gw_tbl {w : Cond} (h : w ∈ gw) : w ∈ lw_tbl := (List.mem_filter.mp h).1
theorem in_cr : ∀ w ∈ u_ws R_cr T_cr 8, w ∈ gw := by decide +kernel
theorem in_fl : ∀ w ∈ u_ws R_fl T_fl 7, w ∈ gw := by decide +kernel
theorem in_ld : ∀ w ∈ u_ws R_ld T_ld 3, w ∈ gw := by decide +kernel
theorem in_le : ∀ w ∈ u_ws R_le T_le 1, w ∈ gw := by decide +kernel
theorem in_pn : ∀ w ∈ u_ws R_pn T_pn 11, w ∈ gw := by decide +kernel
theorem in_vd : ∀ w ∈ u_ws R_vd T_vd 7, w ∈ gw := by decide +kernel
theorem in_mr : ∀ w ∈ u_ws R_mr T_mr 5, w ∈ gw := by decide +kernel
theorem in_md : ∀ w ∈ u_ws R_md T_md 33, w ∈ gw := by decide +kernel
abbrev b_fl_init : ByteArray := prog_3_method_1_code
def y_fl_init : MethodName := ⟨"MoverRoom$Floor", "<init>", "()V"⟩
abbrev w_fl_init : List Cond := .code y_fl_init b_fl_init 1 none :: gw
abbrev b_fl_build : ByteArray := prog_3_method_2_code
def y_fl_build : MethodName := ⟨"MoverRoom$Floor", "build", "(II)V"⟩
abbrev w_fl_build : List Cond := .code y_fl_build b_fl_build 4 none :: gw
abbrev b_fl_turn : ByteArray := prog_3_method_3_code
def y_fl_turn : MethodName := ⟨"MoverRoom$Floor", "turn", "(I)V"⟩
abbrev w_fl_turn : List Cond := .code y_fl_turn b_fl_turn 2 none :: gw
abbrev b_fl_has : ByteArray := prog_3_method_4_code
def y_fl_has : MethodName := ⟨"MoverRoom$Floor", "has", "(I)Z"⟩
abbrev w_fl_has : List Cond := .code y_fl_has b_fl_has 2 (some .boolean) :: gw
abbrev b_fl_isFree : ByteArray := prog_3_method_5_code
def y_fl_isFree : MethodName := ⟨"MoverRoom$Floor", "isFree", "(I)Z"⟩
abbrev w_fl_isFree : List Cond := .code y_fl_isFree b_fl_isFree 2 (some .boolean) :: gw
abbrev b_fl_chart : ByteArray := prog_3_method_7_code
def y_fl_chart : MethodName := ⟨"MoverRoom$Floor", "chart", "()V"⟩
abbrev w_fl_chart : List Cond := .code y_fl_chart b_fl_chart 3 none :: gw
abbrev b_fl_chartCell : ByteArray := prog_3_method_8_code
def y_fl_chartCell : MethodName := ⟨"MoverRoom$Floor", "chartCell", "(II)V"⟩
abbrev w_fl_chartCell : List Cond := .code y_fl_chartCell b_fl_chartCell 3 none :: gw
abbrev b_fl_addStep : ByteArray := prog_3_method_9_code
def y_fl_addStep : MethodName := ⟨"MoverRoom$Floor", "addStep", "(II)V"⟩
abbrev w_fl_addStep : List Cond := .code y_fl_addStep b_fl_addStep 3 none :: gw
abbrev b_cr_init : ByteArray := prog_2_method_1_code
def y_cr_init : MethodName := ⟨"MoverRoom$Crew", "<init>", "(LMoverRoom$Floor;)V"⟩
abbrev w_cr_init : List Cond := .code y_cr_init b_cr_init 2 none :: gw
abbrev b_cr_has : ByteArray := prog_2_method_2_code
def y_cr_has : MethodName := ⟨"MoverRoom$Crew", "has", "(I)Z"⟩
abbrev w_cr_has : List Cond := .code y_cr_has b_cr_has 2 (some .boolean) :: gw
abbrev b_cr_dismiss : ByteArray := prog_2_method_3_code
def y_cr_dismiss : MethodName := ⟨"MoverRoom$Crew", "dismiss", "()V"⟩
abbrev w_cr_dismiss : List Cond := .code y_cr_dismiss b_cr_dismiss 1 none :: gw
abbrev b_cr_canTake : ByteArray := prog_2_method_4_code
def y_cr_canTake : MethodName := ⟨"MoverRoom$Crew", "canTake", "(II)Z"⟩
abbrev w_cr_canTake : List Cond := .code y_cr_canTake b_cr_canTake 5 (some .boolean) :: gw
abbrev b_cr_take : ByteArray := prog_2_method_5_code
def y_cr_take : MethodName := ⟨"MoverRoom$Crew", "take", "(II)I"⟩
abbrev w_cr_take : List Cond := .code y_cr_take b_cr_take 4 (some .int) :: gw
abbrev b_cr_sumOfWays : ByteArray := prog_2_method_7_code
def y_cr_sumOfWays : MethodName := ⟨"MoverRoom$Crew", "sumOfWays", "()I"⟩
abbrev w_cr_sumOfWays : List Cond := .code y_cr_sumOfWays b_cr_sumOfWays 4 (some .int) :: gw
abbrev b_cr_measure : ByteArray := prog_2_method_11_code
def y_cr_measure : MethodName := ⟨"MoverRoom$Crew", "measure", "(I[I)V"⟩
abbrev w_cr_measure : List Cond := .code y_cr_measure b_cr_measure 8 none :: gw
abbrev b_ld_init : ByteArray := prog_4_method_1_code
def y_ld_init : MethodName := ⟨"MoverRoom$LaidPlan", "<init>", "()V"⟩
abbrev w_ld_init : List Cond := .code y_ld_init b_ld_init 1 none :: gw
abbrev b_ld_forget : ByteArray := prog_4_method_2_code
def y_ld_forget : MethodName := ⟨"MoverRoom$LaidPlan", "forget", "()V"⟩
abbrev w_ld_forget : List Cond := .code y_ld_forget b_ld_forget 1 none :: gw
abbrev b_ld_tell : ByteArray := prog_4_method_3_code
def y_ld_tell : MethodName := ⟨"MoverRoom$LaidPlan", "tell", "(III)I"⟩
abbrev w_ld_tell : List Cond := .code y_ld_tell b_ld_tell 5 (some .int) :: gw
abbrev b_ld_isTold : ByteArray := prog_4_method_6_code
def y_ld_isTold : MethodName := ⟨"MoverRoom$LaidPlan", "isTold", "(II)Z"⟩
abbrev w_ld_isTold : List Cond := .code y_ld_isTold b_ld_isTold 3 (some .boolean) :: gw
abbrev b_le_init : ByteArray := prog_5_method_1_code
def y_le_init : MethodName := ⟨"MoverRoom$Levels", "<init>", "()V"⟩
abbrev w_le_init : List Cond := .code y_le_init b_le_init 1 none :: gw
abbrev b_le_reset : ByteArray := prog_5_method_2_code
def y_le_reset : MethodName := ⟨"MoverRoom$Levels", "reset", "()V"⟩
abbrev w_le_reset : List Cond := .code y_le_reset b_le_reset 1 none :: gw
abbrev b_pn_init : ByteArray := prog_6_method_1_code
def y_pn_init : MethodName := ⟨"MoverRoom$Planner", "<init>", "(LMoverRoom$Floor;LMoverRoom$Crew;)V"⟩
abbrev w_pn_init : List Cond := .code y_pn_init b_pn_init 3 none :: gw
abbrev b_pn_forget : ByteArray := prog_6_method_2_code
def y_pn_forget : MethodName := ⟨"MoverRoom$Planner", "forget", "()V"⟩
abbrev w_pn_forget : List Cond := .code y_pn_forget b_pn_forget 1 none :: gw
abbrev b_pn_find : ByteArray := prog_6_method_3_code
def y_pn_find : MethodName := ⟨"MoverRoom$Planner", "find", "(I)I"⟩
abbrev w_pn_find : List Cond := .code y_pn_find b_pn_find 3 (some .int) :: gw
abbrev b_pn_begin : ByteArray := prog_6_method_6_code
def y_pn_begin : MethodName := ⟨"MoverRoom$Planner", "begin", "()V"⟩
abbrev w_pn_begin : List Cond := .code y_pn_begin b_pn_begin 2 none :: gw
abbrev b_pn_canEnd : ByteArray := prog_6_method_10_code
def y_pn_canEnd : MethodName := ⟨"MoverRoom$Planner", "canEnd", "(II)Z"⟩
abbrev w_pn_canEnd : List Cond := .code y_pn_canEnd b_pn_canEnd 6 (some .boolean) :: gw
abbrev b_pn_startSearch : ByteArray := prog_6_method_11_code
def y_pn_startSearch : MethodName := ⟨"MoverRoom$Planner", "startSearch", "(III)I"⟩
abbrev w_pn_startSearch : List Cond := .code y_pn_startSearch b_pn_startSearch 7 (some .int) :: gw
abbrev b_pn_reachesEnd : ByteArray := prog_6_method_14_code
def y_pn_reachesEnd : MethodName := ⟨"MoverRoom$Planner", "reachesEnd", "(II)Z"⟩
abbrev w_pn_reachesEnd : List Cond := .code y_pn_reachesEnd b_pn_reachesEnd 4 (some .boolean) :: gw
abbrev b_pn_layOut : ByteArray := prog_6_method_7_code
def y_pn_layOut : MethodName := ⟨"MoverRoom$Planner", "layOut", "()V"⟩
abbrev w_pn_layOut : List Cond := .code y_pn_layOut b_pn_layOut 1 none :: gw
abbrev b_pn_isOver : ByteArray := prog_6_method_8_code
def y_pn_isOver : MethodName := ⟨"MoverRoom$Planner", "isOver", "(I)Z"⟩
abbrev w_pn_isOver : List Cond := .code y_pn_isOver b_pn_isOver 3 (some .boolean) :: gw
abbrev b_vd_init : ByteArray := prog_7_method_1_code
def y_vd_init : MethodName := ⟨"MoverRoom$Verdict", "<init>", "(LMoverRoom$Floor;LMoverRoom$Crew;LMoverRoom$LaidPlan;)V"⟩
abbrev w_vd_init : List Cond := .code y_vd_init b_vd_init 4 none :: gw
abbrev b_vd_seek : ByteArray := prog_7_method_2_code
def y_vd_seek : MethodName := ⟨"MoverRoom$Verdict", "seek", "()V"⟩
abbrev w_vd_seek : List Cond := .code y_vd_seek b_vd_seek 2 none :: gw
abbrev b_vd_blame : ByteArray := prog_7_method_3_code
def y_vd_blame : MethodName := ⟨"MoverRoom$Verdict", "blame", "(IIII)V"⟩
abbrev w_vd_blame : List Cond := .code y_vd_blame b_vd_blame 5 none :: gw
abbrev b_vd_seekStrayed : ByteArray := prog_7_method_4_code
def y_vd_seekStrayed : MethodName := ⟨"MoverRoom$Verdict", "seekStrayed", "(I)V"⟩
abbrev w_vd_seekStrayed : List Cond := .code y_vd_seekStrayed b_vd_seekStrayed 3 none :: gw
abbrev b_vd_seekMeeting : ByteArray := prog_7_method_6_code
def y_vd_seekMeeting : MethodName := ⟨"MoverRoom$Verdict", "seekMeeting", "(II)V"⟩
abbrev w_vd_seekMeeting : List Cond := .code y_vd_seekMeeting b_vd_seekMeeting 5 none :: gw
abbrev b_mr_init : ByteArray := prog_1_method_1_code
def y_mr_init : MethodName := ⟨"MoverRoom", "<init>", "()V"⟩
abbrev w_mr_init : List Cond := .code y_mr_init b_mr_init 1 none :: gw
abbrev b_mr_room : ByteArray := prog_1_method_2_code
def y_mr_room : MethodName := ⟨"MoverRoom", "room", "(II)I"⟩
abbrev w_mr_room : List Cond := .code y_mr_room b_mr_room 3 (some .int) :: gw
abbrev b_mr_wall : ByteArray := prog_1_method_3_code
def y_mr_wall : MethodName := ⟨"MoverRoom", "wall", "(I)I"⟩
abbrev w_mr_wall : List Cond := .code y_mr_wall b_mr_wall 2 (some .int) :: gw
abbrev b_mr_mover : ByteArray := prog_1_method_4_code
def y_mr_mover : MethodName := ⟨"MoverRoom", "mover", "(II)I"⟩
abbrev w_mr_mover : List Cond := .code y_mr_mover b_mr_mover 3 (some .int) :: gw
abbrev b_mr_clear : ByteArray := prog_1_method_5_code
def y_mr_clear : MethodName := ⟨"MoverRoom", "clear", "()I"⟩
abbrev w_mr_clear : List Cond := .code y_mr_clear b_mr_clear 2 (some .int) :: gw
abbrev b_mr_distance : ByteArray := prog_1_method_6_code
def y_mr_distance : MethodName := ⟨"MoverRoom", "distance", "(I)I"⟩
abbrev w_mr_distance : List Cond := .code y_mr_distance b_mr_distance 2 (some .int) :: gw
abbrev b_mr_ways : ByteArray := prog_1_method_7_code
def y_mr_ways : MethodName := ⟨"MoverRoom", "ways", "(II)J"⟩
abbrev w_mr_ways : List Cond := .code y_mr_ways b_mr_ways 3 (some .long) :: gw
abbrev b_mr_solve : ByteArray := prog_1_method_8_code
def y_mr_solve : MethodName := ⟨"MoverRoom", "solve", "(I)I"⟩
abbrev w_mr_solve : List Cond := .code y_mr_solve b_mr_solve 2 (some .int) :: gw
abbrev b_mr_cost : ByteArray := prog_1_method_9_code
def y_mr_cost : MethodName := ⟨"MoverRoom", "cost", "(I)I"⟩
abbrev w_mr_cost : List Cond := .code y_mr_cost b_mr_cost 2 (some .int) :: gw
abbrev b_mr_at : ByteArray := prog_1_method_10_code
def y_mr_at : MethodName := ⟨"MoverRoom", "at", "(II)I"⟩
abbrev w_mr_at : List Cond := .code y_mr_at b_mr_at 3 (some .int) :: gw
abbrev b_mr_lay : ByteArray := prog_1_method_11_code
def y_mr_lay : MethodName := ⟨"MoverRoom", "lay", "(III)I"⟩
abbrev w_mr_lay : List Cond := .code y_mr_lay b_mr_lay 4 (some .int) :: gw
abbrev b_mr_judge : ByteArray := prog_1_method_12_code
def y_mr_judge : MethodName := ⟨"MoverRoom", "judge", "(I)I"⟩
abbrev w_mr_judge : List Cond := .code y_mr_judge b_mr_judge 2 (some .int) :: gw
abbrev b_md_init : ByteArray := prog_9_method_1_code
def y_md_init : MethodName := ⟨"MoverRoomModel", "<init>", "()V"⟩
abbrev w_md_init : List Cond := .code y_md_init b_md_init 1 none :: gw
abbrev b_md_size : ByteArray := prog_9_method_2_code
def y_md_size : MethodName := ⟨"MoverRoomModel", "size", "()I"⟩
abbrev w_md_size : List Cond := .code y_md_size b_md_size 1 (some .int) :: gw
abbrev b_md_room : ByteArray := prog_9_method_3_code
def y_md_room : MethodName := ⟨"MoverRoomModel", "room", "(II)I"⟩
abbrev w_md_room : List Cond := .code y_md_room b_md_room 4 (some .int) :: gw
abbrev b_md_isCell : ByteArray := prog_9_method_4_code
def y_md_isCell : MethodName := ⟨"MoverRoomModel", "isCell", "(I)Z"⟩
abbrev w_md_isCell : List Cond := .code y_md_isCell b_md_isCell 2 (some .boolean) :: gw
abbrev b_md_isFree : ByteArray := prog_9_method_5_code
def y_md_isFree : MethodName := ⟨"MoverRoomModel", "isFree", "(I)Z"⟩
abbrev w_md_isFree : List Cond := .code y_md_isFree b_md_isFree 2 (some .boolean) :: gw
abbrev b_md_wall : ByteArray := prog_9_method_6_code
def y_md_wall : MethodName := ⟨"MoverRoomModel", "wall", "(I)I"⟩
abbrev w_md_wall : List Cond := .code y_md_wall b_md_wall 2 (some .int) :: gw
abbrev b_md_freeCells : ByteArray := prog_9_method_7_code
def y_md_freeCells : MethodName := ⟨"MoverRoomModel", "freeCells", "()I"⟩
abbrev w_md_freeCells : List Cond := .code y_md_freeCells b_md_freeCells 3 (some .int) :: gw
abbrev b_md_mover : ByteArray := prog_9_method_8_code
def y_md_mover : MethodName := ⟨"MoverRoomModel", "mover", "(II)I"⟩
abbrev w_md_mover : List Cond := .code y_md_mover b_md_mover 6 (some .int) :: gw
abbrev b_md_clear : ByteArray := prog_9_method_9_code
def y_md_clear : MethodName := ⟨"MoverRoomModel", "clear", "()I"⟩
abbrev w_md_clear : List Cond := .code y_md_clear b_md_clear 2 (some .int) :: gw
abbrev b_md_isMover : ByteArray := prog_9_method_12_code
def y_md_isMover : MethodName := ⟨"MoverRoomModel", "isMover", "(I)Z"⟩
abbrev w_md_isMover : List Cond := .code y_md_isMover b_md_isMover 2 (some .boolean) :: gw
abbrev b_md_distance : ByteArray := prog_9_method_13_code
def y_md_distance : MethodName := ⟨"MoverRoomModel", "distance", "(I)I"⟩
abbrev w_md_distance : List Cond := .code y_md_distance b_md_distance 2 (some .int) :: gw
abbrev b_md_ways : ByteArray := prog_9_method_14_code
def y_md_ways : MethodName := ⟨"MoverRoomModel", "ways", "(II)J"⟩
abbrev w_md_ways : List Cond := .code y_md_ways b_md_ways 6 (some .long) :: gw
abbrev b_md_solve : ByteArray := prog_9_method_29_code
def y_md_solve : MethodName := ⟨"MoverRoomModel", "solve", "(I)I"⟩
abbrev w_md_solve : List Cond := .code y_md_solve b_md_solve 5 (some .int) :: gw
abbrev b_md_cost : ByteArray := prog_9_method_35_code
def y_md_cost : MethodName := ⟨"MoverRoomModel", "cost", "(I)I"⟩
abbrev w_md_cost : List Cond := .code y_md_cost b_md_cost 2 (some .int) :: gw
abbrev b_md_at : ByteArray := prog_9_method_36_code
def y_md_at : MethodName := ⟨"MoverRoomModel", "at", "(II)I"⟩
abbrev w_md_at : List Cond := .code y_md_at b_md_at 3 (some .int) :: gw
abbrev b_md_lay : ByteArray := prog_9_method_37_code
def y_md_lay : MethodName := ⟨"MoverRoomModel", "lay", "(III)I"⟩
abbrev w_md_lay : List Cond := .code y_md_lay b_md_lay 5 (some .int) :: gw
abbrev b_md_look : ByteArray := prog_9_method_41_code
def y_md_look : MethodName := ⟨"MoverRoomModel", "look", "()V"⟩
abbrev w_md_look : List Cond := .code y_md_look b_md_look 4 none :: gw
abbrev b_md_judge : ByteArray := prog_9_method_42_code
def y_md_judge : MethodName := ⟨"MoverRoomModel", "judge", "(I)I"⟩
abbrev w_md_judge : List Cond := .code y_md_judge b_md_judge 2 (some .int) :: gw
abbrev b_ar_fillI : ByteArray := prog_11_method_103_code
def y_ar_fillI : MethodName := ⟨"java/util/Arrays", "fill", "([II)V"⟩
abbrev w_ar_fillI : List Cond := .code y_ar_fillI b_ar_fillI 4 none :: gw
abbrev b_ar_fillJ : ByteArray := prog_11_method_101_code
def y_ar_fillJ : MethodName := ⟨"java/util/Arrays", "fill", "([JJ)V"⟩
abbrev w_ar_fillJ : List Cond := .code y_ar_fillJ b_ar_fillJ 5 none :: gw
abbrev b_md_isBeside : ByteArray := prog_9_method_10_code
def y_md_isBeside : MethodName := ⟨"MoverRoomModel", "isBeside", "(II)Z"⟩
abbrev w_md_isBeside : List Cond := .code y_md_isBeside b_md_isBeside 5 (some .boolean) :: gw
abbrev b_md_findFar : ByteArray := prog_9_method_11_code
def y_md_findFar : MethodName := ⟨"MoverRoomModel", "findFar", "(I)V"⟩
abbrev w_md_findFar : List Cond := .code y_md_findFar b_md_findFar 5 none :: gw
abbrev b_md_number : ByteArray := prog_9_method_15_code
def y_md_number : MethodName := ⟨"MoverRoomModel", "number", "()V"⟩
abbrev w_md_number : List Cond := .code y_md_number b_md_number 3 none :: gw
abbrev b_md_placesOf : ByteArray := prog_9_method_16_code
def y_md_placesOf : MethodName := ⟨"MoverRoomModel", "placesOf", "([I)I"⟩
abbrev w_md_placesOf : List Cond := .code y_md_placesOf b_md_placesOf 4 (some .int) :: gw
abbrev b_md_open : ByteArray := prog_9_method_17_code
def y_md_open : MethodName := ⟨"MoverRoomModel", "open", "(I)V"⟩
abbrev w_md_open : List Cond := .code y_md_open b_md_open 4 none :: gw
abbrev b_md_rests : ByteArray := prog_9_method_18_code
def y_md_rests : MethodName := ⟨"MoverRoomModel", "rests", "(II)Z"⟩
abbrev w_md_rests : List Cond := .code y_md_rests b_md_rests 2 (some .boolean) :: gw
abbrev b_md_firstChoice : ByteArray := prog_9_method_19_code
def y_md_firstChoice : MethodName := ⟨"MoverRoomModel", "firstChoice", "()V"⟩
abbrev w_md_firstChoice : List Cond := .code y_md_firstChoice b_md_firstChoice 2 none :: gw
abbrev b_md_choices : ByteArray := prog_9_method_20_code
def y_md_choices : MethodName := ⟨"MoverRoomModel", "choices", "(II)I"⟩
abbrev w_md_choices : List Cond := .code y_md_choices b_md_choices 3 (some .int) :: gw
abbrev b_md_choose : ByteArray := prog_9_method_21_code
def y_md_choose : MethodName := ⟨"MoverRoomModel", "choose", "(I)V"⟩
abbrev w_md_choose : List Cond := .code y_md_choose b_md_choose 3 none :: gw
abbrev b_md_nextChoice : ByteArray := prog_9_method_22_code
def y_md_nextChoice : MethodName := ⟨"MoverRoomModel", "nextChoice", "(I)Z"⟩
abbrev w_md_nextChoice : List Cond := .code y_md_nextChoice b_md_nextChoice 3 (some .boolean) :: gw
abbrev b_md_meet : ByteArray := prog_9_method_23_code
def y_md_meet : MethodName := ⟨"MoverRoomModel", "meet", "()Z"⟩
abbrev w_md_meet : List Cond := .code y_md_meet b_md_meet 4 (some .boolean) :: gw
abbrev b_md_bits : ByteArray := prog_9_method_24_code
def y_md_bits : MethodName := ⟨"MoverRoomModel", "size", "(I)I"⟩
abbrev w_md_bits : List Cond := .code y_md_bits b_md_bits 2 (some .int) :: gw
abbrev b_md_lower : ByteArray := prog_9_method_25_code
def y_md_lower : MethodName := ⟨"MoverRoomModel", "lower", "(III)V"⟩
abbrev w_md_lower : List Cond := .code y_md_lower b_md_lower 4 none :: gw
abbrev b_md_relax : ByteArray := prog_9_method_26_code
def y_md_relax : MethodName := ⟨"MoverRoomModel", "relax", "(II)V"⟩
abbrev w_md_relax : List Cond := .code y_md_relax b_md_relax 6 none :: gw
abbrev b_md_findPays : ByteArray := prog_9_method_28_code
def y_md_findPays : MethodName := ⟨"MoverRoomModel", "findPays", "(I)V"⟩
abbrev w_md_findPays : List Cond := .code y_md_findPays b_md_findPays 6 none :: gw
abbrev b_md_mayRest : ByteArray := prog_9_method_30_code
def y_md_mayRest : MethodName := ⟨"MoverRoomModel", "mayRest", "(I[I)Z"⟩
abbrev w_md_mayRest : List Cond := .code y_md_mayRest b_md_mayRest 5 (some .boolean) :: gw
abbrev b_md_write : ByteArray := prog_9_method_31_code
def y_md_write : MethodName := ⟨"MoverRoomModel", "write", "(I[I)V"⟩
abbrev w_md_write : List Cond := .code y_md_write b_md_write 4 none :: gw
abbrev b_md_walk : ByteArray := prog_9_method_32_code
def y_md_walk : MethodName := ⟨"MoverRoomModel", "walk", "(I)V"⟩
abbrev w_md_walk : List Cond := .code y_md_walk b_md_walk 5 none :: gw
abbrev b_md_goesOn : ByteArray := prog_9_method_33_code
def y_md_goesOn : MethodName := ⟨"MoverRoomModel", "goesOn", "(I)Z"⟩
abbrev w_md_goesOn : List Cond := .code y_md_goesOn b_md_goesOn 8 (some .boolean) :: gw
abbrev b_md_stays : ByteArray := prog_9_method_34_code
def y_md_stays : MethodName := ⟨"MoverRoomModel", "stays", "(I)Z"⟩
abbrev w_md_stays : List Cond := .code y_md_stays b_md_stays 4 (some .boolean) :: gw
abbrev b_md_place : ByteArray := prog_9_method_38_code
def y_md_place : MethodName := ⟨"MoverRoomModel", "place", "(II)I"⟩
abbrev w_md_place : List Cond := .code y_md_place b_md_place 5 (some .int) :: gw
abbrev b_md_isWrong : ByteArray := prog_9_method_39_code
def y_md_isWrong : MethodName := ⟨"MoverRoomModel", "isWrong", "(II)Z"⟩
abbrev w_md_isWrong : List Cond := .code y_md_isWrong b_md_isWrong 5 (some .boolean) :: gw
abbrev b_md_wrong : ByteArray := prog_9_method_40_code
def y_md_wrong : MethodName := ⟨"MoverRoomModel", "wrong", "(IIII)V"⟩
abbrev w_md_wrong : List Cond := .code y_md_wrong b_md_wrong 5 none :: gw
abbrev b_cr_wayFromStart : ByteArray := prog_2_method_6_code
def y_cr_wayFromStart : MethodName := ⟨"MoverRoom$Crew", "wayFromStart", "(I)I"⟩
abbrev w_cr_wayFromStart : List Cond := .code y_cr_wayFromStart b_cr_wayFromStart 2 (some .int) :: gw
abbrev b_cr_countWays : ByteArray := prog_2_method_8_code
def y_cr_countWays : MethodName := ⟨"MoverRoom$Crew", "countWays", "(II)J"⟩
abbrev w_cr_countWays : List Cond := .code y_cr_countWays b_cr_countWays 6 (some .long) :: gw
abbrev b_cr_spreadCounts : ByteArray := prog_2_method_9_code
def y_cr_spreadCounts : MethodName := ⟨"MoverRoom$Crew", "spreadCounts", "()V"⟩
abbrev w_cr_spreadCounts : List Cond := .code y_cr_spreadCounts b_cr_spreadCounts 2 none :: gw
abbrev b_cr_countsBeside : ByteArray := prog_2_method_10_code
def y_cr_countsBeside : MethodName := ⟨"MoverRoom$Crew", "countsBeside", "(I)J"⟩
abbrev w_cr_countsBeside : List Cond := .code y_cr_countsBeside b_cr_countsBeside 5 (some .long) :: gw
abbrev b_fl_leads : ByteArray := prog_3_method_6_code
def y_fl_leads : MethodName := ⟨"MoverRoom$Floor", "leads", "(II)Z"⟩
abbrev w_fl_leads : List Cond := .code y_fl_leads b_fl_leads 4 (some .boolean) :: gw
abbrev b_ld_isNowhere : ByteArray := prog_4_method_4_code
def y_ld_isNowhere : MethodName := ⟨"MoverRoom$LaidPlan", "isNowhere", "(I)Z"⟩
abbrev w_ld_isNowhere : List Cond := .code y_ld_isNowhere b_ld_isNowhere 2 (some .boolean) :: gw
abbrev b_ld_placeOf : ByteArray := prog_4_method_5_code
def y_ld_placeOf : MethodName := ⟨"MoverRoom$LaidPlan", "placeOf", "(II)I"⟩
abbrev w_ld_placeOf : List Cond := .code y_ld_placeOf b_ld_placeOf 3 (some .int) :: gw
abbrev b_le_get : ByteArray := prog_5_method_3_code
def y_le_get : MethodName := ⟨"MoverRoom$Levels", "get", "(I)I"⟩
abbrev w_le_get : List Cond := .code y_le_get b_le_get 2 (some .int) :: gw
abbrev b_le_put : ByteArray := prog_5_method_4_code
def y_le_put : MethodName := ⟨"MoverRoom$Levels", "put", "(II)V"⟩
abbrev w_le_put : List Cond := .code y_le_put b_le_put 4 none :: gw
abbrev b_le_shiftOf : ByteArray := prog_5_method_5_code
def y_le_shiftOf : MethodName := ⟨"MoverRoom$Levels", "shiftOf", "(I)I"⟩
abbrev w_le_shiftOf : List Cond := .code y_le_shiftOf b_le_shiftOf 2 (some .int) :: gw
abbrev b_pn_costOf : ByteArray := prog_6_method_4_code
def y_pn_costOf : MethodName := ⟨"MoverRoom$Planner", "costOf", "(I)I"⟩
abbrev w_pn_costOf : List Cond := .code y_pn_costOf b_pn_costOf 2 (some .int) :: gw
abbrev b_pn_placeOf : ByteArray := prog_6_method_5_code
def y_pn_placeOf : MethodName := ⟨"MoverRoom$Planner", "placeOf", "(II)I"⟩
abbrev w_pn_placeOf : List Cond := .code y_pn_placeOf b_pn_placeOf 3 (some .int) :: gw
abbrev b_pn_chooseNext : ByteArray := prog_6_method_9_code
def y_pn_chooseNext : MethodName := ⟨"MoverRoom$Planner", "chooseNext", "(II)Z"⟩
abbrev w_pn_chooseNext : List Cond := .code y_pn_chooseNext b_pn_chooseNext 5 (some .boolean) :: gw
abbrev b_pn_homeSince : ByteArray := prog_6_method_12_code
def y_pn_homeSince : MethodName := ⟨"MoverRoom$Planner", "homeSince", "(II)I"⟩
abbrev w_pn_homeSince : List Cond := .code y_pn_homeSince b_pn_homeSince 4 (some .int) :: gw
abbrev b_pn_wayLeft : ByteArray := prog_6_method_13_code
def y_pn_wayLeft : MethodName := ⟨"MoverRoom$Planner", "wayLeft", "(II)I"⟩
abbrev w_pn_wayLeft : List Cond := .code y_pn_wayLeft b_pn_wayLeft 3 (some .int) :: gw
abbrev b_pn_reachesEndMoving : ByteArray := prog_6_method_15_code
def y_pn_reachesEndMoving : MethodName := ⟨"MoverRoom$Planner", "reachesEndMoving", "(IIII)Z"⟩
abbrev w_pn_reachesEndMoving : List Cond := .code y_pn_reachesEndMoving b_pn_reachesEndMoving 13 (some .boolean) :: gw
abbrev b_pn_stateAt : ByteArray := prog_6_method_16_code
def y_pn_stateAt : MethodName := ⟨"MoverRoom$Planner", "stateAt", "(I)I"⟩
abbrev w_pn_stateAt : List Cond := .code y_pn_stateAt b_pn_stateAt 6 (some .int) :: gw
abbrev b_pn_goes : ByteArray := prog_6_method_17_code
def y_pn_goes : MethodName := ⟨"MoverRoom$Planner", "goes", "([I[III)Z"⟩
abbrev w_pn_goes : List Cond := .code y_pn_goes b_pn_goes 5 (some .boolean) :: gw
abbrev b_pn_isIn : ByteArray := prog_6_method_18_code
def y_pn_isIn : MethodName := ⟨"MoverRoom$Planner", "isIn", "(II)Z"⟩
abbrev w_pn_isIn : List Cond := .code y_pn_isIn b_pn_isIn 2 (some .boolean) :: gw
abbrev b_vd_strays : ByteArray := prog_7_method_5_code
def y_vd_strays : MethodName := ⟨"MoverRoom$Verdict", "strays", "(II)Z"⟩
abbrev w_vd_strays : List Cond := .code y_vd_strays b_vd_strays 4 (some .boolean) :: gw
abbrev b_vd_share : ByteArray := prog_7_method_7_code
def y_vd_share : MethodName := ⟨"MoverRoom$Verdict", "share", "(III)Z"⟩
abbrev w_vd_share : List Cond := .code y_vd_share b_vd_share 4 (some .boolean) :: gw
abbrev b_vd_exchange : ByteArray := prog_7_method_8_code
def y_vd_exchange : MethodName := ⟨"MoverRoom$Verdict", "exchange", "(III)Z"⟩
abbrev w_vd_exchange : List Cond := .code y_vd_exchange b_vd_exchange 4 (some .boolean) :: gw
abbrev b_ma_min : ByteArray := prog_10_method_69_code
def y_ma_min : MethodName := ⟨"java/lang/Math", "min", "(II)I"⟩
abbrev w_ma_min : List Cond := .code y_ma_min b_ma_min 2 (some .int) :: gw
theorem gd_c {y : MethodName} {b : ByteArray} {n : Nat} {r : Option FieldType} (h : Cond.code y b n r ∈ gw) : GoodIn gw (Cond.code y b n r :: gw) := fun w hw => (List.mem_cons.mp hw).elim (fun e => by subst e; exact ⟨h, gw_good h⟩) (fun h9 => ⟨h9, gw_good h9⟩)
theorem gd_V {own C : String} {idx : Nat} {y : MethodName} {b : ByteArray} {n : Nat} {r : Option FieldType} (h1 : Cond.methodLink own idx y ∈ gw) (h2 : Cond.instanceMethod y ∈ gw) (h3 : Cond.selects C y y ∈ gw) (h4 : Cond.initialized C ∈ gw) (h5 : Cond.code y b n r ∈ gw) : GoodIn gw (wsV own idx C y (Cond.code y b n r :: gw)) := by
  intro w hw
  rcases List.mem_append.mp hw with h | h
  · have hm : w ∈ gw := by
      simp only [List.mem_cons, List.not_mem_nil, or_false] at h
      rcases h with rfl | rfl | rfl | rfl <;> assumption
    exact ⟨hm, gw_good hm⟩
  · exact gd_c h5 w h
theorem kw_1 : (Jvm.Cond.initialized "MoverRoom") ∈ gw := gw_of 1 (by decide +kernel) (by decide +kernel)
theorem kw_2 : (Jvm.Cond.initialized "MoverRoom$Floor") ∈ gw := gw_of 2 (by decide +kernel) (by decide +kernel)
theorem kw_3 : (Jvm.Cond.initialized "MoverRoom$Crew") ∈ gw := gw_of 3 (by decide +kernel) (by decide +kernel)
theorem kw_4 : (Jvm.Cond.initialized "MoverRoom$Planner") ∈ gw := gw_of 4 (by decide +kernel) (by decide +kernel)
theorem kw_5 : (Jvm.Cond.initialized "MoverRoom$Levels") ∈ gw := gw_of 5 (by decide +kernel) (by decide +kernel)
theorem kw_6 : (Jvm.Cond.initialized "MoverRoom$LaidPlan") ∈ gw := gw_of 6 (by decide +kernel) (by decide +kernel)
theorem kw_7 : (Jvm.Cond.initialized "MoverRoom$Verdict") ∈ gw := gw_of 7 (by decide +kernel) (by decide +kernel)
theorem kw_8 : (Jvm.Cond.initialized "MoverRoomModel") ∈ gw := gw_of 8 (by decide +kernel) (by decide +kernel)
theorem kw_9 : (Jvm.Cond.initialized "java/util/Arrays") ∈ gw := gw_of 9 (by decide +kernel) (by decide +kernel)
theorem kw_10 : (Jvm.Cond.initialized "java/lang/Math") ∈ gw := gw_of 10 (by decide +kernel) (by decide +kernel)
theorem kw_12 : (Jvm.Cond.instantiable "MoverRoom" (5 : Nat)) ∈ gw := gw_of 12 (by decide +kernel) (by decide +kernel)
theorem kw_16 : (Jvm.Cond.methodLink "MoverRoom" (3 : Nat) ({ cls := "java/lang/Object", name := "<init>", desc := "()V" } : Jvm.MethodName)) ∈ gw := gw_of 16 (by decide +kernel) (by decide +kernel)
theorem kw_17 : (Jvm.Cond.instanceMethod ({ cls := "java/lang/Object", name := "<init>", desc := "()V" } : Jvm.MethodName)) ∈ gw := gw_of 17 (by decide +kernel) (by decide +kernel)
theorem kw_18 : (Jvm.Cond.code ({ cls := "java/lang/Object", name := "<init>", desc := "()V" } : Jvm.MethodName) object_method_1_code (1 : Nat) (Option.none : Option Jvm.ClassFile.FieldType)) ∈ gw := gw_of 18 (by decide +kernel) (by decide +kernel)
theorem kw_19 : (Jvm.Cond.classLink "MoverRoom" (9 : Nat) "MoverRoom$Floor") ∈ gw := gw_of 19 (by decide +kernel) (by decide +kernel)
theorem kw_20 : (Jvm.Cond.instantiable "MoverRoom$Floor" (7 : Nat)) ∈ gw := gw_of 20 (by decide +kernel) (by decide +kernel)
theorem kw_21 : (Jvm.Cond.methodLink "MoverRoom" (11 : Nat) ({ cls := "MoverRoom$Floor", name := "<init>", desc := "()V" } : Jvm.MethodName)) ∈ gw := gw_of 21 (by decide +kernel) (by decide +kernel)
theorem kw_22 : (Jvm.Cond.instanceMethod ({ cls := "MoverRoom$Floor", name := "<init>", desc := "()V" } : Jvm.MethodName)) ∈ gw := gw_of 22 (by decide +kernel) (by decide +kernel)
theorem kw_23 : (Jvm.Cond.code ({ cls := "MoverRoom$Floor", name := "<init>", desc := "()V" } : Jvm.MethodName) prog_3_method_1_code (1 : Nat) (Option.none : Option Jvm.ClassFile.FieldType)) ∈ gw := gw_of 23 (by decide +kernel) (by decide +kernel)
theorem kw_24 : (Jvm.Cond.methodLink "MoverRoom$Floor" (3 : Nat) ({ cls := "java/lang/Object", name := "<init>", desc := "()V" } : Jvm.MethodName)) ∈ gw := gw_of 24 (by decide +kernel) (by decide +kernel)
theorem kw_25 : (Jvm.Cond.classLink "MoverRoom$Floor" (22 : Nat) "[[I") ∈ gw := gw_of 25 (by decide +kernel) (by decide +kernel)
theorem kw_27 : (Jvm.Cond.methodLink "MoverRoom$Floor" (27 : Nat) ({ cls := "MoverRoom$Floor", name := "build", desc := "(II)V" } : Jvm.MethodName)) ∈ gw := gw_of 27 (by decide +kernel) (by decide +kernel)
theorem kw_28 : (Jvm.Cond.instanceMethod ({ cls := "MoverRoom$Floor", name := "build", desc := "(II)V" } : Jvm.MethodName)) ∈ gw := gw_of 28 (by decide +kernel) (by decide +kernel)
theorem kw_29 : (Jvm.Cond.selects "MoverRoom$Floor" ({ cls := "MoverRoom$Floor", name := "build", desc := "(II)V" } : Jvm.MethodName) ({ cls := "MoverRoom$Floor", name := "build", desc := "(II)V" } : Jvm.MethodName)) ∈ gw := gw_of 29 (by decide +kernel) (by decide +kernel)
theorem kw_30 : (Jvm.Cond.code ({ cls := "MoverRoom$Floor", name := "build", desc := "(II)V" } : Jvm.MethodName) prog_3_method_2_code (4 : Nat) (Option.none : Option Jvm.ClassFile.FieldType)) ∈ gw := gw_of 30 (by decide +kernel) (by decide +kernel)
theorem kw_31 : (Jvm.Cond.methodLink "MoverRoom$Floor" (38 : Nat) ({ cls := "MoverRoom$Floor", name := "chart", desc := "()V" } : Jvm.MethodName)) ∈ gw := gw_of 31 (by decide +kernel) (by decide +kernel)
theorem kw_33 : (Jvm.Cond.instanceMethod ({ cls := "MoverRoom$Floor", name := "chart", desc := "()V" } : Jvm.MethodName)) ∈ gw := gw_of 33 (by decide +kernel) (by decide +kernel)
theorem kw_34 : (Jvm.Cond.code ({ cls := "MoverRoom$Floor", name := "chart", desc := "()V" } : Jvm.MethodName) prog_3_method_7_code (3 : Nat) (Option.none : Option Jvm.ClassFile.FieldType)) ∈ gw := gw_of 34 (by decide +kernel) (by decide +kernel)
theorem kw_35 : (Jvm.Cond.methodLink "MoverRoom$Floor" (51 : Nat) ({ cls := "MoverRoom$Floor", name := "chartCell", desc := "(II)V" } : Jvm.MethodName)) ∈ gw := gw_of 35 (by decide +kernel) (by decide +kernel)
theorem kw_37 : (Jvm.Cond.instanceMethod ({ cls := "MoverRoom$Floor", name := "chartCell", desc := "(II)V" } : Jvm.MethodName)) ∈ gw := gw_of 37 (by decide +kernel) (by decide +kernel)
theorem kw_38 : (Jvm.Cond.code ({ cls := "MoverRoom$Floor", name := "chartCell", desc := "(II)V" } : Jvm.MethodName) prog_3_method_8_code (3 : Nat) (Option.none : Option Jvm.ClassFile.FieldType)) ∈ gw := gw_of 38 (by decide +kernel) (by decide +kernel)
theorem kw_39 : (Jvm.Cond.methodLink "MoverRoom$Floor" (54 : Nat) ({ cls := "MoverRoom$Floor", name := "addStep", desc := "(II)V" } : Jvm.MethodName)) ∈ gw := gw_of 39 (by decide +kernel) (by decide +kernel)
theorem kw_41 : (Jvm.Cond.instanceMethod ({ cls := "MoverRoom$Floor", name := "addStep", desc := "(II)V" } : Jvm.MethodName)) ∈ gw := gw_of 41 (by decide +kernel) (by decide +kernel)
theorem kw_42 : (Jvm.Cond.code ({ cls := "MoverRoom$Floor", name := "addStep", desc := "(II)V" } : Jvm.MethodName) prog_3_method_9_code (3 : Nat) (Option.none : Option Jvm.ClassFile.FieldType)) ∈ gw := gw_of 42 (by decide +kernel) (by decide +kernel)
theorem kw_43 : (Jvm.Cond.methodLink "MoverRoom$Floor" (45 : Nat) ({ cls := "MoverRoom$Floor", name := "isFree", desc := "(I)Z" } : Jvm.MethodName)) ∈ gw := gw_of 43 (by decide +kernel) (by decide +kernel)
theorem kw_44 : (Jvm.Cond.instanceMethod ({ cls := "MoverRoom$Floor", name := "isFree", desc := "(I)Z" } : Jvm.MethodName)) ∈ gw := gw_of 44 (by decide +kernel) (by decide +kernel)
theorem kw_45 : (Jvm.Cond.selects "MoverRoom$Floor" ({ cls := "MoverRoom$Floor", name := "isFree", desc := "(I)Z" } : Jvm.MethodName) ({ cls := "MoverRoom$Floor", name := "isFree", desc := "(I)Z" } : Jvm.MethodName)) ∈ gw := gw_of 45 (by decide +kernel) (by decide +kernel)
theorem kw_46 : (Jvm.Cond.code ({ cls := "MoverRoom$Floor", name := "isFree", desc := "(I)Z" } : Jvm.MethodName) prog_3_method_5_code (2 : Nat) (Option.some Jvm.ClassFile.FieldType.boolean)) ∈ gw := gw_of 46 (by decide +kernel) (by decide +kernel)
theorem kw_47 : (Jvm.Cond.methodLink "MoverRoom$Floor" (41 : Nat) ({ cls := "MoverRoom$Floor", name := "has", desc := "(I)Z" } : Jvm.MethodName)) ∈ gw := gw_of 47 (by decide +kernel) (by decide +kernel)
theorem kw_48 : (Jvm.Cond.instanceMethod ({ cls := "MoverRoom$Floor", name := "has", desc := "(I)Z" } : Jvm.MethodName)) ∈ gw := gw_of 48 (by decide +kernel) (by decide +kernel)
theorem kw_49 : (Jvm.Cond.selects "MoverRoom$Floor" ({ cls := "MoverRoom$Floor", name := "has", desc := "(I)Z" } : Jvm.MethodName) ({ cls := "MoverRoom$Floor", name := "has", desc := "(I)Z" } : Jvm.MethodName)) ∈ gw := gw_of 49 (by decide +kernel) (by decide +kernel)
theorem kw_50 : (Jvm.Cond.code ({ cls := "MoverRoom$Floor", name := "has", desc := "(I)Z" } : Jvm.MethodName) prog_3_method_4_code (2 : Nat) (Option.some Jvm.ClassFile.FieldType.boolean)) ∈ gw := gw_of 50 (by decide +kernel) (by decide +kernel)
theorem kw_51 : (Jvm.Cond.fieldLink "MoverRoom$Floor" (31 : Nat) "MoverRoom$Floor" "width" "I") ∈ gw := gw_of 51 (by decide +kernel) (by decide +kernel)
theorem kw_52 : (Jvm.Cond.fieldLink "MoverRoom$Floor" (35 : Nat) "MoverRoom$Floor" "height" "I") ∈ gw := gw_of 52 (by decide +kernel) (by decide +kernel)
theorem kw_53 : (Jvm.Cond.fieldLink "MoverRoom$Floor" (9 : Nat) "MoverRoom$Floor" "walls" "[Z") ∈ gw := gw_of 53 (by decide +kernel) (by decide +kernel)
theorem kw_54 : (Jvm.Cond.fieldLink "MoverRoom$Crew" (41 : Nat) "MoverRoom$Floor" "freeCount" "I") ∈ gw := gw_of 54 (by decide +kernel) (by decide +kernel)
theorem kw_55 : (Jvm.Cond.fieldLink "MoverRoom$Floor" (48 : Nat) "MoverRoom$Floor" "freeCount" "I") ∈ gw := gw_of 55 (by decide +kernel) (by decide +kernel)
theorem kw_56 : (Jvm.Cond.fieldLink "MoverRoom$Planner" (142 : Nat) "MoverRoom$Floor" "freeCount" "I") ∈ gw := gw_of 56 (by decide +kernel) (by decide +kernel)
theorem kw_57 : (Jvm.Cond.fieldLink "MoverRoom$Floor" (15 : Nat) "MoverRoom$Floor" "rank" "[I") ∈ gw := gw_of 57 (by decide +kernel) (by decide +kernel)
theorem kw_58 : (Jvm.Cond.fieldLink "MoverRoom$Planner" (145 : Nat) "MoverRoom$Floor" "rank" "[I") ∈ gw := gw_of 58 (by decide +kernel) (by decide +kernel)
theorem kw_59 : (Jvm.Cond.fieldLink "MoverRoom$Floor" (19 : Nat) "MoverRoom$Floor" "stepCount" "[I") ∈ gw := gw_of 59 (by decide +kernel) (by decide +kernel)
theorem kw_60 : (Jvm.Cond.fieldLink "MoverRoom$Planner" (99 : Nat) "MoverRoom$Floor" "stepCount" "[I") ∈ gw := gw_of 60 (by decide +kernel) (by decide +kernel)
theorem kw_61 : (Jvm.Cond.fieldLink "MoverRoom$Crew" (71 : Nat) "MoverRoom$Floor" "stepCount" "[I") ∈ gw := gw_of 61 (by decide +kernel) (by decide +kernel)
theorem kw_62 : (Jvm.Cond.fieldLink "MoverRoom$Floor" (24 : Nat) "MoverRoom$Floor" "steps" "[[I") ∈ gw := gw_of 62 (by decide +kernel) (by decide +kernel)
theorem kw_63 : (Jvm.Cond.fieldLink "MoverRoom$Planner" (104 : Nat) "MoverRoom$Floor" "steps" "[[I") ∈ gw := gw_of 63 (by decide +kernel) (by decide +kernel)
theorem kw_64 : (Jvm.Cond.fieldLink "MoverRoom$Crew" (74 : Nat) "MoverRoom$Floor" "steps" "[[I") ∈ gw := gw_of 64 (by decide +kernel) (by decide +kernel)
theorem kw_80 : (Jvm.Cond.arrayClass Jvm.ClassFile.FieldType.boolean) ∈ gw := gw_of 80 (by decide +kernel) (by decide +kernel)
theorem kw_81 : (Jvm.Cond.arrayClass Jvm.ClassFile.FieldType.int) ∈ gw := gw_of 81 (by decide +kernel) (by decide +kernel)
theorem kw_82 : (Jvm.Cond.classLink "MoverRoom" (16 : Nat) "MoverRoom$Crew") ∈ gw := gw_of 82 (by decide +kernel) (by decide +kernel)
theorem kw_83 : (Jvm.Cond.instantiable "MoverRoom$Crew" (8 : Nat)) ∈ gw := gw_of 83 (by decide +kernel) (by decide +kernel)
theorem kw_84 : (Jvm.Cond.methodLink "MoverRoom" (18 : Nat) ({ cls := "MoverRoom$Crew", name := "<init>", desc := "(LMoverRoom$Floor;)V" } : Jvm.MethodName)) ∈ gw := gw_of 84 (by decide +kernel) (by decide +kernel)
theorem kw_85 : (Jvm.Cond.instanceMethod ({ cls := "MoverRoom$Crew", name := "<init>", desc := "(LMoverRoom$Floor;)V" } : Jvm.MethodName)) ∈ gw := gw_of 85 (by decide +kernel) (by decide +kernel)
theorem kw_86 : (Jvm.Cond.code ({ cls := "MoverRoom$Crew", name := "<init>", desc := "(LMoverRoom$Floor;)V" } : Jvm.MethodName) prog_2_method_1_code (2 : Nat) (Option.none : Option Jvm.ClassFile.FieldType)) ∈ gw := gw_of 86 (by decide +kernel) (by decide +kernel)
theorem kw_87 : (Jvm.Cond.methodLink "MoverRoom$Crew" (3 : Nat) ({ cls := "java/lang/Object", name := "<init>", desc := "()V" } : Jvm.MethodName)) ∈ gw := gw_of 87 (by decide +kernel) (by decide +kernel)
theorem kw_88 : (Jvm.Cond.classLink "MoverRoom$Crew" (18 : Nat) "[[I") ∈ gw := gw_of 88 (by decide +kernel) (by decide +kernel)
theorem kw_89 : (Jvm.Cond.fieldLink "MoverRoom$Crew" (33 : Nat) "MoverRoom$Crew" "floor" "LMoverRoom$Floor;") ∈ gw := gw_of 89 (by decide +kernel) (by decide +kernel)
theorem kw_90 : (Jvm.Cond.fieldLink "MoverRoom$Crew" (37 : Nat) "MoverRoom$Crew" "count" "I") ∈ gw := gw_of 90 (by decide +kernel) (by decide +kernel)
theorem kw_91 : (Jvm.Cond.fieldLink "MoverRoom$Verdict" (48 : Nat) "MoverRoom$Crew" "count" "I") ∈ gw := gw_of 91 (by decide +kernel) (by decide +kernel)
theorem kw_92 : (Jvm.Cond.fieldLink "MoverRoom" (80 : Nat) "MoverRoom$Crew" "count" "I") ∈ gw := gw_of 92 (by decide +kernel) (by decide +kernel)
theorem kw_93 : (Jvm.Cond.fieldLink "MoverRoom$Planner" (83 : Nat) "MoverRoom$Crew" "count" "I") ∈ gw := gw_of 93 (by decide +kernel) (by decide +kernel)
theorem kw_94 : (Jvm.Cond.fieldLink "MoverRoom$Crew" (9 : Nat) "MoverRoom$Crew" "starts" "[I") ∈ gw := gw_of 94 (by decide +kernel) (by decide +kernel)
theorem kw_95 : (Jvm.Cond.fieldLink "MoverRoom$Verdict" (67 : Nat) "MoverRoom$Crew" "starts" "[I") ∈ gw := gw_of 95 (by decide +kernel) (by decide +kernel)
theorem kw_96 : (Jvm.Cond.fieldLink "MoverRoom$Planner" (86 : Nat) "MoverRoom$Crew" "starts" "[I") ∈ gw := gw_of 96 (by decide +kernel) (by decide +kernel)
theorem kw_97 : (Jvm.Cond.fieldLink "MoverRoom$Crew" (15 : Nat) "MoverRoom$Crew" "goals" "[I") ∈ gw := gw_of 97 (by decide +kernel) (by decide +kernel)
theorem kw_98 : (Jvm.Cond.fieldLink "MoverRoom$Verdict" (76 : Nat) "MoverRoom$Crew" "goals" "[I") ∈ gw := gw_of 98 (by decide +kernel) (by decide +kernel)
theorem kw_99 : (Jvm.Cond.fieldLink "MoverRoom$Planner" (96 : Nat) "MoverRoom$Crew" "goals" "[I") ∈ gw := gw_of 99 (by decide +kernel) (by decide +kernel)
theorem kw_100 : (Jvm.Cond.fieldLink "MoverRoom$Crew" (20 : Nat) "MoverRoom$Crew" "toGoal" "[[I") ∈ gw := gw_of 100 (by decide +kernel) (by decide +kernel)
theorem kw_101 : (Jvm.Cond.fieldLink "MoverRoom$Planner" (124 : Nat) "MoverRoom$Crew" "toGoal" "[[I") ∈ gw := gw_of 101 (by decide +kernel) (by decide +kernel)
theorem kw_102 : (Jvm.Cond.fieldLink "MoverRoom$Crew" (23 : Nat) "MoverRoom$Crew" "queue" "[I") ∈ gw := gw_of 102 (by decide +kernel) (by decide +kernel)
theorem kw_103 : (Jvm.Cond.fieldLink "MoverRoom$Crew" (26 : Nat) "MoverRoom$Crew" "counts" "[J") ∈ gw := gw_of 103 (by decide +kernel) (by decide +kernel)
theorem kw_104 : (Jvm.Cond.fieldLink "MoverRoom$Crew" (30 : Nat) "MoverRoom$Crew" "nextCounts" "[J") ∈ gw := gw_of 104 (by decide +kernel) (by decide +kernel)
theorem kw_122 : (Jvm.Cond.arrayClass Jvm.ClassFile.FieldType.long) ∈ gw := gw_of 122 (by decide +kernel) (by decide +kernel)
theorem kw_123 : (Jvm.Cond.classLink "MoverRoom" (25 : Nat) "MoverRoom$Planner") ∈ gw := gw_of 123 (by decide +kernel) (by decide +kernel)
theorem kw_124 : (Jvm.Cond.instantiable "MoverRoom$Planner" (11 : Nat)) ∈ gw := gw_of 124 (by decide +kernel) (by decide +kernel)
theorem kw_125 : (Jvm.Cond.methodLink "MoverRoom" (27 : Nat) ({ cls := "MoverRoom$Planner", name := "<init>", desc := "(LMoverRoom$Floor;LMoverRoom$Crew;)V" } : Jvm.MethodName)) ∈ gw := gw_of 125 (by decide +kernel) (by decide +kernel)
theorem kw_126 : (Jvm.Cond.instanceMethod ({ cls := "MoverRoom$Planner", name := "<init>", desc := "(LMoverRoom$Floor;LMoverRoom$Crew;)V" } : Jvm.MethodName)) ∈ gw := gw_of 126 (by decide +kernel) (by decide +kernel)
theorem kw_127 : (Jvm.Cond.code ({ cls := "MoverRoom$Planner", name := "<init>", desc := "(LMoverRoom$Floor;LMoverRoom$Crew;)V" } : Jvm.MethodName) prog_6_method_1_code (3 : Nat) (Option.none : Option Jvm.ClassFile.FieldType)) ∈ gw := gw_of 127 (by decide +kernel) (by decide +kernel)
theorem kw_128 : (Jvm.Cond.methodLink "MoverRoom$Planner" (3 : Nat) ({ cls := "java/lang/Object", name := "<init>", desc := "()V" } : Jvm.MethodName)) ∈ gw := gw_of 128 (by decide +kernel) (by decide +kernel)
theorem kw_129 : (Jvm.Cond.classLink "MoverRoom$Planner" (9 : Nat) "MoverRoom$Levels") ∈ gw := gw_of 129 (by decide +kernel) (by decide +kernel)
theorem kw_130 : (Jvm.Cond.instantiable "MoverRoom$Levels" (1 : Nat)) ∈ gw := gw_of 130 (by decide +kernel) (by decide +kernel)
theorem kw_132 : (Jvm.Cond.instanceMethod ({ cls := "MoverRoom$Levels", name := "<init>", desc := "()V" } : Jvm.MethodName)) ∈ gw := gw_of 132 (by decide +kernel) (by decide +kernel)
theorem kw_133 : (Jvm.Cond.code ({ cls := "MoverRoom$Levels", name := "<init>", desc := "()V" } : Jvm.MethodName) prog_5_method_1_code (1 : Nat) (Option.none : Option Jvm.ClassFile.FieldType)) ∈ gw := gw_of 133 (by decide +kernel) (by decide +kernel)
theorem kw_134 : (Jvm.Cond.methodLink "MoverRoom$Levels" (3 : Nat) ({ cls := "java/lang/Object", name := "<init>", desc := "()V" } : Jvm.MethodName)) ∈ gw := gw_of 134 (by decide +kernel) (by decide +kernel)
theorem kw_135 : (Jvm.Cond.fieldLink "MoverRoom$Levels" (9 : Nat) "MoverRoom$Levels" "words" "[J") ∈ gw := gw_of 135 (by decide +kernel) (by decide +kernel)
theorem kw_139 : (Jvm.Cond.classLink "MoverRoom$Planner" (18 : Nat) "[[I") ∈ gw := gw_of 139 (by decide +kernel) (by decide +kernel)
theorem kw_140 : (Jvm.Cond.fieldLink "MoverRoom$Planner" (30 : Nat) "MoverRoom$Planner" "floor" "LMoverRoom$Floor;") ∈ gw := gw_of 140 (by decide +kernel) (by decide +kernel)
theorem kw_141 : (Jvm.Cond.fieldLink "MoverRoom$Planner" (34 : Nat) "MoverRoom$Planner" "crew" "LMoverRoom$Crew;") ∈ gw := gw_of 141 (by decide +kernel) (by decide +kernel)
theorem kw_142 : (Jvm.Cond.fieldLink "MoverRoom$Planner" (12 : Nat) "MoverRoom$Planner" "hopeless" "LMoverRoom$Levels;") ∈ gw := gw_of 142 (by decide +kernel) (by decide +kernel)
theorem kw_143 : (Jvm.Cond.fieldLink "MoverRoom$Planner" (20 : Nat) "MoverRoom$Planner" "cells" "[[I") ∈ gw := gw_of 143 (by decide +kernel) (by decide +kernel)
theorem kw_144 : (Jvm.Cond.fieldLink "MoverRoom$Planner" (23 : Nat) "MoverRoom$Planner" "settled" "[I") ∈ gw := gw_of 144 (by decide +kernel) (by decide +kernel)
theorem kw_145 : (Jvm.Cond.fieldLink "MoverRoom$Planner" (27 : Nat) "MoverRoom$Planner" "plan" "[[I") ∈ gw := gw_of 145 (by decide +kernel) (by decide +kernel)
theorem kw_146 : (Jvm.Cond.fieldLink "MoverRoom$Planner" (68 : Nat) "MoverRoom$Planner" "planEnd" "I") ∈ gw := gw_of 146 (by decide +kernel) (by decide +kernel)
theorem kw_147 : (Jvm.Cond.fieldLink "MoverRoom$Planner" (62 : Nat) "MoverRoom$Planner" "planSum" "I") ∈ gw := gw_of 147 (by decide +kernel) (by decide +kernel)
theorem kw_148 : (Jvm.Cond.fieldLink "MoverRoom$Planner" (45 : Nat) "MoverRoom$Planner" "nextMore" "I") ∈ gw := gw_of 148 (by decide +kernel) (by decide +kernel)
theorem kw_149 : (Jvm.Cond.fieldLink "MoverRoom$Planner" (42 : Nat) "MoverRoom$Planner" "known" "Z") ∈ gw := gw_of 149 (by decide +kernel) (by decide +kernel)
theorem kw_150 : (Jvm.Cond.fieldLink "MoverRoom$Planner" (38 : Nat) "MoverRoom$Planner" "found" "Z") ∈ gw := gw_of 150 (by decide +kernel) (by decide +kernel)
theorem kw_151 : (Jvm.Cond.fieldLink "MoverRoom" (98 : Nat) "MoverRoom$Planner" "found" "Z") ∈ gw := gw_of 151 (by decide +kernel) (by decide +kernel)
theorem kw_175 : (Jvm.Cond.classLink "MoverRoom" (34 : Nat) "MoverRoom$LaidPlan") ∈ gw := gw_of 175 (by decide +kernel) (by decide +kernel)
theorem kw_176 : (Jvm.Cond.instantiable "MoverRoom$LaidPlan" (3 : Nat)) ∈ gw := gw_of 176 (by decide +kernel) (by decide +kernel)
theorem kw_178 : (Jvm.Cond.instanceMethod ({ cls := "MoverRoom$LaidPlan", name := "<init>", desc := "()V" } : Jvm.MethodName)) ∈ gw := gw_of 178 (by decide +kernel) (by decide +kernel)
theorem kw_179 : (Jvm.Cond.code ({ cls := "MoverRoom$LaidPlan", name := "<init>", desc := "()V" } : Jvm.MethodName) prog_4_method_1_code (1 : Nat) (Option.none : Option Jvm.ClassFile.FieldType)) ∈ gw := gw_of 179 (by decide +kernel) (by decide +kernel)
theorem kw_180 : (Jvm.Cond.methodLink "MoverRoom$LaidPlan" (3 : Nat) ({ cls := "java/lang/Object", name := "<init>", desc := "()V" } : Jvm.MethodName)) ∈ gw := gw_of 180 (by decide +kernel) (by decide +kernel)
theorem kw_181 : (Jvm.Cond.classLink "MoverRoom$LaidPlan" (9 : Nat) "[[I") ∈ gw := gw_of 181 (by decide +kernel) (by decide +kernel)
theorem kw_182 : (Jvm.Cond.fieldLink "MoverRoom$LaidPlan" (11 : Nat) "MoverRoom$LaidPlan" "cells" "[[I") ∈ gw := gw_of 182 (by decide +kernel) (by decide +kernel)
theorem kw_183 : (Jvm.Cond.fieldLink "MoverRoom$LaidPlan" (16 : Nat) "MoverRoom$LaidPlan" "told" "[I") ∈ gw := gw_of 183 (by decide +kernel) (by decide +kernel)
theorem kw_184 : (Jvm.Cond.fieldLink "MoverRoom$LaidPlan" (20 : Nat) "MoverRoom$LaidPlan" "length" "[I") ∈ gw := gw_of 184 (by decide +kernel) (by decide +kernel)
theorem kw_192 : (Jvm.Cond.classLink "MoverRoom" (41 : Nat) "MoverRoom$Verdict") ∈ gw := gw_of 192 (by decide +kernel) (by decide +kernel)
theorem kw_193 : (Jvm.Cond.instantiable "MoverRoom$Verdict" (7 : Nat)) ∈ gw := gw_of 193 (by decide +kernel) (by decide +kernel)
theorem kw_194 : (Jvm.Cond.methodLink "MoverRoom" (43 : Nat) ({ cls := "MoverRoom$Verdict", name := "<init>", desc := "(LMoverRoom$Floor;LMoverRoom$Crew;LMoverRoom$LaidPlan;)V" } : Jvm.MethodName)) ∈ gw := gw_of 194 (by decide +kernel) (by decide +kernel)
theorem kw_195 : (Jvm.Cond.instanceMethod ({ cls := "MoverRoom$Verdict", name := "<init>", desc := "(LMoverRoom$Floor;LMoverRoom$Crew;LMoverRoom$LaidPlan;)V" } : Jvm.MethodName)) ∈ gw := gw_of 195 (by decide +kernel) (by decide +kernel)
theorem kw_196 : (Jvm.Cond.code ({ cls := "MoverRoom$Verdict", name := "<init>", desc := "(LMoverRoom$Floor;LMoverRoom$Crew;LMoverRoom$LaidPlan;)V" } : Jvm.MethodName) prog_7_method_1_code (4 : Nat) (Option.none : Option Jvm.ClassFile.FieldType)) ∈ gw := gw_of 196 (by decide +kernel) (by decide +kernel)
theorem kw_197 : (Jvm.Cond.methodLink "MoverRoom$Verdict" (3 : Nat) ({ cls := "java/lang/Object", name := "<init>", desc := "()V" } : Jvm.MethodName)) ∈ gw := gw_of 197 (by decide +kernel) (by decide +kernel)
theorem kw_198 : (Jvm.Cond.fieldLink "MoverRoom$Verdict" (9 : Nat) "MoverRoom$Verdict" "floor" "LMoverRoom$Floor;") ∈ gw := gw_of 198 (by decide +kernel) (by decide +kernel)
theorem kw_199 : (Jvm.Cond.fieldLink "MoverRoom$Verdict" (15 : Nat) "MoverRoom$Verdict" "crew" "LMoverRoom$Crew;") ∈ gw := gw_of 199 (by decide +kernel) (by decide +kernel)
theorem kw_200 : (Jvm.Cond.fieldLink "MoverRoom$Verdict" (19 : Nat) "MoverRoom$Verdict" "laid" "LMoverRoom$LaidPlan;") ∈ gw := gw_of 200 (by decide +kernel) (by decide +kernel)
theorem kw_201 : (Jvm.Cond.fieldLink "MoverRoom$Verdict" (27 : Nat) "MoverRoom$Verdict" "sort" "I") ∈ gw := gw_of 201 (by decide +kernel) (by decide +kernel)
theorem kw_202 : (Jvm.Cond.fieldLink "MoverRoom" (115 : Nat) "MoverRoom$Verdict" "sort" "I") ∈ gw := gw_of 202 (by decide +kernel) (by decide +kernel)
theorem kw_203 : (Jvm.Cond.fieldLink "MoverRoom$Verdict" (39 : Nat) "MoverRoom$Verdict" "time" "I") ∈ gw := gw_of 203 (by decide +kernel) (by decide +kernel)
theorem kw_204 : (Jvm.Cond.fieldLink "MoverRoom" (118 : Nat) "MoverRoom$Verdict" "time" "I") ∈ gw := gw_of 204 (by decide +kernel) (by decide +kernel)
theorem kw_205 : (Jvm.Cond.fieldLink "MoverRoom$Verdict" (42 : Nat) "MoverRoom$Verdict" "lesser" "I") ∈ gw := gw_of 205 (by decide +kernel) (by decide +kernel)
theorem kw_206 : (Jvm.Cond.fieldLink "MoverRoom" (121 : Nat) "MoverRoom$Verdict" "lesser" "I") ∈ gw := gw_of 206 (by decide +kernel) (by decide +kernel)
theorem kw_207 : (Jvm.Cond.fieldLink "MoverRoom$Verdict" (45 : Nat) "MoverRoom$Verdict" "greater" "I") ∈ gw := gw_of 207 (by decide +kernel) (by decide +kernel)
theorem kw_208 : (Jvm.Cond.fieldLink "MoverRoom" (124 : Nat) "MoverRoom$Verdict" "greater" "I") ∈ gw := gw_of 208 (by decide +kernel) (by decide +kernel)
theorem kw_224 : (Jvm.Cond.fieldLink "MoverRoom" (12 : Nat) "MoverRoom" "floor" "LMoverRoom$Floor;") ∈ gw := gw_of 224 (by decide +kernel) (by decide +kernel)
theorem kw_225 : (Jvm.Cond.fieldLink "MoverRoom" (21 : Nat) "MoverRoom" "crew" "LMoverRoom$Crew;") ∈ gw := gw_of 225 (by decide +kernel) (by decide +kernel)
theorem kw_226 : (Jvm.Cond.fieldLink "MoverRoom" (30 : Nat) "MoverRoom" "planner" "LMoverRoom$Planner;") ∈ gw := gw_of 226 (by decide +kernel) (by decide +kernel)
theorem kw_227 : (Jvm.Cond.fieldLink "MoverRoom" (37 : Nat) "MoverRoom" "laid" "LMoverRoom$LaidPlan;") ∈ gw := gw_of 227 (by decide +kernel) (by decide +kernel)
theorem kw_228 : (Jvm.Cond.fieldLink "MoverRoom" (46 : Nat) "MoverRoom" "verdict" "LMoverRoom$Verdict;") ∈ gw := gw_of 228 (by decide +kernel) (by decide +kernel)
theorem kw_244 : (Jvm.Cond.methodLink "MoverRoom" (50 : Nat) ({ cls := "MoverRoom$Floor", name := "build", desc := "(II)V" } : Jvm.MethodName)) ∈ gw := gw_of 244 (by decide +kernel) (by decide +kernel)
theorem kw_245 : (Jvm.Cond.methodLink "MoverRoom" (54 : Nat) ({ cls := "MoverRoom$Crew", name := "dismiss", desc := "()V" } : Jvm.MethodName)) ∈ gw := gw_of 245 (by decide +kernel) (by decide +kernel)
theorem kw_246 : (Jvm.Cond.instanceMethod ({ cls := "MoverRoom$Crew", name := "dismiss", desc := "()V" } : Jvm.MethodName)) ∈ gw := gw_of 246 (by decide +kernel) (by decide +kernel)
theorem kw_247 : (Jvm.Cond.selects "MoverRoom$Crew" ({ cls := "MoverRoom$Crew", name := "dismiss", desc := "()V" } : Jvm.MethodName) ({ cls := "MoverRoom$Crew", name := "dismiss", desc := "()V" } : Jvm.MethodName)) ∈ gw := gw_of 247 (by decide +kernel) (by decide +kernel)
theorem kw_248 : (Jvm.Cond.code ({ cls := "MoverRoom$Crew", name := "dismiss", desc := "()V" } : Jvm.MethodName) prog_2_method_3_code (1 : Nat) (Option.none : Option Jvm.ClassFile.FieldType)) ∈ gw := gw_of 248 (by decide +kernel) (by decide +kernel)
theorem kw_249 : (Jvm.Cond.methodLink "MoverRoom" (57 : Nat) ({ cls := "MoverRoom$Planner", name := "forget", desc := "()V" } : Jvm.MethodName)) ∈ gw := gw_of 249 (by decide +kernel) (by decide +kernel)
theorem kw_250 : (Jvm.Cond.instanceMethod ({ cls := "MoverRoom$Planner", name := "forget", desc := "()V" } : Jvm.MethodName)) ∈ gw := gw_of 250 (by decide +kernel) (by decide +kernel)
theorem kw_251 : (Jvm.Cond.selects "MoverRoom$Planner" ({ cls := "MoverRoom$Planner", name := "forget", desc := "()V" } : Jvm.MethodName) ({ cls := "MoverRoom$Planner", name := "forget", desc := "()V" } : Jvm.MethodName)) ∈ gw := gw_of 251 (by decide +kernel) (by decide +kernel)
theorem kw_252 : (Jvm.Cond.code ({ cls := "MoverRoom$Planner", name := "forget", desc := "()V" } : Jvm.MethodName) prog_6_method_2_code (1 : Nat) (Option.none : Option Jvm.ClassFile.FieldType)) ∈ gw := gw_of 252 (by decide +kernel) (by decide +kernel)
theorem kw_253 : (Jvm.Cond.methodLink "MoverRoom" (60 : Nat) ({ cls := "MoverRoom$LaidPlan", name := "forget", desc := "()V" } : Jvm.MethodName)) ∈ gw := gw_of 253 (by decide +kernel) (by decide +kernel)
theorem kw_254 : (Jvm.Cond.instanceMethod ({ cls := "MoverRoom$LaidPlan", name := "forget", desc := "()V" } : Jvm.MethodName)) ∈ gw := gw_of 254 (by decide +kernel) (by decide +kernel)
theorem kw_255 : (Jvm.Cond.selects "MoverRoom$LaidPlan" ({ cls := "MoverRoom$LaidPlan", name := "forget", desc := "()V" } : Jvm.MethodName) ({ cls := "MoverRoom$LaidPlan", name := "forget", desc := "()V" } : Jvm.MethodName)) ∈ gw := gw_of 255 (by decide +kernel) (by decide +kernel)
theorem kw_256 : (Jvm.Cond.code ({ cls := "MoverRoom$LaidPlan", name := "forget", desc := "()V" } : Jvm.MethodName) prog_4_method_2_code (1 : Nat) (Option.none : Option Jvm.ClassFile.FieldType)) ∈ gw := gw_of 256 (by decide +kernel) (by decide +kernel)
theorem kw_257 : (Jvm.Cond.methodLink "MoverRoom$LaidPlan" (23 : Nat) ({ cls := "java/util/Arrays", name := "fill", desc := "([II)V" } : Jvm.MethodName)) ∈ gw := gw_of 257 (by decide +kernel) (by decide +kernel)
theorem kw_258 : (Jvm.Cond.static ({ cls := "java/util/Arrays", name := "fill", desc := "([II)V" } : Jvm.MethodName)) ∈ gw := gw_of 258 (by decide +kernel) (by decide +kernel)
theorem kw_259 : (Jvm.Cond.code ({ cls := "java/util/Arrays", name := "fill", desc := "([II)V" } : Jvm.MethodName) prog_11_method_103_code (4 : Nat) (Option.none : Option Jvm.ClassFile.FieldType)) ∈ gw := gw_of 259 (by decide +kernel) (by decide +kernel)
theorem kw_264 : (Jvm.Cond.methodLink "MoverRoom" (61 : Nat) ({ cls := "MoverRoom$Floor", name := "has", desc := "(I)Z" } : Jvm.MethodName)) ∈ gw := gw_of 264 (by decide +kernel) (by decide +kernel)
theorem kw_265 : (Jvm.Cond.methodLink "MoverRoom" (65 : Nat) ({ cls := "MoverRoom$Floor", name := "turn", desc := "(I)V" } : Jvm.MethodName)) ∈ gw := gw_of 265 (by decide +kernel) (by decide +kernel)
theorem kw_266 : (Jvm.Cond.instanceMethod ({ cls := "MoverRoom$Floor", name := "turn", desc := "(I)V" } : Jvm.MethodName)) ∈ gw := gw_of 266 (by decide +kernel) (by decide +kernel)
theorem kw_267 : (Jvm.Cond.selects "MoverRoom$Floor" ({ cls := "MoverRoom$Floor", name := "turn", desc := "(I)V" } : Jvm.MethodName) ({ cls := "MoverRoom$Floor", name := "turn", desc := "(I)V" } : Jvm.MethodName)) ∈ gw := gw_of 267 (by decide +kernel) (by decide +kernel)
theorem kw_268 : (Jvm.Cond.code ({ cls := "MoverRoom$Floor", name := "turn", desc := "(I)V" } : Jvm.MethodName) prog_3_method_3_code (2 : Nat) (Option.none : Option Jvm.ClassFile.FieldType)) ∈ gw := gw_of 268 (by decide +kernel) (by decide +kernel)
theorem kw_269 : (Jvm.Cond.methodLink "MoverRoom" (69 : Nat) ({ cls := "MoverRoom$Floor", name := "isFree", desc := "(I)Z" } : Jvm.MethodName)) ∈ gw := gw_of 269 (by decide +kernel) (by decide +kernel)
theorem kw_274 : (Jvm.Cond.methodLink "MoverRoom" (72 : Nat) ({ cls := "MoverRoom$Crew", name := "canTake", desc := "(II)Z" } : Jvm.MethodName)) ∈ gw := gw_of 274 (by decide +kernel) (by decide +kernel)
theorem kw_275 : (Jvm.Cond.instanceMethod ({ cls := "MoverRoom$Crew", name := "canTake", desc := "(II)Z" } : Jvm.MethodName)) ∈ gw := gw_of 275 (by decide +kernel) (by decide +kernel)
theorem kw_276 : (Jvm.Cond.selects "MoverRoom$Crew" ({ cls := "MoverRoom$Crew", name := "canTake", desc := "(II)Z" } : Jvm.MethodName) ({ cls := "MoverRoom$Crew", name := "canTake", desc := "(II)Z" } : Jvm.MethodName)) ∈ gw := gw_of 276 (by decide +kernel) (by decide +kernel)
theorem kw_277 : (Jvm.Cond.code ({ cls := "MoverRoom$Crew", name := "canTake", desc := "(II)Z" } : Jvm.MethodName) prog_2_method_4_code (5 : Nat) (Option.some Jvm.ClassFile.FieldType.boolean)) ∈ gw := gw_of 277 (by decide +kernel) (by decide +kernel)
theorem kw_278 : (Jvm.Cond.methodLink "MoverRoom" (76 : Nat) ({ cls := "MoverRoom$Crew", name := "take", desc := "(II)I" } : Jvm.MethodName)) ∈ gw := gw_of 278 (by decide +kernel) (by decide +kernel)
theorem kw_279 : (Jvm.Cond.instanceMethod ({ cls := "MoverRoom$Crew", name := "take", desc := "(II)I" } : Jvm.MethodName)) ∈ gw := gw_of 279 (by decide +kernel) (by decide +kernel)
theorem kw_280 : (Jvm.Cond.selects "MoverRoom$Crew" ({ cls := "MoverRoom$Crew", name := "take", desc := "(II)I" } : Jvm.MethodName) ({ cls := "MoverRoom$Crew", name := "take", desc := "(II)I" } : Jvm.MethodName)) ∈ gw := gw_of 280 (by decide +kernel) (by decide +kernel)
theorem kw_281 : (Jvm.Cond.code ({ cls := "MoverRoom$Crew", name := "take", desc := "(II)I" } : Jvm.MethodName) prog_2_method_5_code (4 : Nat) (Option.some Jvm.ClassFile.FieldType.int)) ∈ gw := gw_of 281 (by decide +kernel) (by decide +kernel)
theorem kw_282 : (Jvm.Cond.methodLink "MoverRoom$Crew" (46 : Nat) ({ cls := "MoverRoom$Crew", name := "measure", desc := "(I[I)V" } : Jvm.MethodName)) ∈ gw := gw_of 282 (by decide +kernel) (by decide +kernel)
theorem kw_284 : (Jvm.Cond.instanceMethod ({ cls := "MoverRoom$Crew", name := "measure", desc := "(I[I)V" } : Jvm.MethodName)) ∈ gw := gw_of 284 (by decide +kernel) (by decide +kernel)
theorem kw_285 : (Jvm.Cond.code ({ cls := "MoverRoom$Crew", name := "measure", desc := "(I[I)V" } : Jvm.MethodName) prog_2_method_11_code (8 : Nat) (Option.none : Option Jvm.ClassFile.FieldType)) ∈ gw := gw_of 285 (by decide +kernel) (by decide +kernel)
theorem kw_286 : (Jvm.Cond.methodLink "MoverRoom$Crew" (77 : Nat) ({ cls := "java/util/Arrays", name := "fill", desc := "([II)V" } : Jvm.MethodName)) ∈ gw := gw_of 286 (by decide +kernel) (by decide +kernel)
theorem kw_295 : (Jvm.Cond.methodLink "MoverRoom" (84 : Nat) ({ cls := "MoverRoom$Crew", name := "has", desc := "(I)Z" } : Jvm.MethodName)) ∈ gw := gw_of 295 (by decide +kernel) (by decide +kernel)
theorem kw_296 : (Jvm.Cond.instanceMethod ({ cls := "MoverRoom$Crew", name := "has", desc := "(I)Z" } : Jvm.MethodName)) ∈ gw := gw_of 296 (by decide +kernel) (by decide +kernel)
theorem kw_297 : (Jvm.Cond.selects "MoverRoom$Crew" ({ cls := "MoverRoom$Crew", name := "has", desc := "(I)Z" } : Jvm.MethodName) ({ cls := "MoverRoom$Crew", name := "has", desc := "(I)Z" } : Jvm.MethodName)) ∈ gw := gw_of 297 (by decide +kernel) (by decide +kernel)
theorem kw_298 : (Jvm.Cond.code ({ cls := "MoverRoom$Crew", name := "has", desc := "(I)Z" } : Jvm.MethodName) prog_2_method_2_code (2 : Nat) (Option.some Jvm.ClassFile.FieldType.boolean)) ∈ gw := gw_of 298 (by decide +kernel) (by decide +kernel)
theorem kw_299 : (Jvm.Cond.methodLink "MoverRoom" (85 : Nat) ({ cls := "MoverRoom$Crew", name := "wayFromStart", desc := "(I)I" } : Jvm.MethodName)) ∈ gw := gw_of 299 (by decide +kernel) (by decide +kernel)
theorem kw_300 : (Jvm.Cond.instanceMethod ({ cls := "MoverRoom$Crew", name := "wayFromStart", desc := "(I)I" } : Jvm.MethodName)) ∈ gw := gw_of 300 (by decide +kernel) (by decide +kernel)
theorem kw_301 : (Jvm.Cond.selects "MoverRoom$Crew" ({ cls := "MoverRoom$Crew", name := "wayFromStart", desc := "(I)I" } : Jvm.MethodName) ({ cls := "MoverRoom$Crew", name := "wayFromStart", desc := "(I)I" } : Jvm.MethodName)) ∈ gw := gw_of 301 (by decide +kernel) (by decide +kernel)
theorem kw_302 : (Jvm.Cond.code ({ cls := "MoverRoom$Crew", name := "wayFromStart", desc := "(I)I" } : Jvm.MethodName) prog_2_method_6_code (2 : Nat) (Option.some Jvm.ClassFile.FieldType.int)) ∈ gw := gw_of 302 (by decide +kernel) (by decide +kernel)
theorem kw_307 : (Jvm.Cond.constantLong "MoverRoom" (89 : Nat) (-1 : Int64)) ∈ gw := gw_of 307 (by decide +kernel) (by decide +kernel)
theorem kw_308 : (Jvm.Cond.methodLink "MoverRoom" (91 : Nat) ({ cls := "MoverRoom$Crew", name := "countWays", desc := "(II)J" } : Jvm.MethodName)) ∈ gw := gw_of 308 (by decide +kernel) (by decide +kernel)
theorem kw_309 : (Jvm.Cond.instanceMethod ({ cls := "MoverRoom$Crew", name := "countWays", desc := "(II)J" } : Jvm.MethodName)) ∈ gw := gw_of 309 (by decide +kernel) (by decide +kernel)
theorem kw_310 : (Jvm.Cond.selects "MoverRoom$Crew" ({ cls := "MoverRoom$Crew", name := "countWays", desc := "(II)J" } : Jvm.MethodName) ({ cls := "MoverRoom$Crew", name := "countWays", desc := "(II)J" } : Jvm.MethodName)) ∈ gw := gw_of 310 (by decide +kernel) (by decide +kernel)
theorem kw_311 : (Jvm.Cond.code ({ cls := "MoverRoom$Crew", name := "countWays", desc := "(II)J" } : Jvm.MethodName) prog_2_method_8_code (6 : Nat) (Option.some Jvm.ClassFile.FieldType.long)) ∈ gw := gw_of 311 (by decide +kernel) (by decide +kernel)
theorem kw_312 : (Jvm.Cond.methodLink "MoverRoom$Crew" (54 : Nat) ({ cls := "java/util/Arrays", name := "fill", desc := "([JJ)V" } : Jvm.MethodName)) ∈ gw := gw_of 312 (by decide +kernel) (by decide +kernel)
theorem kw_313 : (Jvm.Cond.static ({ cls := "java/util/Arrays", name := "fill", desc := "([JJ)V" } : Jvm.MethodName)) ∈ gw := gw_of 313 (by decide +kernel) (by decide +kernel)
theorem kw_314 : (Jvm.Cond.code ({ cls := "java/util/Arrays", name := "fill", desc := "([JJ)V" } : Jvm.MethodName) prog_11_method_101_code (5 : Nat) (Option.none : Option Jvm.ClassFile.FieldType)) ∈ gw := gw_of 314 (by decide +kernel) (by decide +kernel)
theorem kw_315 : (Jvm.Cond.methodLink "MoverRoom$Crew" (60 : Nat) ({ cls := "MoverRoom$Crew", name := "spreadCounts", desc := "()V" } : Jvm.MethodName)) ∈ gw := gw_of 315 (by decide +kernel) (by decide +kernel)
theorem kw_317 : (Jvm.Cond.instanceMethod ({ cls := "MoverRoom$Crew", name := "spreadCounts", desc := "()V" } : Jvm.MethodName)) ∈ gw := gw_of 317 (by decide +kernel) (by decide +kernel)
theorem kw_318 : (Jvm.Cond.code ({ cls := "MoverRoom$Crew", name := "spreadCounts", desc := "()V" } : Jvm.MethodName) prog_2_method_9_code (2 : Nat) (Option.none : Option Jvm.ClassFile.FieldType)) ∈ gw := gw_of 318 (by decide +kernel) (by decide +kernel)
theorem kw_319 : (Jvm.Cond.methodLink "MoverRoom$Crew" (67 : Nat) ({ cls := "MoverRoom$Floor", name := "isFree", desc := "(I)Z" } : Jvm.MethodName)) ∈ gw := gw_of 319 (by decide +kernel) (by decide +kernel)
theorem kw_320 : (Jvm.Cond.methodLink "MoverRoom$Crew" (63 : Nat) ({ cls := "MoverRoom$Crew", name := "countsBeside", desc := "(I)J" } : Jvm.MethodName)) ∈ gw := gw_of 320 (by decide +kernel) (by decide +kernel)
theorem kw_322 : (Jvm.Cond.instanceMethod ({ cls := "MoverRoom$Crew", name := "countsBeside", desc := "(I)J" } : Jvm.MethodName)) ∈ gw := gw_of 322 (by decide +kernel) (by decide +kernel)
theorem kw_323 : (Jvm.Cond.code ({ cls := "MoverRoom$Crew", name := "countsBeside", desc := "(I)J" } : Jvm.MethodName) prog_2_method_10_code (5 : Nat) (Option.some Jvm.ClassFile.FieldType.long)) ∈ gw := gw_of 323 (by decide +kernel) (by decide +kernel)
theorem kw_328 : (Jvm.Cond.methodLink "MoverRoom" (95 : Nat) ({ cls := "MoverRoom$Planner", name := "find", desc := "(I)I" } : Jvm.MethodName)) ∈ gw := gw_of 328 (by decide +kernel) (by decide +kernel)
theorem kw_329 : (Jvm.Cond.instanceMethod ({ cls := "MoverRoom$Planner", name := "find", desc := "(I)I" } : Jvm.MethodName)) ∈ gw := gw_of 329 (by decide +kernel) (by decide +kernel)
theorem kw_330 : (Jvm.Cond.selects "MoverRoom$Planner" ({ cls := "MoverRoom$Planner", name := "find", desc := "(I)I" } : Jvm.MethodName) ({ cls := "MoverRoom$Planner", name := "find", desc := "(I)I" } : Jvm.MethodName)) ∈ gw := gw_of 330 (by decide +kernel) (by decide +kernel)
theorem kw_331 : (Jvm.Cond.code ({ cls := "MoverRoom$Planner", name := "find", desc := "(I)I" } : Jvm.MethodName) prog_6_method_3_code (3 : Nat) (Option.some Jvm.ClassFile.FieldType.int)) ∈ gw := gw_of 331 (by decide +kernel) (by decide +kernel)
theorem kw_332 : (Jvm.Cond.methodLink "MoverRoom$Planner" (49 : Nat) ({ cls := "MoverRoom$Crew", name := "sumOfWays", desc := "()I" } : Jvm.MethodName)) ∈ gw := gw_of 332 (by decide +kernel) (by decide +kernel)
theorem kw_333 : (Jvm.Cond.instanceMethod ({ cls := "MoverRoom$Crew", name := "sumOfWays", desc := "()I" } : Jvm.MethodName)) ∈ gw := gw_of 333 (by decide +kernel) (by decide +kernel)
theorem kw_334 : (Jvm.Cond.selects "MoverRoom$Crew" ({ cls := "MoverRoom$Crew", name := "sumOfWays", desc := "()I" } : Jvm.MethodName) ({ cls := "MoverRoom$Crew", name := "sumOfWays", desc := "()I" } : Jvm.MethodName)) ∈ gw := gw_of 334 (by decide +kernel) (by decide +kernel)
theorem kw_335 : (Jvm.Cond.code ({ cls := "MoverRoom$Crew", name := "sumOfWays", desc := "()I" } : Jvm.MethodName) prog_2_method_7_code (4 : Nat) (Option.some Jvm.ClassFile.FieldType.int)) ∈ gw := gw_of 335 (by decide +kernel) (by decide +kernel)
theorem kw_336 : (Jvm.Cond.methodLink "MoverRoom$Crew" (50 : Nat) ({ cls := "MoverRoom$Crew", name := "wayFromStart", desc := "(I)I" } : Jvm.MethodName)) ∈ gw := gw_of 336 (by decide +kernel) (by decide +kernel)
theorem kw_337 : (Jvm.Cond.methodLink "MoverRoom$Planner" (55 : Nat) ({ cls := "MoverRoom$Planner", name := "begin", desc := "()V" } : Jvm.MethodName)) ∈ gw := gw_of 337 (by decide +kernel) (by decide +kernel)
theorem kw_339 : (Jvm.Cond.instanceMethod ({ cls := "MoverRoom$Planner", name := "begin", desc := "()V" } : Jvm.MethodName)) ∈ gw := gw_of 339 (by decide +kernel) (by decide +kernel)
theorem kw_340 : (Jvm.Cond.code ({ cls := "MoverRoom$Planner", name := "begin", desc := "()V" } : Jvm.MethodName) prog_6_method_6_code (2 : Nat) (Option.none : Option Jvm.ClassFile.FieldType)) ∈ gw := gw_of 340 (by decide +kernel) (by decide +kernel)
theorem kw_341 : (Jvm.Cond.methodLink "MoverRoom$Planner" (80 : Nat) ({ cls := "MoverRoom$Levels", name := "reset", desc := "()V" } : Jvm.MethodName)) ∈ gw := gw_of 341 (by decide +kernel) (by decide +kernel)
theorem kw_342 : (Jvm.Cond.instanceMethod ({ cls := "MoverRoom$Levels", name := "reset", desc := "()V" } : Jvm.MethodName)) ∈ gw := gw_of 342 (by decide +kernel) (by decide +kernel)
theorem kw_343 : (Jvm.Cond.selects "MoverRoom$Levels" ({ cls := "MoverRoom$Levels", name := "reset", desc := "()V" } : Jvm.MethodName) ({ cls := "MoverRoom$Levels", name := "reset", desc := "()V" } : Jvm.MethodName)) ∈ gw := gw_of 343 (by decide +kernel) (by decide +kernel)
theorem kw_344 : (Jvm.Cond.code ({ cls := "MoverRoom$Levels", name := "reset", desc := "()V" } : Jvm.MethodName) prog_5_method_2_code (1 : Nat) (Option.none : Option Jvm.ClassFile.FieldType)) ∈ gw := gw_of 344 (by decide +kernel) (by decide +kernel)
theorem kw_345 : (Jvm.Cond.methodLink "MoverRoom$Levels" (15 : Nat) ({ cls := "java/util/Arrays", name := "fill", desc := "([JJ)V" } : Jvm.MethodName)) ∈ gw := gw_of 345 (by decide +kernel) (by decide +kernel)
theorem kw_346 : (Jvm.Cond.methodLink "MoverRoom$Planner" (58 : Nat) ({ cls := "MoverRoom$Planner", name := "canEnd", desc := "(II)Z" } : Jvm.MethodName)) ∈ gw := gw_of 346 (by decide +kernel) (by decide +kernel)
theorem kw_348 : (Jvm.Cond.instanceMethod ({ cls := "MoverRoom$Planner", name := "canEnd", desc := "(II)Z" } : Jvm.MethodName)) ∈ gw := gw_of 348 (by decide +kernel) (by decide +kernel)
theorem kw_349 : (Jvm.Cond.code ({ cls := "MoverRoom$Planner", name := "canEnd", desc := "(II)Z" } : Jvm.MethodName) prog_6_method_10_code (6 : Nat) (Option.some Jvm.ClassFile.FieldType.boolean)) ∈ gw := gw_of 349 (by decide +kernel) (by decide +kernel)
theorem kw_350 : (Jvm.Cond.methodLink "MoverRoom$Planner" (111 : Nat) ({ cls := "MoverRoom$Planner", name := "startSearch", desc := "(III)I" } : Jvm.MethodName)) ∈ gw := gw_of 350 (by decide +kernel) (by decide +kernel)
theorem kw_352 : (Jvm.Cond.instanceMethod ({ cls := "MoverRoom$Planner", name := "startSearch", desc := "(III)I" } : Jvm.MethodName)) ∈ gw := gw_of 352 (by decide +kernel) (by decide +kernel)
theorem kw_353 : (Jvm.Cond.code ({ cls := "MoverRoom$Planner", name := "startSearch", desc := "(III)I" } : Jvm.MethodName) prog_6_method_11_code (7 : Nat) (Option.some Jvm.ClassFile.FieldType.int)) ∈ gw := gw_of 353 (by decide +kernel) (by decide +kernel)
theorem kw_354 : (Jvm.Cond.methodLink "MoverRoom$Planner" (118 : Nat) ({ cls := "MoverRoom$Planner", name := "isIn", desc := "(II)Z" } : Jvm.MethodName)) ∈ gw := gw_of 354 (by decide +kernel) (by decide +kernel)
theorem kw_355 : (Jvm.Cond.static ({ cls := "MoverRoom$Planner", name := "isIn", desc := "(II)Z" } : Jvm.MethodName)) ∈ gw := gw_of 355 (by decide +kernel) (by decide +kernel)
theorem kw_356 : (Jvm.Cond.code ({ cls := "MoverRoom$Planner", name := "isIn", desc := "(II)Z" } : Jvm.MethodName) prog_6_method_18_code (2 : Nat) (Option.some Jvm.ClassFile.FieldType.boolean)) ∈ gw := gw_of 356 (by decide +kernel) (by decide +kernel)
theorem kw_357 : (Jvm.Cond.methodLink "MoverRoom$Planner" (71 : Nat) ({ cls := "MoverRoom$Planner", name := "homeSince", desc := "(II)I" } : Jvm.MethodName)) ∈ gw := gw_of 357 (by decide +kernel) (by decide +kernel)
theorem kw_359 : (Jvm.Cond.instanceMethod ({ cls := "MoverRoom$Planner", name := "homeSince", desc := "(II)I" } : Jvm.MethodName)) ∈ gw := gw_of 359 (by decide +kernel) (by decide +kernel)
theorem kw_360 : (Jvm.Cond.code ({ cls := "MoverRoom$Planner", name := "homeSince", desc := "(II)I" } : Jvm.MethodName) prog_6_method_12_code (4 : Nat) (Option.some Jvm.ClassFile.FieldType.int)) ∈ gw := gw_of 360 (by decide +kernel) (by decide +kernel)
theorem kw_361 : (Jvm.Cond.methodLink "MoverRoom$Planner" (121 : Nat) ({ cls := "MoverRoom$Planner", name := "wayLeft", desc := "(II)I" } : Jvm.MethodName)) ∈ gw := gw_of 361 (by decide +kernel) (by decide +kernel)
theorem kw_363 : (Jvm.Cond.instanceMethod ({ cls := "MoverRoom$Planner", name := "wayLeft", desc := "(II)I" } : Jvm.MethodName)) ∈ gw := gw_of 363 (by decide +kernel) (by decide +kernel)
theorem kw_364 : (Jvm.Cond.code ({ cls := "MoverRoom$Planner", name := "wayLeft", desc := "(II)I" } : Jvm.MethodName) prog_6_method_13_code (3 : Nat) (Option.some Jvm.ClassFile.FieldType.int)) ∈ gw := gw_of 364 (by decide +kernel) (by decide +kernel)
theorem kw_365 : (Jvm.Cond.methodLink "MoverRoom$Planner" (115 : Nat) ({ cls := "MoverRoom$Planner", name := "reachesEnd", desc := "(II)Z" } : Jvm.MethodName)) ∈ gw := gw_of 365 (by decide +kernel) (by decide +kernel)
theorem kw_367 : (Jvm.Cond.instanceMethod ({ cls := "MoverRoom$Planner", name := "reachesEnd", desc := "(II)Z" } : Jvm.MethodName)) ∈ gw := gw_of 367 (by decide +kernel) (by decide +kernel)
theorem kw_368 : (Jvm.Cond.code ({ cls := "MoverRoom$Planner", name := "reachesEnd", desc := "(II)Z" } : Jvm.MethodName) prog_6_method_14_code (4 : Nat) (Option.some Jvm.ClassFile.FieldType.boolean)) ∈ gw := gw_of 368 (by decide +kernel) (by decide +kernel)
theorem kw_369 : (Jvm.Cond.methodLink "MoverRoom$Planner" (127 : Nat) ({ cls := "MoverRoom$Planner", name := "stateAt", desc := "(I)I" } : Jvm.MethodName)) ∈ gw := gw_of 369 (by decide +kernel) (by decide +kernel)
theorem kw_371 : (Jvm.Cond.instanceMethod ({ cls := "MoverRoom$Planner", name := "stateAt", desc := "(I)I" } : Jvm.MethodName)) ∈ gw := gw_of 371 (by decide +kernel) (by decide +kernel)
theorem kw_372 : (Jvm.Cond.code ({ cls := "MoverRoom$Planner", name := "stateAt", desc := "(I)I" } : Jvm.MethodName) prog_6_method_16_code (6 : Nat) (Option.some Jvm.ClassFile.FieldType.int)) ∈ gw := gw_of 372 (by decide +kernel) (by decide +kernel)
theorem kw_373 : (Jvm.Cond.methodLink "MoverRoom$Planner" (131 : Nat) ({ cls := "MoverRoom$Levels", name := "get", desc := "(I)I" } : Jvm.MethodName)) ∈ gw := gw_of 373 (by decide +kernel) (by decide +kernel)
theorem kw_374 : (Jvm.Cond.instanceMethod ({ cls := "MoverRoom$Levels", name := "get", desc := "(I)I" } : Jvm.MethodName)) ∈ gw := gw_of 374 (by decide +kernel) (by decide +kernel)
theorem kw_375 : (Jvm.Cond.selects "MoverRoom$Levels" ({ cls := "MoverRoom$Levels", name := "get", desc := "(I)I" } : Jvm.MethodName) ({ cls := "MoverRoom$Levels", name := "get", desc := "(I)I" } : Jvm.MethodName)) ∈ gw := gw_of 375 (by decide +kernel) (by decide +kernel)
theorem kw_376 : (Jvm.Cond.code ({ cls := "MoverRoom$Levels", name := "get", desc := "(I)I" } : Jvm.MethodName) prog_5_method_3_code (2 : Nat) (Option.some Jvm.ClassFile.FieldType.int)) ∈ gw := gw_of 376 (by decide +kernel) (by decide +kernel)
theorem kw_377 : (Jvm.Cond.methodLink "MoverRoom$Levels" (21 : Nat) ({ cls := "MoverRoom$Levels", name := "shiftOf", desc := "(I)I" } : Jvm.MethodName)) ∈ gw := gw_of 377 (by decide +kernel) (by decide +kernel)
theorem kw_379 : (Jvm.Cond.instanceMethod ({ cls := "MoverRoom$Levels", name := "shiftOf", desc := "(I)I" } : Jvm.MethodName)) ∈ gw := gw_of 379 (by decide +kernel) (by decide +kernel)
theorem kw_380 : (Jvm.Cond.code ({ cls := "MoverRoom$Levels", name := "shiftOf", desc := "(I)I" } : Jvm.MethodName) prog_5_method_5_code (2 : Nat) (Option.some Jvm.ClassFile.FieldType.int)) ∈ gw := gw_of 380 (by decide +kernel) (by decide +kernel)
theorem kw_381 : (Jvm.Cond.methodLink "MoverRoom$Planner" (134 : Nat) ({ cls := "MoverRoom$Planner", name := "reachesEndMoving", desc := "(IIII)Z" } : Jvm.MethodName)) ∈ gw := gw_of 381 (by decide +kernel) (by decide +kernel)
theorem kw_383 : (Jvm.Cond.instanceMethod ({ cls := "MoverRoom$Planner", name := "reachesEndMoving", desc := "(IIII)Z" } : Jvm.MethodName)) ∈ gw := gw_of 383 (by decide +kernel) (by decide +kernel)
theorem kw_384 : (Jvm.Cond.code ({ cls := "MoverRoom$Planner", name := "reachesEndMoving", desc := "(IIII)Z" } : Jvm.MethodName) prog_6_method_15_code (13 : Nat) (Option.some Jvm.ClassFile.FieldType.boolean)) ∈ gw := gw_of 384 (by decide +kernel) (by decide +kernel)
theorem kw_385 : (Jvm.Cond.methodLink "MoverRoom$Planner" (107 : Nat) ({ cls := "MoverRoom$Planner", name := "goes", desc := "([I[III)Z" } : Jvm.MethodName)) ∈ gw := gw_of 385 (by decide +kernel) (by decide +kernel)
theorem kw_386 : (Jvm.Cond.static ({ cls := "MoverRoom$Planner", name := "goes", desc := "([I[III)Z" } : Jvm.MethodName)) ∈ gw := gw_of 386 (by decide +kernel) (by decide +kernel)
theorem kw_387 : (Jvm.Cond.code ({ cls := "MoverRoom$Planner", name := "goes", desc := "([I[III)Z" } : Jvm.MethodName) prog_6_method_17_code (5 : Nat) (Option.some Jvm.ClassFile.FieldType.boolean)) ∈ gw := gw_of 387 (by decide +kernel) (by decide +kernel)
theorem kw_388 : (Jvm.Cond.methodLink "MoverRoom$Planner" (138 : Nat) ({ cls := "MoverRoom$Levels", name := "put", desc := "(II)V" } : Jvm.MethodName)) ∈ gw := gw_of 388 (by decide +kernel) (by decide +kernel)
theorem kw_389 : (Jvm.Cond.instanceMethod ({ cls := "MoverRoom$Levels", name := "put", desc := "(II)V" } : Jvm.MethodName)) ∈ gw := gw_of 389 (by decide +kernel) (by decide +kernel)
theorem kw_390 : (Jvm.Cond.selects "MoverRoom$Levels" ({ cls := "MoverRoom$Levels", name := "put", desc := "(II)V" } : Jvm.MethodName) ({ cls := "MoverRoom$Levels", name := "put", desc := "(II)V" } : Jvm.MethodName)) ∈ gw := gw_of 390 (by decide +kernel) (by decide +kernel)
theorem kw_391 : (Jvm.Cond.code ({ cls := "MoverRoom$Levels", name := "put", desc := "(II)V" } : Jvm.MethodName) prog_5_method_4_code (4 : Nat) (Option.none : Option Jvm.ClassFile.FieldType)) ∈ gw := gw_of 391 (by decide +kernel) (by decide +kernel)
theorem kw_392 : (Jvm.Cond.constantLong "MoverRoom$Levels" (25 : Nat) (15 : Int64)) ∈ gw := gw_of 392 (by decide +kernel) (by decide +kernel)
theorem kw_393 : (Jvm.Cond.constantLong "MoverRoom$Levels" (27 : Nat) (-1 : Int64)) ∈ gw := gw_of 393 (by decide +kernel) (by decide +kernel)
theorem kw_394 : (Jvm.Cond.methodLink "MoverRoom$Planner" (65 : Nat) ({ cls := "MoverRoom$Planner", name := "layOut", desc := "()V" } : Jvm.MethodName)) ∈ gw := gw_of 394 (by decide +kernel) (by decide +kernel)
theorem kw_396 : (Jvm.Cond.instanceMethod ({ cls := "MoverRoom$Planner", name := "layOut", desc := "()V" } : Jvm.MethodName)) ∈ gw := gw_of 396 (by decide +kernel) (by decide +kernel)
theorem kw_397 : (Jvm.Cond.code ({ cls := "MoverRoom$Planner", name := "layOut", desc := "()V" } : Jvm.MethodName) prog_6_method_7_code (1 : Nat) (Option.none : Option Jvm.ClassFile.FieldType)) ∈ gw := gw_of 397 (by decide +kernel) (by decide +kernel)
theorem kw_398 : (Jvm.Cond.methodLink "MoverRoom$Planner" (89 : Nat) ({ cls := "MoverRoom$Planner", name := "isOver", desc := "(I)Z" } : Jvm.MethodName)) ∈ gw := gw_of 398 (by decide +kernel) (by decide +kernel)
theorem kw_400 : (Jvm.Cond.instanceMethod ({ cls := "MoverRoom$Planner", name := "isOver", desc := "(I)Z" } : Jvm.MethodName)) ∈ gw := gw_of 400 (by decide +kernel) (by decide +kernel)
theorem kw_401 : (Jvm.Cond.code ({ cls := "MoverRoom$Planner", name := "isOver", desc := "(I)Z" } : Jvm.MethodName) prog_6_method_8_code (3 : Nat) (Option.some Jvm.ClassFile.FieldType.boolean)) ∈ gw := gw_of 401 (by decide +kernel) (by decide +kernel)
theorem kw_402 : (Jvm.Cond.methodLink "MoverRoom$Planner" (93 : Nat) ({ cls := "MoverRoom$Planner", name := "chooseNext", desc := "(II)Z" } : Jvm.MethodName)) ∈ gw := gw_of 402 (by decide +kernel) (by decide +kernel)
theorem kw_404 : (Jvm.Cond.instanceMethod ({ cls := "MoverRoom$Planner", name := "chooseNext", desc := "(II)Z" } : Jvm.MethodName)) ∈ gw := gw_of 404 (by decide +kernel) (by decide +kernel)
theorem kw_405 : (Jvm.Cond.code ({ cls := "MoverRoom$Planner", name := "chooseNext", desc := "(II)Z" } : Jvm.MethodName) prog_6_method_9_code (5 : Nat) (Option.some Jvm.ClassFile.FieldType.boolean)) ∈ gw := gw_of 405 (by decide +kernel) (by decide +kernel)
theorem kw_410 : (Jvm.Cond.methodLink "MoverRoom" (102 : Nat) ({ cls := "MoverRoom$Planner", name := "costOf", desc := "(I)I" } : Jvm.MethodName)) ∈ gw := gw_of 410 (by decide +kernel) (by decide +kernel)
theorem kw_411 : (Jvm.Cond.instanceMethod ({ cls := "MoverRoom$Planner", name := "costOf", desc := "(I)I" } : Jvm.MethodName)) ∈ gw := gw_of 411 (by decide +kernel) (by decide +kernel)
theorem kw_412 : (Jvm.Cond.selects "MoverRoom$Planner" ({ cls := "MoverRoom$Planner", name := "costOf", desc := "(I)I" } : Jvm.MethodName) ({ cls := "MoverRoom$Planner", name := "costOf", desc := "(I)I" } : Jvm.MethodName)) ∈ gw := gw_of 412 (by decide +kernel) (by decide +kernel)
theorem kw_413 : (Jvm.Cond.code ({ cls := "MoverRoom$Planner", name := "costOf", desc := "(I)I" } : Jvm.MethodName) prog_6_method_4_code (2 : Nat) (Option.some Jvm.ClassFile.FieldType.int)) ∈ gw := gw_of 413 (by decide +kernel) (by decide +kernel)
theorem kw_418 : (Jvm.Cond.methodLink "MoverRoom" (105 : Nat) ({ cls := "MoverRoom$Planner", name := "placeOf", desc := "(II)I" } : Jvm.MethodName)) ∈ gw := gw_of 418 (by decide +kernel) (by decide +kernel)
theorem kw_419 : (Jvm.Cond.instanceMethod ({ cls := "MoverRoom$Planner", name := "placeOf", desc := "(II)I" } : Jvm.MethodName)) ∈ gw := gw_of 419 (by decide +kernel) (by decide +kernel)
theorem kw_420 : (Jvm.Cond.selects "MoverRoom$Planner" ({ cls := "MoverRoom$Planner", name := "placeOf", desc := "(II)I" } : Jvm.MethodName) ({ cls := "MoverRoom$Planner", name := "placeOf", desc := "(II)I" } : Jvm.MethodName)) ∈ gw := gw_of 420 (by decide +kernel) (by decide +kernel)
theorem kw_421 : (Jvm.Cond.code ({ cls := "MoverRoom$Planner", name := "placeOf", desc := "(II)I" } : Jvm.MethodName) prog_6_method_5_code (3 : Nat) (Option.some Jvm.ClassFile.FieldType.int)) ∈ gw := gw_of 421 (by decide +kernel) (by decide +kernel)
theorem kw_422 : (Jvm.Cond.methodLink "MoverRoom$Planner" (75 : Nat) ({ cls := "java/lang/Math", name := "min", desc := "(II)I" } : Jvm.MethodName)) ∈ gw := gw_of 422 (by decide +kernel) (by decide +kernel)
theorem kw_423 : (Jvm.Cond.static ({ cls := "java/lang/Math", name := "min", desc := "(II)I" } : Jvm.MethodName)) ∈ gw := gw_of 423 (by decide +kernel) (by decide +kernel)
theorem kw_424 : (Jvm.Cond.code ({ cls := "java/lang/Math", name := "min", desc := "(II)I" } : Jvm.MethodName) prog_10_method_69_code (2 : Nat) (Option.some Jvm.ClassFile.FieldType.int)) ∈ gw := gw_of 424 (by decide +kernel) (by decide +kernel)
theorem kw_429 : (Jvm.Cond.methodLink "MoverRoom" (108 : Nat) ({ cls := "MoverRoom$LaidPlan", name := "tell", desc := "(III)I" } : Jvm.MethodName)) ∈ gw := gw_of 429 (by decide +kernel) (by decide +kernel)
theorem kw_430 : (Jvm.Cond.instanceMethod ({ cls := "MoverRoom$LaidPlan", name := "tell", desc := "(III)I" } : Jvm.MethodName)) ∈ gw := gw_of 430 (by decide +kernel) (by decide +kernel)
theorem kw_431 : (Jvm.Cond.selects "MoverRoom$LaidPlan" ({ cls := "MoverRoom$LaidPlan", name := "tell", desc := "(III)I" } : Jvm.MethodName) ({ cls := "MoverRoom$LaidPlan", name := "tell", desc := "(III)I" } : Jvm.MethodName)) ∈ gw := gw_of 431 (by decide +kernel) (by decide +kernel)
theorem kw_432 : (Jvm.Cond.code ({ cls := "MoverRoom$LaidPlan", name := "tell", desc := "(III)I" } : Jvm.MethodName) prog_4_method_3_code (5 : Nat) (Option.some Jvm.ClassFile.FieldType.int)) ∈ gw := gw_of 432 (by decide +kernel) (by decide +kernel)
theorem kw_433 : (Jvm.Cond.methodLink "MoverRoom$LaidPlan" (29 : Nat) ({ cls := "MoverRoom$LaidPlan", name := "isTold", desc := "(II)Z" } : Jvm.MethodName)) ∈ gw := gw_of 433 (by decide +kernel) (by decide +kernel)
theorem kw_435 : (Jvm.Cond.instanceMethod ({ cls := "MoverRoom$LaidPlan", name := "isTold", desc := "(II)Z" } : Jvm.MethodName)) ∈ gw := gw_of 435 (by decide +kernel) (by decide +kernel)
theorem kw_436 : (Jvm.Cond.code ({ cls := "MoverRoom$LaidPlan", name := "isTold", desc := "(II)Z" } : Jvm.MethodName) prog_4_method_6_code (3 : Nat) (Option.some Jvm.ClassFile.FieldType.boolean)) ∈ gw := gw_of 436 (by decide +kernel) (by decide +kernel)
theorem kw_441 : (Jvm.Cond.methodLink "MoverRoom" (112 : Nat) ({ cls := "MoverRoom$Verdict", name := "seek", desc := "()V" } : Jvm.MethodName)) ∈ gw := gw_of 441 (by decide +kernel) (by decide +kernel)
theorem kw_442 : (Jvm.Cond.instanceMethod ({ cls := "MoverRoom$Verdict", name := "seek", desc := "()V" } : Jvm.MethodName)) ∈ gw := gw_of 442 (by decide +kernel) (by decide +kernel)
theorem kw_443 : (Jvm.Cond.selects "MoverRoom$Verdict" ({ cls := "MoverRoom$Verdict", name := "seek", desc := "()V" } : Jvm.MethodName) ({ cls := "MoverRoom$Verdict", name := "seek", desc := "()V" } : Jvm.MethodName)) ∈ gw := gw_of 443 (by decide +kernel) (by decide +kernel)
theorem kw_444 : (Jvm.Cond.code ({ cls := "MoverRoom$Verdict", name := "seek", desc := "()V" } : Jvm.MethodName) prog_7_method_2_code (2 : Nat) (Option.none : Option Jvm.ClassFile.FieldType)) ∈ gw := gw_of 444 (by decide +kernel) (by decide +kernel)
theorem kw_445 : (Jvm.Cond.methodLink "MoverRoom$Verdict" (23 : Nat) ({ cls := "MoverRoom$Verdict", name := "blame", desc := "(IIII)V" } : Jvm.MethodName)) ∈ gw := gw_of 445 (by decide +kernel) (by decide +kernel)
theorem kw_447 : (Jvm.Cond.instanceMethod ({ cls := "MoverRoom$Verdict", name := "blame", desc := "(IIII)V" } : Jvm.MethodName)) ∈ gw := gw_of 447 (by decide +kernel) (by decide +kernel)
theorem kw_448 : (Jvm.Cond.code ({ cls := "MoverRoom$Verdict", name := "blame", desc := "(IIII)V" } : Jvm.MethodName) prog_7_method_3_code (5 : Nat) (Option.none : Option Jvm.ClassFile.FieldType)) ∈ gw := gw_of 448 (by decide +kernel) (by decide +kernel)
theorem kw_449 : (Jvm.Cond.methodLink "MoverRoom$Verdict" (31 : Nat) ({ cls := "MoverRoom$Verdict", name := "seekStrayed", desc := "(I)V" } : Jvm.MethodName)) ∈ gw := gw_of 449 (by decide +kernel) (by decide +kernel)
theorem kw_451 : (Jvm.Cond.instanceMethod ({ cls := "MoverRoom$Verdict", name := "seekStrayed", desc := "(I)V" } : Jvm.MethodName)) ∈ gw := gw_of 451 (by decide +kernel) (by decide +kernel)
theorem kw_452 : (Jvm.Cond.code ({ cls := "MoverRoom$Verdict", name := "seekStrayed", desc := "(I)V" } : Jvm.MethodName) prog_7_method_4_code (3 : Nat) (Option.none : Option Jvm.ClassFile.FieldType)) ∈ gw := gw_of 452 (by decide +kernel) (by decide +kernel)
theorem kw_453 : (Jvm.Cond.methodLink "MoverRoom$Verdict" (53 : Nat) ({ cls := "MoverRoom$Verdict", name := "strays", desc := "(II)Z" } : Jvm.MethodName)) ∈ gw := gw_of 453 (by decide +kernel) (by decide +kernel)
theorem kw_455 : (Jvm.Cond.instanceMethod ({ cls := "MoverRoom$Verdict", name := "strays", desc := "(II)Z" } : Jvm.MethodName)) ∈ gw := gw_of 455 (by decide +kernel) (by decide +kernel)
theorem kw_456 : (Jvm.Cond.code ({ cls := "MoverRoom$Verdict", name := "strays", desc := "(II)Z" } : Jvm.MethodName) prog_7_method_5_code (4 : Nat) (Option.some Jvm.ClassFile.FieldType.boolean)) ∈ gw := gw_of 456 (by decide +kernel) (by decide +kernel)
theorem kw_457 : (Jvm.Cond.methodLink "MoverRoom$Verdict" (57 : Nat) ({ cls := "MoverRoom$LaidPlan", name := "isNowhere", desc := "(I)Z" } : Jvm.MethodName)) ∈ gw := gw_of 457 (by decide +kernel) (by decide +kernel)
theorem kw_458 : (Jvm.Cond.instanceMethod ({ cls := "MoverRoom$LaidPlan", name := "isNowhere", desc := "(I)Z" } : Jvm.MethodName)) ∈ gw := gw_of 458 (by decide +kernel) (by decide +kernel)
theorem kw_459 : (Jvm.Cond.selects "MoverRoom$LaidPlan" ({ cls := "MoverRoom$LaidPlan", name := "isNowhere", desc := "(I)Z" } : Jvm.MethodName) ({ cls := "MoverRoom$LaidPlan", name := "isNowhere", desc := "(I)Z" } : Jvm.MethodName)) ∈ gw := gw_of 459 (by decide +kernel) (by decide +kernel)
theorem kw_460 : (Jvm.Cond.code ({ cls := "MoverRoom$LaidPlan", name := "isNowhere", desc := "(I)Z" } : Jvm.MethodName) prog_4_method_4_code (2 : Nat) (Option.some Jvm.ClassFile.FieldType.boolean)) ∈ gw := gw_of 460 (by decide +kernel) (by decide +kernel)
theorem kw_461 : (Jvm.Cond.methodLink "MoverRoom$Verdict" (63 : Nat) ({ cls := "MoverRoom$LaidPlan", name := "placeOf", desc := "(II)I" } : Jvm.MethodName)) ∈ gw := gw_of 461 (by decide +kernel) (by decide +kernel)
theorem kw_462 : (Jvm.Cond.instanceMethod ({ cls := "MoverRoom$LaidPlan", name := "placeOf", desc := "(II)I" } : Jvm.MethodName)) ∈ gw := gw_of 462 (by decide +kernel) (by decide +kernel)
theorem kw_463 : (Jvm.Cond.selects "MoverRoom$LaidPlan" ({ cls := "MoverRoom$LaidPlan", name := "placeOf", desc := "(II)I" } : Jvm.MethodName) ({ cls := "MoverRoom$LaidPlan", name := "placeOf", desc := "(II)I" } : Jvm.MethodName)) ∈ gw := gw_of 463 (by decide +kernel) (by decide +kernel)
theorem kw_464 : (Jvm.Cond.code ({ cls := "MoverRoom$LaidPlan", name := "placeOf", desc := "(II)I" } : Jvm.MethodName) prog_4_method_5_code (3 : Nat) (Option.some Jvm.ClassFile.FieldType.int)) ∈ gw := gw_of 464 (by decide +kernel) (by decide +kernel)
theorem kw_465 : (Jvm.Cond.methodLink "MoverRoom$LaidPlan" (33 : Nat) ({ cls := "java/lang/Math", name := "min", desc := "(II)I" } : Jvm.MethodName)) ∈ gw := gw_of 465 (by decide +kernel) (by decide +kernel)
theorem kw_466 : (Jvm.Cond.methodLink "MoverRoom$Verdict" (71 : Nat) ({ cls := "MoverRoom$Floor", name := "leads", desc := "(II)Z" } : Jvm.MethodName)) ∈ gw := gw_of 466 (by decide +kernel) (by decide +kernel)
theorem kw_467 : (Jvm.Cond.instanceMethod ({ cls := "MoverRoom$Floor", name := "leads", desc := "(II)Z" } : Jvm.MethodName)) ∈ gw := gw_of 467 (by decide +kernel) (by decide +kernel)
theorem kw_468 : (Jvm.Cond.selects "MoverRoom$Floor" ({ cls := "MoverRoom$Floor", name := "leads", desc := "(II)Z" } : Jvm.MethodName) ({ cls := "MoverRoom$Floor", name := "leads", desc := "(II)Z" } : Jvm.MethodName)) ∈ gw := gw_of 468 (by decide +kernel) (by decide +kernel)
theorem kw_469 : (Jvm.Cond.code ({ cls := "MoverRoom$Floor", name := "leads", desc := "(II)Z" } : Jvm.MethodName) prog_3_method_6_code (4 : Nat) (Option.some Jvm.ClassFile.FieldType.boolean)) ∈ gw := gw_of 469 (by decide +kernel) (by decide +kernel)
theorem kw_470 : (Jvm.Cond.methodLink "MoverRoom$Verdict" (35 : Nat) ({ cls := "MoverRoom$Verdict", name := "seekMeeting", desc := "(II)V" } : Jvm.MethodName)) ∈ gw := gw_of 470 (by decide +kernel) (by decide +kernel)
theorem kw_472 : (Jvm.Cond.instanceMethod ({ cls := "MoverRoom$Verdict", name := "seekMeeting", desc := "(II)V" } : Jvm.MethodName)) ∈ gw := gw_of 472 (by decide +kernel) (by decide +kernel)
theorem kw_473 : (Jvm.Cond.code ({ cls := "MoverRoom$Verdict", name := "seekMeeting", desc := "(II)V" } : Jvm.MethodName) prog_7_method_6_code (5 : Nat) (Option.none : Option Jvm.ClassFile.FieldType)) ∈ gw := gw_of 473 (by decide +kernel) (by decide +kernel)
theorem kw_474 : (Jvm.Cond.methodLink "MoverRoom$Verdict" (79 : Nat) ({ cls := "MoverRoom$Verdict", name := "share", desc := "(III)Z" } : Jvm.MethodName)) ∈ gw := gw_of 474 (by decide +kernel) (by decide +kernel)
theorem kw_476 : (Jvm.Cond.instanceMethod ({ cls := "MoverRoom$Verdict", name := "share", desc := "(III)Z" } : Jvm.MethodName)) ∈ gw := gw_of 476 (by decide +kernel) (by decide +kernel)
theorem kw_477 : (Jvm.Cond.code ({ cls := "MoverRoom$Verdict", name := "share", desc := "(III)Z" } : Jvm.MethodName) prog_7_method_7_code (4 : Nat) (Option.some Jvm.ClassFile.FieldType.boolean)) ∈ gw := gw_of 477 (by decide +kernel) (by decide +kernel)
theorem kw_478 : (Jvm.Cond.methodLink "MoverRoom$Verdict" (83 : Nat) ({ cls := "MoverRoom$Verdict", name := "exchange", desc := "(III)Z" } : Jvm.MethodName)) ∈ gw := gw_of 478 (by decide +kernel) (by decide +kernel)
theorem kw_480 : (Jvm.Cond.instanceMethod ({ cls := "MoverRoom$Verdict", name := "exchange", desc := "(III)Z" } : Jvm.MethodName)) ∈ gw := gw_of 480 (by decide +kernel) (by decide +kernel)
theorem kw_481 : (Jvm.Cond.code ({ cls := "MoverRoom$Verdict", name := "exchange", desc := "(III)Z" } : Jvm.MethodName) prog_7_method_8_code (4 : Nat) (Option.some Jvm.ClassFile.FieldType.boolean)) ∈ gw := gw_of 481 (by decide +kernel) (by decide +kernel)
theorem kw_483 : (Jvm.Cond.instantiable "MoverRoomModel" (33 : Nat)) ∈ gw := gw_of 483 (by decide +kernel) (by decide +kernel)
theorem kw_487 : (Jvm.Cond.methodLink "MoverRoomModel" (1 : Nat) ({ cls := "java/lang/Object", name := "<init>", desc := "()V" } : Jvm.MethodName)) ∈ gw := gw_of 487 (by decide +kernel) (by decide +kernel)
theorem kw_488 : (Jvm.Cond.constant "MoverRoomModel" (45 : Nat) (512000 : Int32)) ∈ gw := gw_of 488 (by decide +kernel) (by decide +kernel)
theorem kw_489 : (Jvm.Cond.fieldLink "MoverRoomModel" (7 : Nat) "MoverRoomModel" "wide" "I") ∈ gw := gw_of 489 (by decide +kernel) (by decide +kernel)
theorem kw_490 : (Jvm.Cond.fieldLink "MoverRoomModel" (13 : Nat) "MoverRoomModel" "high" "I") ∈ gw := gw_of 490 (by decide +kernel) (by decide +kernel)
theorem kw_491 : (Jvm.Cond.fieldLink "MoverRoomModel" (16 : Nat) "MoverRoomModel" "walls" "[Z") ∈ gw := gw_of 491 (by decide +kernel) (by decide +kernel)
theorem kw_492 : (Jvm.Cond.fieldLink "MoverRoomModel" (86 : Nat) "MoverRoomModel" "movers" "I") ∈ gw := gw_of 492 (by decide +kernel) (by decide +kernel)
theorem kw_493 : (Jvm.Cond.fieldLink "MoverRoomModel" (20 : Nat) "MoverRoomModel" "starts" "[I") ∈ gw := gw_of 493 (by decide +kernel) (by decide +kernel)
theorem kw_494 : (Jvm.Cond.fieldLink "MoverRoomModel" (24 : Nat) "MoverRoomModel" "goals" "[I") ∈ gw := gw_of 494 (by decide +kernel) (by decide +kernel)
theorem kw_495 : (Jvm.Cond.fieldLink "MoverRoomModel" (27 : Nat) "MoverRoomModel" "laid" "[I") ∈ gw := gw_of 495 (by decide +kernel) (by decide +kernel)
theorem kw_496 : (Jvm.Cond.fieldLink "MoverRoomModel" (30 : Nat) "MoverRoomModel" "isTold" "[Z") ∈ gw := gw_of 496 (by decide +kernel) (by decide +kernel)
theorem kw_497 : (Jvm.Cond.fieldLink "MoverRoomModel" (120 : Nat) "MoverRoomModel" "free" "I") ∈ gw := gw_of 497 (by decide +kernel) (by decide +kernel)
theorem kw_498 : (Jvm.Cond.fieldLink "MoverRoomModel" (33 : Nat) "MoverRoomModel" "cells" "[I") ∈ gw := gw_of 498 (by decide +kernel) (by decide +kernel)
theorem kw_499 : (Jvm.Cond.fieldLink "MoverRoomModel" (36 : Nat) "MoverRoomModel" "index" "[I") ∈ gw := gw_of 499 (by decide +kernel) (by decide +kernel)
theorem kw_500 : (Jvm.Cond.fieldLink "MoverRoomModel" (39 : Nat) "MoverRoomModel" "near" "[I") ∈ gw := gw_of 500 (by decide +kernel) (by decide +kernel)
theorem kw_501 : (Jvm.Cond.fieldLink "MoverRoomModel" (42 : Nat) "MoverRoomModel" "nearCount" "[I") ∈ gw := gw_of 501 (by decide +kernel) (by decide +kernel)
theorem kw_502 : (Jvm.Cond.fieldLink "MoverRoomModel" (46 : Nat) "MoverRoomModel" "pay" "[I") ∈ gw := gw_of 502 (by decide +kernel) (by decide +kernel)
theorem kw_503 : (Jvm.Cond.fieldLink "MoverRoomModel" (49 : Nat) "MoverRoomModel" "done" "[Z") ∈ gw := gw_of 503 (by decide +kernel) (by decide +kernel)
theorem kw_504 : (Jvm.Cond.fieldLink "MoverRoomModel" (52 : Nat) "MoverRoomModel" "pile" "[I") ∈ gw := gw_of 504 (by decide +kernel) (by decide +kernel)
theorem kw_505 : (Jvm.Cond.fieldLink "MoverRoomModel" (130 : Nat) "MoverRoomModel" "top" "I") ∈ gw := gw_of 505 (by decide +kernel) (by decide +kernel)
theorem kw_506 : (Jvm.Cond.fieldLink "MoverRoomModel" (55 : Nat) "MoverRoomModel" "now" "[I") ∈ gw := gw_of 506 (by decide +kernel) (by decide +kernel)
theorem kw_507 : (Jvm.Cond.fieldLink "MoverRoomModel" (58 : Nat) "MoverRoomModel" "then" "[I") ∈ gw := gw_of 507 (by decide +kernel) (by decide +kernel)
theorem kw_508 : (Jvm.Cond.fieldLink "MoverRoomModel" (61 : Nat) "MoverRoomModel" "choice" "[I") ∈ gw := gw_of 508 (by decide +kernel) (by decide +kernel)
theorem kw_509 : (Jvm.Cond.fieldLink "MoverRoomModel" (89 : Nat) "MoverRoomModel" "found" "Z") ∈ gw := gw_of 509 (by decide +kernel) (by decide +kernel)
theorem kw_510 : (Jvm.Cond.fieldLink "MoverRoomModel" (167 : Nat) "MoverRoomModel" "length" "I") ∈ gw := gw_of 510 (by decide +kernel) (by decide +kernel)
theorem kw_511 : (Jvm.Cond.fieldLink "MoverRoomModel" (64 : Nat) "MoverRoomModel" "plan" "[I") ∈ gw := gw_of 511 (by decide +kernel) (by decide +kernel)
theorem kw_512 : (Jvm.Cond.fieldLink "MoverRoomModel" (67 : Nat) "MoverRoomModel" "costs" "[I") ∈ gw := gw_of 512 (by decide +kernel) (by decide +kernel)
theorem kw_513 : (Jvm.Cond.fieldLink "MoverRoomModel" (70 : Nat) "MoverRoomModel" "paid" "[I") ∈ gw := gw_of 513 (by decide +kernel) (by decide +kernel)
theorem kw_514 : (Jvm.Cond.fieldLink "MoverRoomModel" (73 : Nat) "MoverRoomModel" "after" "[I") ∈ gw := gw_of 514 (by decide +kernel) (by decide +kernel)
theorem kw_515 : (Jvm.Cond.fieldLink "MoverRoomModel" (76 : Nat) "MoverRoomModel" "far" "[I") ∈ gw := gw_of 515 (by decide +kernel) (by decide +kernel)
theorem kw_516 : (Jvm.Cond.fieldLink "MoverRoomModel" (79 : Nat) "MoverRoomModel" "many" "[J") ∈ gw := gw_of 516 (by decide +kernel) (by decide +kernel)
theorem kw_517 : (Jvm.Cond.fieldLink "MoverRoomModel" (83 : Nat) "MoverRoomModel" "next" "[J") ∈ gw := gw_of 517 (by decide +kernel) (by decide +kernel)
theorem kw_518 : (Jvm.Cond.fieldLink "MoverRoomModel" (196 : Nat) "MoverRoomModel" "sort" "I") ∈ gw := gw_of 518 (by decide +kernel) (by decide +kernel)
theorem kw_519 : (Jvm.Cond.fieldLink "MoverRoomModel" (199 : Nat) "MoverRoomModel" "when" "I") ∈ gw := gw_of 519 (by decide +kernel) (by decide +kernel)
theorem kw_520 : (Jvm.Cond.fieldLink "MoverRoomModel" (202 : Nat) "MoverRoomModel" "one" "I") ∈ gw := gw_of 520 (by decide +kernel) (by decide +kernel)
theorem kw_521 : (Jvm.Cond.fieldLink "MoverRoomModel" (205 : Nat) "MoverRoomModel" "two" "I") ∈ gw := gw_of 521 (by decide +kernel) (by decide +kernel)
theorem kw_593 : (Jvm.Cond.methodLink "MoverRoomModel" (93 : Nat) ({ cls := "MoverRoomModel", name := "size", desc := "()I" } : Jvm.MethodName)) ∈ gw := gw_of 593 (by decide +kernel) (by decide +kernel)
theorem kw_595 : (Jvm.Cond.instanceMethod ({ cls := "MoverRoomModel", name := "size", desc := "()I" } : Jvm.MethodName)) ∈ gw := gw_of 595 (by decide +kernel) (by decide +kernel)
theorem kw_596 : (Jvm.Cond.code ({ cls := "MoverRoomModel", name := "size", desc := "()I" } : Jvm.MethodName) prog_9_method_2_code (1 : Nat) (Option.some Jvm.ClassFile.FieldType.int)) ∈ gw := gw_of 596 (by decide +kernel) (by decide +kernel)
theorem kw_601 : (Jvm.Cond.methodLink "MoverRoomModel" (97 : Nat) ({ cls := "MoverRoomModel", name := "isCell", desc := "(I)Z" } : Jvm.MethodName)) ∈ gw := gw_of 601 (by decide +kernel) (by decide +kernel)
theorem kw_603 : (Jvm.Cond.instanceMethod ({ cls := "MoverRoomModel", name := "isCell", desc := "(I)Z" } : Jvm.MethodName)) ∈ gw := gw_of 603 (by decide +kernel) (by decide +kernel)
theorem kw_604 : (Jvm.Cond.code ({ cls := "MoverRoomModel", name := "isCell", desc := "(I)Z" } : Jvm.MethodName) prog_9_method_4_code (2 : Nat) (Option.some Jvm.ClassFile.FieldType.boolean)) ∈ gw := gw_of 604 (by decide +kernel) (by decide +kernel)
theorem kw_609 : (Jvm.Cond.methodLink "MoverRoomModel" (101 : Nat) ({ cls := "MoverRoomModel", name := "isFree", desc := "(I)Z" } : Jvm.MethodName)) ∈ gw := gw_of 609 (by decide +kernel) (by decide +kernel)
theorem kw_611 : (Jvm.Cond.instanceMethod ({ cls := "MoverRoomModel", name := "isFree", desc := "(I)Z" } : Jvm.MethodName)) ∈ gw := gw_of 611 (by decide +kernel) (by decide +kernel)
theorem kw_612 : (Jvm.Cond.code ({ cls := "MoverRoomModel", name := "isFree", desc := "(I)Z" } : Jvm.MethodName) prog_9_method_5_code (2 : Nat) (Option.some Jvm.ClassFile.FieldType.boolean)) ∈ gw := gw_of 612 (by decide +kernel) (by decide +kernel)
theorem kw_613 : (Jvm.Cond.methodLink "MoverRoomModel" (104 : Nat) ({ cls := "MoverRoomModel", name := "freeCells", desc := "()I" } : Jvm.MethodName)) ∈ gw := gw_of 613 (by decide +kernel) (by decide +kernel)
theorem kw_615 : (Jvm.Cond.instanceMethod ({ cls := "MoverRoomModel", name := "freeCells", desc := "()I" } : Jvm.MethodName)) ∈ gw := gw_of 615 (by decide +kernel) (by decide +kernel)
theorem kw_616 : (Jvm.Cond.code ({ cls := "MoverRoomModel", name := "freeCells", desc := "()I" } : Jvm.MethodName) prog_9_method_7_code (3 : Nat) (Option.some Jvm.ClassFile.FieldType.int)) ∈ gw := gw_of 616 (by decide +kernel) (by decide +kernel)
theorem kw_622 : (Jvm.Cond.instanceMethod ({ cls := "MoverRoomModel", name := "distance", desc := "(I)I" } : Jvm.MethodName)) ∈ gw := gw_of 622 (by decide +kernel) (by decide +kernel)
theorem kw_623 : (Jvm.Cond.selects "MoverRoomModel" ({ cls := "MoverRoomModel", name := "distance", desc := "(I)I" } : Jvm.MethodName) ({ cls := "MoverRoomModel", name := "distance", desc := "(I)I" } : Jvm.MethodName)) ∈ gw := gw_of 623 (by decide +kernel) (by decide +kernel)
theorem kw_624 : (Jvm.Cond.code ({ cls := "MoverRoomModel", name := "distance", desc := "(I)I" } : Jvm.MethodName) prog_9_method_13_code (2 : Nat) (Option.some Jvm.ClassFile.FieldType.int)) ∈ gw := gw_of 624 (by decide +kernel) (by decide +kernel)
theorem kw_625 : (Jvm.Cond.methodLink "MoverRoomModel" (111 : Nat) ({ cls := "MoverRoomModel", name := "isMover", desc := "(I)Z" } : Jvm.MethodName)) ∈ gw := gw_of 625 (by decide +kernel) (by decide +kernel)
theorem kw_627 : (Jvm.Cond.instanceMethod ({ cls := "MoverRoomModel", name := "isMover", desc := "(I)Z" } : Jvm.MethodName)) ∈ gw := gw_of 627 (by decide +kernel) (by decide +kernel)
theorem kw_628 : (Jvm.Cond.code ({ cls := "MoverRoomModel", name := "isMover", desc := "(I)Z" } : Jvm.MethodName) prog_9_method_12_code (2 : Nat) (Option.some Jvm.ClassFile.FieldType.boolean)) ∈ gw := gw_of 628 (by decide +kernel) (by decide +kernel)
theorem kw_629 : (Jvm.Cond.methodLink "MoverRoomModel" (114 : Nat) ({ cls := "MoverRoomModel", name := "findFar", desc := "(I)V" } : Jvm.MethodName)) ∈ gw := gw_of 629 (by decide +kernel) (by decide +kernel)
theorem kw_631 : (Jvm.Cond.instanceMethod ({ cls := "MoverRoomModel", name := "findFar", desc := "(I)V" } : Jvm.MethodName)) ∈ gw := gw_of 631 (by decide +kernel) (by decide +kernel)
theorem kw_632 : (Jvm.Cond.code ({ cls := "MoverRoomModel", name := "findFar", desc := "(I)V" } : Jvm.MethodName) prog_9_method_11_code (5 : Nat) (Option.none : Option Jvm.ClassFile.FieldType)) ∈ gw := gw_of 632 (by decide +kernel) (by decide +kernel)
theorem kw_633 : (Jvm.Cond.methodLink "MoverRoomModel" (107 : Nat) ({ cls := "MoverRoomModel", name := "isBeside", desc := "(II)Z" } : Jvm.MethodName)) ∈ gw := gw_of 633 (by decide +kernel) (by decide +kernel)
theorem kw_635 : (Jvm.Cond.instanceMethod ({ cls := "MoverRoomModel", name := "isBeside", desc := "(II)Z" } : Jvm.MethodName)) ∈ gw := gw_of 635 (by decide +kernel) (by decide +kernel)
theorem kw_636 : (Jvm.Cond.code ({ cls := "MoverRoomModel", name := "isBeside", desc := "(II)Z" } : Jvm.MethodName) prog_9_method_10_code (5 : Nat) (Option.some Jvm.ClassFile.FieldType.boolean)) ∈ gw := gw_of 636 (by decide +kernel) (by decide +kernel)
theorem kw_641 : (Jvm.Cond.constantLong "MoverRoomModel" (118 : Nat) (-1 : Int64)) ∈ gw := gw_of 641 (by decide +kernel) (by decide +kernel)
theorem kw_646 : (Jvm.Cond.methodLink "MoverRoomModel" (164 : Nat) ({ cls := "MoverRoomModel", name := "distance", desc := "(I)I" } : Jvm.MethodName)) ∈ gw := gw_of 646 (by decide +kernel) (by decide +kernel)
theorem kw_647 : (Jvm.Cond.methodLink "MoverRoomModel" (170 : Nat) ({ cls := "MoverRoomModel", name := "number", desc := "()V" } : Jvm.MethodName)) ∈ gw := gw_of 647 (by decide +kernel) (by decide +kernel)
theorem kw_649 : (Jvm.Cond.instanceMethod ({ cls := "MoverRoomModel", name := "number", desc := "()V" } : Jvm.MethodName)) ∈ gw := gw_of 649 (by decide +kernel) (by decide +kernel)
theorem kw_650 : (Jvm.Cond.code ({ cls := "MoverRoomModel", name := "number", desc := "()V" } : Jvm.MethodName) prog_9_method_15_code (3 : Nat) (Option.none : Option Jvm.ClassFile.FieldType)) ∈ gw := gw_of 650 (by decide +kernel) (by decide +kernel)
theorem kw_651 : (Jvm.Cond.methodLink "MoverRoomModel" (173 : Nat) ({ cls := "MoverRoomModel", name := "findPays", desc := "(I)V" } : Jvm.MethodName)) ∈ gw := gw_of 651 (by decide +kernel) (by decide +kernel)
theorem kw_653 : (Jvm.Cond.instanceMethod ({ cls := "MoverRoomModel", name := "findPays", desc := "(I)V" } : Jvm.MethodName)) ∈ gw := gw_of 653 (by decide +kernel) (by decide +kernel)
theorem kw_654 : (Jvm.Cond.code ({ cls := "MoverRoomModel", name := "findPays", desc := "(I)V" } : Jvm.MethodName) prog_9_method_28_code (6 : Nat) (Option.none : Option Jvm.ClassFile.FieldType)) ∈ gw := gw_of 654 (by decide +kernel) (by decide +kernel)
theorem kw_655 : (Jvm.Cond.methodLink "MoverRoomModel" (150 : Nat) ({ cls := "MoverRoomModel", name := "placesOf", desc := "([I)I" } : Jvm.MethodName)) ∈ gw := gw_of 655 (by decide +kernel) (by decide +kernel)
theorem kw_657 : (Jvm.Cond.instanceMethod ({ cls := "MoverRoomModel", name := "placesOf", desc := "([I)I" } : Jvm.MethodName)) ∈ gw := gw_of 657 (by decide +kernel) (by decide +kernel)
theorem kw_658 : (Jvm.Cond.code ({ cls := "MoverRoomModel", name := "placesOf", desc := "([I)I" } : Jvm.MethodName) prog_9_method_16_code (4 : Nat) (Option.some Jvm.ClassFile.FieldType.int)) ∈ gw := gw_of 658 (by decide +kernel) (by decide +kernel)
theorem kw_659 : (Jvm.Cond.methodLink "MoverRoomModel" (160 : Nat) ({ cls := "MoverRoomModel", name := "relax", desc := "(II)V" } : Jvm.MethodName)) ∈ gw := gw_of 659 (by decide +kernel) (by decide +kernel)
theorem kw_661 : (Jvm.Cond.instanceMethod ({ cls := "MoverRoomModel", name := "relax", desc := "(II)V" } : Jvm.MethodName)) ∈ gw := gw_of 661 (by decide +kernel) (by decide +kernel)
theorem kw_662 : (Jvm.Cond.code ({ cls := "MoverRoomModel", name := "relax", desc := "(II)V" } : Jvm.MethodName) prog_9_method_26_code (6 : Nat) (Option.none : Option Jvm.ClassFile.FieldType)) ∈ gw := gw_of 662 (by decide +kernel) (by decide +kernel)
theorem kw_663 : (Jvm.Cond.methodLink "MoverRoomModel" (123 : Nat) ({ cls := "MoverRoomModel", name := "rests", desc := "(II)Z" } : Jvm.MethodName)) ∈ gw := gw_of 663 (by decide +kernel) (by decide +kernel)
theorem kw_664 : (Jvm.Cond.static ({ cls := "MoverRoomModel", name := "rests", desc := "(II)Z" } : Jvm.MethodName)) ∈ gw := gw_of 664 (by decide +kernel) (by decide +kernel)
theorem kw_665 : (Jvm.Cond.code ({ cls := "MoverRoomModel", name := "rests", desc := "(II)Z" } : Jvm.MethodName) prog_9_method_18_code (2 : Nat) (Option.some Jvm.ClassFile.FieldType.boolean)) ∈ gw := gw_of 665 (by decide +kernel) (by decide +kernel)
theorem kw_666 : (Jvm.Cond.methodLink "MoverRoomModel" (133 : Nat) ({ cls := "MoverRoomModel", name := "lower", desc := "(III)V" } : Jvm.MethodName)) ∈ gw := gw_of 666 (by decide +kernel) (by decide +kernel)
theorem kw_668 : (Jvm.Cond.instanceMethod ({ cls := "MoverRoomModel", name := "lower", desc := "(III)V" } : Jvm.MethodName)) ∈ gw := gw_of 668 (by decide +kernel) (by decide +kernel)
theorem kw_669 : (Jvm.Cond.code ({ cls := "MoverRoomModel", name := "lower", desc := "(III)V" } : Jvm.MethodName) prog_9_method_25_code (4 : Nat) (Option.none : Option Jvm.ClassFile.FieldType)) ∈ gw := gw_of 669 (by decide +kernel) (by decide +kernel)
theorem kw_670 : (Jvm.Cond.methodLink "MoverRoomModel" (137 : Nat) ({ cls := "MoverRoomModel", name := "open", desc := "(I)V" } : Jvm.MethodName)) ∈ gw := gw_of 670 (by decide +kernel) (by decide +kernel)
theorem kw_672 : (Jvm.Cond.instanceMethod ({ cls := "MoverRoomModel", name := "open", desc := "(I)V" } : Jvm.MethodName)) ∈ gw := gw_of 672 (by decide +kernel) (by decide +kernel)
theorem kw_673 : (Jvm.Cond.code ({ cls := "MoverRoomModel", name := "open", desc := "(I)V" } : Jvm.MethodName) prog_9_method_17_code (4 : Nat) (Option.none : Option Jvm.ClassFile.FieldType)) ∈ gw := gw_of 673 (by decide +kernel) (by decide +kernel)
theorem kw_674 : (Jvm.Cond.methodLink "MoverRoomModel" (140 : Nat) ({ cls := "MoverRoomModel", name := "firstChoice", desc := "()V" } : Jvm.MethodName)) ∈ gw := gw_of 674 (by decide +kernel) (by decide +kernel)
theorem kw_676 : (Jvm.Cond.instanceMethod ({ cls := "MoverRoomModel", name := "firstChoice", desc := "()V" } : Jvm.MethodName)) ∈ gw := gw_of 676 (by decide +kernel) (by decide +kernel)
theorem kw_677 : (Jvm.Cond.code ({ cls := "MoverRoomModel", name := "firstChoice", desc := "()V" } : Jvm.MethodName) prog_9_method_19_code (2 : Nat) (Option.none : Option Jvm.ClassFile.FieldType)) ∈ gw := gw_of 677 (by decide +kernel) (by decide +kernel)
theorem kw_678 : (Jvm.Cond.methodLink "MoverRoomModel" (143 : Nat) ({ cls := "MoverRoomModel", name := "choose", desc := "(I)V" } : Jvm.MethodName)) ∈ gw := gw_of 678 (by decide +kernel) (by decide +kernel)
theorem kw_680 : (Jvm.Cond.instanceMethod ({ cls := "MoverRoomModel", name := "choose", desc := "(I)V" } : Jvm.MethodName)) ∈ gw := gw_of 680 (by decide +kernel) (by decide +kernel)
theorem kw_681 : (Jvm.Cond.code ({ cls := "MoverRoomModel", name := "choose", desc := "(I)V" } : Jvm.MethodName) prog_9_method_21_code (3 : Nat) (Option.none : Option Jvm.ClassFile.FieldType)) ∈ gw := gw_of 681 (by decide +kernel) (by decide +kernel)
theorem kw_682 : (Jvm.Cond.methodLink "MoverRoomModel" (146 : Nat) ({ cls := "MoverRoomModel", name := "meet", desc := "()Z" } : Jvm.MethodName)) ∈ gw := gw_of 682 (by decide +kernel) (by decide +kernel)
theorem kw_684 : (Jvm.Cond.instanceMethod ({ cls := "MoverRoomModel", name := "meet", desc := "()Z" } : Jvm.MethodName)) ∈ gw := gw_of 684 (by decide +kernel) (by decide +kernel)
theorem kw_685 : (Jvm.Cond.code ({ cls := "MoverRoomModel", name := "meet", desc := "()Z" } : Jvm.MethodName) prog_9_method_23_code (4 : Nat) (Option.some Jvm.ClassFile.FieldType.boolean)) ∈ gw := gw_of 685 (by decide +kernel) (by decide +kernel)
theorem kw_686 : (Jvm.Cond.methodLink "MoverRoomModel" (154 : Nat) ({ cls := "MoverRoomModel", name := "size", desc := "(I)I" } : Jvm.MethodName)) ∈ gw := gw_of 686 (by decide +kernel) (by decide +kernel)
theorem kw_687 : (Jvm.Cond.static ({ cls := "MoverRoomModel", name := "size", desc := "(I)I" } : Jvm.MethodName)) ∈ gw := gw_of 687 (by decide +kernel) (by decide +kernel)
theorem kw_688 : (Jvm.Cond.code ({ cls := "MoverRoomModel", name := "size", desc := "(I)I" } : Jvm.MethodName) prog_9_method_24_code (2 : Nat) (Option.some Jvm.ClassFile.FieldType.int)) ∈ gw := gw_of 688 (by decide +kernel) (by decide +kernel)
theorem kw_689 : (Jvm.Cond.methodLink "MoverRoomModel" (157 : Nat) ({ cls := "MoverRoomModel", name := "nextChoice", desc := "(I)Z" } : Jvm.MethodName)) ∈ gw := gw_of 689 (by decide +kernel) (by decide +kernel)
theorem kw_691 : (Jvm.Cond.instanceMethod ({ cls := "MoverRoomModel", name := "nextChoice", desc := "(I)Z" } : Jvm.MethodName)) ∈ gw := gw_of 691 (by decide +kernel) (by decide +kernel)
theorem kw_692 : (Jvm.Cond.code ({ cls := "MoverRoomModel", name := "nextChoice", desc := "(I)Z" } : Jvm.MethodName) prog_9_method_22_code (3 : Nat) (Option.some Jvm.ClassFile.FieldType.boolean)) ∈ gw := gw_of 692 (by decide +kernel) (by decide +kernel)
theorem kw_693 : (Jvm.Cond.methodLink "MoverRoomModel" (126 : Nat) ({ cls := "MoverRoomModel", name := "choices", desc := "(II)I" } : Jvm.MethodName)) ∈ gw := gw_of 693 (by decide +kernel) (by decide +kernel)
theorem kw_695 : (Jvm.Cond.instanceMethod ({ cls := "MoverRoomModel", name := "choices", desc := "(II)I" } : Jvm.MethodName)) ∈ gw := gw_of 695 (by decide +kernel) (by decide +kernel)
theorem kw_696 : (Jvm.Cond.code ({ cls := "MoverRoomModel", name := "choices", desc := "(II)I" } : Jvm.MethodName) prog_9_method_20_code (3 : Nat) (Option.some Jvm.ClassFile.FieldType.int)) ∈ gw := gw_of 696 (by decide +kernel) (by decide +kernel)
theorem kw_697 : (Jvm.Cond.methodLink "MoverRoomModel" (176 : Nat) ({ cls := "MoverRoomModel", name := "walk", desc := "(I)V" } : Jvm.MethodName)) ∈ gw := gw_of 697 (by decide +kernel) (by decide +kernel)
theorem kw_699 : (Jvm.Cond.instanceMethod ({ cls := "MoverRoomModel", name := "walk", desc := "(I)V" } : Jvm.MethodName)) ∈ gw := gw_of 699 (by decide +kernel) (by decide +kernel)
theorem kw_700 : (Jvm.Cond.code ({ cls := "MoverRoomModel", name := "walk", desc := "(I)V" } : Jvm.MethodName) prog_9_method_32_code (5 : Nat) (Option.none : Option Jvm.ClassFile.FieldType)) ∈ gw := gw_of 700 (by decide +kernel) (by decide +kernel)
theorem kw_701 : (Jvm.Cond.methodLink "MoverRoomModel" (179 : Nat) ({ cls := "MoverRoomModel", name := "mayRest", desc := "(I[I)Z" } : Jvm.MethodName)) ∈ gw := gw_of 701 (by decide +kernel) (by decide +kernel)
theorem kw_703 : (Jvm.Cond.instanceMethod ({ cls := "MoverRoomModel", name := "mayRest", desc := "(I[I)Z" } : Jvm.MethodName)) ∈ gw := gw_of 703 (by decide +kernel) (by decide +kernel)
theorem kw_704 : (Jvm.Cond.code ({ cls := "MoverRoomModel", name := "mayRest", desc := "(I[I)Z" } : Jvm.MethodName) prog_9_method_30_code (5 : Nat) (Option.some Jvm.ClassFile.FieldType.boolean)) ∈ gw := gw_of 704 (by decide +kernel) (by decide +kernel)
theorem kw_705 : (Jvm.Cond.methodLink "MoverRoomModel" (183 : Nat) ({ cls := "MoverRoomModel", name := "write", desc := "(I[I)V" } : Jvm.MethodName)) ∈ gw := gw_of 705 (by decide +kernel) (by decide +kernel)
theorem kw_707 : (Jvm.Cond.instanceMethod ({ cls := "MoverRoomModel", name := "write", desc := "(I[I)V" } : Jvm.MethodName)) ∈ gw := gw_of 707 (by decide +kernel) (by decide +kernel)
theorem kw_708 : (Jvm.Cond.code ({ cls := "MoverRoomModel", name := "write", desc := "(I[I)V" } : Jvm.MethodName) prog_9_method_31_code (4 : Nat) (Option.none : Option Jvm.ClassFile.FieldType)) ∈ gw := gw_of 708 (by decide +kernel) (by decide +kernel)
theorem kw_709 : (Jvm.Cond.methodLink "MoverRoomModel" (187 : Nat) ({ cls := "MoverRoomModel", name := "goesOn", desc := "(I)Z" } : Jvm.MethodName)) ∈ gw := gw_of 709 (by decide +kernel) (by decide +kernel)
theorem kw_711 : (Jvm.Cond.instanceMethod ({ cls := "MoverRoomModel", name := "goesOn", desc := "(I)Z" } : Jvm.MethodName)) ∈ gw := gw_of 711 (by decide +kernel) (by decide +kernel)
theorem kw_712 : (Jvm.Cond.code ({ cls := "MoverRoomModel", name := "goesOn", desc := "(I)Z" } : Jvm.MethodName) prog_9_method_33_code (8 : Nat) (Option.some Jvm.ClassFile.FieldType.boolean)) ∈ gw := gw_of 712 (by decide +kernel) (by decide +kernel)
theorem kw_713 : (Jvm.Cond.methodLink "MoverRoomModel" (190 : Nat) ({ cls := "MoverRoomModel", name := "stays", desc := "(I)Z" } : Jvm.MethodName)) ∈ gw := gw_of 713 (by decide +kernel) (by decide +kernel)
theorem kw_715 : (Jvm.Cond.instanceMethod ({ cls := "MoverRoomModel", name := "stays", desc := "(I)Z" } : Jvm.MethodName)) ∈ gw := gw_of 715 (by decide +kernel) (by decide +kernel)
theorem kw_716 : (Jvm.Cond.code ({ cls := "MoverRoomModel", name := "stays", desc := "(I)Z" } : Jvm.MethodName) prog_9_method_34_code (4 : Nat) (Option.some Jvm.ClassFile.FieldType.boolean)) ∈ gw := gw_of 716 (by decide +kernel) (by decide +kernel)
theorem kw_733 : (Jvm.Cond.methodLink "MoverRoomModel" (215 : Nat) ({ cls := "MoverRoomModel", name := "look", desc := "()V" } : Jvm.MethodName)) ∈ gw := gw_of 733 (by decide +kernel) (by decide +kernel)
theorem kw_735 : (Jvm.Cond.instanceMethod ({ cls := "MoverRoomModel", name := "look", desc := "()V" } : Jvm.MethodName)) ∈ gw := gw_of 735 (by decide +kernel) (by decide +kernel)
theorem kw_736 : (Jvm.Cond.code ({ cls := "MoverRoomModel", name := "look", desc := "()V" } : Jvm.MethodName) prog_9_method_41_code (4 : Nat) (Option.none : Option Jvm.ClassFile.FieldType)) ∈ gw := gw_of 736 (by decide +kernel) (by decide +kernel)
theorem kw_737 : (Jvm.Cond.methodLink "MoverRoomModel" (208 : Nat) ({ cls := "MoverRoomModel", name := "isWrong", desc := "(II)Z" } : Jvm.MethodName)) ∈ gw := gw_of 737 (by decide +kernel) (by decide +kernel)
theorem kw_739 : (Jvm.Cond.instanceMethod ({ cls := "MoverRoomModel", name := "isWrong", desc := "(II)Z" } : Jvm.MethodName)) ∈ gw := gw_of 739 (by decide +kernel) (by decide +kernel)
theorem kw_740 : (Jvm.Cond.code ({ cls := "MoverRoomModel", name := "isWrong", desc := "(II)Z" } : Jvm.MethodName) prog_9_method_39_code (5 : Nat) (Option.some Jvm.ClassFile.FieldType.boolean)) ∈ gw := gw_of 740 (by decide +kernel) (by decide +kernel)
theorem kw_741 : (Jvm.Cond.methodLink "MoverRoomModel" (193 : Nat) ({ cls := "MoverRoomModel", name := "place", desc := "(II)I" } : Jvm.MethodName)) ∈ gw := gw_of 741 (by decide +kernel) (by decide +kernel)
theorem kw_743 : (Jvm.Cond.instanceMethod ({ cls := "MoverRoomModel", name := "place", desc := "(II)I" } : Jvm.MethodName)) ∈ gw := gw_of 743 (by decide +kernel) (by decide +kernel)
theorem kw_744 : (Jvm.Cond.code ({ cls := "MoverRoomModel", name := "place", desc := "(II)I" } : Jvm.MethodName) prog_9_method_38_code (5 : Nat) (Option.some Jvm.ClassFile.FieldType.int)) ∈ gw := gw_of 744 (by decide +kernel) (by decide +kernel)
theorem kw_745 : (Jvm.Cond.methodLink "MoverRoomModel" (211 : Nat) ({ cls := "MoverRoomModel", name := "wrong", desc := "(IIII)V" } : Jvm.MethodName)) ∈ gw := gw_of 745 (by decide +kernel) (by decide +kernel)
theorem kw_747 : (Jvm.Cond.instanceMethod ({ cls := "MoverRoomModel", name := "wrong", desc := "(IIII)V" } : Jvm.MethodName)) ∈ gw := gw_of 747 (by decide +kernel) (by decide +kernel)
theorem kw_748 : (Jvm.Cond.code ({ cls := "MoverRoomModel", name := "wrong", desc := "(IIII)V" } : Jvm.MethodName) prog_9_method_40_code (5 : Nat) (Option.none : Option Jvm.ClassFile.FieldType)) ∈ gw := gw_of 748 (by decide +kernel) (by decide +kernel)
theorem ks_cr_measure : (Jvm.Cond.selects "MoverRoom$Crew" ({ cls := "MoverRoom$Crew", name := "measure", desc := "(I[I)V" } : Jvm.MethodName) ({ cls := "MoverRoom$Crew", name := "measure", desc := "(I[I)V" } : Jvm.MethodName)) ∈ gw := gw_sel (by decide +kernel) (by decide +kernel)
theorem ks_cr_spreadCounts : (Jvm.Cond.selects "MoverRoom$Crew" ({ cls := "MoverRoom$Crew", name := "spreadCounts", desc := "()V" } : Jvm.MethodName) ({ cls := "MoverRoom$Crew", name := "spreadCounts", desc := "()V" } : Jvm.MethodName)) ∈ gw := gw_sel (by decide +kernel) (by decide +kernel)
theorem ks_cr_countsBeside : (Jvm.Cond.selects "MoverRoom$Crew" ({ cls := "MoverRoom$Crew", name := "countsBeside", desc := "(I)J" } : Jvm.MethodName) ({ cls := "MoverRoom$Crew", name := "countsBeside", desc := "(I)J" } : Jvm.MethodName)) ∈ gw := gw_sel (by decide +kernel) (by decide +kernel)
theorem ks_fl_chart : (Jvm.Cond.selects "MoverRoom$Floor" ({ cls := "MoverRoom$Floor", name := "chart", desc := "()V" } : Jvm.MethodName) ({ cls := "MoverRoom$Floor", name := "chart", desc := "()V" } : Jvm.MethodName)) ∈ gw := gw_sel (by decide +kernel) (by decide +kernel)
theorem ks_fl_chartCell : (Jvm.Cond.selects "MoverRoom$Floor" ({ cls := "MoverRoom$Floor", name := "chartCell", desc := "(II)V" } : Jvm.MethodName) ({ cls := "MoverRoom$Floor", name := "chartCell", desc := "(II)V" } : Jvm.MethodName)) ∈ gw := gw_sel (by decide +kernel) (by decide +kernel)
theorem ks_fl_addStep : (Jvm.Cond.selects "MoverRoom$Floor" ({ cls := "MoverRoom$Floor", name := "addStep", desc := "(II)V" } : Jvm.MethodName) ({ cls := "MoverRoom$Floor", name := "addStep", desc := "(II)V" } : Jvm.MethodName)) ∈ gw := gw_sel (by decide +kernel) (by decide +kernel)
theorem ks_ld_isTold : (Jvm.Cond.selects "MoverRoom$LaidPlan" ({ cls := "MoverRoom$LaidPlan", name := "isTold", desc := "(II)Z" } : Jvm.MethodName) ({ cls := "MoverRoom$LaidPlan", name := "isTold", desc := "(II)Z" } : Jvm.MethodName)) ∈ gw := gw_sel (by decide +kernel) (by decide +kernel)
theorem ks_le_shiftOf : (Jvm.Cond.selects "MoverRoom$Levels" ({ cls := "MoverRoom$Levels", name := "shiftOf", desc := "(I)I" } : Jvm.MethodName) ({ cls := "MoverRoom$Levels", name := "shiftOf", desc := "(I)I" } : Jvm.MethodName)) ∈ gw := gw_sel (by decide +kernel) (by decide +kernel)
theorem ks_md_isFree : (Jvm.Cond.selects "MoverRoomModel" ({ cls := "MoverRoomModel", name := "isFree", desc := "(I)Z" } : Jvm.MethodName) ({ cls := "MoverRoomModel", name := "isFree", desc := "(I)Z" } : Jvm.MethodName)) ∈ gw := gw_sel (by decide +kernel) (by decide +kernel)
theorem ks_md_freeCells : (Jvm.Cond.selects "MoverRoomModel" ({ cls := "MoverRoomModel", name := "freeCells", desc := "()I" } : Jvm.MethodName) ({ cls := "MoverRoomModel", name := "freeCells", desc := "()I" } : Jvm.MethodName)) ∈ gw := gw_sel (by decide +kernel) (by decide +kernel)
theorem ks_md_isBeside : (Jvm.Cond.selects "MoverRoomModel" ({ cls := "MoverRoomModel", name := "isBeside", desc := "(II)Z" } : Jvm.MethodName) ({ cls := "MoverRoomModel", name := "isBeside", desc := "(II)Z" } : Jvm.MethodName)) ∈ gw := gw_sel (by decide +kernel) (by decide +kernel)
theorem ks_md_isMover : (Jvm.Cond.selects "MoverRoomModel" ({ cls := "MoverRoomModel", name := "isMover", desc := "(I)Z" } : Jvm.MethodName) ({ cls := "MoverRoomModel", name := "isMover", desc := "(I)Z" } : Jvm.MethodName)) ∈ gw := gw_sel (by decide +kernel) (by decide +kernel)
theorem ks_md_findFar : (Jvm.Cond.selects "MoverRoomModel" ({ cls := "MoverRoomModel", name := "findFar", desc := "(I)V" } : Jvm.MethodName) ({ cls := "MoverRoomModel", name := "findFar", desc := "(I)V" } : Jvm.MethodName)) ∈ gw := gw_sel (by decide +kernel) (by decide +kernel)
theorem ks_md_choices : (Jvm.Cond.selects "MoverRoomModel" ({ cls := "MoverRoomModel", name := "choices", desc := "(II)I" } : Jvm.MethodName) ({ cls := "MoverRoomModel", name := "choices", desc := "(II)I" } : Jvm.MethodName)) ∈ gw := gw_sel (by decide +kernel) (by decide +kernel)
theorem ks_md_lower : (Jvm.Cond.selects "MoverRoomModel" ({ cls := "MoverRoomModel", name := "lower", desc := "(III)V" } : Jvm.MethodName) ({ cls := "MoverRoomModel", name := "lower", desc := "(III)V" } : Jvm.MethodName)) ∈ gw := gw_sel (by decide +kernel) (by decide +kernel)
theorem ks_md_open : (Jvm.Cond.selects "MoverRoomModel" ({ cls := "MoverRoomModel", name := "open", desc := "(I)V" } : Jvm.MethodName) ({ cls := "MoverRoomModel", name := "open", desc := "(I)V" } : Jvm.MethodName)) ∈ gw := gw_sel (by decide +kernel) (by decide +kernel)
theorem ks_md_firstChoice : (Jvm.Cond.selects "MoverRoomModel" ({ cls := "MoverRoomModel", name := "firstChoice", desc := "()V" } : Jvm.MethodName) ({ cls := "MoverRoomModel", name := "firstChoice", desc := "()V" } : Jvm.MethodName)) ∈ gw := gw_sel (by decide +kernel) (by decide +kernel)
theorem ks_md_choose : (Jvm.Cond.selects "MoverRoomModel" ({ cls := "MoverRoomModel", name := "choose", desc := "(I)V" } : Jvm.MethodName) ({ cls := "MoverRoomModel", name := "choose", desc := "(I)V" } : Jvm.MethodName)) ∈ gw := gw_sel (by decide +kernel) (by decide +kernel)
theorem ks_md_meet : (Jvm.Cond.selects "MoverRoomModel" ({ cls := "MoverRoomModel", name := "meet", desc := "()Z" } : Jvm.MethodName) ({ cls := "MoverRoomModel", name := "meet", desc := "()Z" } : Jvm.MethodName)) ∈ gw := gw_sel (by decide +kernel) (by decide +kernel)
theorem ks_md_placesOf : (Jvm.Cond.selects "MoverRoomModel" ({ cls := "MoverRoomModel", name := "placesOf", desc := "([I)I" } : Jvm.MethodName) ({ cls := "MoverRoomModel", name := "placesOf", desc := "([I)I" } : Jvm.MethodName)) ∈ gw := gw_sel (by decide +kernel) (by decide +kernel)
theorem ks_md_nextChoice : (Jvm.Cond.selects "MoverRoomModel" ({ cls := "MoverRoomModel", name := "nextChoice", desc := "(I)Z" } : Jvm.MethodName) ({ cls := "MoverRoomModel", name := "nextChoice", desc := "(I)Z" } : Jvm.MethodName)) ∈ gw := gw_sel (by decide +kernel) (by decide +kernel)
theorem ks_md_relax : (Jvm.Cond.selects "MoverRoomModel" ({ cls := "MoverRoomModel", name := "relax", desc := "(II)V" } : Jvm.MethodName) ({ cls := "MoverRoomModel", name := "relax", desc := "(II)V" } : Jvm.MethodName)) ∈ gw := gw_sel (by decide +kernel) (by decide +kernel)
theorem ks_md_number : (Jvm.Cond.selects "MoverRoomModel" ({ cls := "MoverRoomModel", name := "number", desc := "()V" } : Jvm.MethodName) ({ cls := "MoverRoomModel", name := "number", desc := "()V" } : Jvm.MethodName)) ∈ gw := gw_sel (by decide +kernel) (by decide +kernel)
theorem ks_md_findPays : (Jvm.Cond.selects "MoverRoomModel" ({ cls := "MoverRoomModel", name := "findPays", desc := "(I)V" } : Jvm.MethodName) ({ cls := "MoverRoomModel", name := "findPays", desc := "(I)V" } : Jvm.MethodName)) ∈ gw := gw_sel (by decide +kernel) (by decide +kernel)
theorem ks_md_walk : (Jvm.Cond.selects "MoverRoomModel" ({ cls := "MoverRoomModel", name := "walk", desc := "(I)V" } : Jvm.MethodName) ({ cls := "MoverRoomModel", name := "walk", desc := "(I)V" } : Jvm.MethodName)) ∈ gw := gw_sel (by decide +kernel) (by decide +kernel)
theorem ks_md_mayRest : (Jvm.Cond.selects "MoverRoomModel" ({ cls := "MoverRoomModel", name := "mayRest", desc := "(I[I)Z" } : Jvm.MethodName) ({ cls := "MoverRoomModel", name := "mayRest", desc := "(I[I)Z" } : Jvm.MethodName)) ∈ gw := gw_sel (by decide +kernel) (by decide +kernel)
theorem ks_md_write : (Jvm.Cond.selects "MoverRoomModel" ({ cls := "MoverRoomModel", name := "write", desc := "(I[I)V" } : Jvm.MethodName) ({ cls := "MoverRoomModel", name := "write", desc := "(I[I)V" } : Jvm.MethodName)) ∈ gw := gw_sel (by decide +kernel) (by decide +kernel)
theorem ks_md_goesOn : (Jvm.Cond.selects "MoverRoomModel" ({ cls := "MoverRoomModel", name := "goesOn", desc := "(I)Z" } : Jvm.MethodName) ({ cls := "MoverRoomModel", name := "goesOn", desc := "(I)Z" } : Jvm.MethodName)) ∈ gw := gw_sel (by decide +kernel) (by decide +kernel)
theorem ks_md_stays : (Jvm.Cond.selects "MoverRoomModel" ({ cls := "MoverRoomModel", name := "stays", desc := "(I)Z" } : Jvm.MethodName) ({ cls := "MoverRoomModel", name := "stays", desc := "(I)Z" } : Jvm.MethodName)) ∈ gw := gw_sel (by decide +kernel) (by decide +kernel)
theorem ks_md_place : (Jvm.Cond.selects "MoverRoomModel" ({ cls := "MoverRoomModel", name := "place", desc := "(II)I" } : Jvm.MethodName) ({ cls := "MoverRoomModel", name := "place", desc := "(II)I" } : Jvm.MethodName)) ∈ gw := gw_sel (by decide +kernel) (by decide +kernel)
theorem ks_md_isWrong : (Jvm.Cond.selects "MoverRoomModel" ({ cls := "MoverRoomModel", name := "isWrong", desc := "(II)Z" } : Jvm.MethodName) ({ cls := "MoverRoomModel", name := "isWrong", desc := "(II)Z" } : Jvm.MethodName)) ∈ gw := gw_sel (by decide +kernel) (by decide +kernel)
theorem ks_md_wrong : (Jvm.Cond.selects "MoverRoomModel" ({ cls := "MoverRoomModel", name := "wrong", desc := "(IIII)V" } : Jvm.MethodName) ({ cls := "MoverRoomModel", name := "wrong", desc := "(IIII)V" } : Jvm.MethodName)) ∈ gw := gw_sel (by decide +kernel) (by decide +kernel)
theorem ks_md_look : (Jvm.Cond.selects "MoverRoomModel" ({ cls := "MoverRoomModel", name := "look", desc := "()V" } : Jvm.MethodName) ({ cls := "MoverRoomModel", name := "look", desc := "()V" } : Jvm.MethodName)) ∈ gw := gw_sel (by decide +kernel) (by decide +kernel)
theorem ks_md_size : (Jvm.Cond.selects "MoverRoomModel" ({ cls := "MoverRoomModel", name := "size", desc := "()I" } : Jvm.MethodName) ({ cls := "MoverRoomModel", name := "size", desc := "()I" } : Jvm.MethodName)) ∈ gw := gw_sel (by decide +kernel) (by decide +kernel)
theorem ks_md_isCell : (Jvm.Cond.selects "MoverRoomModel" ({ cls := "MoverRoomModel", name := "isCell", desc := "(I)Z" } : Jvm.MethodName) ({ cls := "MoverRoomModel", name := "isCell", desc := "(I)Z" } : Jvm.MethodName)) ∈ gw := gw_sel (by decide +kernel) (by decide +kernel)
theorem ks_pn_startSearch : (Jvm.Cond.selects "MoverRoom$Planner" ({ cls := "MoverRoom$Planner", name := "startSearch", desc := "(III)I" } : Jvm.MethodName) ({ cls := "MoverRoom$Planner", name := "startSearch", desc := "(III)I" } : Jvm.MethodName)) ∈ gw := gw_sel (by decide +kernel) (by decide +kernel)
theorem ks_pn_reachesEnd : (Jvm.Cond.selects "MoverRoom$Planner" ({ cls := "MoverRoom$Planner", name := "reachesEnd", desc := "(II)Z" } : Jvm.MethodName) ({ cls := "MoverRoom$Planner", name := "reachesEnd", desc := "(II)Z" } : Jvm.MethodName)) ∈ gw := gw_sel (by decide +kernel) (by decide +kernel)
theorem ks_pn_wayLeft : (Jvm.Cond.selects "MoverRoom$Planner" ({ cls := "MoverRoom$Planner", name := "wayLeft", desc := "(II)I" } : Jvm.MethodName) ({ cls := "MoverRoom$Planner", name := "wayLeft", desc := "(II)I" } : Jvm.MethodName)) ∈ gw := gw_sel (by decide +kernel) (by decide +kernel)
theorem ks_pn_stateAt : (Jvm.Cond.selects "MoverRoom$Planner" ({ cls := "MoverRoom$Planner", name := "stateAt", desc := "(I)I" } : Jvm.MethodName) ({ cls := "MoverRoom$Planner", name := "stateAt", desc := "(I)I" } : Jvm.MethodName)) ∈ gw := gw_sel (by decide +kernel) (by decide +kernel)
theorem ks_pn_reachesEndMoving : (Jvm.Cond.selects "MoverRoom$Planner" ({ cls := "MoverRoom$Planner", name := "reachesEndMoving", desc := "(IIII)Z" } : Jvm.MethodName) ({ cls := "MoverRoom$Planner", name := "reachesEndMoving", desc := "(IIII)Z" } : Jvm.MethodName)) ∈ gw := gw_sel (by decide +kernel) (by decide +kernel)
theorem ks_pn_begin : (Jvm.Cond.selects "MoverRoom$Planner" ({ cls := "MoverRoom$Planner", name := "begin", desc := "()V" } : Jvm.MethodName) ({ cls := "MoverRoom$Planner", name := "begin", desc := "()V" } : Jvm.MethodName)) ∈ gw := gw_sel (by decide +kernel) (by decide +kernel)
theorem ks_pn_canEnd : (Jvm.Cond.selects "MoverRoom$Planner" ({ cls := "MoverRoom$Planner", name := "canEnd", desc := "(II)Z" } : Jvm.MethodName) ({ cls := "MoverRoom$Planner", name := "canEnd", desc := "(II)Z" } : Jvm.MethodName)) ∈ gw := gw_sel (by decide +kernel) (by decide +kernel)
theorem ks_pn_layOut : (Jvm.Cond.selects "MoverRoom$Planner" ({ cls := "MoverRoom$Planner", name := "layOut", desc := "()V" } : Jvm.MethodName) ({ cls := "MoverRoom$Planner", name := "layOut", desc := "()V" } : Jvm.MethodName)) ∈ gw := gw_sel (by decide +kernel) (by decide +kernel)
theorem ks_pn_homeSince : (Jvm.Cond.selects "MoverRoom$Planner" ({ cls := "MoverRoom$Planner", name := "homeSince", desc := "(II)I" } : Jvm.MethodName) ({ cls := "MoverRoom$Planner", name := "homeSince", desc := "(II)I" } : Jvm.MethodName)) ∈ gw := gw_sel (by decide +kernel) (by decide +kernel)
theorem ks_pn_isOver : (Jvm.Cond.selects "MoverRoom$Planner" ({ cls := "MoverRoom$Planner", name := "isOver", desc := "(I)Z" } : Jvm.MethodName) ({ cls := "MoverRoom$Planner", name := "isOver", desc := "(I)Z" } : Jvm.MethodName)) ∈ gw := gw_sel (by decide +kernel) (by decide +kernel)
theorem ks_pn_chooseNext : (Jvm.Cond.selects "MoverRoom$Planner" ({ cls := "MoverRoom$Planner", name := "chooseNext", desc := "(II)Z" } : Jvm.MethodName) ({ cls := "MoverRoom$Planner", name := "chooseNext", desc := "(II)Z" } : Jvm.MethodName)) ∈ gw := gw_sel (by decide +kernel) (by decide +kernel)
theorem ks_vd_blame : (Jvm.Cond.selects "MoverRoom$Verdict" ({ cls := "MoverRoom$Verdict", name := "blame", desc := "(IIII)V" } : Jvm.MethodName) ({ cls := "MoverRoom$Verdict", name := "blame", desc := "(IIII)V" } : Jvm.MethodName)) ∈ gw := gw_sel (by decide +kernel) (by decide +kernel)
theorem ks_vd_seekStrayed : (Jvm.Cond.selects "MoverRoom$Verdict" ({ cls := "MoverRoom$Verdict", name := "seekStrayed", desc := "(I)V" } : Jvm.MethodName) ({ cls := "MoverRoom$Verdict", name := "seekStrayed", desc := "(I)V" } : Jvm.MethodName)) ∈ gw := gw_sel (by decide +kernel) (by decide +kernel)
theorem ks_vd_seekMeeting : (Jvm.Cond.selects "MoverRoom$Verdict" ({ cls := "MoverRoom$Verdict", name := "seekMeeting", desc := "(II)V" } : Jvm.MethodName) ({ cls := "MoverRoom$Verdict", name := "seekMeeting", desc := "(II)V" } : Jvm.MethodName)) ∈ gw := gw_sel (by decide +kernel) (by decide +kernel)
theorem ks_vd_strays : (Jvm.Cond.selects "MoverRoom$Verdict" ({ cls := "MoverRoom$Verdict", name := "strays", desc := "(II)Z" } : Jvm.MethodName) ({ cls := "MoverRoom$Verdict", name := "strays", desc := "(II)Z" } : Jvm.MethodName)) ∈ gw := gw_sel (by decide +kernel) (by decide +kernel)
theorem ks_vd_share : (Jvm.Cond.selects "MoverRoom$Verdict" ({ cls := "MoverRoom$Verdict", name := "share", desc := "(III)Z" } : Jvm.MethodName) ({ cls := "MoverRoom$Verdict", name := "share", desc := "(III)Z" } : Jvm.MethodName)) ∈ gw := gw_sel (by decide +kernel) (by decide +kernel)
theorem ks_vd_exchange : (Jvm.Cond.selects "MoverRoom$Verdict" ({ cls := "MoverRoom$Verdict", name := "exchange", desc := "(III)Z" } : Jvm.MethodName) ({ cls := "MoverRoom$Verdict", name := "exchange", desc := "(III)Z" } : Jvm.MethodName)) ∈ gw := gw_sel (by decide +kernel) (by decide +kernel)
end
section
theorem gf_cr_15 {p : Program} {l : Launch} {e : Env} {R : Room} {s : State} {m : MethodId} {args : Array Value} {below : List Frame} {meth : Method} {c : Code} {H : Heap} {locs : List Loc} {cells slots : Nat} {Q : State → Prop} {cc : ByteArray} {pc : Nat} {ls : Array Slot} {rest : List Value} {D : va_G} {tys : List (ClassId × FieldType)} {ws : va_W} {a : Nat} (hx : p.tables.exec = Jvm.exec) (hb : c.code = cc) (hg : ∀ w ∈ gw, w.before args s = true) (hown : s.vm.findClass R_cr = some m.cls) (hK : va_K D kls tys s) (hP : va_P D kls ws H) (q0 : Nat) {fs : List Value} (he : ws[q0]? = some (a, .inr (0, fs))) {v : Value} (hv : fs[3]? = some v) (hdg : decode cc pc = .ok (.getfield 15, 3)) (kk : W p l e R s m args below meth c H locs cells slots Q (F0 m (pc + 3) ls (v :: rest))) : W p l e R s m args below meth c H locs cells slots Q (F0 m pc ls (.ref a :: rest)) := va_get hx hb hg in_cr hown hK hP q0 he rfl 3 (by decide) (hg _ kw_97) (fun _ h => h) hv hdg kk
theorem pf_cr_15 {p : Program} {l : Launch} {e : Env} {R : Room} {s : State} {m : MethodId} {args : Array Value} {below : List Frame} {meth : Method} {c : Code} {H H0 : Heap} {locs : List Loc} {cells slots : Nat} {Q : State → Prop} {cc : ByteArray} {pc : Nat} {ls : Array Slot} {rest : List Value} {D : va_G} {tys : List (ClassId × FieldType)} {ws : va_W} {a : Nat} {A : Nat → Prop} (hx : p.tables.exec = Jvm.exec) (hb : c.code = cc) (hg : ∀ w ∈ gw, w.before args s = true) (hown : s.vm.findClass R_cr = some m.cls) (hi : meth.name = "<init>") (hK : va_K D kls tys s) (hP : va_P D kls ws H) (hD : va_D A ws) (hS : va_S A H0 H locs) (q0 : Nat) {fs : List Value} (he : ws[q0]? = some (a, .inr (0, fs))) {v : Value} (hn : narrow (.array .int) v = v) (hfit : fits (.array .int) v = true) (hl : 3 < fs.length) (hdg : decode cc pc = .ok (.putfield 15, 3)) (kk : ∀ (H1 : Heap) (locs1 : List Loc), va_P D kls (ws.set q0 (a, .inr (0, fs.set 3 v))) H1 → va_D A (ws.set q0 (a, .inr (0, fs.set 3 v))) → va_S A H0 H1 locs1 → W p l e R s m args below meth c H1 locs1 cells slots Q (F0 m (pc + 3) ls rest)) : W p l e R s m args below meth c H locs cells slots Q (F0 m pc ls (v :: .ref a :: rest)) := va_putF hx hb hg in_cr t_cr t_cr_ok n_cr hown hK hP hD hS q0 he rfl 3 (by decide) (hg _ kw_97) (fun _ h => h) rfl hi rfl (t_cr_ok 3 (by decide)) hn hfit hl hdg kk
theorem gf_cr_20 {p : Program} {l : Launch} {e : Env} {R : Room} {s : State} {m : MethodId} {args : Array Value} {below : List Frame} {meth : Method} {c : Code} {H : Heap} {locs : List Loc} {cells slots : Nat} {Q : State → Prop} {cc : ByteArray} {pc : Nat} {ls : Array Slot} {rest : List Value} {D : va_G} {tys : List (ClassId × FieldType)} {ws : va_W} {a : Nat} (hx : p.tables.exec = Jvm.exec) (hb : c.code = cc) (hg : ∀ w ∈ gw, w.before args s = true) (hown : s.vm.findClass R_cr = some m.cls) (hK : va_K D kls tys s) (hP : va_P D kls ws H) (q0 : Nat) {fs : List Value} (he : ws[q0]? = some (a, .inr (0, fs))) {v : Value} (hv : fs[4]? = some v) (hdg : decode cc pc = .ok (.getfield 20, 3)) (kk : W p l e R s m args below meth c H locs cells slots Q (F0 m (pc + 3) ls (v :: rest))) : W p l e R s m args below meth c H locs cells slots Q (F0 m pc ls (.ref a :: rest)) := va_get hx hb hg in_cr hown hK hP q0 he rfl 4 (by decide) (hg _ kw_100) (fun _ h => h) hv hdg kk
theorem pf_cr_20 {p : Program} {l : Launch} {e : Env} {R : Room} {s : State} {m : MethodId} {args : Array Value} {below : List Frame} {meth : Method} {c : Code} {H H0 : Heap} {locs : List Loc} {cells slots : Nat} {Q : State → Prop} {cc : ByteArray} {pc : Nat} {ls : Array Slot} {rest : List Value} {D : va_G} {tys : List (ClassId × FieldType)} {ws : va_W} {a : Nat} {A : Nat → Prop} (hx : p.tables.exec = Jvm.exec) (hb : c.code = cc) (hg : ∀ w ∈ gw, w.before args s = true) (hown : s.vm.findClass R_cr = some m.cls) (hi : meth.name = "<init>") (hK : va_K D kls tys s) (hP : va_P D kls ws H) (hD : va_D A ws) (hS : va_S A H0 H locs) (q0 : Nat) {fs : List Value} (he : ws[q0]? = some (a, .inr (0, fs))) {v : Value} (hn : narrow (.array (.array .int)) v = v) (hfit : fits (.array (.array .int)) v = true) (hl : 4 < fs.length) (hdg : decode cc pc = .ok (.putfield 20, 3)) (kk : ∀ (H1 : Heap) (locs1 : List Loc), va_P D kls (ws.set q0 (a, .inr (0, fs.set 4 v))) H1 → va_D A (ws.set q0 (a, .inr (0, fs.set 4 v))) → va_S A H0 H1 locs1 → W p l e R s m args below meth c H1 locs1 cells slots Q (F0 m (pc + 3) ls rest)) : W p l e R s m args below meth c H locs cells slots Q (F0 m pc ls (v :: .ref a :: rest)) := va_putF hx hb hg in_cr t_cr t_cr_ok n_cr hown hK hP hD hS q0 he rfl 4 (by decide) (hg _ kw_100) (fun _ h => h) rfl hi rfl (t_cr_ok 4 (by decide)) hn hfit hl hdg kk
theorem gf_cr_23 {p : Program} {l : Launch} {e : Env} {R : Room} {s : State} {m : MethodId} {args : Array Value} {below : List Frame} {meth : Method} {c : Code} {H : Heap} {locs : List Loc} {cells slots : Nat} {Q : State → Prop} {cc : ByteArray} {pc : Nat} {ls : Array Slot} {rest : List Value} {D : va_G} {tys : List (ClassId × FieldType)} {ws : va_W} {a : Nat} (hx : p.tables.exec = Jvm.exec) (hb : c.code = cc) (hg : ∀ w ∈ gw, w.before args s = true) (hown : s.vm.findClass R_cr = some m.cls) (hK : va_K D kls tys s) (hP : va_P D kls ws H) (q0 : Nat) {fs : List Value} (he : ws[q0]? = some (a, .inr (0, fs))) {v : Value} (hv : fs[5]? = some v) (hdg : decode cc pc = .ok (.getfield 23, 3)) (kk : W p l e R s m args below meth c H locs cells slots Q (F0 m (pc + 3) ls (v :: rest))) : W p l e R s m args below meth c H locs cells slots Q (F0 m pc ls (.ref a :: rest)) := va_get hx hb hg in_cr hown hK hP q0 he rfl 5 (by decide) (hg _ kw_102) (fun _ h => h) hv hdg kk
theorem pf_cr_23 {p : Program} {l : Launch} {e : Env} {R : Room} {s : State} {m : MethodId} {args : Array Value} {below : List Frame} {meth : Method} {c : Code} {H H0 : Heap} {locs : List Loc} {cells slots : Nat} {Q : State → Prop} {cc : ByteArray} {pc : Nat} {ls : Array Slot} {rest : List Value} {D : va_G} {tys : List (ClassId × FieldType)} {ws : va_W} {a : Nat} {A : Nat → Prop} (hx : p.tables.exec = Jvm.exec) (hb : c.code = cc) (hg : ∀ w ∈ gw, w.before args s = true) (hown : s.vm.findClass R_cr = some m.cls) (hi : meth.name = "<init>") (hK : va_K D kls tys s) (hP : va_P D kls ws H) (hD : va_D A ws) (hS : va_S A H0 H locs) (q0 : Nat) {fs : List Value} (he : ws[q0]? = some (a, .inr (0, fs))) {v : Value} (hn : narrow (.array .int) v = v) (hfit : fits (.array .int) v = true) (hl : 5 < fs.length) (hdg : decode cc pc = .ok (.putfield 23, 3)) (kk : ∀ (H1 : Heap) (locs1 : List Loc), va_P D kls (ws.set q0 (a, .inr (0, fs.set 5 v))) H1 → va_D A (ws.set q0 (a, .inr (0, fs.set 5 v))) → va_S A H0 H1 locs1 → W p l e R s m args below meth c H1 locs1 cells slots Q (F0 m (pc + 3) ls rest)) : W p l e R s m args below meth c H locs cells slots Q (F0 m pc ls (v :: .ref a :: rest)) := va_putF hx hb hg in_cr t_cr t_cr_ok n_cr hown hK hP hD hS q0 he rfl 5 (by decide) (hg _ kw_102) (fun _ h => h) rfl hi rfl (t_cr_ok 5 (by decide)) hn hfit hl hdg kk
theorem gf_cr_26 {p : Program} {l : Launch} {e : Env} {R : Room} {s : State} {m : MethodId} {args : Array Value} {below : List Frame} {meth : Method} {c : Code} {H : Heap} {locs : List Loc} {cells slots : Nat} {Q : State → Prop} {cc : ByteArray} {pc : Nat} {ls : Array Slot} {rest : List Value} {D : va_G} {tys : List (ClassId × FieldType)} {ws : va_W} {a : Nat} (hx : p.tables.exec = Jvm.exec) (hb : c.code = cc) (hg : ∀ w ∈ gw, w.before args s = true) (hown : s.vm.findClass R_cr = some m.cls) (hK : va_K D kls tys s) (hP : va_P D kls ws H) (q0 : Nat) {fs : List Value} (he : ws[q0]? = some (a, .inr (0, fs))) {v : Value} (hv : fs[6]? = some v) (hdg : decode cc pc = .ok (.getfield 26, 3)) (kk : W p l e R s m args below meth c H locs cells slots Q (F0 m (pc + 3) ls (v :: rest))) : W p l e R s m args below meth c H locs cells slots Q (F0 m pc ls (.ref a :: rest)) := va_get hx hb hg in_cr hown hK hP q0 he rfl 6 (by decide) (hg _ kw_103) (fun _ h => h) hv hdg kk
theorem pf_cr_26 {p : Program} {l : Launch} {e : Env} {R : Room} {s : State} {m : MethodId} {args : Array Value} {below : List Frame} {meth : Method} {c : Code} {H H0 : Heap} {locs : List Loc} {cells slots : Nat} {Q : State → Prop} {cc : ByteArray} {pc : Nat} {ls : Array Slot} {rest : List Value} {D : va_G} {tys : List (ClassId × FieldType)} {ws : va_W} {a : Nat} {A : Nat → Prop} (hx : p.tables.exec = Jvm.exec) (hb : c.code = cc) (hg : ∀ w ∈ gw, w.before args s = true) (hown : s.vm.findClass R_cr = some m.cls) (hK : va_K D kls tys s) (hP : va_P D kls ws H) (hD : va_D A ws) (hS : va_S A H0 H locs) (q0 : Nat) {fs : List Value} (he : ws[q0]? = some (a, .inr (0, fs))) {v : Value} (hn : narrow (.array .long) v = v) (hfit : fits (.array .long) v = true) (hl : 6 < fs.length) (hdg : decode cc pc = .ok (.putfield 26, 3)) (kk : ∀ (H1 : Heap) (locs1 : List Loc), va_P D kls (ws.set q0 (a, .inr (0, fs.set 6 v))) H1 → va_D A (ws.set q0 (a, .inr (0, fs.set 6 v))) → va_S A H0 H1 locs1 → W p l e R s m args below meth c H1 locs1 cells slots Q (F0 m (pc + 3) ls rest)) : W p l e R s m args below meth c H locs cells slots Q (F0 m pc ls (v :: .ref a :: rest)) := va_put hx hb hg in_cr t_cr t_cr_ok n_cr hown hK hP hD hS q0 he rfl 6 (by decide) (hg _ kw_103) (fun _ h => h) rfl (t_cr_ok 6 (by decide)) hn hfit hl hdg kk
theorem gf_cr_30 {p : Program} {l : Launch} {e : Env} {R : Room} {s : State} {m : MethodId} {args : Array Value} {below : List Frame} {meth : Method} {c : Code} {H : Heap} {locs : List Loc} {cells slots : Nat} {Q : State → Prop} {cc : ByteArray} {pc : Nat} {ls : Array Slot} {rest : List Value} {D : va_G} {tys : List (ClassId × FieldType)} {ws : va_W} {a : Nat} (hx : p.tables.exec = Jvm.exec) (hb : c.code = cc) (hg : ∀ w ∈ gw, w.before args s = true) (hown : s.vm.findClass R_cr = some m.cls) (hK : va_K D kls tys s) (hP : va_P D kls ws H) (q0 : Nat) {fs : List Value} (he : ws[q0]? = some (a, .inr (0, fs))) {v : Value} (hv : fs[7]? = some v) (hdg : decode cc pc = .ok (.getfield 30, 3)) (kk : W p l e R s m args below meth c H locs cells slots Q (F0 m (pc + 3) ls (v :: rest))) : W p l e R s m args below meth c H locs cells slots Q (F0 m pc ls (.ref a :: rest)) := va_get hx hb hg in_cr hown hK hP q0 he rfl 7 (by decide) (hg _ kw_104) (fun _ h => h) hv hdg kk
theorem pf_cr_30 {p : Program} {l : Launch} {e : Env} {R : Room} {s : State} {m : MethodId} {args : Array Value} {below : List Frame} {meth : Method} {c : Code} {H H0 : Heap} {locs : List Loc} {cells slots : Nat} {Q : State → Prop} {cc : ByteArray} {pc : Nat} {ls : Array Slot} {rest : List Value} {D : va_G} {tys : List (ClassId × FieldType)} {ws : va_W} {a : Nat} {A : Nat → Prop} (hx : p.tables.exec = Jvm.exec) (hb : c.code = cc) (hg : ∀ w ∈ gw, w.before args s = true) (hown : s.vm.findClass R_cr = some m.cls) (hK : va_K D kls tys s) (hP : va_P D kls ws H) (hD : va_D A ws) (hS : va_S A H0 H locs) (q0 : Nat) {fs : List Value} (he : ws[q0]? = some (a, .inr (0, fs))) {v : Value} (hn : narrow (.array .long) v = v) (hfit : fits (.array .long) v = true) (hl : 7 < fs.length) (hdg : decode cc pc = .ok (.putfield 30, 3)) (kk : ∀ (H1 : Heap) (locs1 : List Loc), va_P D kls (ws.set q0 (a, .inr (0, fs.set 7 v))) H1 → va_D A (ws.set q0 (a, .inr (0, fs.set 7 v))) → va_S A H0 H1 locs1 → W p l e R s m args below meth c H1 locs1 cells slots Q (F0 m (pc + 3) ls rest)) : W p l e R s m args below meth c H locs cells slots Q (F0 m pc ls (v :: .ref a :: rest)) := va_put hx hb hg in_cr t_cr t_cr_ok n_cr hown hK hP hD hS q0 he rfl 7 (by decide) (hg _ kw_104) (fun _ h => h) rfl (t_cr_ok 7 (by decide)) hn hfit hl hdg kk
theorem gf_cr_33 {p : Program} {l : Launch} {e : Env} {R : Room} {s : State} {m : MethodId} {args : Array Value} {below : List Frame} {meth : Method} {c : Code} {H : Heap} {locs : List Loc} {cells slots : Nat} {Q : State → Prop} {cc : ByteArray} {pc : Nat} {ls : Array Slot} {rest : List Value} {D : va_G} {tys : List (ClassId × FieldType)} {ws : va_W} {a : Nat} (hx : p.tables.exec = Jvm.exec) (hb : c.code = cc) (hg : ∀ w ∈ gw, w.before args s = true) (hown : s.vm.findClass R_cr = some m.cls) (hK : va_K D kls tys s) (hP : va_P D kls ws H) (q0 : Nat) {fs : List Value} (he : ws[q0]? = some (a, .inr (0, fs))) {v : Value} (hv : fs[0]? = some v) (hdg : decode cc pc = .ok (.getfield 33, 3)) (kk : W p l e R s m args below meth c H locs cells slots Q (F0 m (pc + 3) ls (v :: rest))) : W p l e R s m args below meth c H locs cells slots Q (F0 m pc ls (.ref a :: rest)) := va_get hx hb hg in_cr hown hK hP q0 he rfl 0 (by decide) (hg _ kw_89) (fun _ h => h) hv hdg kk
theorem pf_cr_33 {p : Program} {l : Launch} {e : Env} {R : Room} {s : State} {m : MethodId} {args : Array Value} {below : List Frame} {meth : Method} {c : Code} {H H0 : Heap} {locs : List Loc} {cells slots : Nat} {Q : State → Prop} {cc : ByteArray} {pc : Nat} {ls : Array Slot} {rest : List Value} {D : va_G} {tys : List (ClassId × FieldType)} {ws : va_W} {a : Nat} {A : Nat → Prop} (hx : p.tables.exec = Jvm.exec) (hb : c.code = cc) (hg : ∀ w ∈ gw, w.before args s = true) (hown : s.vm.findClass R_cr = some m.cls) (hi : meth.name = "<init>") (hK : va_K D kls tys s) (hP : va_P D kls ws H) (hD : va_D A ws) (hS : va_S A H0 H locs) (q0 : Nat) {fs : List Value} (he : ws[q0]? = some (a, .inr (0, fs))) {v : Value} (hn : narrow (.object "MoverRoom$Floor") v = v) (hfit : fits (.object "MoverRoom$Floor") v = true) (hl : 0 < fs.length) (hdg : decode cc pc = .ok (.putfield 33, 3)) (kk : ∀ (H1 : Heap) (locs1 : List Loc), va_P D kls (ws.set q0 (a, .inr (0, fs.set 0 v))) H1 → va_D A (ws.set q0 (a, .inr (0, fs.set 0 v))) → va_S A H0 H1 locs1 → W p l e R s m args below meth c H1 locs1 cells slots Q (F0 m (pc + 3) ls rest)) : W p l e R s m args below meth c H locs cells slots Q (F0 m pc ls (v :: .ref a :: rest)) := va_putF hx hb hg in_cr t_cr t_cr_ok n_cr hown hK hP hD hS q0 he rfl 0 (by decide) (hg _ kw_89) (fun _ h => h) rfl hi rfl (t_cr_ok 0 (by decide)) hn hfit hl hdg kk
theorem gf_cr_37 {p : Program} {l : Launch} {e : Env} {R : Room} {s : State} {m : MethodId} {args : Array Value} {below : List Frame} {meth : Method} {c : Code} {H : Heap} {locs : List Loc} {cells slots : Nat} {Q : State → Prop} {cc : ByteArray} {pc : Nat} {ls : Array Slot} {rest : List Value} {D : va_G} {tys : List (ClassId × FieldType)} {ws : va_W} {a : Nat} (hx : p.tables.exec = Jvm.exec) (hb : c.code = cc) (hg : ∀ w ∈ gw, w.before args s = true) (hown : s.vm.findClass R_cr = some m.cls) (hK : va_K D kls tys s) (hP : va_P D kls ws H) (q0 : Nat) {fs : List Value} (he : ws[q0]? = some (a, .inr (0, fs))) {v : Value} (hv : fs[1]? = some v) (hdg : decode cc pc = .ok (.getfield 37, 3)) (kk : W p l e R s m args below meth c H locs cells slots Q (F0 m (pc + 3) ls (v :: rest))) : W p l e R s m args below meth c H locs cells slots Q (F0 m pc ls (.ref a :: rest)) := va_get hx hb hg in_cr hown hK hP q0 he rfl 1 (by decide) (hg _ kw_90) (fun _ h => h) hv hdg kk
theorem pf_cr_37 {p : Program} {l : Launch} {e : Env} {R : Room} {s : State} {m : MethodId} {args : Array Value} {below : List Frame} {meth : Method} {c : Code} {H H0 : Heap} {locs : List Loc} {cells slots : Nat} {Q : State → Prop} {cc : ByteArray} {pc : Nat} {ls : Array Slot} {rest : List Value} {D : va_G} {tys : List (ClassId × FieldType)} {ws : va_W} {a : Nat} {A : Nat → Prop} (hx : p.tables.exec = Jvm.exec) (hb : c.code = cc) (hg : ∀ w ∈ gw, w.before args s = true) (hown : s.vm.findClass R_cr = some m.cls) (hK : va_K D kls tys s) (hP : va_P D kls ws H) (hD : va_D A ws) (hS : va_S A H0 H locs) (q0 : Nat) {fs : List Value} (he : ws[q0]? = some (a, .inr (0, fs))) {v : Value} (hn : narrow .int v = v) (hfit : fits .int v = true) (hl : 1 < fs.length) (hdg : decode cc pc = .ok (.putfield 37, 3)) (kk : ∀ (H1 : Heap) (locs1 : List Loc), va_P D kls (ws.set q0 (a, .inr (0, fs.set 1 v))) H1 → va_D A (ws.set q0 (a, .inr (0, fs.set 1 v))) → va_S A H0 H1 locs1 → W p l e R s m args below meth c H1 locs1 cells slots Q (F0 m (pc + 3) ls rest)) : W p l e R s m args below meth c H locs cells slots Q (F0 m pc ls (v :: .ref a :: rest)) := va_put hx hb hg in_cr t_cr t_cr_ok n_cr hown hK hP hD hS q0 he rfl 1 (by decide) (hg _ kw_90) (fun _ h => h) rfl (t_cr_ok 1 (by decide)) hn hfit hl hdg kk
theorem gf_cr_41 {p : Program} {l : Launch} {e : Env} {R : Room} {s : State} {m : MethodId} {args : Array Value} {below : List Frame} {meth : Method} {c : Code} {H : Heap} {locs : List Loc} {cells slots : Nat} {Q : State → Prop} {cc : ByteArray} {pc : Nat} {ls : Array Slot} {rest : List Value} {D : va_G} {tys : List (ClassId × FieldType)} {ws : va_W} {a : Nat} (hx : p.tables.exec = Jvm.exec) (hb : c.code = cc) (hg : ∀ w ∈ gw, w.before args s = true) (hown : s.vm.findClass R_cr = some m.cls) (hK : va_K D kls tys s) (hP : va_P D kls ws H) (q0 : Nat) {fs : List Value} (he : ws[q0]? = some (a, .inr (1, fs))) {v : Value} (hv : fs[3]? = some v) (hdg : decode cc pc = .ok (.getfield 41, 3)) (kk : W p l e R s m args below meth c H locs cells slots Q (F0 m (pc + 3) ls (v :: rest))) : W p l e R s m args below meth c H locs cells slots Q (F0 m pc ls (.ref a :: rest)) := va_get hx hb hg in_fl hown hK hP q0 he rfl 3 (by decide) (hg _ kw_54) (fun _ h => h) hv hdg kk
theorem gv_cr_46 : GoodIn gw (wsV R_cr 46 R_cr y_cr_measure w_cr_measure) := gd_V kw_282 kw_284 ks_cr_measure kw_3 kw_285
theorem gv_cr_50 : GoodIn gw (wsV R_cr 50 R_cr y_cr_wayFromStart w_cr_wayFromStart) := gd_V kw_336 kw_300 kw_301 kw_3 kw_302
theorem gl_cr_54 : (Cond.methodLink R_cr 54 y_ar_fillJ) ∈ gw := kw_312
theorem gt_cr_54 : (Cond.static y_ar_fillJ) ∈ gw := kw_313
theorem gi_cr_54 : (Cond.initialized y_ar_fillJ.cls) ∈ gw := kw_9
theorem gg_cr_54 : GoodIn gw w_ar_fillJ := gd_c kw_314
theorem gv_cr_60 : GoodIn gw (wsV R_cr 60 R_cr y_cr_spreadCounts w_cr_spreadCounts) := gd_V kw_315 kw_317 ks_cr_spreadCounts kw_3 kw_318
theorem gv_cr_63 : GoodIn gw (wsV R_cr 63 R_cr y_cr_countsBeside w_cr_countsBeside) := gd_V kw_320 kw_322 ks_cr_countsBeside kw_3 kw_323
theorem gv_cr_67 : GoodIn gw (wsV R_cr 67 R_fl y_fl_isFree w_fl_isFree) := gd_V kw_319 kw_44 kw_45 kw_2 kw_46
theorem gf_cr_71 {p : Program} {l : Launch} {e : Env} {R : Room} {s : State} {m : MethodId} {args : Array Value} {below : List Frame} {meth : Method} {c : Code} {H : Heap} {locs : List Loc} {cells slots : Nat} {Q : State → Prop} {cc : ByteArray} {pc : Nat} {ls : Array Slot} {rest : List Value} {D : va_G} {tys : List (ClassId × FieldType)} {ws : va_W} {a : Nat} (hx : p.tables.exec = Jvm.exec) (hb : c.code = cc) (hg : ∀ w ∈ gw, w.before args s = true) (hown : s.vm.findClass R_cr = some m.cls) (hK : va_K D kls tys s) (hP : va_P D kls ws H) (q0 : Nat) {fs : List Value} (he : ws[q0]? = some (a, .inr (1, fs))) {v : Value} (hv : fs[5]? = some v) (hdg : decode cc pc = .ok (.getfield 71, 3)) (kk : W p l e R s m args below meth c H locs cells slots Q (F0 m (pc + 3) ls (v :: rest))) : W p l e R s m args below meth c H locs cells slots Q (F0 m pc ls (.ref a :: rest)) := va_get hx hb hg in_fl hown hK hP q0 he rfl 5 (by decide) (hg _ kw_61) (fun _ h => h) hv hdg kk
theorem gf_cr_74 {p : Program} {l : Launch} {e : Env} {R : Room} {s : State} {m : MethodId} {args : Array Value} {below : List Frame} {meth : Method} {c : Code} {H : Heap} {locs : List Loc} {cells slots : Nat} {Q : State → Prop} {cc : ByteArray} {pc : Nat} {ls : Array Slot} {rest : List Value} {D : va_G} {tys : List (ClassId × FieldType)} {ws : va_W} {a : Nat} (hx : p.tables.exec = Jvm.exec) (hb : c.code = cc) (hg : ∀ w ∈ gw, w.before args s = true) (hown : s.vm.findClass R_cr = some m.cls) (hK : va_K D kls tys s) (hP : va_P D kls ws H) (q0 : Nat) {fs : List Value} (he : ws[q0]? = some (a, .inr (1, fs))) {v : Value} (hv : fs[6]? = some v) (hdg : decode cc pc = .ok (.getfield 74, 3)) (kk : W p l e R s m args below meth c H locs cells slots Q (F0 m (pc + 3) ls (v :: rest))) : W p l e R s m args below meth c H locs cells slots Q (F0 m pc ls (.ref a :: rest)) := va_get hx hb hg in_fl hown hK hP q0 he rfl 6 (by decide) (hg _ kw_64) (fun _ h => h) hv hdg kk
theorem gl_cr_77 : (Cond.methodLink R_cr 77 y_ar_fillI) ∈ gw := kw_286
theorem gt_cr_77 : (Cond.static y_ar_fillI) ∈ gw := kw_258
theorem gi_cr_77 : (Cond.initialized y_ar_fillI.cls) ∈ gw := kw_9
theorem gg_cr_77 : GoodIn gw w_ar_fillI := gd_c kw_259
theorem gf_cr_9 {p : Program} {l : Launch} {e : Env} {R : Room} {s : State} {m : MethodId} {args : Array Value} {below : List Frame} {meth : Method} {c : Code} {H : Heap} {locs : List Loc} {cells slots : Nat} {Q : State → Prop} {cc : ByteArray} {pc : Nat} {ls : Array Slot} {rest : List Value} {D : va_G} {tys : List (ClassId × FieldType)} {ws : va_W} {a : Nat} (hx : p.tables.exec = Jvm.exec) (hb : c.code = cc) (hg : ∀ w ∈ gw, w.before args s = true) (hown : s.vm.findClass R_cr = some m.cls) (hK : va_K D kls tys s) (hP : va_P D kls ws H) (q0 : Nat) {fs : List Value} (he : ws[q0]? = some (a, .inr (0, fs))) {v : Value} (hv : fs[2]? = some v) (hdg : decode cc pc = .ok (.getfield 9, 3)) (kk : W p l e R s m args below meth c H locs cells slots Q (F0 m (pc + 3) ls (v :: rest))) : W p l e R s m args below meth c H locs cells slots Q (F0 m pc ls (.ref a :: rest)) := va_get hx hb hg in_cr hown hK hP q0 he rfl 2 (by decide) (hg _ kw_94) (fun _ h => h) hv hdg kk
theorem pf_cr_9 {p : Program} {l : Launch} {e : Env} {R : Room} {s : State} {m : MethodId} {args : Array Value} {below : List Frame} {meth : Method} {c : Code} {H H0 : Heap} {locs : List Loc} {cells slots : Nat} {Q : State → Prop} {cc : ByteArray} {pc : Nat} {ls : Array Slot} {rest : List Value} {D : va_G} {tys : List (ClassId × FieldType)} {ws : va_W} {a : Nat} {A : Nat → Prop} (hx : p.tables.exec = Jvm.exec) (hb : c.code = cc) (hg : ∀ w ∈ gw, w.before args s = true) (hown : s.vm.findClass R_cr = some m.cls) (hi : meth.name = "<init>") (hK : va_K D kls tys s) (hP : va_P D kls ws H) (hD : va_D A ws) (hS : va_S A H0 H locs) (q0 : Nat) {fs : List Value} (he : ws[q0]? = some (a, .inr (0, fs))) {v : Value} (hn : narrow (.array .int) v = v) (hfit : fits (.array .int) v = true) (hl : 2 < fs.length) (hdg : decode cc pc = .ok (.putfield 9, 3)) (kk : ∀ (H1 : Heap) (locs1 : List Loc), va_P D kls (ws.set q0 (a, .inr (0, fs.set 2 v))) H1 → va_D A (ws.set q0 (a, .inr (0, fs.set 2 v))) → va_S A H0 H1 locs1 → W p l e R s m args below meth c H1 locs1 cells slots Q (F0 m (pc + 3) ls rest)) : W p l e R s m args below meth c H locs cells slots Q (F0 m pc ls (v :: .ref a :: rest)) := va_putF hx hb hg in_cr t_cr t_cr_ok n_cr hown hK hP hD hS q0 he rfl 2 (by decide) (hg _ kw_94) (fun _ h => h) rfl hi rfl (t_cr_ok 2 (by decide)) hn hfit hl hdg kk
theorem gf_fl_15 {p : Program} {l : Launch} {e : Env} {R : Room} {s : State} {m : MethodId} {args : Array Value} {below : List Frame} {meth : Method} {c : Code} {H : Heap} {locs : List Loc} {cells slots : Nat} {Q : State → Prop} {cc : ByteArray} {pc : Nat} {ls : Array Slot} {rest : List Value} {D : va_G} {tys : List (ClassId × FieldType)} {ws : va_W} {a : Nat} (hx : p.tables.exec = Jvm.exec) (hb : c.code = cc) (hg : ∀ w ∈ gw, w.before args s = true) (hown : s.vm.findClass R_fl = some m.cls) (hK : va_K D kls tys s) (hP : va_P D kls ws H) (q0 : Nat) {fs : List Value} (he : ws[q0]? = some (a, .inr (1, fs))) {v : Value} (hv : fs[4]? = some v) (hdg : decode cc pc = .ok (.getfield 15, 3)) (kk : W p l e R s m args below meth c H locs cells slots Q (F0 m (pc + 3) ls (v :: rest))) : W p l e R s m args below meth c H locs cells slots Q (F0 m pc ls (.ref a :: rest)) := va_get hx hb hg in_fl hown hK hP q0 he rfl 4 (by decide) (hg _ kw_57) (fun _ h => h) hv hdg kk
theorem pf_fl_15 {p : Program} {l : Launch} {e : Env} {R : Room} {s : State} {m : MethodId} {args : Array Value} {below : List Frame} {meth : Method} {c : Code} {H H0 : Heap} {locs : List Loc} {cells slots : Nat} {Q : State → Prop} {cc : ByteArray} {pc : Nat} {ls : Array Slot} {rest : List Value} {D : va_G} {tys : List (ClassId × FieldType)} {ws : va_W} {a : Nat} {A : Nat → Prop} (hx : p.tables.exec = Jvm.exec) (hb : c.code = cc) (hg : ∀ w ∈ gw, w.before args s = true) (hown : s.vm.findClass R_fl = some m.cls) (hi : meth.name = "<init>") (hK : va_K D kls tys s) (hP : va_P D kls ws H) (hD : va_D A ws) (hS : va_S A H0 H locs) (q0 : Nat) {fs : List Value} (he : ws[q0]? = some (a, .inr (1, fs))) {v : Value} (hn : narrow (.array .int) v = v) (hfit : fits (.array .int) v = true) (hl : 4 < fs.length) (hdg : decode cc pc = .ok (.putfield 15, 3)) (kk : ∀ (H1 : Heap) (locs1 : List Loc), va_P D kls (ws.set q0 (a, .inr (1, fs.set 4 v))) H1 → va_D A (ws.set q0 (a, .inr (1, fs.set 4 v))) → va_S A H0 H1 locs1 → W p l e R s m args below meth c H1 locs1 cells slots Q (F0 m (pc + 3) ls rest)) : W p l e R s m args below meth c H locs cells slots Q (F0 m pc ls (v :: .ref a :: rest)) := va_putF hx hb hg in_fl t_fl t_fl_ok n_fl hown hK hP hD hS q0 he rfl 4 (by decide) (hg _ kw_57) (fun _ h => h) rfl hi rfl (t_fl_ok 4 (by decide)) hn hfit hl hdg kk
theorem gf_fl_19 {p : Program} {l : Launch} {e : Env} {R : Room} {s : State} {m : MethodId} {args : Array Value} {below : List Frame} {meth : Method} {c : Code} {H : Heap} {locs : List Loc} {cells slots : Nat} {Q : State → Prop} {cc : ByteArray} {pc : Nat} {ls : Array Slot} {rest : List Value} {D : va_G} {tys : List (ClassId × FieldType)} {ws : va_W} {a : Nat} (hx : p.tables.exec = Jvm.exec) (hb : c.code = cc) (hg : ∀ w ∈ gw, w.before args s = true) (hown : s.vm.findClass R_fl = some m.cls) (hK : va_K D kls tys s) (hP : va_P D kls ws H) (q0 : Nat) {fs : List Value} (he : ws[q0]? = some (a, .inr (1, fs))) {v : Value} (hv : fs[5]? = some v) (hdg : decode cc pc = .ok (.getfield 19, 3)) (kk : W p l e R s m args below meth c H locs cells slots Q (F0 m (pc + 3) ls (v :: rest))) : W p l e R s m args below meth c H locs cells slots Q (F0 m pc ls (.ref a :: rest)) := va_get hx hb hg in_fl hown hK hP q0 he rfl 5 (by decide) (hg _ kw_59) (fun _ h => h) hv hdg kk
theorem pf_fl_19 {p : Program} {l : Launch} {e : Env} {R : Room} {s : State} {m : MethodId} {args : Array Value} {below : List Frame} {meth : Method} {c : Code} {H H0 : Heap} {locs : List Loc} {cells slots : Nat} {Q : State → Prop} {cc : ByteArray} {pc : Nat} {ls : Array Slot} {rest : List Value} {D : va_G} {tys : List (ClassId × FieldType)} {ws : va_W} {a : Nat} {A : Nat → Prop} (hx : p.tables.exec = Jvm.exec) (hb : c.code = cc) (hg : ∀ w ∈ gw, w.before args s = true) (hown : s.vm.findClass R_fl = some m.cls) (hi : meth.name = "<init>") (hK : va_K D kls tys s) (hP : va_P D kls ws H) (hD : va_D A ws) (hS : va_S A H0 H locs) (q0 : Nat) {fs : List Value} (he : ws[q0]? = some (a, .inr (1, fs))) {v : Value} (hn : narrow (.array .int) v = v) (hfit : fits (.array .int) v = true) (hl : 5 < fs.length) (hdg : decode cc pc = .ok (.putfield 19, 3)) (kk : ∀ (H1 : Heap) (locs1 : List Loc), va_P D kls (ws.set q0 (a, .inr (1, fs.set 5 v))) H1 → va_D A (ws.set q0 (a, .inr (1, fs.set 5 v))) → va_S A H0 H1 locs1 → W p l e R s m args below meth c H1 locs1 cells slots Q (F0 m (pc + 3) ls rest)) : W p l e R s m args below meth c H locs cells slots Q (F0 m pc ls (v :: .ref a :: rest)) := va_putF hx hb hg in_fl t_fl t_fl_ok n_fl hown hK hP hD hS q0 he rfl 5 (by decide) (hg _ kw_59) (fun _ h => h) rfl hi rfl (t_fl_ok 5 (by decide)) hn hfit hl hdg kk
theorem gf_fl_24 {p : Program} {l : Launch} {e : Env} {R : Room} {s : State} {m : MethodId} {args : Array Value} {below : List Frame} {meth : Method} {c : Code} {H : Heap} {locs : List Loc} {cells slots : Nat} {Q : State → Prop} {cc : ByteArray} {pc : Nat} {ls : Array Slot} {rest : List Value} {D : va_G} {tys : List (ClassId × FieldType)} {ws : va_W} {a : Nat} (hx : p.tables.exec = Jvm.exec) (hb : c.code = cc) (hg : ∀ w ∈ gw, w.before args s = true) (hown : s.vm.findClass R_fl = some m.cls) (hK : va_K D kls tys s) (hP : va_P D kls ws H) (q0 : Nat) {fs : List Value} (he : ws[q0]? = some (a, .inr (1, fs))) {v : Value} (hv : fs[6]? = some v) (hdg : decode cc pc = .ok (.getfield 24, 3)) (kk : W p l e R s m args below meth c H locs cells slots Q (F0 m (pc + 3) ls (v :: rest))) : W p l e R s m args below meth c H locs cells slots Q (F0 m pc ls (.ref a :: rest)) := va_get hx hb hg in_fl hown hK hP q0 he rfl 6 (by decide) (hg _ kw_62) (fun _ h => h) hv hdg kk
theorem pf_fl_24 {p : Program} {l : Launch} {e : Env} {R : Room} {s : State} {m : MethodId} {args : Array Value} {below : List Frame} {meth : Method} {c : Code} {H H0 : Heap} {locs : List Loc} {cells slots : Nat} {Q : State → Prop} {cc : ByteArray} {pc : Nat} {ls : Array Slot} {rest : List Value} {D : va_G} {tys : List (ClassId × FieldType)} {ws : va_W} {a : Nat} {A : Nat → Prop} (hx : p.tables.exec = Jvm.exec) (hb : c.code = cc) (hg : ∀ w ∈ gw, w.before args s = true) (hown : s.vm.findClass R_fl = some m.cls) (hi : meth.name = "<init>") (hK : va_K D kls tys s) (hP : va_P D kls ws H) (hD : va_D A ws) (hS : va_S A H0 H locs) (q0 : Nat) {fs : List Value} (he : ws[q0]? = some (a, .inr (1, fs))) {v : Value} (hn : narrow (.array (.array .int)) v = v) (hfit : fits (.array (.array .int)) v = true) (hl : 6 < fs.length) (hdg : decode cc pc = .ok (.putfield 24, 3)) (kk : ∀ (H1 : Heap) (locs1 : List Loc), va_P D kls (ws.set q0 (a, .inr (1, fs.set 6 v))) H1 → va_D A (ws.set q0 (a, .inr (1, fs.set 6 v))) → va_S A H0 H1 locs1 → W p l e R s m args below meth c H1 locs1 cells slots Q (F0 m (pc + 3) ls rest)) : W p l e R s m args below meth c H locs cells slots Q (F0 m pc ls (v :: .ref a :: rest)) := va_putF hx hb hg in_fl t_fl t_fl_ok n_fl hown hK hP hD hS q0 he rfl 6 (by decide) (hg _ kw_62) (fun _ h => h) rfl hi rfl (t_fl_ok 6 (by decide)) hn hfit hl hdg kk
theorem gv_fl_27 : GoodIn gw (wsV R_fl 27 R_fl y_fl_build w_fl_build) := gd_V kw_27 kw_28 kw_29 kw_2 kw_30
theorem gf_fl_31 {p : Program} {l : Launch} {e : Env} {R : Room} {s : State} {m : MethodId} {args : Array Value} {below : List Frame} {meth : Method} {c : Code} {H : Heap} {locs : List Loc} {cells slots : Nat} {Q : State → Prop} {cc : ByteArray} {pc : Nat} {ls : Array Slot} {rest : List Value} {D : va_G} {tys : List (ClassId × FieldType)} {ws : va_W} {a : Nat} (hx : p.tables.exec = Jvm.exec) (hb : c.code = cc) (hg : ∀ w ∈ gw, w.before args s = true) (hown : s.vm.findClass R_fl = some m.cls) (hK : va_K D kls tys s) (hP : va_P D kls ws H) (q0 : Nat) {fs : List Value} (he : ws[q0]? = some (a, .inr (1, fs))) {v : Value} (hv : fs[0]? = some v) (hdg : decode cc pc = .ok (.getfield 31, 3)) (kk : W p l e R s m args below meth c H locs cells slots Q (F0 m (pc + 3) ls (v :: rest))) : W p l e R s m args below meth c H locs cells slots Q (F0 m pc ls (.ref a :: rest)) := va_get hx hb hg in_fl hown hK hP q0 he rfl 0 (by decide) (hg _ kw_51) (fun _ h => h) hv hdg kk
theorem pf_fl_31 {p : Program} {l : Launch} {e : Env} {R : Room} {s : State} {m : MethodId} {args : Array Value} {below : List Frame} {meth : Method} {c : Code} {H H0 : Heap} {locs : List Loc} {cells slots : Nat} {Q : State → Prop} {cc : ByteArray} {pc : Nat} {ls : Array Slot} {rest : List Value} {D : va_G} {tys : List (ClassId × FieldType)} {ws : va_W} {a : Nat} {A : Nat → Prop} (hx : p.tables.exec = Jvm.exec) (hb : c.code = cc) (hg : ∀ w ∈ gw, w.before args s = true) (hown : s.vm.findClass R_fl = some m.cls) (hK : va_K D kls tys s) (hP : va_P D kls ws H) (hD : va_D A ws) (hS : va_S A H0 H locs) (q0 : Nat) {fs : List Value} (he : ws[q0]? = some (a, .inr (1, fs))) {v : Value} (hn : narrow .int v = v) (hfit : fits .int v = true) (hl : 0 < fs.length) (hdg : decode cc pc = .ok (.putfield 31, 3)) (kk : ∀ (H1 : Heap) (locs1 : List Loc), va_P D kls (ws.set q0 (a, .inr (1, fs.set 0 v))) H1 → va_D A (ws.set q0 (a, .inr (1, fs.set 0 v))) → va_S A H0 H1 locs1 → W p l e R s m args below meth c H1 locs1 cells slots Q (F0 m (pc + 3) ls rest)) : W p l e R s m args below meth c H locs cells slots Q (F0 m pc ls (v :: .ref a :: rest)) := va_put hx hb hg in_fl t_fl t_fl_ok n_fl hown hK hP hD hS q0 he rfl 0 (by decide) (hg _ kw_51) (fun _ h => h) rfl (t_fl_ok 0 (by decide)) hn hfit hl hdg kk
theorem gf_fl_35 {p : Program} {l : Launch} {e : Env} {R : Room} {s : State} {m : MethodId} {args : Array Value} {below : List Frame} {meth : Method} {c : Code} {H : Heap} {locs : List Loc} {cells slots : Nat} {Q : State → Prop} {cc : ByteArray} {pc : Nat} {ls : Array Slot} {rest : List Value} {D : va_G} {tys : List (ClassId × FieldType)} {ws : va_W} {a : Nat} (hx : p.tables.exec = Jvm.exec) (hb : c.code = cc) (hg : ∀ w ∈ gw, w.before args s = true) (hown : s.vm.findClass R_fl = some m.cls) (hK : va_K D kls tys s) (hP : va_P D kls ws H) (q0 : Nat) {fs : List Value} (he : ws[q0]? = some (a, .inr (1, fs))) {v : Value} (hv : fs[1]? = some v) (hdg : decode cc pc = .ok (.getfield 35, 3)) (kk : W p l e R s m args below meth c H locs cells slots Q (F0 m (pc + 3) ls (v :: rest))) : W p l e R s m args below meth c H locs cells slots Q (F0 m pc ls (.ref a :: rest)) := va_get hx hb hg in_fl hown hK hP q0 he rfl 1 (by decide) (hg _ kw_52) (fun _ h => h) hv hdg kk
theorem pf_fl_35 {p : Program} {l : Launch} {e : Env} {R : Room} {s : State} {m : MethodId} {args : Array Value} {below : List Frame} {meth : Method} {c : Code} {H H0 : Heap} {locs : List Loc} {cells slots : Nat} {Q : State → Prop} {cc : ByteArray} {pc : Nat} {ls : Array Slot} {rest : List Value} {D : va_G} {tys : List (ClassId × FieldType)} {ws : va_W} {a : Nat} {A : Nat → Prop} (hx : p.tables.exec = Jvm.exec) (hb : c.code = cc) (hg : ∀ w ∈ gw, w.before args s = true) (hown : s.vm.findClass R_fl = some m.cls) (hK : va_K D kls tys s) (hP : va_P D kls ws H) (hD : va_D A ws) (hS : va_S A H0 H locs) (q0 : Nat) {fs : List Value} (he : ws[q0]? = some (a, .inr (1, fs))) {v : Value} (hn : narrow .int v = v) (hfit : fits .int v = true) (hl : 1 < fs.length) (hdg : decode cc pc = .ok (.putfield 35, 3)) (kk : ∀ (H1 : Heap) (locs1 : List Loc), va_P D kls (ws.set q0 (a, .inr (1, fs.set 1 v))) H1 → va_D A (ws.set q0 (a, .inr (1, fs.set 1 v))) → va_S A H0 H1 locs1 → W p l e R s m args below meth c H1 locs1 cells slots Q (F0 m (pc + 3) ls rest)) : W p l e R s m args below meth c H locs cells slots Q (F0 m pc ls (v :: .ref a :: rest)) := va_put hx hb hg in_fl t_fl t_fl_ok n_fl hown hK hP hD hS q0 he rfl 1 (by decide) (hg _ kw_52) (fun _ h => h) rfl (t_fl_ok 1 (by decide)) hn hfit hl hdg kk
theorem gv_fl_38 : GoodIn gw (wsV R_fl 38 R_fl y_fl_chart w_fl_chart) := gd_V kw_31 kw_33 ks_fl_chart kw_2 kw_34
theorem gv_fl_41 : GoodIn gw (wsV R_fl 41 R_fl y_fl_has w_fl_has) := gd_V kw_47 kw_48 kw_49 kw_2 kw_50
theorem gv_fl_45 : GoodIn gw (wsV R_fl 45 R_fl y_fl_isFree w_fl_isFree) := gd_V kw_43 kw_44 kw_45 kw_2 kw_46
theorem gf_fl_48 {p : Program} {l : Launch} {e : Env} {R : Room} {s : State} {m : MethodId} {args : Array Value} {below : List Frame} {meth : Method} {c : Code} {H : Heap} {locs : List Loc} {cells slots : Nat} {Q : State → Prop} {cc : ByteArray} {pc : Nat} {ls : Array Slot} {rest : List Value} {D : va_G} {tys : List (ClassId × FieldType)} {ws : va_W} {a : Nat} (hx : p.tables.exec = Jvm.exec) (hb : c.code = cc) (hg : ∀ w ∈ gw, w.before args s = true) (hown : s.vm.findClass R_fl = some m.cls) (hK : va_K D kls tys s) (hP : va_P D kls ws H) (q0 : Nat) {fs : List Value} (he : ws[q0]? = some (a, .inr (1, fs))) {v : Value} (hv : fs[3]? = some v) (hdg : decode cc pc = .ok (.getfield 48, 3)) (kk : W p l e R s m args below meth c H locs cells slots Q (F0 m (pc + 3) ls (v :: rest))) : W p l e R s m args below meth c H locs cells slots Q (F0 m pc ls (.ref a :: rest)) := va_get hx hb hg in_fl hown hK hP q0 he rfl 3 (by decide) (hg _ kw_55) (fun _ h => h) hv hdg kk
theorem pf_fl_48 {p : Program} {l : Launch} {e : Env} {R : Room} {s : State} {m : MethodId} {args : Array Value} {below : List Frame} {meth : Method} {c : Code} {H H0 : Heap} {locs : List Loc} {cells slots : Nat} {Q : State → Prop} {cc : ByteArray} {pc : Nat} {ls : Array Slot} {rest : List Value} {D : va_G} {tys : List (ClassId × FieldType)} {ws : va_W} {a : Nat} {A : Nat → Prop} (hx : p.tables.exec = Jvm.exec) (hb : c.code = cc) (hg : ∀ w ∈ gw, w.before args s = true) (hown : s.vm.findClass R_fl = some m.cls) (hK : va_K D kls tys s) (hP : va_P D kls ws H) (hD : va_D A ws) (hS : va_S A H0 H locs) (q0 : Nat) {fs : List Value} (he : ws[q0]? = some (a, .inr (1, fs))) {v : Value} (hn : narrow .int v = v) (hfit : fits .int v = true) (hl : 3 < fs.length) (hdg : decode cc pc = .ok (.putfield 48, 3)) (kk : ∀ (H1 : Heap) (locs1 : List Loc), va_P D kls (ws.set q0 (a, .inr (1, fs.set 3 v))) H1 → va_D A (ws.set q0 (a, .inr (1, fs.set 3 v))) → va_S A H0 H1 locs1 → W p l e R s m args below meth c H1 locs1 cells slots Q (F0 m (pc + 3) ls rest)) : W p l e R s m args below meth c H locs cells slots Q (F0 m pc ls (v :: .ref a :: rest)) := va_put hx hb hg in_fl t_fl t_fl_ok n_fl hown hK hP hD hS q0 he rfl 3 (by decide) (hg _ kw_55) (fun _ h => h) rfl (t_fl_ok 3 (by decide)) hn hfit hl hdg kk
theorem gv_fl_51 : GoodIn gw (wsV R_fl 51 R_fl y_fl_chartCell w_fl_chartCell) := gd_V kw_35 kw_37 ks_fl_chartCell kw_2 kw_38
theorem gv_fl_54 : GoodIn gw (wsV R_fl 54 R_fl y_fl_addStep w_fl_addStep) := gd_V kw_39 kw_41 ks_fl_addStep kw_2 kw_42
theorem gf_fl_9 {p : Program} {l : Launch} {e : Env} {R : Room} {s : State} {m : MethodId} {args : Array Value} {below : List Frame} {meth : Method} {c : Code} {H : Heap} {locs : List Loc} {cells slots : Nat} {Q : State → Prop} {cc : ByteArray} {pc : Nat} {ls : Array Slot} {rest : List Value} {D : va_G} {tys : List (ClassId × FieldType)} {ws : va_W} {a : Nat} (hx : p.tables.exec = Jvm.exec) (hb : c.code = cc) (hg : ∀ w ∈ gw, w.before args s = true) (hown : s.vm.findClass R_fl = some m.cls) (hK : va_K D kls tys s) (hP : va_P D kls ws H) (q0 : Nat) {fs : List Value} (he : ws[q0]? = some (a, .inr (1, fs))) {v : Value} (hv : fs[2]? = some v) (hdg : decode cc pc = .ok (.getfield 9, 3)) (kk : W p l e R s m args below meth c H locs cells slots Q (F0 m (pc + 3) ls (v :: rest))) : W p l e R s m args below meth c H locs cells slots Q (F0 m pc ls (.ref a :: rest)) := va_get hx hb hg in_fl hown hK hP q0 he rfl 2 (by decide) (hg _ kw_53) (fun _ h => h) hv hdg kk
theorem pf_fl_9 {p : Program} {l : Launch} {e : Env} {R : Room} {s : State} {m : MethodId} {args : Array Value} {below : List Frame} {meth : Method} {c : Code} {H H0 : Heap} {locs : List Loc} {cells slots : Nat} {Q : State → Prop} {cc : ByteArray} {pc : Nat} {ls : Array Slot} {rest : List Value} {D : va_G} {tys : List (ClassId × FieldType)} {ws : va_W} {a : Nat} {A : Nat → Prop} (hx : p.tables.exec = Jvm.exec) (hb : c.code = cc) (hg : ∀ w ∈ gw, w.before args s = true) (hown : s.vm.findClass R_fl = some m.cls) (hi : meth.name = "<init>") (hK : va_K D kls tys s) (hP : va_P D kls ws H) (hD : va_D A ws) (hS : va_S A H0 H locs) (q0 : Nat) {fs : List Value} (he : ws[q0]? = some (a, .inr (1, fs))) {v : Value} (hn : narrow (.array .boolean) v = v) (hfit : fits (.array .boolean) v = true) (hl : 2 < fs.length) (hdg : decode cc pc = .ok (.putfield 9, 3)) (kk : ∀ (H1 : Heap) (locs1 : List Loc), va_P D kls (ws.set q0 (a, .inr (1, fs.set 2 v))) H1 → va_D A (ws.set q0 (a, .inr (1, fs.set 2 v))) → va_S A H0 H1 locs1 → W p l e R s m args below meth c H1 locs1 cells slots Q (F0 m (pc + 3) ls rest)) : W p l e R s m args below meth c H locs cells slots Q (F0 m pc ls (v :: .ref a :: rest)) := va_putF hx hb hg in_fl t_fl t_fl_ok n_fl hown hK hP hD hS q0 he rfl 2 (by decide) (hg _ kw_53) (fun _ h => h) rfl hi rfl (t_fl_ok 2 (by decide)) hn hfit hl hdg kk
theorem gf_ld_11 {p : Program} {l : Launch} {e : Env} {R : Room} {s : State} {m : MethodId} {args : Array Value} {below : List Frame} {meth : Method} {c : Code} {H : Heap} {locs : List Loc} {cells slots : Nat} {Q : State → Prop} {cc : ByteArray} {pc : Nat} {ls : Array Slot} {rest : List Value} {D : va_G} {tys : List (ClassId × FieldType)} {ws : va_W} {a : Nat} (hx : p.tables.exec = Jvm.exec) (hb : c.code = cc) (hg : ∀ w ∈ gw, w.before args s = true) (hown : s.vm.findClass R_ld = some m.cls) (hK : va_K D kls tys s) (hP : va_P D kls ws H) (q0 : Nat) {fs : List Value} (he : ws[q0]? = some (a, .inr (2, fs))) {v : Value} (hv : fs[0]? = some v) (hdg : decode cc pc = .ok (.getfield 11, 3)) (kk : W p l e R s m args below meth c H locs cells slots Q (F0 m (pc + 3) ls (v :: rest))) : W p l e R s m args below meth c H locs cells slots Q (F0 m pc ls (.ref a :: rest)) := va_get hx hb hg in_ld hown hK hP q0 he rfl 0 (by decide) (hg _ kw_182) (fun _ h => h) hv hdg kk
theorem pf_ld_11 {p : Program} {l : Launch} {e : Env} {R : Room} {s : State} {m : MethodId} {args : Array Value} {below : List Frame} {meth : Method} {c : Code} {H H0 : Heap} {locs : List Loc} {cells slots : Nat} {Q : State → Prop} {cc : ByteArray} {pc : Nat} {ls : Array Slot} {rest : List Value} {D : va_G} {tys : List (ClassId × FieldType)} {ws : va_W} {a : Nat} {A : Nat → Prop} (hx : p.tables.exec = Jvm.exec) (hb : c.code = cc) (hg : ∀ w ∈ gw, w.before args s = true) (hown : s.vm.findClass R_ld = some m.cls) (hi : meth.name = "<init>") (hK : va_K D kls tys s) (hP : va_P D kls ws H) (hD : va_D A ws) (hS : va_S A H0 H locs) (q0 : Nat) {fs : List Value} (he : ws[q0]? = some (a, .inr (2, fs))) {v : Value} (hn : narrow (.array (.array .int)) v = v) (hfit : fits (.array (.array .int)) v = true) (hl : 0 < fs.length) (hdg : decode cc pc = .ok (.putfield 11, 3)) (kk : ∀ (H1 : Heap) (locs1 : List Loc), va_P D kls (ws.set q0 (a, .inr (2, fs.set 0 v))) H1 → va_D A (ws.set q0 (a, .inr (2, fs.set 0 v))) → va_S A H0 H1 locs1 → W p l e R s m args below meth c H1 locs1 cells slots Q (F0 m (pc + 3) ls rest)) : W p l e R s m args below meth c H locs cells slots Q (F0 m pc ls (v :: .ref a :: rest)) := va_putF hx hb hg in_ld t_ld t_ld_ok n_ld hown hK hP hD hS q0 he rfl 0 (by decide) (hg _ kw_182) (fun _ h => h) rfl hi rfl (t_ld_ok 0 (by decide)) hn hfit hl hdg kk
theorem gf_ld_16 {p : Program} {l : Launch} {e : Env} {R : Room} {s : State} {m : MethodId} {args : Array Value} {below : List Frame} {meth : Method} {c : Code} {H : Heap} {locs : List Loc} {cells slots : Nat} {Q : State → Prop} {cc : ByteArray} {pc : Nat} {ls : Array Slot} {rest : List Value} {D : va_G} {tys : List (ClassId × FieldType)} {ws : va_W} {a : Nat} (hx : p.tables.exec = Jvm.exec) (hb : c.code = cc) (hg : ∀ w ∈ gw, w.before args s = true) (hown : s.vm.findClass R_ld = some m.cls) (hK : va_K D kls tys s) (hP : va_P D kls ws H) (q0 : Nat) {fs : List Value} (he : ws[q0]? = some (a, .inr (2, fs))) {v : Value} (hv : fs[1]? = some v) (hdg : decode cc pc = .ok (.getfield 16, 3)) (kk : W p l e R s m args below meth c H locs cells slots Q (F0 m (pc + 3) ls (v :: rest))) : W p l e R s m args below meth c H locs cells slots Q (F0 m pc ls (.ref a :: rest)) := va_get hx hb hg in_ld hown hK hP q0 he rfl 1 (by decide) (hg _ kw_183) (fun _ h => h) hv hdg kk
theorem pf_ld_16 {p : Program} {l : Launch} {e : Env} {R : Room} {s : State} {m : MethodId} {args : Array Value} {below : List Frame} {meth : Method} {c : Code} {H H0 : Heap} {locs : List Loc} {cells slots : Nat} {Q : State → Prop} {cc : ByteArray} {pc : Nat} {ls : Array Slot} {rest : List Value} {D : va_G} {tys : List (ClassId × FieldType)} {ws : va_W} {a : Nat} {A : Nat → Prop} (hx : p.tables.exec = Jvm.exec) (hb : c.code = cc) (hg : ∀ w ∈ gw, w.before args s = true) (hown : s.vm.findClass R_ld = some m.cls) (hi : meth.name = "<init>") (hK : va_K D kls tys s) (hP : va_P D kls ws H) (hD : va_D A ws) (hS : va_S A H0 H locs) (q0 : Nat) {fs : List Value} (he : ws[q0]? = some (a, .inr (2, fs))) {v : Value} (hn : narrow (.array .int) v = v) (hfit : fits (.array .int) v = true) (hl : 1 < fs.length) (hdg : decode cc pc = .ok (.putfield 16, 3)) (kk : ∀ (H1 : Heap) (locs1 : List Loc), va_P D kls (ws.set q0 (a, .inr (2, fs.set 1 v))) H1 → va_D A (ws.set q0 (a, .inr (2, fs.set 1 v))) → va_S A H0 H1 locs1 → W p l e R s m args below meth c H1 locs1 cells slots Q (F0 m (pc + 3) ls rest)) : W p l e R s m args below meth c H locs cells slots Q (F0 m pc ls (v :: .ref a :: rest)) := va_putF hx hb hg in_ld t_ld t_ld_ok n_ld hown hK hP hD hS q0 he rfl 1 (by decide) (hg _ kw_183) (fun _ h => h) rfl hi rfl (t_ld_ok 1 (by decide)) hn hfit hl hdg kk
theorem gf_ld_20 {p : Program} {l : Launch} {e : Env} {R : Room} {s : State} {m : MethodId} {args : Array Value} {below : List Frame} {meth : Method} {c : Code} {H : Heap} {locs : List Loc} {cells slots : Nat} {Q : State → Prop} {cc : ByteArray} {pc : Nat} {ls : Array Slot} {rest : List Value} {D : va_G} {tys : List (ClassId × FieldType)} {ws : va_W} {a : Nat} (hx : p.tables.exec = Jvm.exec) (hb : c.code = cc) (hg : ∀ w ∈ gw, w.before args s = true) (hown : s.vm.findClass R_ld = some m.cls) (hK : va_K D kls tys s) (hP : va_P D kls ws H) (q0 : Nat) {fs : List Value} (he : ws[q0]? = some (a, .inr (2, fs))) {v : Value} (hv : fs[2]? = some v) (hdg : decode cc pc = .ok (.getfield 20, 3)) (kk : W p l e R s m args below meth c H locs cells slots Q (F0 m (pc + 3) ls (v :: rest))) : W p l e R s m args below meth c H locs cells slots Q (F0 m pc ls (.ref a :: rest)) := va_get hx hb hg in_ld hown hK hP q0 he rfl 2 (by decide) (hg _ kw_184) (fun _ h => h) hv hdg kk
theorem pf_ld_20 {p : Program} {l : Launch} {e : Env} {R : Room} {s : State} {m : MethodId} {args : Array Value} {below : List Frame} {meth : Method} {c : Code} {H H0 : Heap} {locs : List Loc} {cells slots : Nat} {Q : State → Prop} {cc : ByteArray} {pc : Nat} {ls : Array Slot} {rest : List Value} {D : va_G} {tys : List (ClassId × FieldType)} {ws : va_W} {a : Nat} {A : Nat → Prop} (hx : p.tables.exec = Jvm.exec) (hb : c.code = cc) (hg : ∀ w ∈ gw, w.before args s = true) (hown : s.vm.findClass R_ld = some m.cls) (hi : meth.name = "<init>") (hK : va_K D kls tys s) (hP : va_P D kls ws H) (hD : va_D A ws) (hS : va_S A H0 H locs) (q0 : Nat) {fs : List Value} (he : ws[q0]? = some (a, .inr (2, fs))) {v : Value} (hn : narrow (.array .int) v = v) (hfit : fits (.array .int) v = true) (hl : 2 < fs.length) (hdg : decode cc pc = .ok (.putfield 20, 3)) (kk : ∀ (H1 : Heap) (locs1 : List Loc), va_P D kls (ws.set q0 (a, .inr (2, fs.set 2 v))) H1 → va_D A (ws.set q0 (a, .inr (2, fs.set 2 v))) → va_S A H0 H1 locs1 → W p l e R s m args below meth c H1 locs1 cells slots Q (F0 m (pc + 3) ls rest)) : W p l e R s m args below meth c H locs cells slots Q (F0 m pc ls (v :: .ref a :: rest)) := va_putF hx hb hg in_ld t_ld t_ld_ok n_ld hown hK hP hD hS q0 he rfl 2 (by decide) (hg _ kw_184) (fun _ h => h) rfl hi rfl (t_ld_ok 2 (by decide)) hn hfit hl hdg kk
theorem gl_ld_23 : (Cond.methodLink R_ld 23 y_ar_fillI) ∈ gw := kw_257
theorem gt_ld_23 : (Cond.static y_ar_fillI) ∈ gw := kw_258
theorem gi_ld_23 : (Cond.initialized y_ar_fillI.cls) ∈ gw := kw_9
theorem gg_ld_23 : GoodIn gw w_ar_fillI := gd_c kw_259
theorem gv_ld_29 : GoodIn gw (wsV R_ld 29 R_ld y_ld_isTold w_ld_isTold) := gd_V kw_433 kw_435 ks_ld_isTold kw_6 kw_436
theorem gl_ld_33 : (Cond.methodLink R_ld 33 y_ma_min) ∈ gw := kw_465
theorem gt_ld_33 : (Cond.static y_ma_min) ∈ gw := kw_423
theorem gi_ld_33 : (Cond.initialized y_ma_min.cls) ∈ gw := kw_10
theorem gg_ld_33 : GoodIn gw w_ma_min := gd_c kw_424
theorem gl_le_15 : (Cond.methodLink R_le 15 y_ar_fillJ) ∈ gw := kw_345
theorem gt_le_15 : (Cond.static y_ar_fillJ) ∈ gw := kw_313
theorem gi_le_15 : (Cond.initialized y_ar_fillJ.cls) ∈ gw := kw_9
theorem gg_le_15 : GoodIn gw w_ar_fillJ := gd_c kw_314
theorem gv_le_21 : GoodIn gw (wsV R_le 21 R_le y_le_shiftOf w_le_shiftOf) := gd_V kw_377 kw_379 ks_le_shiftOf kw_5 kw_380
theorem gf_le_9 {p : Program} {l : Launch} {e : Env} {R : Room} {s : State} {m : MethodId} {args : Array Value} {below : List Frame} {meth : Method} {c : Code} {H : Heap} {locs : List Loc} {cells slots : Nat} {Q : State → Prop} {cc : ByteArray} {pc : Nat} {ls : Array Slot} {rest : List Value} {D : va_G} {tys : List (ClassId × FieldType)} {ws : va_W} {a : Nat} (hx : p.tables.exec = Jvm.exec) (hb : c.code = cc) (hg : ∀ w ∈ gw, w.before args s = true) (hown : s.vm.findClass R_le = some m.cls) (hK : va_K D kls tys s) (hP : va_P D kls ws H) (q0 : Nat) {fs : List Value} (he : ws[q0]? = some (a, .inr (3, fs))) {v : Value} (hv : fs[0]? = some v) (hdg : decode cc pc = .ok (.getfield 9, 3)) (kk : W p l e R s m args below meth c H locs cells slots Q (F0 m (pc + 3) ls (v :: rest))) : W p l e R s m args below meth c H locs cells slots Q (F0 m pc ls (.ref a :: rest)) := va_get hx hb hg in_le hown hK hP q0 he rfl 0 (by decide) (hg _ kw_135) (fun _ h => h) hv hdg kk
theorem pf_le_9 {p : Program} {l : Launch} {e : Env} {R : Room} {s : State} {m : MethodId} {args : Array Value} {below : List Frame} {meth : Method} {c : Code} {H H0 : Heap} {locs : List Loc} {cells slots : Nat} {Q : State → Prop} {cc : ByteArray} {pc : Nat} {ls : Array Slot} {rest : List Value} {D : va_G} {tys : List (ClassId × FieldType)} {ws : va_W} {a : Nat} {A : Nat → Prop} (hx : p.tables.exec = Jvm.exec) (hb : c.code = cc) (hg : ∀ w ∈ gw, w.before args s = true) (hown : s.vm.findClass R_le = some m.cls) (hi : meth.name = "<init>") (hK : va_K D kls tys s) (hP : va_P D kls ws H) (hD : va_D A ws) (hS : va_S A H0 H locs) (q0 : Nat) {fs : List Value} (he : ws[q0]? = some (a, .inr (3, fs))) {v : Value} (hn : narrow (.array .long) v = v) (hfit : fits (.array .long) v = true) (hl : 0 < fs.length) (hdg : decode cc pc = .ok (.putfield 9, 3)) (kk : ∀ (H1 : Heap) (locs1 : List Loc), va_P D kls (ws.set q0 (a, .inr (3, fs.set 0 v))) H1 → va_D A (ws.set q0 (a, .inr (3, fs.set 0 v))) → va_S A H0 H1 locs1 → W p l e R s m args below meth c H1 locs1 cells slots Q (F0 m (pc + 3) ls rest)) : W p l e R s m args below meth c H locs cells slots Q (F0 m pc ls (v :: .ref a :: rest)) := va_putF hx hb hg in_le t_le t_le_ok n_le hown hK hP hD hS q0 he rfl 0 (by decide) (hg _ kw_135) (fun _ h => h) rfl hi rfl (t_le_ok 0 (by decide)) hn hfit hl hdg kk
theorem gv_md_101 : GoodIn gw (wsV R_md 101 R_md y_md_isFree w_md_isFree) := gd_V kw_609 kw_611 ks_md_isFree kw_8 kw_612
theorem gv_md_104 : GoodIn gw (wsV R_md 104 R_md y_md_freeCells w_md_freeCells) := gd_V kw_613 kw_615 ks_md_freeCells kw_8 kw_616
theorem gv_md_107 : GoodIn gw (wsV R_md 107 R_md y_md_isBeside w_md_isBeside) := gd_V kw_633 kw_635 ks_md_isBeside kw_8 kw_636
theorem gv_md_111 : GoodIn gw (wsV R_md 111 R_md y_md_isMover w_md_isMover) := gd_V kw_625 kw_627 ks_md_isMover kw_8 kw_628
theorem gv_md_114 : GoodIn gw (wsV R_md 114 R_md y_md_findFar w_md_findFar) := gd_V kw_629 kw_631 ks_md_findFar kw_8 kw_632
theorem gf_md_120 {p : Program} {l : Launch} {e : Env} {R : Room} {s : State} {m : MethodId} {args : Array Value} {below : List Frame} {meth : Method} {c : Code} {H : Heap} {locs : List Loc} {cells slots : Nat} {Q : State → Prop} {cc : ByteArray} {pc : Nat} {ls : Array Slot} {rest : List Value} {D : va_G} {tys : List (ClassId × FieldType)} {ws : va_W} {a : Nat} (hx : p.tables.exec = Jvm.exec) (hb : c.code = cc) (hg : ∀ w ∈ gw, w.before args s = true) (hown : s.vm.findClass R_md = some m.cls) (hK : va_K D kls tys s) (hP : va_P D kls ws H) (q0 : Nat) {fs : List Value} (he : ws[q0]? = some (a, .inr (7, fs))) {v : Value} (hv : fs[8]? = some v) (hdg : decode cc pc = .ok (.getfield 120, 3)) (kk : W p l e R s m args below meth c H locs cells slots Q (F0 m (pc + 3) ls (v :: rest))) : W p l e R s m args below meth c H locs cells slots Q (F0 m pc ls (.ref a :: rest)) := va_get hx hb hg in_md hown hK hP q0 he rfl 8 (by decide) (hg _ kw_497) (fun _ h => h) hv hdg kk
theorem pf_md_120 {p : Program} {l : Launch} {e : Env} {R : Room} {s : State} {m : MethodId} {args : Array Value} {below : List Frame} {meth : Method} {c : Code} {H H0 : Heap} {locs : List Loc} {cells slots : Nat} {Q : State → Prop} {cc : ByteArray} {pc : Nat} {ls : Array Slot} {rest : List Value} {D : va_G} {tys : List (ClassId × FieldType)} {ws : va_W} {a : Nat} {A : Nat → Prop} (hx : p.tables.exec = Jvm.exec) (hb : c.code = cc) (hg : ∀ w ∈ gw, w.before args s = true) (hown : s.vm.findClass R_md = some m.cls) (hK : va_K D kls tys s) (hP : va_P D kls ws H) (hD : va_D A ws) (hS : va_S A H0 H locs) (q0 : Nat) {fs : List Value} (he : ws[q0]? = some (a, .inr (7, fs))) {v : Value} (hn : narrow .int v = v) (hfit : fits .int v = true) (hl : 8 < fs.length) (hdg : decode cc pc = .ok (.putfield 120, 3)) (kk : ∀ (H1 : Heap) (locs1 : List Loc), va_P D kls (ws.set q0 (a, .inr (7, fs.set 8 v))) H1 → va_D A (ws.set q0 (a, .inr (7, fs.set 8 v))) → va_S A H0 H1 locs1 → W p l e R s m args below meth c H1 locs1 cells slots Q (F0 m (pc + 3) ls rest)) : W p l e R s m args below meth c H locs cells slots Q (F0 m pc ls (v :: .ref a :: rest)) := va_put hx hb hg in_md t_md t_md_ok n_md hown hK hP hD hS q0 he rfl 8 (by decide) (hg _ kw_497) (fun _ h => h) rfl (t_md_ok 8 (by decide)) hn hfit hl hdg kk
theorem gl_md_123 : (Cond.methodLink R_md 123 y_md_rests) ∈ gw := kw_663
theorem gt_md_123 : (Cond.static y_md_rests) ∈ gw := kw_664
theorem gi_md_123 : (Cond.initialized y_md_rests.cls) ∈ gw := kw_8
theorem gg_md_123 : GoodIn gw w_md_rests := gd_c kw_665
theorem gv_md_126 : GoodIn gw (wsV R_md 126 R_md y_md_choices w_md_choices) := gd_V kw_693 kw_695 ks_md_choices kw_8 kw_696
theorem gf_md_13 {p : Program} {l : Launch} {e : Env} {R : Room} {s : State} {m : MethodId} {args : Array Value} {below : List Frame} {meth : Method} {c : Code} {H : Heap} {locs : List Loc} {cells slots : Nat} {Q : State → Prop} {cc : ByteArray} {pc : Nat} {ls : Array Slot} {rest : List Value} {D : va_G} {tys : List (ClassId × FieldType)} {ws : va_W} {a : Nat} (hx : p.tables.exec = Jvm.exec) (hb : c.code = cc) (hg : ∀ w ∈ gw, w.before args s = true) (hown : s.vm.findClass R_md = some m.cls) (hK : va_K D kls tys s) (hP : va_P D kls ws H) (q0 : Nat) {fs : List Value} (he : ws[q0]? = some (a, .inr (7, fs))) {v : Value} (hv : fs[1]? = some v) (hdg : decode cc pc = .ok (.getfield 13, 3)) (kk : W p l e R s m args below meth c H locs cells slots Q (F0 m (pc + 3) ls (v :: rest))) : W p l e R s m args below meth c H locs cells slots Q (F0 m pc ls (.ref a :: rest)) := va_get hx hb hg in_md hown hK hP q0 he rfl 1 (by decide) (hg _ kw_490) (fun _ h => h) hv hdg kk
theorem pf_md_13 {p : Program} {l : Launch} {e : Env} {R : Room} {s : State} {m : MethodId} {args : Array Value} {below : List Frame} {meth : Method} {c : Code} {H H0 : Heap} {locs : List Loc} {cells slots : Nat} {Q : State → Prop} {cc : ByteArray} {pc : Nat} {ls : Array Slot} {rest : List Value} {D : va_G} {tys : List (ClassId × FieldType)} {ws : va_W} {a : Nat} {A : Nat → Prop} (hx : p.tables.exec = Jvm.exec) (hb : c.code = cc) (hg : ∀ w ∈ gw, w.before args s = true) (hown : s.vm.findClass R_md = some m.cls) (hK : va_K D kls tys s) (hP : va_P D kls ws H) (hD : va_D A ws) (hS : va_S A H0 H locs) (q0 : Nat) {fs : List Value} (he : ws[q0]? = some (a, .inr (7, fs))) {v : Value} (hn : narrow .int v = v) (hfit : fits .int v = true) (hl : 1 < fs.length) (hdg : decode cc pc = .ok (.putfield 13, 3)) (kk : ∀ (H1 : Heap) (locs1 : List Loc), va_P D kls (ws.set q0 (a, .inr (7, fs.set 1 v))) H1 → va_D A (ws.set q0 (a, .inr (7, fs.set 1 v))) → va_S A H0 H1 locs1 → W p l e R s m args below meth c H1 locs1 cells slots Q (F0 m (pc + 3) ls rest)) : W p l e R s m args below meth c H locs cells slots Q (F0 m pc ls (v :: .ref a :: rest)) := va_put hx hb hg in_md t_md t_md_ok n_md hown hK hP hD hS q0 he rfl 1 (by decide) (hg _ kw_490) (fun _ h => h) rfl (t_md_ok 1 (by decide)) hn hfit hl hdg kk
theorem gf_md_130 {p : Program} {l : Launch} {e : Env} {R : Room} {s : State} {m : MethodId} {args : Array Value} {below : List Frame} {meth : Method} {c : Code} {H : Heap} {locs : List Loc} {cells slots : Nat} {Q : State → Prop} {cc : ByteArray} {pc : Nat} {ls : Array Slot} {rest : List Value} {D : va_G} {tys : List (ClassId × FieldType)} {ws : va_W} {a : Nat} (hx : p.tables.exec = Jvm.exec) (hb : c.code = cc) (hg : ∀ w ∈ gw, w.before args s = true) (hown : s.vm.findClass R_md = some m.cls) (hK : va_K D kls tys s) (hP : va_P D kls ws H) (q0 : Nat) {fs : List Value} (he : ws[q0]? = some (a, .inr (7, fs))) {v : Value} (hv : fs[16]? = some v) (hdg : decode cc pc = .ok (.getfield 130, 3)) (kk : W p l e R s m args below meth c H locs cells slots Q (F0 m (pc + 3) ls (v :: rest))) : W p l e R s m args below meth c H locs cells slots Q (F0 m pc ls (.ref a :: rest)) := va_get hx hb hg in_md hown hK hP q0 he rfl 16 (by decide) (hg _ kw_505) (fun _ h => h) hv hdg kk
theorem pf_md_130 {p : Program} {l : Launch} {e : Env} {R : Room} {s : State} {m : MethodId} {args : Array Value} {below : List Frame} {meth : Method} {c : Code} {H H0 : Heap} {locs : List Loc} {cells slots : Nat} {Q : State → Prop} {cc : ByteArray} {pc : Nat} {ls : Array Slot} {rest : List Value} {D : va_G} {tys : List (ClassId × FieldType)} {ws : va_W} {a : Nat} {A : Nat → Prop} (hx : p.tables.exec = Jvm.exec) (hb : c.code = cc) (hg : ∀ w ∈ gw, w.before args s = true) (hown : s.vm.findClass R_md = some m.cls) (hK : va_K D kls tys s) (hP : va_P D kls ws H) (hD : va_D A ws) (hS : va_S A H0 H locs) (q0 : Nat) {fs : List Value} (he : ws[q0]? = some (a, .inr (7, fs))) {v : Value} (hn : narrow .int v = v) (hfit : fits .int v = true) (hl : 16 < fs.length) (hdg : decode cc pc = .ok (.putfield 130, 3)) (kk : ∀ (H1 : Heap) (locs1 : List Loc), va_P D kls (ws.set q0 (a, .inr (7, fs.set 16 v))) H1 → va_D A (ws.set q0 (a, .inr (7, fs.set 16 v))) → va_S A H0 H1 locs1 → W p l e R s m args below meth c H1 locs1 cells slots Q (F0 m (pc + 3) ls rest)) : W p l e R s m args below meth c H locs cells slots Q (F0 m pc ls (v :: .ref a :: rest)) := va_put hx hb hg in_md t_md t_md_ok n_md hown hK hP hD hS q0 he rfl 16 (by decide) (hg _ kw_505) (fun _ h => h) rfl (t_md_ok 16 (by decide)) hn hfit hl hdg kk
theorem gv_md_133 : GoodIn gw (wsV R_md 133 R_md y_md_lower w_md_lower) := gd_V kw_666 kw_668 ks_md_lower kw_8 kw_669
theorem gv_md_137 : GoodIn gw (wsV R_md 137 R_md y_md_open w_md_open) := gd_V kw_670 kw_672 ks_md_open kw_8 kw_673
theorem gv_md_140 : GoodIn gw (wsV R_md 140 R_md y_md_firstChoice w_md_firstChoice) := gd_V kw_674 kw_676 ks_md_firstChoice kw_8 kw_677
theorem gv_md_143 : GoodIn gw (wsV R_md 143 R_md y_md_choose w_md_choose) := gd_V kw_678 kw_680 ks_md_choose kw_8 kw_681
theorem gv_md_146 : GoodIn gw (wsV R_md 146 R_md y_md_meet w_md_meet) := gd_V kw_682 kw_684 ks_md_meet kw_8 kw_685
theorem gv_md_150 : GoodIn gw (wsV R_md 150 R_md y_md_placesOf w_md_placesOf) := gd_V kw_655 kw_657 ks_md_placesOf kw_8 kw_658
theorem gl_md_154 : (Cond.methodLink R_md 154 y_md_bits) ∈ gw := kw_686
theorem gt_md_154 : (Cond.static y_md_bits) ∈ gw := kw_687
theorem gi_md_154 : (Cond.initialized y_md_bits.cls) ∈ gw := kw_8
theorem gg_md_154 : GoodIn gw w_md_bits := gd_c kw_688
theorem gv_md_157 : GoodIn gw (wsV R_md 157 R_md y_md_nextChoice w_md_nextChoice) := gd_V kw_689 kw_691 ks_md_nextChoice kw_8 kw_692
theorem gf_md_16 {p : Program} {l : Launch} {e : Env} {R : Room} {s : State} {m : MethodId} {args : Array Value} {below : List Frame} {meth : Method} {c : Code} {H : Heap} {locs : List Loc} {cells slots : Nat} {Q : State → Prop} {cc : ByteArray} {pc : Nat} {ls : Array Slot} {rest : List Value} {D : va_G} {tys : List (ClassId × FieldType)} {ws : va_W} {a : Nat} (hx : p.tables.exec = Jvm.exec) (hb : c.code = cc) (hg : ∀ w ∈ gw, w.before args s = true) (hown : s.vm.findClass R_md = some m.cls) (hK : va_K D kls tys s) (hP : va_P D kls ws H) (q0 : Nat) {fs : List Value} (he : ws[q0]? = some (a, .inr (7, fs))) {v : Value} (hv : fs[2]? = some v) (hdg : decode cc pc = .ok (.getfield 16, 3)) (kk : W p l e R s m args below meth c H locs cells slots Q (F0 m (pc + 3) ls (v :: rest))) : W p l e R s m args below meth c H locs cells slots Q (F0 m pc ls (.ref a :: rest)) := va_get hx hb hg in_md hown hK hP q0 he rfl 2 (by decide) (hg _ kw_491) (fun _ h => h) hv hdg kk
theorem pf_md_16 {p : Program} {l : Launch} {e : Env} {R : Room} {s : State} {m : MethodId} {args : Array Value} {below : List Frame} {meth : Method} {c : Code} {H H0 : Heap} {locs : List Loc} {cells slots : Nat} {Q : State → Prop} {cc : ByteArray} {pc : Nat} {ls : Array Slot} {rest : List Value} {D : va_G} {tys : List (ClassId × FieldType)} {ws : va_W} {a : Nat} {A : Nat → Prop} (hx : p.tables.exec = Jvm.exec) (hb : c.code = cc) (hg : ∀ w ∈ gw, w.before args s = true) (hown : s.vm.findClass R_md = some m.cls) (hi : meth.name = "<init>") (hK : va_K D kls tys s) (hP : va_P D kls ws H) (hD : va_D A ws) (hS : va_S A H0 H locs) (q0 : Nat) {fs : List Value} (he : ws[q0]? = some (a, .inr (7, fs))) {v : Value} (hn : narrow (.array .boolean) v = v) (hfit : fits (.array .boolean) v = true) (hl : 2 < fs.length) (hdg : decode cc pc = .ok (.putfield 16, 3)) (kk : ∀ (H1 : Heap) (locs1 : List Loc), va_P D kls (ws.set q0 (a, .inr (7, fs.set 2 v))) H1 → va_D A (ws.set q0 (a, .inr (7, fs.set 2 v))) → va_S A H0 H1 locs1 → W p l e R s m args below meth c H1 locs1 cells slots Q (F0 m (pc + 3) ls rest)) : W p l e R s m args below meth c H locs cells slots Q (F0 m pc ls (v :: .ref a :: rest)) := va_putF hx hb hg in_md t_md t_md_ok n_md hown hK hP hD hS q0 he rfl 2 (by decide) (hg _ kw_491) (fun _ h => h) rfl hi rfl (t_md_ok 2 (by decide)) hn hfit hl hdg kk
theorem gv_md_160 : GoodIn gw (wsV R_md 160 R_md y_md_relax w_md_relax) := gd_V kw_659 kw_661 ks_md_relax kw_8 kw_662
theorem gv_md_164 : GoodIn gw (wsV R_md 164 R_md y_md_distance w_md_distance) := gd_V kw_646 kw_622 kw_623 kw_8 kw_624
theorem gf_md_167 {p : Program} {l : Launch} {e : Env} {R : Room} {s : State} {m : MethodId} {args : Array Value} {below : List Frame} {meth : Method} {c : Code} {H : Heap} {locs : List Loc} {cells slots : Nat} {Q : State → Prop} {cc : ByteArray} {pc : Nat} {ls : Array Slot} {rest : List Value} {D : va_G} {tys : List (ClassId × FieldType)} {ws : va_W} {a : Nat} (hx : p.tables.exec = Jvm.exec) (hb : c.code = cc) (hg : ∀ w ∈ gw, w.before args s = true) (hown : s.vm.findClass R_md = some m.cls) (hK : va_K D kls tys s) (hP : va_P D kls ws H) (q0 : Nat) {fs : List Value} (he : ws[q0]? = some (a, .inr (7, fs))) {v : Value} (hv : fs[21]? = some v) (hdg : decode cc pc = .ok (.getfield 167, 3)) (kk : W p l e R s m args below meth c H locs cells slots Q (F0 m (pc + 3) ls (v :: rest))) : W p l e R s m args below meth c H locs cells slots Q (F0 m pc ls (.ref a :: rest)) := va_get hx hb hg in_md hown hK hP q0 he rfl 21 (by decide) (hg _ kw_510) (fun _ h => h) hv hdg kk
theorem pf_md_167 {p : Program} {l : Launch} {e : Env} {R : Room} {s : State} {m : MethodId} {args : Array Value} {below : List Frame} {meth : Method} {c : Code} {H H0 : Heap} {locs : List Loc} {cells slots : Nat} {Q : State → Prop} {cc : ByteArray} {pc : Nat} {ls : Array Slot} {rest : List Value} {D : va_G} {tys : List (ClassId × FieldType)} {ws : va_W} {a : Nat} {A : Nat → Prop} (hx : p.tables.exec = Jvm.exec) (hb : c.code = cc) (hg : ∀ w ∈ gw, w.before args s = true) (hown : s.vm.findClass R_md = some m.cls) (hK : va_K D kls tys s) (hP : va_P D kls ws H) (hD : va_D A ws) (hS : va_S A H0 H locs) (q0 : Nat) {fs : List Value} (he : ws[q0]? = some (a, .inr (7, fs))) {v : Value} (hn : narrow .int v = v) (hfit : fits .int v = true) (hl : 21 < fs.length) (hdg : decode cc pc = .ok (.putfield 167, 3)) (kk : ∀ (H1 : Heap) (locs1 : List Loc), va_P D kls (ws.set q0 (a, .inr (7, fs.set 21 v))) H1 → va_D A (ws.set q0 (a, .inr (7, fs.set 21 v))) → va_S A H0 H1 locs1 → W p l e R s m args below meth c H1 locs1 cells slots Q (F0 m (pc + 3) ls rest)) : W p l e R s m args below meth c H locs cells slots Q (F0 m pc ls (v :: .ref a :: rest)) := va_put hx hb hg in_md t_md t_md_ok n_md hown hK hP hD hS q0 he rfl 21 (by decide) (hg _ kw_510) (fun _ h => h) rfl (t_md_ok 21 (by decide)) hn hfit hl hdg kk
theorem gv_md_170 : GoodIn gw (wsV R_md 170 R_md y_md_number w_md_number) := gd_V kw_647 kw_649 ks_md_number kw_8 kw_650
theorem gv_md_173 : GoodIn gw (wsV R_md 173 R_md y_md_findPays w_md_findPays) := gd_V kw_651 kw_653 ks_md_findPays kw_8 kw_654
theorem gv_md_176 : GoodIn gw (wsV R_md 176 R_md y_md_walk w_md_walk) := gd_V kw_697 kw_699 ks_md_walk kw_8 kw_700
theorem gv_md_179 : GoodIn gw (wsV R_md 179 R_md y_md_mayRest w_md_mayRest) := gd_V kw_701 kw_703 ks_md_mayRest kw_8 kw_704
theorem gv_md_183 : GoodIn gw (wsV R_md 183 R_md y_md_write w_md_write) := gd_V kw_705 kw_707 ks_md_write kw_8 kw_708
theorem gv_md_187 : GoodIn gw (wsV R_md 187 R_md y_md_goesOn w_md_goesOn) := gd_V kw_709 kw_711 ks_md_goesOn kw_8 kw_712
theorem gv_md_190 : GoodIn gw (wsV R_md 190 R_md y_md_stays w_md_stays) := gd_V kw_713 kw_715 ks_md_stays kw_8 kw_716
theorem gv_md_193 : GoodIn gw (wsV R_md 193 R_md y_md_place w_md_place) := gd_V kw_741 kw_743 ks_md_place kw_8 kw_744
theorem gf_md_196 {p : Program} {l : Launch} {e : Env} {R : Room} {s : State} {m : MethodId} {args : Array Value} {below : List Frame} {meth : Method} {c : Code} {H : Heap} {locs : List Loc} {cells slots : Nat} {Q : State → Prop} {cc : ByteArray} {pc : Nat} {ls : Array Slot} {rest : List Value} {D : va_G} {tys : List (ClassId × FieldType)} {ws : va_W} {a : Nat} (hx : p.tables.exec = Jvm.exec) (hb : c.code = cc) (hg : ∀ w ∈ gw, w.before args s = true) (hown : s.vm.findClass R_md = some m.cls) (hK : va_K D kls tys s) (hP : va_P D kls ws H) (q0 : Nat) {fs : List Value} (he : ws[q0]? = some (a, .inr (7, fs))) {v : Value} (hv : fs[29]? = some v) (hdg : decode cc pc = .ok (.getfield 196, 3)) (kk : W p l e R s m args below meth c H locs cells slots Q (F0 m (pc + 3) ls (v :: rest))) : W p l e R s m args below meth c H locs cells slots Q (F0 m pc ls (.ref a :: rest)) := va_get hx hb hg in_md hown hK hP q0 he rfl 29 (by decide) (hg _ kw_518) (fun _ h => h) hv hdg kk
theorem pf_md_196 {p : Program} {l : Launch} {e : Env} {R : Room} {s : State} {m : MethodId} {args : Array Value} {below : List Frame} {meth : Method} {c : Code} {H H0 : Heap} {locs : List Loc} {cells slots : Nat} {Q : State → Prop} {cc : ByteArray} {pc : Nat} {ls : Array Slot} {rest : List Value} {D : va_G} {tys : List (ClassId × FieldType)} {ws : va_W} {a : Nat} {A : Nat → Prop} (hx : p.tables.exec = Jvm.exec) (hb : c.code = cc) (hg : ∀ w ∈ gw, w.before args s = true) (hown : s.vm.findClass R_md = some m.cls) (hK : va_K D kls tys s) (hP : va_P D kls ws H) (hD : va_D A ws) (hS : va_S A H0 H locs) (q0 : Nat) {fs : List Value} (he : ws[q0]? = some (a, .inr (7, fs))) {v : Value} (hn : narrow .int v = v) (hfit : fits .int v = true) (hl : 29 < fs.length) (hdg : decode cc pc = .ok (.putfield 196, 3)) (kk : ∀ (H1 : Heap) (locs1 : List Loc), va_P D kls (ws.set q0 (a, .inr (7, fs.set 29 v))) H1 → va_D A (ws.set q0 (a, .inr (7, fs.set 29 v))) → va_S A H0 H1 locs1 → W p l e R s m args below meth c H1 locs1 cells slots Q (F0 m (pc + 3) ls rest)) : W p l e R s m args below meth c H locs cells slots Q (F0 m pc ls (v :: .ref a :: rest)) := va_put hx hb hg in_md t_md t_md_ok n_md hown hK hP hD hS q0 he rfl 29 (by decide) (hg _ kw_518) (fun _ h => h) rfl (t_md_ok 29 (by decide)) hn hfit hl hdg kk
theorem gf_md_199 {p : Program} {l : Launch} {e : Env} {R : Room} {s : State} {m : MethodId} {args : Array Value} {below : List Frame} {meth : Method} {c : Code} {H : Heap} {locs : List Loc} {cells slots : Nat} {Q : State → Prop} {cc : ByteArray} {pc : Nat} {ls : Array Slot} {rest : List Value} {D : va_G} {tys : List (ClassId × FieldType)} {ws : va_W} {a : Nat} (hx : p.tables.exec = Jvm.exec) (hb : c.code = cc) (hg : ∀ w ∈ gw, w.before args s = true) (hown : s.vm.findClass R_md = some m.cls) (hK : va_K D kls tys s) (hP : va_P D kls ws H) (q0 : Nat) {fs : List Value} (he : ws[q0]? = some (a, .inr (7, fs))) {v : Value} (hv : fs[30]? = some v) (hdg : decode cc pc = .ok (.getfield 199, 3)) (kk : W p l e R s m args below meth c H locs cells slots Q (F0 m (pc + 3) ls (v :: rest))) : W p l e R s m args below meth c H locs cells slots Q (F0 m pc ls (.ref a :: rest)) := va_get hx hb hg in_md hown hK hP q0 he rfl 30 (by decide) (hg _ kw_519) (fun _ h => h) hv hdg kk
theorem pf_md_199 {p : Program} {l : Launch} {e : Env} {R : Room} {s : State} {m : MethodId} {args : Array Value} {below : List Frame} {meth : Method} {c : Code} {H H0 : Heap} {locs : List Loc} {cells slots : Nat} {Q : State → Prop} {cc : ByteArray} {pc : Nat} {ls : Array Slot} {rest : List Value} {D : va_G} {tys : List (ClassId × FieldType)} {ws : va_W} {a : Nat} {A : Nat → Prop} (hx : p.tables.exec = Jvm.exec) (hb : c.code = cc) (hg : ∀ w ∈ gw, w.before args s = true) (hown : s.vm.findClass R_md = some m.cls) (hK : va_K D kls tys s) (hP : va_P D kls ws H) (hD : va_D A ws) (hS : va_S A H0 H locs) (q0 : Nat) {fs : List Value} (he : ws[q0]? = some (a, .inr (7, fs))) {v : Value} (hn : narrow .int v = v) (hfit : fits .int v = true) (hl : 30 < fs.length) (hdg : decode cc pc = .ok (.putfield 199, 3)) (kk : ∀ (H1 : Heap) (locs1 : List Loc), va_P D kls (ws.set q0 (a, .inr (7, fs.set 30 v))) H1 → va_D A (ws.set q0 (a, .inr (7, fs.set 30 v))) → va_S A H0 H1 locs1 → W p l e R s m args below meth c H1 locs1 cells slots Q (F0 m (pc + 3) ls rest)) : W p l e R s m args below meth c H locs cells slots Q (F0 m pc ls (v :: .ref a :: rest)) := va_put hx hb hg in_md t_md t_md_ok n_md hown hK hP hD hS q0 he rfl 30 (by decide) (hg _ kw_519) (fun _ h => h) rfl (t_md_ok 30 (by decide)) hn hfit hl hdg kk
theorem gf_md_20 {p : Program} {l : Launch} {e : Env} {R : Room} {s : State} {m : MethodId} {args : Array Value} {below : List Frame} {meth : Method} {c : Code} {H : Heap} {locs : List Loc} {cells slots : Nat} {Q : State → Prop} {cc : ByteArray} {pc : Nat} {ls : Array Slot} {rest : List Value} {D : va_G} {tys : List (ClassId × FieldType)} {ws : va_W} {a : Nat} (hx : p.tables.exec = Jvm.exec) (hb : c.code = cc) (hg : ∀ w ∈ gw, w.before args s = true) (hown : s.vm.findClass R_md = some m.cls) (hK : va_K D kls tys s) (hP : va_P D kls ws H) (q0 : Nat) {fs : List Value} (he : ws[q0]? = some (a, .inr (7, fs))) {v : Value} (hv : fs[4]? = some v) (hdg : decode cc pc = .ok (.getfield 20, 3)) (kk : W p l e R s m args below meth c H locs cells slots Q (F0 m (pc + 3) ls (v :: rest))) : W p l e R s m args below meth c H locs cells slots Q (F0 m pc ls (.ref a :: rest)) := va_get hx hb hg in_md hown hK hP q0 he rfl 4 (by decide) (hg _ kw_493) (fun _ h => h) hv hdg kk
theorem pf_md_20 {p : Program} {l : Launch} {e : Env} {R : Room} {s : State} {m : MethodId} {args : Array Value} {below : List Frame} {meth : Method} {c : Code} {H H0 : Heap} {locs : List Loc} {cells slots : Nat} {Q : State → Prop} {cc : ByteArray} {pc : Nat} {ls : Array Slot} {rest : List Value} {D : va_G} {tys : List (ClassId × FieldType)} {ws : va_W} {a : Nat} {A : Nat → Prop} (hx : p.tables.exec = Jvm.exec) (hb : c.code = cc) (hg : ∀ w ∈ gw, w.before args s = true) (hown : s.vm.findClass R_md = some m.cls) (hi : meth.name = "<init>") (hK : va_K D kls tys s) (hP : va_P D kls ws H) (hD : va_D A ws) (hS : va_S A H0 H locs) (q0 : Nat) {fs : List Value} (he : ws[q0]? = some (a, .inr (7, fs))) {v : Value} (hn : narrow (.array .int) v = v) (hfit : fits (.array .int) v = true) (hl : 4 < fs.length) (hdg : decode cc pc = .ok (.putfield 20, 3)) (kk : ∀ (H1 : Heap) (locs1 : List Loc), va_P D kls (ws.set q0 (a, .inr (7, fs.set 4 v))) H1 → va_D A (ws.set q0 (a, .inr (7, fs.set 4 v))) → va_S A H0 H1 locs1 → W p l e R s m args below meth c H1 locs1 cells slots Q (F0 m (pc + 3) ls rest)) : W p l e R s m args below meth c H locs cells slots Q (F0 m pc ls (v :: .ref a :: rest)) := va_putF hx hb hg in_md t_md t_md_ok n_md hown hK hP hD hS q0 he rfl 4 (by decide) (hg _ kw_493) (fun _ h => h) rfl hi rfl (t_md_ok 4 (by decide)) hn hfit hl hdg kk
theorem gf_md_202 {p : Program} {l : Launch} {e : Env} {R : Room} {s : State} {m : MethodId} {args : Array Value} {below : List Frame} {meth : Method} {c : Code} {H : Heap} {locs : List Loc} {cells slots : Nat} {Q : State → Prop} {cc : ByteArray} {pc : Nat} {ls : Array Slot} {rest : List Value} {D : va_G} {tys : List (ClassId × FieldType)} {ws : va_W} {a : Nat} (hx : p.tables.exec = Jvm.exec) (hb : c.code = cc) (hg : ∀ w ∈ gw, w.before args s = true) (hown : s.vm.findClass R_md = some m.cls) (hK : va_K D kls tys s) (hP : va_P D kls ws H) (q0 : Nat) {fs : List Value} (he : ws[q0]? = some (a, .inr (7, fs))) {v : Value} (hv : fs[31]? = some v) (hdg : decode cc pc = .ok (.getfield 202, 3)) (kk : W p l e R s m args below meth c H locs cells slots Q (F0 m (pc + 3) ls (v :: rest))) : W p l e R s m args below meth c H locs cells slots Q (F0 m pc ls (.ref a :: rest)) := va_get hx hb hg in_md hown hK hP q0 he rfl 31 (by decide) (hg _ kw_520) (fun _ h => h) hv hdg kk
theorem pf_md_202 {p : Program} {l : Launch} {e : Env} {R : Room} {s : State} {m : MethodId} {args : Array Value} {below : List Frame} {meth : Method} {c : Code} {H H0 : Heap} {locs : List Loc} {cells slots : Nat} {Q : State → Prop} {cc : ByteArray} {pc : Nat} {ls : Array Slot} {rest : List Value} {D : va_G} {tys : List (ClassId × FieldType)} {ws : va_W} {a : Nat} {A : Nat → Prop} (hx : p.tables.exec = Jvm.exec) (hb : c.code = cc) (hg : ∀ w ∈ gw, w.before args s = true) (hown : s.vm.findClass R_md = some m.cls) (hK : va_K D kls tys s) (hP : va_P D kls ws H) (hD : va_D A ws) (hS : va_S A H0 H locs) (q0 : Nat) {fs : List Value} (he : ws[q0]? = some (a, .inr (7, fs))) {v : Value} (hn : narrow .int v = v) (hfit : fits .int v = true) (hl : 31 < fs.length) (hdg : decode cc pc = .ok (.putfield 202, 3)) (kk : ∀ (H1 : Heap) (locs1 : List Loc), va_P D kls (ws.set q0 (a, .inr (7, fs.set 31 v))) H1 → va_D A (ws.set q0 (a, .inr (7, fs.set 31 v))) → va_S A H0 H1 locs1 → W p l e R s m args below meth c H1 locs1 cells slots Q (F0 m (pc + 3) ls rest)) : W p l e R s m args below meth c H locs cells slots Q (F0 m pc ls (v :: .ref a :: rest)) := va_put hx hb hg in_md t_md t_md_ok n_md hown hK hP hD hS q0 he rfl 31 (by decide) (hg _ kw_520) (fun _ h => h) rfl (t_md_ok 31 (by decide)) hn hfit hl hdg kk
theorem gf_md_205 {p : Program} {l : Launch} {e : Env} {R : Room} {s : State} {m : MethodId} {args : Array Value} {below : List Frame} {meth : Method} {c : Code} {H : Heap} {locs : List Loc} {cells slots : Nat} {Q : State → Prop} {cc : ByteArray} {pc : Nat} {ls : Array Slot} {rest : List Value} {D : va_G} {tys : List (ClassId × FieldType)} {ws : va_W} {a : Nat} (hx : p.tables.exec = Jvm.exec) (hb : c.code = cc) (hg : ∀ w ∈ gw, w.before args s = true) (hown : s.vm.findClass R_md = some m.cls) (hK : va_K D kls tys s) (hP : va_P D kls ws H) (q0 : Nat) {fs : List Value} (he : ws[q0]? = some (a, .inr (7, fs))) {v : Value} (hv : fs[32]? = some v) (hdg : decode cc pc = .ok (.getfield 205, 3)) (kk : W p l e R s m args below meth c H locs cells slots Q (F0 m (pc + 3) ls (v :: rest))) : W p l e R s m args below meth c H locs cells slots Q (F0 m pc ls (.ref a :: rest)) := va_get hx hb hg in_md hown hK hP q0 he rfl 32 (by decide) (hg _ kw_521) (fun _ h => h) hv hdg kk
theorem pf_md_205 {p : Program} {l : Launch} {e : Env} {R : Room} {s : State} {m : MethodId} {args : Array Value} {below : List Frame} {meth : Method} {c : Code} {H H0 : Heap} {locs : List Loc} {cells slots : Nat} {Q : State → Prop} {cc : ByteArray} {pc : Nat} {ls : Array Slot} {rest : List Value} {D : va_G} {tys : List (ClassId × FieldType)} {ws : va_W} {a : Nat} {A : Nat → Prop} (hx : p.tables.exec = Jvm.exec) (hb : c.code = cc) (hg : ∀ w ∈ gw, w.before args s = true) (hown : s.vm.findClass R_md = some m.cls) (hK : va_K D kls tys s) (hP : va_P D kls ws H) (hD : va_D A ws) (hS : va_S A H0 H locs) (q0 : Nat) {fs : List Value} (he : ws[q0]? = some (a, .inr (7, fs))) {v : Value} (hn : narrow .int v = v) (hfit : fits .int v = true) (hl : 32 < fs.length) (hdg : decode cc pc = .ok (.putfield 205, 3)) (kk : ∀ (H1 : Heap) (locs1 : List Loc), va_P D kls (ws.set q0 (a, .inr (7, fs.set 32 v))) H1 → va_D A (ws.set q0 (a, .inr (7, fs.set 32 v))) → va_S A H0 H1 locs1 → W p l e R s m args below meth c H1 locs1 cells slots Q (F0 m (pc + 3) ls rest)) : W p l e R s m args below meth c H locs cells slots Q (F0 m pc ls (v :: .ref a :: rest)) := va_put hx hb hg in_md t_md t_md_ok n_md hown hK hP hD hS q0 he rfl 32 (by decide) (hg _ kw_521) (fun _ h => h) rfl (t_md_ok 32 (by decide)) hn hfit hl hdg kk
theorem gv_md_208 : GoodIn gw (wsV R_md 208 R_md y_md_isWrong w_md_isWrong) := gd_V kw_737 kw_739 ks_md_isWrong kw_8 kw_740
theorem gv_md_211 : GoodIn gw (wsV R_md 211 R_md y_md_wrong w_md_wrong) := gd_V kw_745 kw_747 ks_md_wrong kw_8 kw_748
theorem gv_md_215 : GoodIn gw (wsV R_md 215 R_md y_md_look w_md_look) := gd_V kw_733 kw_735 ks_md_look kw_8 kw_736
theorem gf_md_24 {p : Program} {l : Launch} {e : Env} {R : Room} {s : State} {m : MethodId} {args : Array Value} {below : List Frame} {meth : Method} {c : Code} {H : Heap} {locs : List Loc} {cells slots : Nat} {Q : State → Prop} {cc : ByteArray} {pc : Nat} {ls : Array Slot} {rest : List Value} {D : va_G} {tys : List (ClassId × FieldType)} {ws : va_W} {a : Nat} (hx : p.tables.exec = Jvm.exec) (hb : c.code = cc) (hg : ∀ w ∈ gw, w.before args s = true) (hown : s.vm.findClass R_md = some m.cls) (hK : va_K D kls tys s) (hP : va_P D kls ws H) (q0 : Nat) {fs : List Value} (he : ws[q0]? = some (a, .inr (7, fs))) {v : Value} (hv : fs[5]? = some v) (hdg : decode cc pc = .ok (.getfield 24, 3)) (kk : W p l e R s m args below meth c H locs cells slots Q (F0 m (pc + 3) ls (v :: rest))) : W p l e R s m args below meth c H locs cells slots Q (F0 m pc ls (.ref a :: rest)) := va_get hx hb hg in_md hown hK hP q0 he rfl 5 (by decide) (hg _ kw_494) (fun _ h => h) hv hdg kk
theorem pf_md_24 {p : Program} {l : Launch} {e : Env} {R : Room} {s : State} {m : MethodId} {args : Array Value} {below : List Frame} {meth : Method} {c : Code} {H H0 : Heap} {locs : List Loc} {cells slots : Nat} {Q : State → Prop} {cc : ByteArray} {pc : Nat} {ls : Array Slot} {rest : List Value} {D : va_G} {tys : List (ClassId × FieldType)} {ws : va_W} {a : Nat} {A : Nat → Prop} (hx : p.tables.exec = Jvm.exec) (hb : c.code = cc) (hg : ∀ w ∈ gw, w.before args s = true) (hown : s.vm.findClass R_md = some m.cls) (hi : meth.name = "<init>") (hK : va_K D kls tys s) (hP : va_P D kls ws H) (hD : va_D A ws) (hS : va_S A H0 H locs) (q0 : Nat) {fs : List Value} (he : ws[q0]? = some (a, .inr (7, fs))) {v : Value} (hn : narrow (.array .int) v = v) (hfit : fits (.array .int) v = true) (hl : 5 < fs.length) (hdg : decode cc pc = .ok (.putfield 24, 3)) (kk : ∀ (H1 : Heap) (locs1 : List Loc), va_P D kls (ws.set q0 (a, .inr (7, fs.set 5 v))) H1 → va_D A (ws.set q0 (a, .inr (7, fs.set 5 v))) → va_S A H0 H1 locs1 → W p l e R s m args below meth c H1 locs1 cells slots Q (F0 m (pc + 3) ls rest)) : W p l e R s m args below meth c H locs cells slots Q (F0 m pc ls (v :: .ref a :: rest)) := va_putF hx hb hg in_md t_md t_md_ok n_md hown hK hP hD hS q0 he rfl 5 (by decide) (hg _ kw_494) (fun _ h => h) rfl hi rfl (t_md_ok 5 (by decide)) hn hfit hl hdg kk
theorem gf_md_27 {p : Program} {l : Launch} {e : Env} {R : Room} {s : State} {m : MethodId} {args : Array Value} {below : List Frame} {meth : Method} {c : Code} {H : Heap} {locs : List Loc} {cells slots : Nat} {Q : State → Prop} {cc : ByteArray} {pc : Nat} {ls : Array Slot} {rest : List Value} {D : va_G} {tys : List (ClassId × FieldType)} {ws : va_W} {a : Nat} (hx : p.tables.exec = Jvm.exec) (hb : c.code = cc) (hg : ∀ w ∈ gw, w.before args s = true) (hown : s.vm.findClass R_md = some m.cls) (hK : va_K D kls tys s) (hP : va_P D kls ws H) (q0 : Nat) {fs : List Value} (he : ws[q0]? = some (a, .inr (7, fs))) {v : Value} (hv : fs[6]? = some v) (hdg : decode cc pc = .ok (.getfield 27, 3)) (kk : W p l e R s m args below meth c H locs cells slots Q (F0 m (pc + 3) ls (v :: rest))) : W p l e R s m args below meth c H locs cells slots Q (F0 m pc ls (.ref a :: rest)) := va_get hx hb hg in_md hown hK hP q0 he rfl 6 (by decide) (hg _ kw_495) (fun _ h => h) hv hdg kk
theorem pf_md_27 {p : Program} {l : Launch} {e : Env} {R : Room} {s : State} {m : MethodId} {args : Array Value} {below : List Frame} {meth : Method} {c : Code} {H H0 : Heap} {locs : List Loc} {cells slots : Nat} {Q : State → Prop} {cc : ByteArray} {pc : Nat} {ls : Array Slot} {rest : List Value} {D : va_G} {tys : List (ClassId × FieldType)} {ws : va_W} {a : Nat} {A : Nat → Prop} (hx : p.tables.exec = Jvm.exec) (hb : c.code = cc) (hg : ∀ w ∈ gw, w.before args s = true) (hown : s.vm.findClass R_md = some m.cls) (hi : meth.name = "<init>") (hK : va_K D kls tys s) (hP : va_P D kls ws H) (hD : va_D A ws) (hS : va_S A H0 H locs) (q0 : Nat) {fs : List Value} (he : ws[q0]? = some (a, .inr (7, fs))) {v : Value} (hn : narrow (.array .int) v = v) (hfit : fits (.array .int) v = true) (hl : 6 < fs.length) (hdg : decode cc pc = .ok (.putfield 27, 3)) (kk : ∀ (H1 : Heap) (locs1 : List Loc), va_P D kls (ws.set q0 (a, .inr (7, fs.set 6 v))) H1 → va_D A (ws.set q0 (a, .inr (7, fs.set 6 v))) → va_S A H0 H1 locs1 → W p l e R s m args below meth c H1 locs1 cells slots Q (F0 m (pc + 3) ls rest)) : W p l e R s m args below meth c H locs cells slots Q (F0 m pc ls (v :: .ref a :: rest)) := va_putF hx hb hg in_md t_md t_md_ok n_md hown hK hP hD hS q0 he rfl 6 (by decide) (hg _ kw_495) (fun _ h => h) rfl hi rfl (t_md_ok 6 (by decide)) hn hfit hl hdg kk
theorem gf_md_30 {p : Program} {l : Launch} {e : Env} {R : Room} {s : State} {m : MethodId} {args : Array Value} {below : List Frame} {meth : Method} {c : Code} {H : Heap} {locs : List Loc} {cells slots : Nat} {Q : State → Prop} {cc : ByteArray} {pc : Nat} {ls : Array Slot} {rest : List Value} {D : va_G} {tys : List (ClassId × FieldType)} {ws : va_W} {a : Nat} (hx : p.tables.exec = Jvm.exec) (hb : c.code = cc) (hg : ∀ w ∈ gw, w.before args s = true) (hown : s.vm.findClass R_md = some m.cls) (hK : va_K D kls tys s) (hP : va_P D kls ws H) (q0 : Nat) {fs : List Value} (he : ws[q0]? = some (a, .inr (7, fs))) {v : Value} (hv : fs[7]? = some v) (hdg : decode cc pc = .ok (.getfield 30, 3)) (kk : W p l e R s m args below meth c H locs cells slots Q (F0 m (pc + 3) ls (v :: rest))) : W p l e R s m args below meth c H locs cells slots Q (F0 m pc ls (.ref a :: rest)) := va_get hx hb hg in_md hown hK hP q0 he rfl 7 (by decide) (hg _ kw_496) (fun _ h => h) hv hdg kk
theorem pf_md_30 {p : Program} {l : Launch} {e : Env} {R : Room} {s : State} {m : MethodId} {args : Array Value} {below : List Frame} {meth : Method} {c : Code} {H H0 : Heap} {locs : List Loc} {cells slots : Nat} {Q : State → Prop} {cc : ByteArray} {pc : Nat} {ls : Array Slot} {rest : List Value} {D : va_G} {tys : List (ClassId × FieldType)} {ws : va_W} {a : Nat} {A : Nat → Prop} (hx : p.tables.exec = Jvm.exec) (hb : c.code = cc) (hg : ∀ w ∈ gw, w.before args s = true) (hown : s.vm.findClass R_md = some m.cls) (hi : meth.name = "<init>") (hK : va_K D kls tys s) (hP : va_P D kls ws H) (hD : va_D A ws) (hS : va_S A H0 H locs) (q0 : Nat) {fs : List Value} (he : ws[q0]? = some (a, .inr (7, fs))) {v : Value} (hn : narrow (.array .boolean) v = v) (hfit : fits (.array .boolean) v = true) (hl : 7 < fs.length) (hdg : decode cc pc = .ok (.putfield 30, 3)) (kk : ∀ (H1 : Heap) (locs1 : List Loc), va_P D kls (ws.set q0 (a, .inr (7, fs.set 7 v))) H1 → va_D A (ws.set q0 (a, .inr (7, fs.set 7 v))) → va_S A H0 H1 locs1 → W p l e R s m args below meth c H1 locs1 cells slots Q (F0 m (pc + 3) ls rest)) : W p l e R s m args below meth c H locs cells slots Q (F0 m pc ls (v :: .ref a :: rest)) := va_putF hx hb hg in_md t_md t_md_ok n_md hown hK hP hD hS q0 he rfl 7 (by decide) (hg _ kw_496) (fun _ h => h) rfl hi rfl (t_md_ok 7 (by decide)) hn hfit hl hdg kk
theorem gf_md_33 {p : Program} {l : Launch} {e : Env} {R : Room} {s : State} {m : MethodId} {args : Array Value} {below : List Frame} {meth : Method} {c : Code} {H : Heap} {locs : List Loc} {cells slots : Nat} {Q : State → Prop} {cc : ByteArray} {pc : Nat} {ls : Array Slot} {rest : List Value} {D : va_G} {tys : List (ClassId × FieldType)} {ws : va_W} {a : Nat} (hx : p.tables.exec = Jvm.exec) (hb : c.code = cc) (hg : ∀ w ∈ gw, w.before args s = true) (hown : s.vm.findClass R_md = some m.cls) (hK : va_K D kls tys s) (hP : va_P D kls ws H) (q0 : Nat) {fs : List Value} (he : ws[q0]? = some (a, .inr (7, fs))) {v : Value} (hv : fs[9]? = some v) (hdg : decode cc pc = .ok (.getfield 33, 3)) (kk : W p l e R s m args below meth c H locs cells slots Q (F0 m (pc + 3) ls (v :: rest))) : W p l e R s m args below meth c H locs cells slots Q (F0 m pc ls (.ref a :: rest)) := va_get hx hb hg in_md hown hK hP q0 he rfl 9 (by decide) (hg _ kw_498) (fun _ h => h) hv hdg kk
theorem pf_md_33 {p : Program} {l : Launch} {e : Env} {R : Room} {s : State} {m : MethodId} {args : Array Value} {below : List Frame} {meth : Method} {c : Code} {H H0 : Heap} {locs : List Loc} {cells slots : Nat} {Q : State → Prop} {cc : ByteArray} {pc : Nat} {ls : Array Slot} {rest : List Value} {D : va_G} {tys : List (ClassId × FieldType)} {ws : va_W} {a : Nat} {A : Nat → Prop} (hx : p.tables.exec = Jvm.exec) (hb : c.code = cc) (hg : ∀ w ∈ gw, w.before args s = true) (hown : s.vm.findClass R_md = some m.cls) (hi : meth.name = "<init>") (hK : va_K D kls tys s) (hP : va_P D kls ws H) (hD : va_D A ws) (hS : va_S A H0 H locs) (q0 : Nat) {fs : List Value} (he : ws[q0]? = some (a, .inr (7, fs))) {v : Value} (hn : narrow (.array .int) v = v) (hfit : fits (.array .int) v = true) (hl : 9 < fs.length) (hdg : decode cc pc = .ok (.putfield 33, 3)) (kk : ∀ (H1 : Heap) (locs1 : List Loc), va_P D kls (ws.set q0 (a, .inr (7, fs.set 9 v))) H1 → va_D A (ws.set q0 (a, .inr (7, fs.set 9 v))) → va_S A H0 H1 locs1 → W p l e R s m args below meth c H1 locs1 cells slots Q (F0 m (pc + 3) ls rest)) : W p l e R s m args below meth c H locs cells slots Q (F0 m pc ls (v :: .ref a :: rest)) := va_putF hx hb hg in_md t_md t_md_ok n_md hown hK hP hD hS q0 he rfl 9 (by decide) (hg _ kw_498) (fun _ h => h) rfl hi rfl (t_md_ok 9 (by decide)) hn hfit hl hdg kk
theorem gf_md_36 {p : Program} {l : Launch} {e : Env} {R : Room} {s : State} {m : MethodId} {args : Array Value} {below : List Frame} {meth : Method} {c : Code} {H : Heap} {locs : List Loc} {cells slots : Nat} {Q : State → Prop} {cc : ByteArray} {pc : Nat} {ls : Array Slot} {rest : List Value} {D : va_G} {tys : List (ClassId × FieldType)} {ws : va_W} {a : Nat} (hx : p.tables.exec = Jvm.exec) (hb : c.code = cc) (hg : ∀ w ∈ gw, w.before args s = true) (hown : s.vm.findClass R_md = some m.cls) (hK : va_K D kls tys s) (hP : va_P D kls ws H) (q0 : Nat) {fs : List Value} (he : ws[q0]? = some (a, .inr (7, fs))) {v : Value} (hv : fs[10]? = some v) (hdg : decode cc pc = .ok (.getfield 36, 3)) (kk : W p l e R s m args below meth c H locs cells slots Q (F0 m (pc + 3) ls (v :: rest))) : W p l e R s m args below meth c H locs cells slots Q (F0 m pc ls (.ref a :: rest)) := va_get hx hb hg in_md hown hK hP q0 he rfl 10 (by decide) (hg _ kw_499) (fun _ h => h) hv hdg kk
theorem pf_md_36 {p : Program} {l : Launch} {e : Env} {R : Room} {s : State} {m : MethodId} {args : Array Value} {below : List Frame} {meth : Method} {c : Code} {H H0 : Heap} {locs : List Loc} {cells slots : Nat} {Q : State → Prop} {cc : ByteArray} {pc : Nat} {ls : Array Slot} {rest : List Value} {D : va_G} {tys : List (ClassId × FieldType)} {ws : va_W} {a : Nat} {A : Nat → Prop} (hx : p.tables.exec = Jvm.exec) (hb : c.code = cc) (hg : ∀ w ∈ gw, w.before args s = true) (hown : s.vm.findClass R_md = some m.cls) (hi : meth.name = "<init>") (hK : va_K D kls tys s) (hP : va_P D kls ws H) (hD : va_D A ws) (hS : va_S A H0 H locs) (q0 : Nat) {fs : List Value} (he : ws[q0]? = some (a, .inr (7, fs))) {v : Value} (hn : narrow (.array .int) v = v) (hfit : fits (.array .int) v = true) (hl : 10 < fs.length) (hdg : decode cc pc = .ok (.putfield 36, 3)) (kk : ∀ (H1 : Heap) (locs1 : List Loc), va_P D kls (ws.set q0 (a, .inr (7, fs.set 10 v))) H1 → va_D A (ws.set q0 (a, .inr (7, fs.set 10 v))) → va_S A H0 H1 locs1 → W p l e R s m args below meth c H1 locs1 cells slots Q (F0 m (pc + 3) ls rest)) : W p l e R s m args below meth c H locs cells slots Q (F0 m pc ls (v :: .ref a :: rest)) := va_putF hx hb hg in_md t_md t_md_ok n_md hown hK hP hD hS q0 he rfl 10 (by decide) (hg _ kw_499) (fun _ h => h) rfl hi rfl (t_md_ok 10 (by decide)) hn hfit hl hdg kk
theorem gf_md_39 {p : Program} {l : Launch} {e : Env} {R : Room} {s : State} {m : MethodId} {args : Array Value} {below : List Frame} {meth : Method} {c : Code} {H : Heap} {locs : List Loc} {cells slots : Nat} {Q : State → Prop} {cc : ByteArray} {pc : Nat} {ls : Array Slot} {rest : List Value} {D : va_G} {tys : List (ClassId × FieldType)} {ws : va_W} {a : Nat} (hx : p.tables.exec = Jvm.exec) (hb : c.code = cc) (hg : ∀ w ∈ gw, w.before args s = true) (hown : s.vm.findClass R_md = some m.cls) (hK : va_K D kls tys s) (hP : va_P D kls ws H) (q0 : Nat) {fs : List Value} (he : ws[q0]? = some (a, .inr (7, fs))) {v : Value} (hv : fs[11]? = some v) (hdg : decode cc pc = .ok (.getfield 39, 3)) (kk : W p l e R s m args below meth c H locs cells slots Q (F0 m (pc + 3) ls (v :: rest))) : W p l e R s m args below meth c H locs cells slots Q (F0 m pc ls (.ref a :: rest)) := va_get hx hb hg in_md hown hK hP q0 he rfl 11 (by decide) (hg _ kw_500) (fun _ h => h) hv hdg kk
theorem pf_md_39 {p : Program} {l : Launch} {e : Env} {R : Room} {s : State} {m : MethodId} {args : Array Value} {below : List Frame} {meth : Method} {c : Code} {H H0 : Heap} {locs : List Loc} {cells slots : Nat} {Q : State → Prop} {cc : ByteArray} {pc : Nat} {ls : Array Slot} {rest : List Value} {D : va_G} {tys : List (ClassId × FieldType)} {ws : va_W} {a : Nat} {A : Nat → Prop} (hx : p.tables.exec = Jvm.exec) (hb : c.code = cc) (hg : ∀ w ∈ gw, w.before args s = true) (hown : s.vm.findClass R_md = some m.cls) (hi : meth.name = "<init>") (hK : va_K D kls tys s) (hP : va_P D kls ws H) (hD : va_D A ws) (hS : va_S A H0 H locs) (q0 : Nat) {fs : List Value} (he : ws[q0]? = some (a, .inr (7, fs))) {v : Value} (hn : narrow (.array .int) v = v) (hfit : fits (.array .int) v = true) (hl : 11 < fs.length) (hdg : decode cc pc = .ok (.putfield 39, 3)) (kk : ∀ (H1 : Heap) (locs1 : List Loc), va_P D kls (ws.set q0 (a, .inr (7, fs.set 11 v))) H1 → va_D A (ws.set q0 (a, .inr (7, fs.set 11 v))) → va_S A H0 H1 locs1 → W p l e R s m args below meth c H1 locs1 cells slots Q (F0 m (pc + 3) ls rest)) : W p l e R s m args below meth c H locs cells slots Q (F0 m pc ls (v :: .ref a :: rest)) := va_putF hx hb hg in_md t_md t_md_ok n_md hown hK hP hD hS q0 he rfl 11 (by decide) (hg _ kw_500) (fun _ h => h) rfl hi rfl (t_md_ok 11 (by decide)) hn hfit hl hdg kk
theorem gf_md_42 {p : Program} {l : Launch} {e : Env} {R : Room} {s : State} {m : MethodId} {args : Array Value} {below : List Frame} {meth : Method} {c : Code} {H : Heap} {locs : List Loc} {cells slots : Nat} {Q : State → Prop} {cc : ByteArray} {pc : Nat} {ls : Array Slot} {rest : List Value} {D : va_G} {tys : List (ClassId × FieldType)} {ws : va_W} {a : Nat} (hx : p.tables.exec = Jvm.exec) (hb : c.code = cc) (hg : ∀ w ∈ gw, w.before args s = true) (hown : s.vm.findClass R_md = some m.cls) (hK : va_K D kls tys s) (hP : va_P D kls ws H) (q0 : Nat) {fs : List Value} (he : ws[q0]? = some (a, .inr (7, fs))) {v : Value} (hv : fs[12]? = some v) (hdg : decode cc pc = .ok (.getfield 42, 3)) (kk : W p l e R s m args below meth c H locs cells slots Q (F0 m (pc + 3) ls (v :: rest))) : W p l e R s m args below meth c H locs cells slots Q (F0 m pc ls (.ref a :: rest)) := va_get hx hb hg in_md hown hK hP q0 he rfl 12 (by decide) (hg _ kw_501) (fun _ h => h) hv hdg kk
theorem pf_md_42 {p : Program} {l : Launch} {e : Env} {R : Room} {s : State} {m : MethodId} {args : Array Value} {below : List Frame} {meth : Method} {c : Code} {H H0 : Heap} {locs : List Loc} {cells slots : Nat} {Q : State → Prop} {cc : ByteArray} {pc : Nat} {ls : Array Slot} {rest : List Value} {D : va_G} {tys : List (ClassId × FieldType)} {ws : va_W} {a : Nat} {A : Nat → Prop} (hx : p.tables.exec = Jvm.exec) (hb : c.code = cc) (hg : ∀ w ∈ gw, w.before args s = true) (hown : s.vm.findClass R_md = some m.cls) (hi : meth.name = "<init>") (hK : va_K D kls tys s) (hP : va_P D kls ws H) (hD : va_D A ws) (hS : va_S A H0 H locs) (q0 : Nat) {fs : List Value} (he : ws[q0]? = some (a, .inr (7, fs))) {v : Value} (hn : narrow (.array .int) v = v) (hfit : fits (.array .int) v = true) (hl : 12 < fs.length) (hdg : decode cc pc = .ok (.putfield 42, 3)) (kk : ∀ (H1 : Heap) (locs1 : List Loc), va_P D kls (ws.set q0 (a, .inr (7, fs.set 12 v))) H1 → va_D A (ws.set q0 (a, .inr (7, fs.set 12 v))) → va_S A H0 H1 locs1 → W p l e R s m args below meth c H1 locs1 cells slots Q (F0 m (pc + 3) ls rest)) : W p l e R s m args below meth c H locs cells slots Q (F0 m pc ls (v :: .ref a :: rest)) := va_putF hx hb hg in_md t_md t_md_ok n_md hown hK hP hD hS q0 he rfl 12 (by decide) (hg _ kw_501) (fun _ h => h) rfl hi rfl (t_md_ok 12 (by decide)) hn hfit hl hdg kk
theorem gf_md_46 {p : Program} {l : Launch} {e : Env} {R : Room} {s : State} {m : MethodId} {args : Array Value} {below : List Frame} {meth : Method} {c : Code} {H : Heap} {locs : List Loc} {cells slots : Nat} {Q : State → Prop} {cc : ByteArray} {pc : Nat} {ls : Array Slot} {rest : List Value} {D : va_G} {tys : List (ClassId × FieldType)} {ws : va_W} {a : Nat} (hx : p.tables.exec = Jvm.exec) (hb : c.code = cc) (hg : ∀ w ∈ gw, w.before args s = true) (hown : s.vm.findClass R_md = some m.cls) (hK : va_K D kls tys s) (hP : va_P D kls ws H) (q0 : Nat) {fs : List Value} (he : ws[q0]? = some (a, .inr (7, fs))) {v : Value} (hv : fs[13]? = some v) (hdg : decode cc pc = .ok (.getfield 46, 3)) (kk : W p l e R s m args below meth c H locs cells slots Q (F0 m (pc + 3) ls (v :: rest))) : W p l e R s m args below meth c H locs cells slots Q (F0 m pc ls (.ref a :: rest)) := va_get hx hb hg in_md hown hK hP q0 he rfl 13 (by decide) (hg _ kw_502) (fun _ h => h) hv hdg kk
theorem pf_md_46 {p : Program} {l : Launch} {e : Env} {R : Room} {s : State} {m : MethodId} {args : Array Value} {below : List Frame} {meth : Method} {c : Code} {H H0 : Heap} {locs : List Loc} {cells slots : Nat} {Q : State → Prop} {cc : ByteArray} {pc : Nat} {ls : Array Slot} {rest : List Value} {D : va_G} {tys : List (ClassId × FieldType)} {ws : va_W} {a : Nat} {A : Nat → Prop} (hx : p.tables.exec = Jvm.exec) (hb : c.code = cc) (hg : ∀ w ∈ gw, w.before args s = true) (hown : s.vm.findClass R_md = some m.cls) (hi : meth.name = "<init>") (hK : va_K D kls tys s) (hP : va_P D kls ws H) (hD : va_D A ws) (hS : va_S A H0 H locs) (q0 : Nat) {fs : List Value} (he : ws[q0]? = some (a, .inr (7, fs))) {v : Value} (hn : narrow (.array .int) v = v) (hfit : fits (.array .int) v = true) (hl : 13 < fs.length) (hdg : decode cc pc = .ok (.putfield 46, 3)) (kk : ∀ (H1 : Heap) (locs1 : List Loc), va_P D kls (ws.set q0 (a, .inr (7, fs.set 13 v))) H1 → va_D A (ws.set q0 (a, .inr (7, fs.set 13 v))) → va_S A H0 H1 locs1 → W p l e R s m args below meth c H1 locs1 cells slots Q (F0 m (pc + 3) ls rest)) : W p l e R s m args below meth c H locs cells slots Q (F0 m pc ls (v :: .ref a :: rest)) := va_putF hx hb hg in_md t_md t_md_ok n_md hown hK hP hD hS q0 he rfl 13 (by decide) (hg _ kw_502) (fun _ h => h) rfl hi rfl (t_md_ok 13 (by decide)) hn hfit hl hdg kk
theorem gf_md_49 {p : Program} {l : Launch} {e : Env} {R : Room} {s : State} {m : MethodId} {args : Array Value} {below : List Frame} {meth : Method} {c : Code} {H : Heap} {locs : List Loc} {cells slots : Nat} {Q : State → Prop} {cc : ByteArray} {pc : Nat} {ls : Array Slot} {rest : List Value} {D : va_G} {tys : List (ClassId × FieldType)} {ws : va_W} {a : Nat} (hx : p.tables.exec = Jvm.exec) (hb : c.code = cc) (hg : ∀ w ∈ gw, w.before args s = true) (hown : s.vm.findClass R_md = some m.cls) (hK : va_K D kls tys s) (hP : va_P D kls ws H) (q0 : Nat) {fs : List Value} (he : ws[q0]? = some (a, .inr (7, fs))) {v : Value} (hv : fs[14]? = some v) (hdg : decode cc pc = .ok (.getfield 49, 3)) (kk : W p l e R s m args below meth c H locs cells slots Q (F0 m (pc + 3) ls (v :: rest))) : W p l e R s m args below meth c H locs cells slots Q (F0 m pc ls (.ref a :: rest)) := va_get hx hb hg in_md hown hK hP q0 he rfl 14 (by decide) (hg _ kw_503) (fun _ h => h) hv hdg kk
theorem pf_md_49 {p : Program} {l : Launch} {e : Env} {R : Room} {s : State} {m : MethodId} {args : Array Value} {below : List Frame} {meth : Method} {c : Code} {H H0 : Heap} {locs : List Loc} {cells slots : Nat} {Q : State → Prop} {cc : ByteArray} {pc : Nat} {ls : Array Slot} {rest : List Value} {D : va_G} {tys : List (ClassId × FieldType)} {ws : va_W} {a : Nat} {A : Nat → Prop} (hx : p.tables.exec = Jvm.exec) (hb : c.code = cc) (hg : ∀ w ∈ gw, w.before args s = true) (hown : s.vm.findClass R_md = some m.cls) (hi : meth.name = "<init>") (hK : va_K D kls tys s) (hP : va_P D kls ws H) (hD : va_D A ws) (hS : va_S A H0 H locs) (q0 : Nat) {fs : List Value} (he : ws[q0]? = some (a, .inr (7, fs))) {v : Value} (hn : narrow (.array .boolean) v = v) (hfit : fits (.array .boolean) v = true) (hl : 14 < fs.length) (hdg : decode cc pc = .ok (.putfield 49, 3)) (kk : ∀ (H1 : Heap) (locs1 : List Loc), va_P D kls (ws.set q0 (a, .inr (7, fs.set 14 v))) H1 → va_D A (ws.set q0 (a, .inr (7, fs.set 14 v))) → va_S A H0 H1 locs1 → W p l e R s m args below meth c H1 locs1 cells slots Q (F0 m (pc + 3) ls rest)) : W p l e R s m args below meth c H locs cells slots Q (F0 m pc ls (v :: .ref a :: rest)) := va_putF hx hb hg in_md t_md t_md_ok n_md hown hK hP hD hS q0 he rfl 14 (by decide) (hg _ kw_503) (fun _ h => h) rfl hi rfl (t_md_ok 14 (by decide)) hn hfit hl hdg kk
theorem gf_md_52 {p : Program} {l : Launch} {e : Env} {R : Room} {s : State} {m : MethodId} {args : Array Value} {below : List Frame} {meth : Method} {c : Code} {H : Heap} {locs : List Loc} {cells slots : Nat} {Q : State → Prop} {cc : ByteArray} {pc : Nat} {ls : Array Slot} {rest : List Value} {D : va_G} {tys : List (ClassId × FieldType)} {ws : va_W} {a : Nat} (hx : p.tables.exec = Jvm.exec) (hb : c.code = cc) (hg : ∀ w ∈ gw, w.before args s = true) (hown : s.vm.findClass R_md = some m.cls) (hK : va_K D kls tys s) (hP : va_P D kls ws H) (q0 : Nat) {fs : List Value} (he : ws[q0]? = some (a, .inr (7, fs))) {v : Value} (hv : fs[15]? = some v) (hdg : decode cc pc = .ok (.getfield 52, 3)) (kk : W p l e R s m args below meth c H locs cells slots Q (F0 m (pc + 3) ls (v :: rest))) : W p l e R s m args below meth c H locs cells slots Q (F0 m pc ls (.ref a :: rest)) := va_get hx hb hg in_md hown hK hP q0 he rfl 15 (by decide) (hg _ kw_504) (fun _ h => h) hv hdg kk
theorem pf_md_52 {p : Program} {l : Launch} {e : Env} {R : Room} {s : State} {m : MethodId} {args : Array Value} {below : List Frame} {meth : Method} {c : Code} {H H0 : Heap} {locs : List Loc} {cells slots : Nat} {Q : State → Prop} {cc : ByteArray} {pc : Nat} {ls : Array Slot} {rest : List Value} {D : va_G} {tys : List (ClassId × FieldType)} {ws : va_W} {a : Nat} {A : Nat → Prop} (hx : p.tables.exec = Jvm.exec) (hb : c.code = cc) (hg : ∀ w ∈ gw, w.before args s = true) (hown : s.vm.findClass R_md = some m.cls) (hi : meth.name = "<init>") (hK : va_K D kls tys s) (hP : va_P D kls ws H) (hD : va_D A ws) (hS : va_S A H0 H locs) (q0 : Nat) {fs : List Value} (he : ws[q0]? = some (a, .inr (7, fs))) {v : Value} (hn : narrow (.array .int) v = v) (hfit : fits (.array .int) v = true) (hl : 15 < fs.length) (hdg : decode cc pc = .ok (.putfield 52, 3)) (kk : ∀ (H1 : Heap) (locs1 : List Loc), va_P D kls (ws.set q0 (a, .inr (7, fs.set 15 v))) H1 → va_D A (ws.set q0 (a, .inr (7, fs.set 15 v))) → va_S A H0 H1 locs1 → W p l e R s m args below meth c H1 locs1 cells slots Q (F0 m (pc + 3) ls rest)) : W p l e R s m args below meth c H locs cells slots Q (F0 m pc ls (v :: .ref a :: rest)) := va_putF hx hb hg in_md t_md t_md_ok n_md hown hK hP hD hS q0 he rfl 15 (by decide) (hg _ kw_504) (fun _ h => h) rfl hi rfl (t_md_ok 15 (by decide)) hn hfit hl hdg kk
theorem gf_md_55 {p : Program} {l : Launch} {e : Env} {R : Room} {s : State} {m : MethodId} {args : Array Value} {below : List Frame} {meth : Method} {c : Code} {H : Heap} {locs : List Loc} {cells slots : Nat} {Q : State → Prop} {cc : ByteArray} {pc : Nat} {ls : Array Slot} {rest : List Value} {D : va_G} {tys : List (ClassId × FieldType)} {ws : va_W} {a : Nat} (hx : p.tables.exec = Jvm.exec) (hb : c.code = cc) (hg : ∀ w ∈ gw, w.before args s = true) (hown : s.vm.findClass R_md = some m.cls) (hK : va_K D kls tys s) (hP : va_P D kls ws H) (q0 : Nat) {fs : List Value} (he : ws[q0]? = some (a, .inr (7, fs))) {v : Value} (hv : fs[17]? = some v) (hdg : decode cc pc = .ok (.getfield 55, 3)) (kk : W p l e R s m args below meth c H locs cells slots Q (F0 m (pc + 3) ls (v :: rest))) : W p l e R s m args below meth c H locs cells slots Q (F0 m pc ls (.ref a :: rest)) := va_get hx hb hg in_md hown hK hP q0 he rfl 17 (by decide) (hg _ kw_506) (fun _ h => h) hv hdg kk
theorem pf_md_55 {p : Program} {l : Launch} {e : Env} {R : Room} {s : State} {m : MethodId} {args : Array Value} {below : List Frame} {meth : Method} {c : Code} {H H0 : Heap} {locs : List Loc} {cells slots : Nat} {Q : State → Prop} {cc : ByteArray} {pc : Nat} {ls : Array Slot} {rest : List Value} {D : va_G} {tys : List (ClassId × FieldType)} {ws : va_W} {a : Nat} {A : Nat → Prop} (hx : p.tables.exec = Jvm.exec) (hb : c.code = cc) (hg : ∀ w ∈ gw, w.before args s = true) (hown : s.vm.findClass R_md = some m.cls) (hi : meth.name = "<init>") (hK : va_K D kls tys s) (hP : va_P D kls ws H) (hD : va_D A ws) (hS : va_S A H0 H locs) (q0 : Nat) {fs : List Value} (he : ws[q0]? = some (a, .inr (7, fs))) {v : Value} (hn : narrow (.array .int) v = v) (hfit : fits (.array .int) v = true) (hl : 17 < fs.length) (hdg : decode cc pc = .ok (.putfield 55, 3)) (kk : ∀ (H1 : Heap) (locs1 : List Loc), va_P D kls (ws.set q0 (a, .inr (7, fs.set 17 v))) H1 → va_D A (ws.set q0 (a, .inr (7, fs.set 17 v))) → va_S A H0 H1 locs1 → W p l e R s m args below meth c H1 locs1 cells slots Q (F0 m (pc + 3) ls rest)) : W p l e R s m args below meth c H locs cells slots Q (F0 m pc ls (v :: .ref a :: rest)) := va_putF hx hb hg in_md t_md t_md_ok n_md hown hK hP hD hS q0 he rfl 17 (by decide) (hg _ kw_506) (fun _ h => h) rfl hi rfl (t_md_ok 17 (by decide)) hn hfit hl hdg kk
theorem gf_md_58 {p : Program} {l : Launch} {e : Env} {R : Room} {s : State} {m : MethodId} {args : Array Value} {below : List Frame} {meth : Method} {c : Code} {H : Heap} {locs : List Loc} {cells slots : Nat} {Q : State → Prop} {cc : ByteArray} {pc : Nat} {ls : Array Slot} {rest : List Value} {D : va_G} {tys : List (ClassId × FieldType)} {ws : va_W} {a : Nat} (hx : p.tables.exec = Jvm.exec) (hb : c.code = cc) (hg : ∀ w ∈ gw, w.before args s = true) (hown : s.vm.findClass R_md = some m.cls) (hK : va_K D kls tys s) (hP : va_P D kls ws H) (q0 : Nat) {fs : List Value} (he : ws[q0]? = some (a, .inr (7, fs))) {v : Value} (hv : fs[18]? = some v) (hdg : decode cc pc = .ok (.getfield 58, 3)) (kk : W p l e R s m args below meth c H locs cells slots Q (F0 m (pc + 3) ls (v :: rest))) : W p l e R s m args below meth c H locs cells slots Q (F0 m pc ls (.ref a :: rest)) := va_get hx hb hg in_md hown hK hP q0 he rfl 18 (by decide) (hg _ kw_507) (fun _ h => h) hv hdg kk
theorem pf_md_58 {p : Program} {l : Launch} {e : Env} {R : Room} {s : State} {m : MethodId} {args : Array Value} {below : List Frame} {meth : Method} {c : Code} {H H0 : Heap} {locs : List Loc} {cells slots : Nat} {Q : State → Prop} {cc : ByteArray} {pc : Nat} {ls : Array Slot} {rest : List Value} {D : va_G} {tys : List (ClassId × FieldType)} {ws : va_W} {a : Nat} {A : Nat → Prop} (hx : p.tables.exec = Jvm.exec) (hb : c.code = cc) (hg : ∀ w ∈ gw, w.before args s = true) (hown : s.vm.findClass R_md = some m.cls) (hi : meth.name = "<init>") (hK : va_K D kls tys s) (hP : va_P D kls ws H) (hD : va_D A ws) (hS : va_S A H0 H locs) (q0 : Nat) {fs : List Value} (he : ws[q0]? = some (a, .inr (7, fs))) {v : Value} (hn : narrow (.array .int) v = v) (hfit : fits (.array .int) v = true) (hl : 18 < fs.length) (hdg : decode cc pc = .ok (.putfield 58, 3)) (kk : ∀ (H1 : Heap) (locs1 : List Loc), va_P D kls (ws.set q0 (a, .inr (7, fs.set 18 v))) H1 → va_D A (ws.set q0 (a, .inr (7, fs.set 18 v))) → va_S A H0 H1 locs1 → W p l e R s m args below meth c H1 locs1 cells slots Q (F0 m (pc + 3) ls rest)) : W p l e R s m args below meth c H locs cells slots Q (F0 m pc ls (v :: .ref a :: rest)) := va_putF hx hb hg in_md t_md t_md_ok n_md hown hK hP hD hS q0 he rfl 18 (by decide) (hg _ kw_507) (fun _ h => h) rfl hi rfl (t_md_ok 18 (by decide)) hn hfit hl hdg kk
theorem gf_md_61 {p : Program} {l : Launch} {e : Env} {R : Room} {s : State} {m : MethodId} {args : Array Value} {below : List Frame} {meth : Method} {c : Code} {H : Heap} {locs : List Loc} {cells slots : Nat} {Q : State → Prop} {cc : ByteArray} {pc : Nat} {ls : Array Slot} {rest : List Value} {D : va_G} {tys : List (ClassId × FieldType)} {ws : va_W} {a : Nat} (hx : p.tables.exec = Jvm.exec) (hb : c.code = cc) (hg : ∀ w ∈ gw, w.before args s = true) (hown : s.vm.findClass R_md = some m.cls) (hK : va_K D kls tys s) (hP : va_P D kls ws H) (q0 : Nat) {fs : List Value} (he : ws[q0]? = some (a, .inr (7, fs))) {v : Value} (hv : fs[19]? = some v) (hdg : decode cc pc = .ok (.getfield 61, 3)) (kk : W p l e R s m args below meth c H locs cells slots Q (F0 m (pc + 3) ls (v :: rest))) : W p l e R s m args below meth c H locs cells slots Q (F0 m pc ls (.ref a :: rest)) := va_get hx hb hg in_md hown hK hP q0 he rfl 19 (by decide) (hg _ kw_508) (fun _ h => h) hv hdg kk
theorem pf_md_61 {p : Program} {l : Launch} {e : Env} {R : Room} {s : State} {m : MethodId} {args : Array Value} {below : List Frame} {meth : Method} {c : Code} {H H0 : Heap} {locs : List Loc} {cells slots : Nat} {Q : State → Prop} {cc : ByteArray} {pc : Nat} {ls : Array Slot} {rest : List Value} {D : va_G} {tys : List (ClassId × FieldType)} {ws : va_W} {a : Nat} {A : Nat → Prop} (hx : p.tables.exec = Jvm.exec) (hb : c.code = cc) (hg : ∀ w ∈ gw, w.before args s = true) (hown : s.vm.findClass R_md = some m.cls) (hi : meth.name = "<init>") (hK : va_K D kls tys s) (hP : va_P D kls ws H) (hD : va_D A ws) (hS : va_S A H0 H locs) (q0 : Nat) {fs : List Value} (he : ws[q0]? = some (a, .inr (7, fs))) {v : Value} (hn : narrow (.array .int) v = v) (hfit : fits (.array .int) v = true) (hl : 19 < fs.length) (hdg : decode cc pc = .ok (.putfield 61, 3)) (kk : ∀ (H1 : Heap) (locs1 : List Loc), va_P D kls (ws.set q0 (a, .inr (7, fs.set 19 v))) H1 → va_D A (ws.set q0 (a, .inr (7, fs.set 19 v))) → va_S A H0 H1 locs1 → W p l e R s m args below meth c H1 locs1 cells slots Q (F0 m (pc + 3) ls rest)) : W p l e R s m args below meth c H locs cells slots Q (F0 m pc ls (v :: .ref a :: rest)) := va_putF hx hb hg in_md t_md t_md_ok n_md hown hK hP hD hS q0 he rfl 19 (by decide) (hg _ kw_508) (fun _ h => h) rfl hi rfl (t_md_ok 19 (by decide)) hn hfit hl hdg kk
theorem gf_md_64 {p : Program} {l : Launch} {e : Env} {R : Room} {s : State} {m : MethodId} {args : Array Value} {below : List Frame} {meth : Method} {c : Code} {H : Heap} {locs : List Loc} {cells slots : Nat} {Q : State → Prop} {cc : ByteArray} {pc : Nat} {ls : Array Slot} {rest : List Value} {D : va_G} {tys : List (ClassId × FieldType)} {ws : va_W} {a : Nat} (hx : p.tables.exec = Jvm.exec) (hb : c.code = cc) (hg : ∀ w ∈ gw, w.before args s = true) (hown : s.vm.findClass R_md = some m.cls) (hK : va_K D kls tys s) (hP : va_P D kls ws H) (q0 : Nat) {fs : List Value} (he : ws[q0]? = some (a, .inr (7, fs))) {v : Value} (hv : fs[22]? = some v) (hdg : decode cc pc = .ok (.getfield 64, 3)) (kk : W p l e R s m args below meth c H locs cells slots Q (F0 m (pc + 3) ls (v :: rest))) : W p l e R s m args below meth c H locs cells slots Q (F0 m pc ls (.ref a :: rest)) := va_get hx hb hg in_md hown hK hP q0 he rfl 22 (by decide) (hg _ kw_511) (fun _ h => h) hv hdg kk
theorem pf_md_64 {p : Program} {l : Launch} {e : Env} {R : Room} {s : State} {m : MethodId} {args : Array Value} {below : List Frame} {meth : Method} {c : Code} {H H0 : Heap} {locs : List Loc} {cells slots : Nat} {Q : State → Prop} {cc : ByteArray} {pc : Nat} {ls : Array Slot} {rest : List Value} {D : va_G} {tys : List (ClassId × FieldType)} {ws : va_W} {a : Nat} {A : Nat → Prop} (hx : p.tables.exec = Jvm.exec) (hb : c.code = cc) (hg : ∀ w ∈ gw, w.before args s = true) (hown : s.vm.findClass R_md = some m.cls) (hi : meth.name = "<init>") (hK : va_K D kls tys s) (hP : va_P D kls ws H) (hD : va_D A ws) (hS : va_S A H0 H locs) (q0 : Nat) {fs : List Value} (he : ws[q0]? = some (a, .inr (7, fs))) {v : Value} (hn : narrow (.array .int) v = v) (hfit : fits (.array .int) v = true) (hl : 22 < fs.length) (hdg : decode cc pc = .ok (.putfield 64, 3)) (kk : ∀ (H1 : Heap) (locs1 : List Loc), va_P D kls (ws.set q0 (a, .inr (7, fs.set 22 v))) H1 → va_D A (ws.set q0 (a, .inr (7, fs.set 22 v))) → va_S A H0 H1 locs1 → W p l e R s m args below meth c H1 locs1 cells slots Q (F0 m (pc + 3) ls rest)) : W p l e R s m args below meth c H locs cells slots Q (F0 m pc ls (v :: .ref a :: rest)) := va_putF hx hb hg in_md t_md t_md_ok n_md hown hK hP hD hS q0 he rfl 22 (by decide) (hg _ kw_511) (fun _ h => h) rfl hi rfl (t_md_ok 22 (by decide)) hn hfit hl hdg kk
theorem gf_md_67 {p : Program} {l : Launch} {e : Env} {R : Room} {s : State} {m : MethodId} {args : Array Value} {below : List Frame} {meth : Method} {c : Code} {H : Heap} {locs : List Loc} {cells slots : Nat} {Q : State → Prop} {cc : ByteArray} {pc : Nat} {ls : Array Slot} {rest : List Value} {D : va_G} {tys : List (ClassId × FieldType)} {ws : va_W} {a : Nat} (hx : p.tables.exec = Jvm.exec) (hb : c.code = cc) (hg : ∀ w ∈ gw, w.before args s = true) (hown : s.vm.findClass R_md = some m.cls) (hK : va_K D kls tys s) (hP : va_P D kls ws H) (q0 : Nat) {fs : List Value} (he : ws[q0]? = some (a, .inr (7, fs))) {v : Value} (hv : fs[23]? = some v) (hdg : decode cc pc = .ok (.getfield 67, 3)) (kk : W p l e R s m args below meth c H locs cells slots Q (F0 m (pc + 3) ls (v :: rest))) : W p l e R s m args below meth c H locs cells slots Q (F0 m pc ls (.ref a :: rest)) := va_get hx hb hg in_md hown hK hP q0 he rfl 23 (by decide) (hg _ kw_512) (fun _ h => h) hv hdg kk
theorem pf_md_67 {p : Program} {l : Launch} {e : Env} {R : Room} {s : State} {m : MethodId} {args : Array Value} {below : List Frame} {meth : Method} {c : Code} {H H0 : Heap} {locs : List Loc} {cells slots : Nat} {Q : State → Prop} {cc : ByteArray} {pc : Nat} {ls : Array Slot} {rest : List Value} {D : va_G} {tys : List (ClassId × FieldType)} {ws : va_W} {a : Nat} {A : Nat → Prop} (hx : p.tables.exec = Jvm.exec) (hb : c.code = cc) (hg : ∀ w ∈ gw, w.before args s = true) (hown : s.vm.findClass R_md = some m.cls) (hi : meth.name = "<init>") (hK : va_K D kls tys s) (hP : va_P D kls ws H) (hD : va_D A ws) (hS : va_S A H0 H locs) (q0 : Nat) {fs : List Value} (he : ws[q0]? = some (a, .inr (7, fs))) {v : Value} (hn : narrow (.array .int) v = v) (hfit : fits (.array .int) v = true) (hl : 23 < fs.length) (hdg : decode cc pc = .ok (.putfield 67, 3)) (kk : ∀ (H1 : Heap) (locs1 : List Loc), va_P D kls (ws.set q0 (a, .inr (7, fs.set 23 v))) H1 → va_D A (ws.set q0 (a, .inr (7, fs.set 23 v))) → va_S A H0 H1 locs1 → W p l e R s m args below meth c H1 locs1 cells slots Q (F0 m (pc + 3) ls rest)) : W p l e R s m args below meth c H locs cells slots Q (F0 m pc ls (v :: .ref a :: rest)) := va_putF hx hb hg in_md t_md t_md_ok n_md hown hK hP hD hS q0 he rfl 23 (by decide) (hg _ kw_512) (fun _ h => h) rfl hi rfl (t_md_ok 23 (by decide)) hn hfit hl hdg kk
theorem gf_md_7 {p : Program} {l : Launch} {e : Env} {R : Room} {s : State} {m : MethodId} {args : Array Value} {below : List Frame} {meth : Method} {c : Code} {H : Heap} {locs : List Loc} {cells slots : Nat} {Q : State → Prop} {cc : ByteArray} {pc : Nat} {ls : Array Slot} {rest : List Value} {D : va_G} {tys : List (ClassId × FieldType)} {ws : va_W} {a : Nat} (hx : p.tables.exec = Jvm.exec) (hb : c.code = cc) (hg : ∀ w ∈ gw, w.before args s = true) (hown : s.vm.findClass R_md = some m.cls) (hK : va_K D kls tys s) (hP : va_P D kls ws H) (q0 : Nat) {fs : List Value} (he : ws[q0]? = some (a, .inr (7, fs))) {v : Value} (hv : fs[0]? = some v) (hdg : decode cc pc = .ok (.getfield 7, 3)) (kk : W p l e R s m args below meth c H locs cells slots Q (F0 m (pc + 3) ls (v :: rest))) : W p l e R s m args below meth c H locs cells slots Q (F0 m pc ls (.ref a :: rest)) := va_get hx hb hg in_md hown hK hP q0 he rfl 0 (by decide) (hg _ kw_489) (fun _ h => h) hv hdg kk
theorem pf_md_7 {p : Program} {l : Launch} {e : Env} {R : Room} {s : State} {m : MethodId} {args : Array Value} {below : List Frame} {meth : Method} {c : Code} {H H0 : Heap} {locs : List Loc} {cells slots : Nat} {Q : State → Prop} {cc : ByteArray} {pc : Nat} {ls : Array Slot} {rest : List Value} {D : va_G} {tys : List (ClassId × FieldType)} {ws : va_W} {a : Nat} {A : Nat → Prop} (hx : p.tables.exec = Jvm.exec) (hb : c.code = cc) (hg : ∀ w ∈ gw, w.before args s = true) (hown : s.vm.findClass R_md = some m.cls) (hK : va_K D kls tys s) (hP : va_P D kls ws H) (hD : va_D A ws) (hS : va_S A H0 H locs) (q0 : Nat) {fs : List Value} (he : ws[q0]? = some (a, .inr (7, fs))) {v : Value} (hn : narrow .int v = v) (hfit : fits .int v = true) (hl : 0 < fs.length) (hdg : decode cc pc = .ok (.putfield 7, 3)) (kk : ∀ (H1 : Heap) (locs1 : List Loc), va_P D kls (ws.set q0 (a, .inr (7, fs.set 0 v))) H1 → va_D A (ws.set q0 (a, .inr (7, fs.set 0 v))) → va_S A H0 H1 locs1 → W p l e R s m args below meth c H1 locs1 cells slots Q (F0 m (pc + 3) ls rest)) : W p l e R s m args below meth c H locs cells slots Q (F0 m pc ls (v :: .ref a :: rest)) := va_put hx hb hg in_md t_md t_md_ok n_md hown hK hP hD hS q0 he rfl 0 (by decide) (hg _ kw_489) (fun _ h => h) rfl (t_md_ok 0 (by decide)) hn hfit hl hdg kk
theorem gf_md_70 {p : Program} {l : Launch} {e : Env} {R : Room} {s : State} {m : MethodId} {args : Array Value} {below : List Frame} {meth : Method} {c : Code} {H : Heap} {locs : List Loc} {cells slots : Nat} {Q : State → Prop} {cc : ByteArray} {pc : Nat} {ls : Array Slot} {rest : List Value} {D : va_G} {tys : List (ClassId × FieldType)} {ws : va_W} {a : Nat} (hx : p.tables.exec = Jvm.exec) (hb : c.code = cc) (hg : ∀ w ∈ gw, w.before args s = true) (hown : s.vm.findClass R_md = some m.cls) (hK : va_K D kls tys s) (hP : va_P D kls ws H) (q0 : Nat) {fs : List Value} (he : ws[q0]? = some (a, .inr (7, fs))) {v : Value} (hv : fs[24]? = some v) (hdg : decode cc pc = .ok (.getfield 70, 3)) (kk : W p l e R s m args below meth c H locs cells slots Q (F0 m (pc + 3) ls (v :: rest))) : W p l e R s m args below meth c H locs cells slots Q (F0 m pc ls (.ref a :: rest)) := va_get hx hb hg in_md hown hK hP q0 he rfl 24 (by decide) (hg _ kw_513) (fun _ h => h) hv hdg kk
theorem pf_md_70 {p : Program} {l : Launch} {e : Env} {R : Room} {s : State} {m : MethodId} {args : Array Value} {below : List Frame} {meth : Method} {c : Code} {H H0 : Heap} {locs : List Loc} {cells slots : Nat} {Q : State → Prop} {cc : ByteArray} {pc : Nat} {ls : Array Slot} {rest : List Value} {D : va_G} {tys : List (ClassId × FieldType)} {ws : va_W} {a : Nat} {A : Nat → Prop} (hx : p.tables.exec = Jvm.exec) (hb : c.code = cc) (hg : ∀ w ∈ gw, w.before args s = true) (hown : s.vm.findClass R_md = some m.cls) (hi : meth.name = "<init>") (hK : va_K D kls tys s) (hP : va_P D kls ws H) (hD : va_D A ws) (hS : va_S A H0 H locs) (q0 : Nat) {fs : List Value} (he : ws[q0]? = some (a, .inr (7, fs))) {v : Value} (hn : narrow (.array .int) v = v) (hfit : fits (.array .int) v = true) (hl : 24 < fs.length) (hdg : decode cc pc = .ok (.putfield 70, 3)) (kk : ∀ (H1 : Heap) (locs1 : List Loc), va_P D kls (ws.set q0 (a, .inr (7, fs.set 24 v))) H1 → va_D A (ws.set q0 (a, .inr (7, fs.set 24 v))) → va_S A H0 H1 locs1 → W p l e R s m args below meth c H1 locs1 cells slots Q (F0 m (pc + 3) ls rest)) : W p l e R s m args below meth c H locs cells slots Q (F0 m pc ls (v :: .ref a :: rest)) := va_putF hx hb hg in_md t_md t_md_ok n_md hown hK hP hD hS q0 he rfl 24 (by decide) (hg _ kw_513) (fun _ h => h) rfl hi rfl (t_md_ok 24 (by decide)) hn hfit hl hdg kk
theorem gf_md_73 {p : Program} {l : Launch} {e : Env} {R : Room} {s : State} {m : MethodId} {args : Array Value} {below : List Frame} {meth : Method} {c : Code} {H : Heap} {locs : List Loc} {cells slots : Nat} {Q : State → Prop} {cc : ByteArray} {pc : Nat} {ls : Array Slot} {rest : List Value} {D : va_G} {tys : List (ClassId × FieldType)} {ws : va_W} {a : Nat} (hx : p.tables.exec = Jvm.exec) (hb : c.code = cc) (hg : ∀ w ∈ gw, w.before args s = true) (hown : s.vm.findClass R_md = some m.cls) (hK : va_K D kls tys s) (hP : va_P D kls ws H) (q0 : Nat) {fs : List Value} (he : ws[q0]? = some (a, .inr (7, fs))) {v : Value} (hv : fs[25]? = some v) (hdg : decode cc pc = .ok (.getfield 73, 3)) (kk : W p l e R s m args below meth c H locs cells slots Q (F0 m (pc + 3) ls (v :: rest))) : W p l e R s m args below meth c H locs cells slots Q (F0 m pc ls (.ref a :: rest)) := va_get hx hb hg in_md hown hK hP q0 he rfl 25 (by decide) (hg _ kw_514) (fun _ h => h) hv hdg kk
theorem pf_md_73 {p : Program} {l : Launch} {e : Env} {R : Room} {s : State} {m : MethodId} {args : Array Value} {below : List Frame} {meth : Method} {c : Code} {H H0 : Heap} {locs : List Loc} {cells slots : Nat} {Q : State → Prop} {cc : ByteArray} {pc : Nat} {ls : Array Slot} {rest : List Value} {D : va_G} {tys : List (ClassId × FieldType)} {ws : va_W} {a : Nat} {A : Nat → Prop} (hx : p.tables.exec = Jvm.exec) (hb : c.code = cc) (hg : ∀ w ∈ gw, w.before args s = true) (hown : s.vm.findClass R_md = some m.cls) (hi : meth.name = "<init>") (hK : va_K D kls tys s) (hP : va_P D kls ws H) (hD : va_D A ws) (hS : va_S A H0 H locs) (q0 : Nat) {fs : List Value} (he : ws[q0]? = some (a, .inr (7, fs))) {v : Value} (hn : narrow (.array .int) v = v) (hfit : fits (.array .int) v = true) (hl : 25 < fs.length) (hdg : decode cc pc = .ok (.putfield 73, 3)) (kk : ∀ (H1 : Heap) (locs1 : List Loc), va_P D kls (ws.set q0 (a, .inr (7, fs.set 25 v))) H1 → va_D A (ws.set q0 (a, .inr (7, fs.set 25 v))) → va_S A H0 H1 locs1 → W p l e R s m args below meth c H1 locs1 cells slots Q (F0 m (pc + 3) ls rest)) : W p l e R s m args below meth c H locs cells slots Q (F0 m pc ls (v :: .ref a :: rest)) := va_putF hx hb hg in_md t_md t_md_ok n_md hown hK hP hD hS q0 he rfl 25 (by decide) (hg _ kw_514) (fun _ h => h) rfl hi rfl (t_md_ok 25 (by decide)) hn hfit hl hdg kk
theorem gf_md_76 {p : Program} {l : Launch} {e : Env} {R : Room} {s : State} {m : MethodId} {args : Array Value} {below : List Frame} {meth : Method} {c : Code} {H : Heap} {locs : List Loc} {cells slots : Nat} {Q : State → Prop} {cc : ByteArray} {pc : Nat} {ls : Array Slot} {rest : List Value} {D : va_G} {tys : List (ClassId × FieldType)} {ws : va_W} {a : Nat} (hx : p.tables.exec = Jvm.exec) (hb : c.code = cc) (hg : ∀ w ∈ gw, w.before args s = true) (hown : s.vm.findClass R_md = some m.cls) (hK : va_K D kls tys s) (hP : va_P D kls ws H) (q0 : Nat) {fs : List Value} (he : ws[q0]? = some (a, .inr (7, fs))) {v : Value} (hv : fs[26]? = some v) (hdg : decode cc pc = .ok (.getfield 76, 3)) (kk : W p l e R s m args below meth c H locs cells slots Q (F0 m (pc + 3) ls (v :: rest))) : W p l e R s m args below meth c H locs cells slots Q (F0 m pc ls (.ref a :: rest)) := va_get hx hb hg in_md hown hK hP q0 he rfl 26 (by decide) (hg _ kw_515) (fun _ h => h) hv hdg kk
theorem pf_md_76 {p : Program} {l : Launch} {e : Env} {R : Room} {s : State} {m : MethodId} {args : Array Value} {below : List Frame} {meth : Method} {c : Code} {H H0 : Heap} {locs : List Loc} {cells slots : Nat} {Q : State → Prop} {cc : ByteArray} {pc : Nat} {ls : Array Slot} {rest : List Value} {D : va_G} {tys : List (ClassId × FieldType)} {ws : va_W} {a : Nat} {A : Nat → Prop} (hx : p.tables.exec = Jvm.exec) (hb : c.code = cc) (hg : ∀ w ∈ gw, w.before args s = true) (hown : s.vm.findClass R_md = some m.cls) (hi : meth.name = "<init>") (hK : va_K D kls tys s) (hP : va_P D kls ws H) (hD : va_D A ws) (hS : va_S A H0 H locs) (q0 : Nat) {fs : List Value} (he : ws[q0]? = some (a, .inr (7, fs))) {v : Value} (hn : narrow (.array .int) v = v) (hfit : fits (.array .int) v = true) (hl : 26 < fs.length) (hdg : decode cc pc = .ok (.putfield 76, 3)) (kk : ∀ (H1 : Heap) (locs1 : List Loc), va_P D kls (ws.set q0 (a, .inr (7, fs.set 26 v))) H1 → va_D A (ws.set q0 (a, .inr (7, fs.set 26 v))) → va_S A H0 H1 locs1 → W p l e R s m args below meth c H1 locs1 cells slots Q (F0 m (pc + 3) ls rest)) : W p l e R s m args below meth c H locs cells slots Q (F0 m pc ls (v :: .ref a :: rest)) := va_putF hx hb hg in_md t_md t_md_ok n_md hown hK hP hD hS q0 he rfl 26 (by decide) (hg _ kw_515) (fun _ h => h) rfl hi rfl (t_md_ok 26 (by decide)) hn hfit hl hdg kk
theorem gf_md_79 {p : Program} {l : Launch} {e : Env} {R : Room} {s : State} {m : MethodId} {args : Array Value} {below : List Frame} {meth : Method} {c : Code} {H : Heap} {locs : List Loc} {cells slots : Nat} {Q : State → Prop} {cc : ByteArray} {pc : Nat} {ls : Array Slot} {rest : List Value} {D : va_G} {tys : List (ClassId × FieldType)} {ws : va_W} {a : Nat} (hx : p.tables.exec = Jvm.exec) (hb : c.code = cc) (hg : ∀ w ∈ gw, w.before args s = true) (hown : s.vm.findClass R_md = some m.cls) (hK : va_K D kls tys s) (hP : va_P D kls ws H) (q0 : Nat) {fs : List Value} (he : ws[q0]? = some (a, .inr (7, fs))) {v : Value} (hv : fs[27]? = some v) (hdg : decode cc pc = .ok (.getfield 79, 3)) (kk : W p l e R s m args below meth c H locs cells slots Q (F0 m (pc + 3) ls (v :: rest))) : W p l e R s m args below meth c H locs cells slots Q (F0 m pc ls (.ref a :: rest)) := va_get hx hb hg in_md hown hK hP q0 he rfl 27 (by decide) (hg _ kw_516) (fun _ h => h) hv hdg kk
theorem pf_md_79 {p : Program} {l : Launch} {e : Env} {R : Room} {s : State} {m : MethodId} {args : Array Value} {below : List Frame} {meth : Method} {c : Code} {H H0 : Heap} {locs : List Loc} {cells slots : Nat} {Q : State → Prop} {cc : ByteArray} {pc : Nat} {ls : Array Slot} {rest : List Value} {D : va_G} {tys : List (ClassId × FieldType)} {ws : va_W} {a : Nat} {A : Nat → Prop} (hx : p.tables.exec = Jvm.exec) (hb : c.code = cc) (hg : ∀ w ∈ gw, w.before args s = true) (hown : s.vm.findClass R_md = some m.cls) (hi : meth.name = "<init>") (hK : va_K D kls tys s) (hP : va_P D kls ws H) (hD : va_D A ws) (hS : va_S A H0 H locs) (q0 : Nat) {fs : List Value} (he : ws[q0]? = some (a, .inr (7, fs))) {v : Value} (hn : narrow (.array .long) v = v) (hfit : fits (.array .long) v = true) (hl : 27 < fs.length) (hdg : decode cc pc = .ok (.putfield 79, 3)) (kk : ∀ (H1 : Heap) (locs1 : List Loc), va_P D kls (ws.set q0 (a, .inr (7, fs.set 27 v))) H1 → va_D A (ws.set q0 (a, .inr (7, fs.set 27 v))) → va_S A H0 H1 locs1 → W p l e R s m args below meth c H1 locs1 cells slots Q (F0 m (pc + 3) ls rest)) : W p l e R s m args below meth c H locs cells slots Q (F0 m pc ls (v :: .ref a :: rest)) := va_putF hx hb hg in_md t_md t_md_ok n_md hown hK hP hD hS q0 he rfl 27 (by decide) (hg _ kw_516) (fun _ h => h) rfl hi rfl (t_md_ok 27 (by decide)) hn hfit hl hdg kk
theorem gf_md_83 {p : Program} {l : Launch} {e : Env} {R : Room} {s : State} {m : MethodId} {args : Array Value} {below : List Frame} {meth : Method} {c : Code} {H : Heap} {locs : List Loc} {cells slots : Nat} {Q : State → Prop} {cc : ByteArray} {pc : Nat} {ls : Array Slot} {rest : List Value} {D : va_G} {tys : List (ClassId × FieldType)} {ws : va_W} {a : Nat} (hx : p.tables.exec = Jvm.exec) (hb : c.code = cc) (hg : ∀ w ∈ gw, w.before args s = true) (hown : s.vm.findClass R_md = some m.cls) (hK : va_K D kls tys s) (hP : va_P D kls ws H) (q0 : Nat) {fs : List Value} (he : ws[q0]? = some (a, .inr (7, fs))) {v : Value} (hv : fs[28]? = some v) (hdg : decode cc pc = .ok (.getfield 83, 3)) (kk : W p l e R s m args below meth c H locs cells slots Q (F0 m (pc + 3) ls (v :: rest))) : W p l e R s m args below meth c H locs cells slots Q (F0 m pc ls (.ref a :: rest)) := va_get hx hb hg in_md hown hK hP q0 he rfl 28 (by decide) (hg _ kw_517) (fun _ h => h) hv hdg kk
theorem pf_md_83 {p : Program} {l : Launch} {e : Env} {R : Room} {s : State} {m : MethodId} {args : Array Value} {below : List Frame} {meth : Method} {c : Code} {H H0 : Heap} {locs : List Loc} {cells slots : Nat} {Q : State → Prop} {cc : ByteArray} {pc : Nat} {ls : Array Slot} {rest : List Value} {D : va_G} {tys : List (ClassId × FieldType)} {ws : va_W} {a : Nat} {A : Nat → Prop} (hx : p.tables.exec = Jvm.exec) (hb : c.code = cc) (hg : ∀ w ∈ gw, w.before args s = true) (hown : s.vm.findClass R_md = some m.cls) (hi : meth.name = "<init>") (hK : va_K D kls tys s) (hP : va_P D kls ws H) (hD : va_D A ws) (hS : va_S A H0 H locs) (q0 : Nat) {fs : List Value} (he : ws[q0]? = some (a, .inr (7, fs))) {v : Value} (hn : narrow (.array .long) v = v) (hfit : fits (.array .long) v = true) (hl : 28 < fs.length) (hdg : decode cc pc = .ok (.putfield 83, 3)) (kk : ∀ (H1 : Heap) (locs1 : List Loc), va_P D kls (ws.set q0 (a, .inr (7, fs.set 28 v))) H1 → va_D A (ws.set q0 (a, .inr (7, fs.set 28 v))) → va_S A H0 H1 locs1 → W p l e R s m args below meth c H1 locs1 cells slots Q (F0 m (pc + 3) ls rest)) : W p l e R s m args below meth c H locs cells slots Q (F0 m pc ls (v :: .ref a :: rest)) := va_putF hx hb hg in_md t_md t_md_ok n_md hown hK hP hD hS q0 he rfl 28 (by decide) (hg _ kw_517) (fun _ h => h) rfl hi rfl (t_md_ok 28 (by decide)) hn hfit hl hdg kk
theorem gf_md_86 {p : Program} {l : Launch} {e : Env} {R : Room} {s : State} {m : MethodId} {args : Array Value} {below : List Frame} {meth : Method} {c : Code} {H : Heap} {locs : List Loc} {cells slots : Nat} {Q : State → Prop} {cc : ByteArray} {pc : Nat} {ls : Array Slot} {rest : List Value} {D : va_G} {tys : List (ClassId × FieldType)} {ws : va_W} {a : Nat} (hx : p.tables.exec = Jvm.exec) (hb : c.code = cc) (hg : ∀ w ∈ gw, w.before args s = true) (hown : s.vm.findClass R_md = some m.cls) (hK : va_K D kls tys s) (hP : va_P D kls ws H) (q0 : Nat) {fs : List Value} (he : ws[q0]? = some (a, .inr (7, fs))) {v : Value} (hv : fs[3]? = some v) (hdg : decode cc pc = .ok (.getfield 86, 3)) (kk : W p l e R s m args below meth c H locs cells slots Q (F0 m (pc + 3) ls (v :: rest))) : W p l e R s m args below meth c H locs cells slots Q (F0 m pc ls (.ref a :: rest)) := va_get hx hb hg in_md hown hK hP q0 he rfl 3 (by decide) (hg _ kw_492) (fun _ h => h) hv hdg kk
theorem pf_md_86 {p : Program} {l : Launch} {e : Env} {R : Room} {s : State} {m : MethodId} {args : Array Value} {below : List Frame} {meth : Method} {c : Code} {H H0 : Heap} {locs : List Loc} {cells slots : Nat} {Q : State → Prop} {cc : ByteArray} {pc : Nat} {ls : Array Slot} {rest : List Value} {D : va_G} {tys : List (ClassId × FieldType)} {ws : va_W} {a : Nat} {A : Nat → Prop} (hx : p.tables.exec = Jvm.exec) (hb : c.code = cc) (hg : ∀ w ∈ gw, w.before args s = true) (hown : s.vm.findClass R_md = some m.cls) (hK : va_K D kls tys s) (hP : va_P D kls ws H) (hD : va_D A ws) (hS : va_S A H0 H locs) (q0 : Nat) {fs : List Value} (he : ws[q0]? = some (a, .inr (7, fs))) {v : Value} (hn : narrow .int v = v) (hfit : fits .int v = true) (hl : 3 < fs.length) (hdg : decode cc pc = .ok (.putfield 86, 3)) (kk : ∀ (H1 : Heap) (locs1 : List Loc), va_P D kls (ws.set q0 (a, .inr (7, fs.set 3 v))) H1 → va_D A (ws.set q0 (a, .inr (7, fs.set 3 v))) → va_S A H0 H1 locs1 → W p l e R s m args below meth c H1 locs1 cells slots Q (F0 m (pc + 3) ls rest)) : W p l e R s m args below meth c H locs cells slots Q (F0 m pc ls (v :: .ref a :: rest)) := va_put hx hb hg in_md t_md t_md_ok n_md hown hK hP hD hS q0 he rfl 3 (by decide) (hg _ kw_492) (fun _ h => h) rfl (t_md_ok 3 (by decide)) hn hfit hl hdg kk
theorem gf_md_89 {p : Program} {l : Launch} {e : Env} {R : Room} {s : State} {m : MethodId} {args : Array Value} {below : List Frame} {meth : Method} {c : Code} {H : Heap} {locs : List Loc} {cells slots : Nat} {Q : State → Prop} {cc : ByteArray} {pc : Nat} {ls : Array Slot} {rest : List Value} {D : va_G} {tys : List (ClassId × FieldType)} {ws : va_W} {a : Nat} (hx : p.tables.exec = Jvm.exec) (hb : c.code = cc) (hg : ∀ w ∈ gw, w.before args s = true) (hown : s.vm.findClass R_md = some m.cls) (hK : va_K D kls tys s) (hP : va_P D kls ws H) (q0 : Nat) {fs : List Value} (he : ws[q0]? = some (a, .inr (7, fs))) {v : Value} (hv : fs[20]? = some v) (hdg : decode cc pc = .ok (.getfield 89, 3)) (kk : W p l e R s m args below meth c H locs cells slots Q (F0 m (pc + 3) ls (v :: rest))) : W p l e R s m args below meth c H locs cells slots Q (F0 m pc ls (.ref a :: rest)) := va_get hx hb hg in_md hown hK hP q0 he rfl 20 (by decide) (hg _ kw_509) (fun _ h => h) hv hdg kk
theorem pf_md_89 {p : Program} {l : Launch} {e : Env} {R : Room} {s : State} {m : MethodId} {args : Array Value} {below : List Frame} {meth : Method} {c : Code} {H H0 : Heap} {locs : List Loc} {cells slots : Nat} {Q : State → Prop} {cc : ByteArray} {pc : Nat} {ls : Array Slot} {rest : List Value} {D : va_G} {tys : List (ClassId × FieldType)} {ws : va_W} {a : Nat} {A : Nat → Prop} (hx : p.tables.exec = Jvm.exec) (hb : c.code = cc) (hg : ∀ w ∈ gw, w.before args s = true) (hown : s.vm.findClass R_md = some m.cls) (hK : va_K D kls tys s) (hP : va_P D kls ws H) (hD : va_D A ws) (hS : va_S A H0 H locs) (q0 : Nat) {fs : List Value} (he : ws[q0]? = some (a, .inr (7, fs))) {v : Value} (hn : narrow .boolean v = v) (hfit : fits .boolean v = true) (hl : 20 < fs.length) (hdg : decode cc pc = .ok (.putfield 89, 3)) (kk : ∀ (H1 : Heap) (locs1 : List Loc), va_P D kls (ws.set q0 (a, .inr (7, fs.set 20 v))) H1 → va_D A (ws.set q0 (a, .inr (7, fs.set 20 v))) → va_S A H0 H1 locs1 → W p l e R s m args below meth c H1 locs1 cells slots Q (F0 m (pc + 3) ls rest)) : W p l e R s m args below meth c H locs cells slots Q (F0 m pc ls (v :: .ref a :: rest)) := va_put hx hb hg in_md t_md t_md_ok n_md hown hK hP hD hS q0 he rfl 20 (by decide) (hg _ kw_509) (fun _ h => h) rfl (t_md_ok 20 (by decide)) hn hfit hl hdg kk
theorem gv_md_93 : GoodIn gw (wsV R_md 93 R_md y_md_size w_md_size) := gd_V kw_593 kw_595 ks_md_size kw_8 kw_596
theorem gv_md_97 : GoodIn gw (wsV R_md 97 R_md y_md_isCell w_md_isCell) := gd_V kw_601 kw_603 ks_md_isCell kw_8 kw_604
theorem gv_mr_102 : GoodIn gw (wsV R_mr 102 R_pn y_pn_costOf w_pn_costOf) := gd_V kw_410 kw_411 kw_412 kw_4 kw_413
theorem gv_mr_105 : GoodIn gw (wsV R_mr 105 R_pn y_pn_placeOf w_pn_placeOf) := gd_V kw_418 kw_419 kw_420 kw_4 kw_421
theorem gv_mr_108 : GoodIn gw (wsV R_mr 108 R_ld y_ld_tell w_ld_tell) := gd_V kw_429 kw_430 kw_431 kw_6 kw_432
theorem gl_mr_11 : (Cond.methodLink R_mr 11 y_fl_init) ∈ gw := kw_21
theorem gm_mr_11 : (Cond.instanceMethod y_fl_init) ∈ gw := kw_22
theorem gi_mr_11 : (Cond.initialized y_fl_init.cls) ∈ gw := kw_2
theorem gg_mr_11 : GoodIn gw w_fl_init := gd_c kw_23
theorem gv_mr_112 : GoodIn gw (wsV R_mr 112 R_vd y_vd_seek w_vd_seek) := gd_V kw_441 kw_442 kw_443 kw_7 kw_444
theorem gf_mr_115 {p : Program} {l : Launch} {e : Env} {R : Room} {s : State} {m : MethodId} {args : Array Value} {below : List Frame} {meth : Method} {c : Code} {H : Heap} {locs : List Loc} {cells slots : Nat} {Q : State → Prop} {cc : ByteArray} {pc : Nat} {ls : Array Slot} {rest : List Value} {D : va_G} {tys : List (ClassId × FieldType)} {ws : va_W} {a : Nat} (hx : p.tables.exec = Jvm.exec) (hb : c.code = cc) (hg : ∀ w ∈ gw, w.before args s = true) (hown : s.vm.findClass R_mr = some m.cls) (hK : va_K D kls tys s) (hP : va_P D kls ws H) (q0 : Nat) {fs : List Value} (he : ws[q0]? = some (a, .inr (5, fs))) {v : Value} (hv : fs[3]? = some v) (hdg : decode cc pc = .ok (.getfield 115, 3)) (kk : W p l e R s m args below meth c H locs cells slots Q (F0 m (pc + 3) ls (v :: rest))) : W p l e R s m args below meth c H locs cells slots Q (F0 m pc ls (.ref a :: rest)) := va_get hx hb hg in_vd hown hK hP q0 he rfl 3 (by decide) (hg _ kw_202) (fun _ h => h) hv hdg kk
theorem gf_mr_118 {p : Program} {l : Launch} {e : Env} {R : Room} {s : State} {m : MethodId} {args : Array Value} {below : List Frame} {meth : Method} {c : Code} {H : Heap} {locs : List Loc} {cells slots : Nat} {Q : State → Prop} {cc : ByteArray} {pc : Nat} {ls : Array Slot} {rest : List Value} {D : va_G} {tys : List (ClassId × FieldType)} {ws : va_W} {a : Nat} (hx : p.tables.exec = Jvm.exec) (hb : c.code = cc) (hg : ∀ w ∈ gw, w.before args s = true) (hown : s.vm.findClass R_mr = some m.cls) (hK : va_K D kls tys s) (hP : va_P D kls ws H) (q0 : Nat) {fs : List Value} (he : ws[q0]? = some (a, .inr (5, fs))) {v : Value} (hv : fs[4]? = some v) (hdg : decode cc pc = .ok (.getfield 118, 3)) (kk : W p l e R s m args below meth c H locs cells slots Q (F0 m (pc + 3) ls (v :: rest))) : W p l e R s m args below meth c H locs cells slots Q (F0 m pc ls (.ref a :: rest)) := va_get hx hb hg in_vd hown hK hP q0 he rfl 4 (by decide) (hg _ kw_204) (fun _ h => h) hv hdg kk
theorem gf_mr_12 {p : Program} {l : Launch} {e : Env} {R : Room} {s : State} {m : MethodId} {args : Array Value} {below : List Frame} {meth : Method} {c : Code} {H : Heap} {locs : List Loc} {cells slots : Nat} {Q : State → Prop} {cc : ByteArray} {pc : Nat} {ls : Array Slot} {rest : List Value} {D : va_G} {tys : List (ClassId × FieldType)} {ws : va_W} {a : Nat} (hx : p.tables.exec = Jvm.exec) (hb : c.code = cc) (hg : ∀ w ∈ gw, w.before args s = true) (hown : s.vm.findClass R_mr = some m.cls) (hK : va_K D kls tys s) (hP : va_P D kls ws H) (q0 : Nat) {fs : List Value} (he : ws[q0]? = some (a, .inr (6, fs))) {v : Value} (hv : fs[0]? = some v) (hdg : decode cc pc = .ok (.getfield 12, 3)) (kk : W p l e R s m args below meth c H locs cells slots Q (F0 m (pc + 3) ls (v :: rest))) : W p l e R s m args below meth c H locs cells slots Q (F0 m pc ls (.ref a :: rest)) := va_get hx hb hg in_mr hown hK hP q0 he rfl 0 (by decide) (hg _ kw_224) (fun _ h => h) hv hdg kk
theorem pf_mr_12 {p : Program} {l : Launch} {e : Env} {R : Room} {s : State} {m : MethodId} {args : Array Value} {below : List Frame} {meth : Method} {c : Code} {H H0 : Heap} {locs : List Loc} {cells slots : Nat} {Q : State → Prop} {cc : ByteArray} {pc : Nat} {ls : Array Slot} {rest : List Value} {D : va_G} {tys : List (ClassId × FieldType)} {ws : va_W} {a : Nat} {A : Nat → Prop} (hx : p.tables.exec = Jvm.exec) (hb : c.code = cc) (hg : ∀ w ∈ gw, w.before args s = true) (hown : s.vm.findClass R_mr = some m.cls) (hi : meth.name = "<init>") (hK : va_K D kls tys s) (hP : va_P D kls ws H) (hD : va_D A ws) (hS : va_S A H0 H locs) (q0 : Nat) {fs : List Value} (he : ws[q0]? = some (a, .inr (6, fs))) {v : Value} (hn : narrow (.object "MoverRoom$Floor") v = v) (hfit : fits (.object "MoverRoom$Floor") v = true) (hl : 0 < fs.length) (hdg : decode cc pc = .ok (.putfield 12, 3)) (kk : ∀ (H1 : Heap) (locs1 : List Loc), va_P D kls (ws.set q0 (a, .inr (6, fs.set 0 v))) H1 → va_D A (ws.set q0 (a, .inr (6, fs.set 0 v))) → va_S A H0 H1 locs1 → W p l e R s m args below meth c H1 locs1 cells slots Q (F0 m (pc + 3) ls rest)) : W p l e R s m args below meth c H locs cells slots Q (F0 m pc ls (v :: .ref a :: rest)) := va_putF hx hb hg in_mr t_mr t_mr_ok n_mr hown hK hP hD hS q0 he rfl 0 (by decide) (hg _ kw_224) (fun _ h => h) rfl hi rfl (t_mr_ok 0 (by decide)) hn hfit hl hdg kk
theorem gf_mr_121 {p : Program} {l : Launch} {e : Env} {R : Room} {s : State} {m : MethodId} {args : Array Value} {below : List Frame} {meth : Method} {c : Code} {H : Heap} {locs : List Loc} {cells slots : Nat} {Q : State → Prop} {cc : ByteArray} {pc : Nat} {ls : Array Slot} {rest : List Value} {D : va_G} {tys : List (ClassId × FieldType)} {ws : va_W} {a : Nat} (hx : p.tables.exec = Jvm.exec) (hb : c.code = cc) (hg : ∀ w ∈ gw, w.before args s = true) (hown : s.vm.findClass R_mr = some m.cls) (hK : va_K D kls tys s) (hP : va_P D kls ws H) (q0 : Nat) {fs : List Value} (he : ws[q0]? = some (a, .inr (5, fs))) {v : Value} (hv : fs[5]? = some v) (hdg : decode cc pc = .ok (.getfield 121, 3)) (kk : W p l e R s m args below meth c H locs cells slots Q (F0 m (pc + 3) ls (v :: rest))) : W p l e R s m args below meth c H locs cells slots Q (F0 m pc ls (.ref a :: rest)) := va_get hx hb hg in_vd hown hK hP q0 he rfl 5 (by decide) (hg _ kw_206) (fun _ h => h) hv hdg kk
theorem gf_mr_124 {p : Program} {l : Launch} {e : Env} {R : Room} {s : State} {m : MethodId} {args : Array Value} {below : List Frame} {meth : Method} {c : Code} {H : Heap} {locs : List Loc} {cells slots : Nat} {Q : State → Prop} {cc : ByteArray} {pc : Nat} {ls : Array Slot} {rest : List Value} {D : va_G} {tys : List (ClassId × FieldType)} {ws : va_W} {a : Nat} (hx : p.tables.exec = Jvm.exec) (hb : c.code = cc) (hg : ∀ w ∈ gw, w.before args s = true) (hown : s.vm.findClass R_mr = some m.cls) (hK : va_K D kls tys s) (hP : va_P D kls ws H) (q0 : Nat) {fs : List Value} (he : ws[q0]? = some (a, .inr (5, fs))) {v : Value} (hv : fs[6]? = some v) (hdg : decode cc pc = .ok (.getfield 124, 3)) (kk : W p l e R s m args below meth c H locs cells slots Q (F0 m (pc + 3) ls (v :: rest))) : W p l e R s m args below meth c H locs cells slots Q (F0 m pc ls (.ref a :: rest)) := va_get hx hb hg in_vd hown hK hP q0 he rfl 6 (by decide) (hg _ kw_208) (fun _ h => h) hv hdg kk
theorem gc_mr_16 : (Cond.classLink R_mr 16 R_cr) ∈ gw := kw_82
theorem gl_mr_18 : (Cond.methodLink R_mr 18 y_cr_init) ∈ gw := kw_84
theorem gm_mr_18 : (Cond.instanceMethod y_cr_init) ∈ gw := kw_85
theorem gi_mr_18 : (Cond.initialized y_cr_init.cls) ∈ gw := kw_3
theorem gg_mr_18 : GoodIn gw w_cr_init := gd_c kw_86
theorem gf_mr_21 {p : Program} {l : Launch} {e : Env} {R : Room} {s : State} {m : MethodId} {args : Array Value} {below : List Frame} {meth : Method} {c : Code} {H : Heap} {locs : List Loc} {cells slots : Nat} {Q : State → Prop} {cc : ByteArray} {pc : Nat} {ls : Array Slot} {rest : List Value} {D : va_G} {tys : List (ClassId × FieldType)} {ws : va_W} {a : Nat} (hx : p.tables.exec = Jvm.exec) (hb : c.code = cc) (hg : ∀ w ∈ gw, w.before args s = true) (hown : s.vm.findClass R_mr = some m.cls) (hK : va_K D kls tys s) (hP : va_P D kls ws H) (q0 : Nat) {fs : List Value} (he : ws[q0]? = some (a, .inr (6, fs))) {v : Value} (hv : fs[1]? = some v) (hdg : decode cc pc = .ok (.getfield 21, 3)) (kk : W p l e R s m args below meth c H locs cells slots Q (F0 m (pc + 3) ls (v :: rest))) : W p l e R s m args below meth c H locs cells slots Q (F0 m pc ls (.ref a :: rest)) := va_get hx hb hg in_mr hown hK hP q0 he rfl 1 (by decide) (hg _ kw_225) (fun _ h => h) hv hdg kk
theorem pf_mr_21 {p : Program} {l : Launch} {e : Env} {R : Room} {s : State} {m : MethodId} {args : Array Value} {below : List Frame} {meth : Method} {c : Code} {H H0 : Heap} {locs : List Loc} {cells slots : Nat} {Q : State → Prop} {cc : ByteArray} {pc : Nat} {ls : Array Slot} {rest : List Value} {D : va_G} {tys : List (ClassId × FieldType)} {ws : va_W} {a : Nat} {A : Nat → Prop} (hx : p.tables.exec = Jvm.exec) (hb : c.code = cc) (hg : ∀ w ∈ gw, w.before args s = true) (hown : s.vm.findClass R_mr = some m.cls) (hi : meth.name = "<init>") (hK : va_K D kls tys s) (hP : va_P D kls ws H) (hD : va_D A ws) (hS : va_S A H0 H locs) (q0 : Nat) {fs : List Value} (he : ws[q0]? = some (a, .inr (6, fs))) {v : Value} (hn : narrow (.object "MoverRoom$Crew") v = v) (hfit : fits (.object "MoverRoom$Crew") v = true) (hl : 1 < fs.length) (hdg : decode cc pc = .ok (.putfield 21, 3)) (kk : ∀ (H1 : Heap) (locs1 : List Loc), va_P D kls (ws.set q0 (a, .inr (6, fs.set 1 v))) H1 → va_D A (ws.set q0 (a, .inr (6, fs.set 1 v))) → va_S A H0 H1 locs1 → W p l e R s m args below meth c H1 locs1 cells slots Q (F0 m (pc + 3) ls rest)) : W p l e R s m args below meth c H locs cells slots Q (F0 m pc ls (v :: .ref a :: rest)) := va_putF hx hb hg in_mr t_mr t_mr_ok n_mr hown hK hP hD hS q0 he rfl 1 (by decide) (hg _ kw_225) (fun _ h => h) rfl hi rfl (t_mr_ok 1 (by decide)) hn hfit hl hdg kk
theorem gc_mr_25 : (Cond.classLink R_mr 25 R_pn) ∈ gw := kw_123
theorem gl_mr_27 : (Cond.methodLink R_mr 27 y_pn_init) ∈ gw := kw_125
theorem gm_mr_27 : (Cond.instanceMethod y_pn_init) ∈ gw := kw_126
theorem gi_mr_27 : (Cond.initialized y_pn_init.cls) ∈ gw := kw_4
theorem gg_mr_27 : GoodIn gw w_pn_init := gd_c kw_127
theorem gf_mr_30 {p : Program} {l : Launch} {e : Env} {R : Room} {s : State} {m : MethodId} {args : Array Value} {below : List Frame} {meth : Method} {c : Code} {H : Heap} {locs : List Loc} {cells slots : Nat} {Q : State → Prop} {cc : ByteArray} {pc : Nat} {ls : Array Slot} {rest : List Value} {D : va_G} {tys : List (ClassId × FieldType)} {ws : va_W} {a : Nat} (hx : p.tables.exec = Jvm.exec) (hb : c.code = cc) (hg : ∀ w ∈ gw, w.before args s = true) (hown : s.vm.findClass R_mr = some m.cls) (hK : va_K D kls tys s) (hP : va_P D kls ws H) (q0 : Nat) {fs : List Value} (he : ws[q0]? = some (a, .inr (6, fs))) {v : Value} (hv : fs[2]? = some v) (hdg : decode cc pc = .ok (.getfield 30, 3)) (kk : W p l e R s m args below meth c H locs cells slots Q (F0 m (pc + 3) ls (v :: rest))) : W p l e R s m args below meth c H locs cells slots Q (F0 m pc ls (.ref a :: rest)) := va_get hx hb hg in_mr hown hK hP q0 he rfl 2 (by decide) (hg _ kw_226) (fun _ h => h) hv hdg kk
theorem pf_mr_30 {p : Program} {l : Launch} {e : Env} {R : Room} {s : State} {m : MethodId} {args : Array Value} {below : List Frame} {meth : Method} {c : Code} {H H0 : Heap} {locs : List Loc} {cells slots : Nat} {Q : State → Prop} {cc : ByteArray} {pc : Nat} {ls : Array Slot} {rest : List Value} {D : va_G} {tys : List (ClassId × FieldType)} {ws : va_W} {a : Nat} {A : Nat → Prop} (hx : p.tables.exec = Jvm.exec) (hb : c.code = cc) (hg : ∀ w ∈ gw, w.before args s = true) (hown : s.vm.findClass R_mr = some m.cls) (hi : meth.name = "<init>") (hK : va_K D kls tys s) (hP : va_P D kls ws H) (hD : va_D A ws) (hS : va_S A H0 H locs) (q0 : Nat) {fs : List Value} (he : ws[q0]? = some (a, .inr (6, fs))) {v : Value} (hn : narrow (.object "MoverRoom$Planner") v = v) (hfit : fits (.object "MoverRoom$Planner") v = true) (hl : 2 < fs.length) (hdg : decode cc pc = .ok (.putfield 30, 3)) (kk : ∀ (H1 : Heap) (locs1 : List Loc), va_P D kls (ws.set q0 (a, .inr (6, fs.set 2 v))) H1 → va_D A (ws.set q0 (a, .inr (6, fs.set 2 v))) → va_S A H0 H1 locs1 → W p l e R s m args below meth c H1 locs1 cells slots Q (F0 m (pc + 3) ls rest)) : W p l e R s m args below meth c H locs cells slots Q (F0 m pc ls (v :: .ref a :: rest)) := va_putF hx hb hg in_mr t_mr t_mr_ok n_mr hown hK hP hD hS q0 he rfl 2 (by decide) (hg _ kw_226) (fun _ h => h) rfl hi rfl (t_mr_ok 2 (by decide)) hn hfit hl hdg kk
theorem gc_mr_34 : (Cond.classLink R_mr 34 R_ld) ∈ gw := kw_175
theorem gn_mr_36 : (Cond.methodLinkNest R_mr 36 y_ld_init "MoverRoom") ∈ lw_tbl := List.mem_append_right _ (List.mem_of_getElem? (i := 177) (by decide +kernel))
theorem gm_mr_36 : (Cond.instanceMethod y_ld_init) ∈ gw := kw_178
theorem gi_mr_36 : (Cond.initialized y_ld_init.cls) ∈ gw := kw_6
theorem gg_mr_36 : GoodIn gw w_ld_init := gd_c kw_179
theorem gf_mr_37 {p : Program} {l : Launch} {e : Env} {R : Room} {s : State} {m : MethodId} {args : Array Value} {below : List Frame} {meth : Method} {c : Code} {H : Heap} {locs : List Loc} {cells slots : Nat} {Q : State → Prop} {cc : ByteArray} {pc : Nat} {ls : Array Slot} {rest : List Value} {D : va_G} {tys : List (ClassId × FieldType)} {ws : va_W} {a : Nat} (hx : p.tables.exec = Jvm.exec) (hb : c.code = cc) (hg : ∀ w ∈ gw, w.before args s = true) (hown : s.vm.findClass R_mr = some m.cls) (hK : va_K D kls tys s) (hP : va_P D kls ws H) (q0 : Nat) {fs : List Value} (he : ws[q0]? = some (a, .inr (6, fs))) {v : Value} (hv : fs[3]? = some v) (hdg : decode cc pc = .ok (.getfield 37, 3)) (kk : W p l e R s m args below meth c H locs cells slots Q (F0 m (pc + 3) ls (v :: rest))) : W p l e R s m args below meth c H locs cells slots Q (F0 m pc ls (.ref a :: rest)) := va_get hx hb hg in_mr hown hK hP q0 he rfl 3 (by decide) (hg _ kw_227) (fun _ h => h) hv hdg kk
theorem pf_mr_37 {p : Program} {l : Launch} {e : Env} {R : Room} {s : State} {m : MethodId} {args : Array Value} {below : List Frame} {meth : Method} {c : Code} {H H0 : Heap} {locs : List Loc} {cells slots : Nat} {Q : State → Prop} {cc : ByteArray} {pc : Nat} {ls : Array Slot} {rest : List Value} {D : va_G} {tys : List (ClassId × FieldType)} {ws : va_W} {a : Nat} {A : Nat → Prop} (hx : p.tables.exec = Jvm.exec) (hb : c.code = cc) (hg : ∀ w ∈ gw, w.before args s = true) (hown : s.vm.findClass R_mr = some m.cls) (hi : meth.name = "<init>") (hK : va_K D kls tys s) (hP : va_P D kls ws H) (hD : va_D A ws) (hS : va_S A H0 H locs) (q0 : Nat) {fs : List Value} (he : ws[q0]? = some (a, .inr (6, fs))) {v : Value} (hn : narrow (.object "MoverRoom$LaidPlan") v = v) (hfit : fits (.object "MoverRoom$LaidPlan") v = true) (hl : 3 < fs.length) (hdg : decode cc pc = .ok (.putfield 37, 3)) (kk : ∀ (H1 : Heap) (locs1 : List Loc), va_P D kls (ws.set q0 (a, .inr (6, fs.set 3 v))) H1 → va_D A (ws.set q0 (a, .inr (6, fs.set 3 v))) → va_S A H0 H1 locs1 → W p l e R s m args below meth c H1 locs1 cells slots Q (F0 m (pc + 3) ls rest)) : W p l e R s m args below meth c H locs cells slots Q (F0 m pc ls (v :: .ref a :: rest)) := va_putF hx hb hg in_mr t_mr t_mr_ok n_mr hown hK hP hD hS q0 he rfl 3 (by decide) (hg _ kw_227) (fun _ h => h) rfl hi rfl (t_mr_ok 3 (by decide)) hn hfit hl hdg kk
theorem gc_mr_41 : (Cond.classLink R_mr 41 R_vd) ∈ gw := kw_192
theorem gl_mr_43 : (Cond.methodLink R_mr 43 y_vd_init) ∈ gw := kw_194
theorem gm_mr_43 : (Cond.instanceMethod y_vd_init) ∈ gw := kw_195
theorem gi_mr_43 : (Cond.initialized y_vd_init.cls) ∈ gw := kw_7
theorem gg_mr_43 : GoodIn gw w_vd_init := gd_c kw_196
theorem gf_mr_46 {p : Program} {l : Launch} {e : Env} {R : Room} {s : State} {m : MethodId} {args : Array Value} {below : List Frame} {meth : Method} {c : Code} {H : Heap} {locs : List Loc} {cells slots : Nat} {Q : State → Prop} {cc : ByteArray} {pc : Nat} {ls : Array Slot} {rest : List Value} {D : va_G} {tys : List (ClassId × FieldType)} {ws : va_W} {a : Nat} (hx : p.tables.exec = Jvm.exec) (hb : c.code = cc) (hg : ∀ w ∈ gw, w.before args s = true) (hown : s.vm.findClass R_mr = some m.cls) (hK : va_K D kls tys s) (hP : va_P D kls ws H) (q0 : Nat) {fs : List Value} (he : ws[q0]? = some (a, .inr (6, fs))) {v : Value} (hv : fs[4]? = some v) (hdg : decode cc pc = .ok (.getfield 46, 3)) (kk : W p l e R s m args below meth c H locs cells slots Q (F0 m (pc + 3) ls (v :: rest))) : W p l e R s m args below meth c H locs cells slots Q (F0 m pc ls (.ref a :: rest)) := va_get hx hb hg in_mr hown hK hP q0 he rfl 4 (by decide) (hg _ kw_228) (fun _ h => h) hv hdg kk
theorem pf_mr_46 {p : Program} {l : Launch} {e : Env} {R : Room} {s : State} {m : MethodId} {args : Array Value} {below : List Frame} {meth : Method} {c : Code} {H H0 : Heap} {locs : List Loc} {cells slots : Nat} {Q : State → Prop} {cc : ByteArray} {pc : Nat} {ls : Array Slot} {rest : List Value} {D : va_G} {tys : List (ClassId × FieldType)} {ws : va_W} {a : Nat} {A : Nat → Prop} (hx : p.tables.exec = Jvm.exec) (hb : c.code = cc) (hg : ∀ w ∈ gw, w.before args s = true) (hown : s.vm.findClass R_mr = some m.cls) (hi : meth.name = "<init>") (hK : va_K D kls tys s) (hP : va_P D kls ws H) (hD : va_D A ws) (hS : va_S A H0 H locs) (q0 : Nat) {fs : List Value} (he : ws[q0]? = some (a, .inr (6, fs))) {v : Value} (hn : narrow (.object "MoverRoom$Verdict") v = v) (hfit : fits (.object "MoverRoom$Verdict") v = true) (hl : 4 < fs.length) (hdg : decode cc pc = .ok (.putfield 46, 3)) (kk : ∀ (H1 : Heap) (locs1 : List Loc), va_P D kls (ws.set q0 (a, .inr (6, fs.set 4 v))) H1 → va_D A (ws.set q0 (a, .inr (6, fs.set 4 v))) → va_S A H0 H1 locs1 → W p l e R s m args below meth c H1 locs1 cells slots Q (F0 m (pc + 3) ls rest)) : W p l e R s m args below meth c H locs cells slots Q (F0 m pc ls (v :: .ref a :: rest)) := va_putF hx hb hg in_mr t_mr t_mr_ok n_mr hown hK hP hD hS q0 he rfl 4 (by decide) (hg _ kw_228) (fun _ h => h) rfl hi rfl (t_mr_ok 4 (by decide)) hn hfit hl hdg kk
theorem gv_mr_50 : GoodIn gw (wsV R_mr 50 R_fl y_fl_build w_fl_build) := gd_V kw_244 kw_28 kw_29 kw_2 kw_30
theorem gv_mr_54 : GoodIn gw (wsV R_mr 54 R_cr y_cr_dismiss w_cr_dismiss) := gd_V kw_245 kw_246 kw_247 kw_3 kw_248
theorem gv_mr_57 : GoodIn gw (wsV R_mr 57 R_pn y_pn_forget w_pn_forget) := gd_V kw_249 kw_250 kw_251 kw_4 kw_252
theorem gv_mr_60 : GoodIn gw (wsV R_mr 60 R_ld y_ld_forget w_ld_forget) := gd_V kw_253 kw_254 kw_255 kw_6 kw_256
theorem gv_mr_61 : GoodIn gw (wsV R_mr 61 R_fl y_fl_has w_fl_has) := gd_V kw_264 kw_48 kw_49 kw_2 kw_50
theorem gv_mr_65 : GoodIn gw (wsV R_mr 65 R_fl y_fl_turn w_fl_turn) := gd_V kw_265 kw_266 kw_267 kw_2 kw_268
theorem gv_mr_69 : GoodIn gw (wsV R_mr 69 R_fl y_fl_isFree w_fl_isFree) := gd_V kw_269 kw_44 kw_45 kw_2 kw_46
theorem gv_mr_72 : GoodIn gw (wsV R_mr 72 R_cr y_cr_canTake w_cr_canTake) := gd_V kw_274 kw_275 kw_276 kw_3 kw_277
theorem gv_mr_76 : GoodIn gw (wsV R_mr 76 R_cr y_cr_take w_cr_take) := gd_V kw_278 kw_279 kw_280 kw_3 kw_281
theorem gf_mr_80 {p : Program} {l : Launch} {e : Env} {R : Room} {s : State} {m : MethodId} {args : Array Value} {below : List Frame} {meth : Method} {c : Code} {H : Heap} {locs : List Loc} {cells slots : Nat} {Q : State → Prop} {cc : ByteArray} {pc : Nat} {ls : Array Slot} {rest : List Value} {D : va_G} {tys : List (ClassId × FieldType)} {ws : va_W} {a : Nat} (hx : p.tables.exec = Jvm.exec) (hb : c.code = cc) (hg : ∀ w ∈ gw, w.before args s = true) (hown : s.vm.findClass R_mr = some m.cls) (hK : va_K D kls tys s) (hP : va_P D kls ws H) (q0 : Nat) {fs : List Value} (he : ws[q0]? = some (a, .inr (0, fs))) {v : Value} (hv : fs[1]? = some v) (hdg : decode cc pc = .ok (.getfield 80, 3)) (kk : W p l e R s m args below meth c H locs cells slots Q (F0 m (pc + 3) ls (v :: rest))) : W p l e R s m args below meth c H locs cells slots Q (F0 m pc ls (.ref a :: rest)) := va_get hx hb hg in_cr hown hK hP q0 he rfl 1 (by decide) (hg _ kw_92) (fun _ h => h) hv hdg kk
theorem gv_mr_84 : GoodIn gw (wsV R_mr 84 R_cr y_cr_has w_cr_has) := gd_V kw_295 kw_296 kw_297 kw_3 kw_298
theorem gv_mr_85 : GoodIn gw (wsV R_mr 85 R_cr y_cr_wayFromStart w_cr_wayFromStart) := gd_V kw_299 kw_300 kw_301 kw_3 kw_302
theorem gc_mr_9 : (Cond.classLink R_mr 9 R_fl) ∈ gw := kw_19
theorem gv_mr_91 : GoodIn gw (wsV R_mr 91 R_cr y_cr_countWays w_cr_countWays) := gd_V kw_308 kw_309 kw_310 kw_3 kw_311
theorem gv_mr_95 : GoodIn gw (wsV R_mr 95 R_pn y_pn_find w_pn_find) := gd_V kw_328 kw_329 kw_330 kw_4 kw_331
theorem gf_mr_98 {p : Program} {l : Launch} {e : Env} {R : Room} {s : State} {m : MethodId} {args : Array Value} {below : List Frame} {meth : Method} {c : Code} {H : Heap} {locs : List Loc} {cells slots : Nat} {Q : State → Prop} {cc : ByteArray} {pc : Nat} {ls : Array Slot} {rest : List Value} {D : va_G} {tys : List (ClassId × FieldType)} {ws : va_W} {a : Nat} (hx : p.tables.exec = Jvm.exec) (hb : c.code = cc) (hg : ∀ w ∈ gw, w.before args s = true) (hown : s.vm.findClass R_mr = some m.cls) (hK : va_K D kls tys s) (hP : va_P D kls ws H) (q0 : Nat) {fs : List Value} (he : ws[q0]? = some (a, .inr (4, fs))) {v : Value} (hv : fs[10]? = some v) (hdg : decode cc pc = .ok (.getfield 98, 3)) (kk : W p l e R s m args below meth c H locs cells slots Q (F0 m (pc + 3) ls (v :: rest))) : W p l e R s m args below meth c H locs cells slots Q (F0 m pc ls (.ref a :: rest)) := va_get hx hb hg in_pn hown hK hP q0 he rfl 10 (by decide) (hg _ kw_151) (fun _ h => h) hv hdg kk
theorem gf_pn_104 {p : Program} {l : Launch} {e : Env} {R : Room} {s : State} {m : MethodId} {args : Array Value} {below : List Frame} {meth : Method} {c : Code} {H : Heap} {locs : List Loc} {cells slots : Nat} {Q : State → Prop} {cc : ByteArray} {pc : Nat} {ls : Array Slot} {rest : List Value} {D : va_G} {tys : List (ClassId × FieldType)} {ws : va_W} {a : Nat} (hx : p.tables.exec = Jvm.exec) (hb : c.code = cc) (hg : ∀ w ∈ gw, w.before args s = true) (hown : s.vm.findClass R_pn = some m.cls) (hK : va_K D kls tys s) (hP : va_P D kls ws H) (q0 : Nat) {fs : List Value} (he : ws[q0]? = some (a, .inr (1, fs))) {v : Value} (hv : fs[6]? = some v) (hdg : decode cc pc = .ok (.getfield 104, 3)) (kk : W p l e R s m args below meth c H locs cells slots Q (F0 m (pc + 3) ls (v :: rest))) : W p l e R s m args below meth c H locs cells slots Q (F0 m pc ls (.ref a :: rest)) := va_get hx hb hg in_fl hown hK hP q0 he rfl 6 (by decide) (hg _ kw_63) (fun _ h => h) hv hdg kk
theorem gl_pn_107 : (Cond.methodLink R_pn 107 y_pn_goes) ∈ gw := kw_385
theorem gt_pn_107 : (Cond.static y_pn_goes) ∈ gw := kw_386
theorem gi_pn_107 : (Cond.initialized y_pn_goes.cls) ∈ gw := kw_4
theorem gg_pn_107 : GoodIn gw w_pn_goes := gd_c kw_387
theorem gn_pn_11 : (Cond.methodLinkNest R_pn 11 y_le_init "MoverRoom") ∈ lw_tbl := List.mem_append_right _ (List.mem_of_getElem? (i := 131) (by decide +kernel))
theorem gm_pn_11 : (Cond.instanceMethod y_le_init) ∈ gw := kw_132
theorem gi_pn_11 : (Cond.initialized y_le_init.cls) ∈ gw := kw_5
theorem gg_pn_11 : GoodIn gw w_le_init := gd_c kw_133
theorem gv_pn_111 : GoodIn gw (wsV R_pn 111 R_pn y_pn_startSearch w_pn_startSearch) := gd_V kw_350 kw_352 ks_pn_startSearch kw_4 kw_353
theorem gv_pn_115 : GoodIn gw (wsV R_pn 115 R_pn y_pn_reachesEnd w_pn_reachesEnd) := gd_V kw_365 kw_367 ks_pn_reachesEnd kw_4 kw_368
theorem gl_pn_118 : (Cond.methodLink R_pn 118 y_pn_isIn) ∈ gw := kw_354
theorem gt_pn_118 : (Cond.static y_pn_isIn) ∈ gw := kw_355
theorem gi_pn_118 : (Cond.initialized y_pn_isIn.cls) ∈ gw := kw_4
theorem gg_pn_118 : GoodIn gw w_pn_isIn := gd_c kw_356
theorem gf_pn_12 {p : Program} {l : Launch} {e : Env} {R : Room} {s : State} {m : MethodId} {args : Array Value} {below : List Frame} {meth : Method} {c : Code} {H : Heap} {locs : List Loc} {cells slots : Nat} {Q : State → Prop} {cc : ByteArray} {pc : Nat} {ls : Array Slot} {rest : List Value} {D : va_G} {tys : List (ClassId × FieldType)} {ws : va_W} {a : Nat} (hx : p.tables.exec = Jvm.exec) (hb : c.code = cc) (hg : ∀ w ∈ gw, w.before args s = true) (hown : s.vm.findClass R_pn = some m.cls) (hK : va_K D kls tys s) (hP : va_P D kls ws H) (q0 : Nat) {fs : List Value} (he : ws[q0]? = some (a, .inr (4, fs))) {v : Value} (hv : fs[2]? = some v) (hdg : decode cc pc = .ok (.getfield 12, 3)) (kk : W p l e R s m args below meth c H locs cells slots Q (F0 m (pc + 3) ls (v :: rest))) : W p l e R s m args below meth c H locs cells slots Q (F0 m pc ls (.ref a :: rest)) := va_get hx hb hg in_pn hown hK hP q0 he rfl 2 (by decide) (hg _ kw_142) (fun _ h => h) hv hdg kk
theorem pf_pn_12 {p : Program} {l : Launch} {e : Env} {R : Room} {s : State} {m : MethodId} {args : Array Value} {below : List Frame} {meth : Method} {c : Code} {H H0 : Heap} {locs : List Loc} {cells slots : Nat} {Q : State → Prop} {cc : ByteArray} {pc : Nat} {ls : Array Slot} {rest : List Value} {D : va_G} {tys : List (ClassId × FieldType)} {ws : va_W} {a : Nat} {A : Nat → Prop} (hx : p.tables.exec = Jvm.exec) (hb : c.code = cc) (hg : ∀ w ∈ gw, w.before args s = true) (hown : s.vm.findClass R_pn = some m.cls) (hi : meth.name = "<init>") (hK : va_K D kls tys s) (hP : va_P D kls ws H) (hD : va_D A ws) (hS : va_S A H0 H locs) (q0 : Nat) {fs : List Value} (he : ws[q0]? = some (a, .inr (4, fs))) {v : Value} (hn : narrow (.object "MoverRoom$Levels") v = v) (hfit : fits (.object "MoverRoom$Levels") v = true) (hl : 2 < fs.length) (hdg : decode cc pc = .ok (.putfield 12, 3)) (kk : ∀ (H1 : Heap) (locs1 : List Loc), va_P D kls (ws.set q0 (a, .inr (4, fs.set 2 v))) H1 → va_D A (ws.set q0 (a, .inr (4, fs.set 2 v))) → va_S A H0 H1 locs1 → W p l e R s m args below meth c H1 locs1 cells slots Q (F0 m (pc + 3) ls rest)) : W p l e R s m args below meth c H locs cells slots Q (F0 m pc ls (v :: .ref a :: rest)) := va_putF hx hb hg in_pn t_pn t_pn_ok n_pn hown hK hP hD hS q0 he rfl 2 (by decide) (hg _ kw_142) (fun _ h => h) rfl hi rfl (t_pn_ok 2 (by decide)) hn hfit hl hdg kk
theorem gv_pn_121 : GoodIn gw (wsV R_pn 121 R_pn y_pn_wayLeft w_pn_wayLeft) := gd_V kw_361 kw_363 ks_pn_wayLeft kw_4 kw_364
theorem gf_pn_124 {p : Program} {l : Launch} {e : Env} {R : Room} {s : State} {m : MethodId} {args : Array Value} {below : List Frame} {meth : Method} {c : Code} {H : Heap} {locs : List Loc} {cells slots : Nat} {Q : State → Prop} {cc : ByteArray} {pc : Nat} {ls : Array Slot} {rest : List Value} {D : va_G} {tys : List (ClassId × FieldType)} {ws : va_W} {a : Nat} (hx : p.tables.exec = Jvm.exec) (hb : c.code = cc) (hg : ∀ w ∈ gw, w.before args s = true) (hown : s.vm.findClass R_pn = some m.cls) (hK : va_K D kls tys s) (hP : va_P D kls ws H) (q0 : Nat) {fs : List Value} (he : ws[q0]? = some (a, .inr (0, fs))) {v : Value} (hv : fs[4]? = some v) (hdg : decode cc pc = .ok (.getfield 124, 3)) (kk : W p l e R s m args below meth c H locs cells slots Q (F0 m (pc + 3) ls (v :: rest))) : W p l e R s m args below meth c H locs cells slots Q (F0 m pc ls (.ref a :: rest)) := va_get hx hb hg in_cr hown hK hP q0 he rfl 4 (by decide) (hg _ kw_101) (fun _ h => h) hv hdg kk
theorem gv_pn_127 : GoodIn gw (wsV R_pn 127 R_pn y_pn_stateAt w_pn_stateAt) := gd_V kw_369 kw_371 ks_pn_stateAt kw_4 kw_372
theorem gv_pn_131 : GoodIn gw (wsV R_pn 131 R_le y_le_get w_le_get) := gd_V kw_373 kw_374 kw_375 kw_5 kw_376
theorem gv_pn_134 : GoodIn gw (wsV R_pn 134 R_pn y_pn_reachesEndMoving w_pn_reachesEndMoving) := gd_V kw_381 kw_383 ks_pn_reachesEndMoving kw_4 kw_384
theorem gv_pn_138 : GoodIn gw (wsV R_pn 138 R_le y_le_put w_le_put) := gd_V kw_388 kw_389 kw_390 kw_5 kw_391
theorem gf_pn_142 {p : Program} {l : Launch} {e : Env} {R : Room} {s : State} {m : MethodId} {args : Array Value} {below : List Frame} {meth : Method} {c : Code} {H : Heap} {locs : List Loc} {cells slots : Nat} {Q : State → Prop} {cc : ByteArray} {pc : Nat} {ls : Array Slot} {rest : List Value} {D : va_G} {tys : List (ClassId × FieldType)} {ws : va_W} {a : Nat} (hx : p.tables.exec = Jvm.exec) (hb : c.code = cc) (hg : ∀ w ∈ gw, w.before args s = true) (hown : s.vm.findClass R_pn = some m.cls) (hK : va_K D kls tys s) (hP : va_P D kls ws H) (q0 : Nat) {fs : List Value} (he : ws[q0]? = some (a, .inr (1, fs))) {v : Value} (hv : fs[3]? = some v) (hdg : decode cc pc = .ok (.getfield 142, 3)) (kk : W p l e R s m args below meth c H locs cells slots Q (F0 m (pc + 3) ls (v :: rest))) : W p l e R s m args below meth c H locs cells slots Q (F0 m pc ls (.ref a :: rest)) := va_get hx hb hg in_fl hown hK hP q0 he rfl 3 (by decide) (hg _ kw_56) (fun _ h => h) hv hdg kk
theorem gf_pn_145 {p : Program} {l : Launch} {e : Env} {R : Room} {s : State} {m : MethodId} {args : Array Value} {below : List Frame} {meth : Method} {c : Code} {H : Heap} {locs : List Loc} {cells slots : Nat} {Q : State → Prop} {cc : ByteArray} {pc : Nat} {ls : Array Slot} {rest : List Value} {D : va_G} {tys : List (ClassId × FieldType)} {ws : va_W} {a : Nat} (hx : p.tables.exec = Jvm.exec) (hb : c.code = cc) (hg : ∀ w ∈ gw, w.before args s = true) (hown : s.vm.findClass R_pn = some m.cls) (hK : va_K D kls tys s) (hP : va_P D kls ws H) (q0 : Nat) {fs : List Value} (he : ws[q0]? = some (a, .inr (1, fs))) {v : Value} (hv : fs[4]? = some v) (hdg : decode cc pc = .ok (.getfield 145, 3)) (kk : W p l e R s m args below meth c H locs cells slots Q (F0 m (pc + 3) ls (v :: rest))) : W p l e R s m args below meth c H locs cells slots Q (F0 m pc ls (.ref a :: rest)) := va_get hx hb hg in_fl hown hK hP q0 he rfl 4 (by decide) (hg _ kw_58) (fun _ h => h) hv hdg kk
theorem gf_pn_20 {p : Program} {l : Launch} {e : Env} {R : Room} {s : State} {m : MethodId} {args : Array Value} {below : List Frame} {meth : Method} {c : Code} {H : Heap} {locs : List Loc} {cells slots : Nat} {Q : State → Prop} {cc : ByteArray} {pc : Nat} {ls : Array Slot} {rest : List Value} {D : va_G} {tys : List (ClassId × FieldType)} {ws : va_W} {a : Nat} (hx : p.tables.exec = Jvm.exec) (hb : c.code = cc) (hg : ∀ w ∈ gw, w.before args s = true) (hown : s.vm.findClass R_pn = some m.cls) (hK : va_K D kls tys s) (hP : va_P D kls ws H) (q0 : Nat) {fs : List Value} (he : ws[q0]? = some (a, .inr (4, fs))) {v : Value} (hv : fs[3]? = some v) (hdg : decode cc pc = .ok (.getfield 20, 3)) (kk : W p l e R s m args below meth c H locs cells slots Q (F0 m (pc + 3) ls (v :: rest))) : W p l e R s m args below meth c H locs cells slots Q (F0 m pc ls (.ref a :: rest)) := va_get hx hb hg in_pn hown hK hP q0 he rfl 3 (by decide) (hg _ kw_143) (fun _ h => h) hv hdg kk
theorem pf_pn_20 {p : Program} {l : Launch} {e : Env} {R : Room} {s : State} {m : MethodId} {args : Array Value} {below : List Frame} {meth : Method} {c : Code} {H H0 : Heap} {locs : List Loc} {cells slots : Nat} {Q : State → Prop} {cc : ByteArray} {pc : Nat} {ls : Array Slot} {rest : List Value} {D : va_G} {tys : List (ClassId × FieldType)} {ws : va_W} {a : Nat} {A : Nat → Prop} (hx : p.tables.exec = Jvm.exec) (hb : c.code = cc) (hg : ∀ w ∈ gw, w.before args s = true) (hown : s.vm.findClass R_pn = some m.cls) (hi : meth.name = "<init>") (hK : va_K D kls tys s) (hP : va_P D kls ws H) (hD : va_D A ws) (hS : va_S A H0 H locs) (q0 : Nat) {fs : List Value} (he : ws[q0]? = some (a, .inr (4, fs))) {v : Value} (hn : narrow (.array (.array .int)) v = v) (hfit : fits (.array (.array .int)) v = true) (hl : 3 < fs.length) (hdg : decode cc pc = .ok (.putfield 20, 3)) (kk : ∀ (H1 : Heap) (locs1 : List Loc), va_P D kls (ws.set q0 (a, .inr (4, fs.set 3 v))) H1 → va_D A (ws.set q0 (a, .inr (4, fs.set 3 v))) → va_S A H0 H1 locs1 → W p l e R s m args below meth c H1 locs1 cells slots Q (F0 m (pc + 3) ls rest)) : W p l e R s m args below meth c H locs cells slots Q (F0 m pc ls (v :: .ref a :: rest)) := va_putF hx hb hg in_pn t_pn t_pn_ok n_pn hown hK hP hD hS q0 he rfl 3 (by decide) (hg _ kw_143) (fun _ h => h) rfl hi rfl (t_pn_ok 3 (by decide)) hn hfit hl hdg kk
theorem gf_pn_23 {p : Program} {l : Launch} {e : Env} {R : Room} {s : State} {m : MethodId} {args : Array Value} {below : List Frame} {meth : Method} {c : Code} {H : Heap} {locs : List Loc} {cells slots : Nat} {Q : State → Prop} {cc : ByteArray} {pc : Nat} {ls : Array Slot} {rest : List Value} {D : va_G} {tys : List (ClassId × FieldType)} {ws : va_W} {a : Nat} (hx : p.tables.exec = Jvm.exec) (hb : c.code = cc) (hg : ∀ w ∈ gw, w.before args s = true) (hown : s.vm.findClass R_pn = some m.cls) (hK : va_K D kls tys s) (hP : va_P D kls ws H) (q0 : Nat) {fs : List Value} (he : ws[q0]? = some (a, .inr (4, fs))) {v : Value} (hv : fs[4]? = some v) (hdg : decode cc pc = .ok (.getfield 23, 3)) (kk : W p l e R s m args below meth c H locs cells slots Q (F0 m (pc + 3) ls (v :: rest))) : W p l e R s m args below meth c H locs cells slots Q (F0 m pc ls (.ref a :: rest)) := va_get hx hb hg in_pn hown hK hP q0 he rfl 4 (by decide) (hg _ kw_144) (fun _ h => h) hv hdg kk
theorem pf_pn_23 {p : Program} {l : Launch} {e : Env} {R : Room} {s : State} {m : MethodId} {args : Array Value} {below : List Frame} {meth : Method} {c : Code} {H H0 : Heap} {locs : List Loc} {cells slots : Nat} {Q : State → Prop} {cc : ByteArray} {pc : Nat} {ls : Array Slot} {rest : List Value} {D : va_G} {tys : List (ClassId × FieldType)} {ws : va_W} {a : Nat} {A : Nat → Prop} (hx : p.tables.exec = Jvm.exec) (hb : c.code = cc) (hg : ∀ w ∈ gw, w.before args s = true) (hown : s.vm.findClass R_pn = some m.cls) (hi : meth.name = "<init>") (hK : va_K D kls tys s) (hP : va_P D kls ws H) (hD : va_D A ws) (hS : va_S A H0 H locs) (q0 : Nat) {fs : List Value} (he : ws[q0]? = some (a, .inr (4, fs))) {v : Value} (hn : narrow (.array .int) v = v) (hfit : fits (.array .int) v = true) (hl : 4 < fs.length) (hdg : decode cc pc = .ok (.putfield 23, 3)) (kk : ∀ (H1 : Heap) (locs1 : List Loc), va_P D kls (ws.set q0 (a, .inr (4, fs.set 4 v))) H1 → va_D A (ws.set q0 (a, .inr (4, fs.set 4 v))) → va_S A H0 H1 locs1 → W p l e R s m args below meth c H1 locs1 cells slots Q (F0 m (pc + 3) ls rest)) : W p l e R s m args below meth c H locs cells slots Q (F0 m pc ls (v :: .ref a :: rest)) := va_putF hx hb hg in_pn t_pn t_pn_ok n_pn hown hK hP hD hS q0 he rfl 4 (by decide) (hg _ kw_144) (fun _ h => h) rfl hi rfl (t_pn_ok 4 (by decide)) hn hfit hl hdg kk
theorem gf_pn_27 {p : Program} {l : Launch} {e : Env} {R : Room} {s : State} {m : MethodId} {args : Array Value} {below : List Frame} {meth : Method} {c : Code} {H : Heap} {locs : List Loc} {cells slots : Nat} {Q : State → Prop} {cc : ByteArray} {pc : Nat} {ls : Array Slot} {rest : List Value} {D : va_G} {tys : List (ClassId × FieldType)} {ws : va_W} {a : Nat} (hx : p.tables.exec = Jvm.exec) (hb : c.code = cc) (hg : ∀ w ∈ gw, w.before args s = true) (hown : s.vm.findClass R_pn = some m.cls) (hK : va_K D kls tys s) (hP : va_P D kls ws H) (q0 : Nat) {fs : List Value} (he : ws[q0]? = some (a, .inr (4, fs))) {v : Value} (hv : fs[5]? = some v) (hdg : decode cc pc = .ok (.getfield 27, 3)) (kk : W p l e R s m args below meth c H locs cells slots Q (F0 m (pc + 3) ls (v :: rest))) : W p l e R s m args below meth c H locs cells slots Q (F0 m pc ls (.ref a :: rest)) := va_get hx hb hg in_pn hown hK hP q0 he rfl 5 (by decide) (hg _ kw_145) (fun _ h => h) hv hdg kk
theorem pf_pn_27 {p : Program} {l : Launch} {e : Env} {R : Room} {s : State} {m : MethodId} {args : Array Value} {below : List Frame} {meth : Method} {c : Code} {H H0 : Heap} {locs : List Loc} {cells slots : Nat} {Q : State → Prop} {cc : ByteArray} {pc : Nat} {ls : Array Slot} {rest : List Value} {D : va_G} {tys : List (ClassId × FieldType)} {ws : va_W} {a : Nat} {A : Nat → Prop} (hx : p.tables.exec = Jvm.exec) (hb : c.code = cc) (hg : ∀ w ∈ gw, w.before args s = true) (hown : s.vm.findClass R_pn = some m.cls) (hi : meth.name = "<init>") (hK : va_K D kls tys s) (hP : va_P D kls ws H) (hD : va_D A ws) (hS : va_S A H0 H locs) (q0 : Nat) {fs : List Value} (he : ws[q0]? = some (a, .inr (4, fs))) {v : Value} (hn : narrow (.array (.array .int)) v = v) (hfit : fits (.array (.array .int)) v = true) (hl : 5 < fs.length) (hdg : decode cc pc = .ok (.putfield 27, 3)) (kk : ∀ (H1 : Heap) (locs1 : List Loc), va_P D kls (ws.set q0 (a, .inr (4, fs.set 5 v))) H1 → va_D A (ws.set q0 (a, .inr (4, fs.set 5 v))) → va_S A H0 H1 locs1 → W p l e R s m args below meth c H1 locs1 cells slots Q (F0 m (pc + 3) ls rest)) : W p l e R s m args below meth c H locs cells slots Q (F0 m pc ls (v :: .ref a :: rest)) := va_putF hx hb hg in_pn t_pn t_pn_ok n_pn hown hK hP hD hS q0 he rfl 5 (by decide) (hg _ kw_145) (fun _ h => h) rfl hi rfl (t_pn_ok 5 (by decide)) hn hfit hl hdg kk
theorem gf_pn_30 {p : Program} {l : Launch} {e : Env} {R : Room} {s : State} {m : MethodId} {args : Array Value} {below : List Frame} {meth : Method} {c : Code} {H : Heap} {locs : List Loc} {cells slots : Nat} {Q : State → Prop} {cc : ByteArray} {pc : Nat} {ls : Array Slot} {rest : List Value} {D : va_G} {tys : List (ClassId × FieldType)} {ws : va_W} {a : Nat} (hx : p.tables.exec = Jvm.exec) (hb : c.code = cc) (hg : ∀ w ∈ gw, w.before args s = true) (hown : s.vm.findClass R_pn = some m.cls) (hK : va_K D kls tys s) (hP : va_P D kls ws H) (q0 : Nat) {fs : List Value} (he : ws[q0]? = some (a, .inr (4, fs))) {v : Value} (hv : fs[0]? = some v) (hdg : decode cc pc = .ok (.getfield 30, 3)) (kk : W p l e R s m args below meth c H locs cells slots Q (F0 m (pc + 3) ls (v :: rest))) : W p l e R s m args below meth c H locs cells slots Q (F0 m pc ls (.ref a :: rest)) := va_get hx hb hg in_pn hown hK hP q0 he rfl 0 (by decide) (hg _ kw_140) (fun _ h => h) hv hdg kk
theorem pf_pn_30 {p : Program} {l : Launch} {e : Env} {R : Room} {s : State} {m : MethodId} {args : Array Value} {below : List Frame} {meth : Method} {c : Code} {H H0 : Heap} {locs : List Loc} {cells slots : Nat} {Q : State → Prop} {cc : ByteArray} {pc : Nat} {ls : Array Slot} {rest : List Value} {D : va_G} {tys : List (ClassId × FieldType)} {ws : va_W} {a : Nat} {A : Nat → Prop} (hx : p.tables.exec = Jvm.exec) (hb : c.code = cc) (hg : ∀ w ∈ gw, w.before args s = true) (hown : s.vm.findClass R_pn = some m.cls) (hi : meth.name = "<init>") (hK : va_K D kls tys s) (hP : va_P D kls ws H) (hD : va_D A ws) (hS : va_S A H0 H locs) (q0 : Nat) {fs : List Value} (he : ws[q0]? = some (a, .inr (4, fs))) {v : Value} (hn : narrow (.object "MoverRoom$Floor") v = v) (hfit : fits (.object "MoverRoom$Floor") v = true) (hl : 0 < fs.length) (hdg : decode cc pc = .ok (.putfield 30, 3)) (kk : ∀ (H1 : Heap) (locs1 : List Loc), va_P D kls (ws.set q0 (a, .inr (4, fs.set 0 v))) H1 → va_D A (ws.set q0 (a, .inr (4, fs.set 0 v))) → va_S A H0 H1 locs1 → W p l e R s m args below meth c H1 locs1 cells slots Q (F0 m (pc + 3) ls rest)) : W p l e R s m args below meth c H locs cells slots Q (F0 m pc ls (v :: .ref a :: rest)) := va_putF hx hb hg in_pn t_pn t_pn_ok n_pn hown hK hP hD hS q0 he rfl 0 (by decide) (hg _ kw_140) (fun _ h => h) rfl hi rfl (t_pn_ok 0 (by decide)) hn hfit hl hdg kk
theorem gf_pn_34 {p : Program} {l : Launch} {e : Env} {R : Room} {s : State} {m : MethodId} {args : Array Value} {below : List Frame} {meth : Method} {c : Code} {H : Heap} {locs : List Loc} {cells slots : Nat} {Q : State → Prop} {cc : ByteArray} {pc : Nat} {ls : Array Slot} {rest : List Value} {D : va_G} {tys : List (ClassId × FieldType)} {ws : va_W} {a : Nat} (hx : p.tables.exec = Jvm.exec) (hb : c.code = cc) (hg : ∀ w ∈ gw, w.before args s = true) (hown : s.vm.findClass R_pn = some m.cls) (hK : va_K D kls tys s) (hP : va_P D kls ws H) (q0 : Nat) {fs : List Value} (he : ws[q0]? = some (a, .inr (4, fs))) {v : Value} (hv : fs[1]? = some v) (hdg : decode cc pc = .ok (.getfield 34, 3)) (kk : W p l e R s m args below meth c H locs cells slots Q (F0 m (pc + 3) ls (v :: rest))) : W p l e R s m args below meth c H locs cells slots Q (F0 m pc ls (.ref a :: rest)) := va_get hx hb hg in_pn hown hK hP q0 he rfl 1 (by decide) (hg _ kw_141) (fun _ h => h) hv hdg kk
theorem pf_pn_34 {p : Program} {l : Launch} {e : Env} {R : Room} {s : State} {m : MethodId} {args : Array Value} {below : List Frame} {meth : Method} {c : Code} {H H0 : Heap} {locs : List Loc} {cells slots : Nat} {Q : State → Prop} {cc : ByteArray} {pc : Nat} {ls : Array Slot} {rest : List Value} {D : va_G} {tys : List (ClassId × FieldType)} {ws : va_W} {a : Nat} {A : Nat → Prop} (hx : p.tables.exec = Jvm.exec) (hb : c.code = cc) (hg : ∀ w ∈ gw, w.before args s = true) (hown : s.vm.findClass R_pn = some m.cls) (hi : meth.name = "<init>") (hK : va_K D kls tys s) (hP : va_P D kls ws H) (hD : va_D A ws) (hS : va_S A H0 H locs) (q0 : Nat) {fs : List Value} (he : ws[q0]? = some (a, .inr (4, fs))) {v : Value} (hn : narrow (.object "MoverRoom$Crew") v = v) (hfit : fits (.object "MoverRoom$Crew") v = true) (hl : 1 < fs.length) (hdg : decode cc pc = .ok (.putfield 34, 3)) (kk : ∀ (H1 : Heap) (locs1 : List Loc), va_P D kls (ws.set q0 (a, .inr (4, fs.set 1 v))) H1 → va_D A (ws.set q0 (a, .inr (4, fs.set 1 v))) → va_S A H0 H1 locs1 → W p l e R s m args below meth c H1 locs1 cells slots Q (F0 m (pc + 3) ls rest)) : W p l e R s m args below meth c H locs cells slots Q (F0 m pc ls (v :: .ref a :: rest)) := va_putF hx hb hg in_pn t_pn t_pn_ok n_pn hown hK hP hD hS q0 he rfl 1 (by decide) (hg _ kw_141) (fun _ h => h) rfl hi rfl (t_pn_ok 1 (by decide)) hn hfit hl hdg kk
theorem gf_pn_38 {p : Program} {l : Launch} {e : Env} {R : Room} {s : State} {m : MethodId} {args : Array Value} {below : List Frame} {meth : Method} {c : Code} {H : Heap} {locs : List Loc} {cells slots : Nat} {Q : State → Prop} {cc : ByteArray} {pc : Nat} {ls : Array Slot} {rest : List Value} {D : va_G} {tys : List (ClassId × FieldType)} {ws : va_W} {a : Nat} (hx : p.tables.exec = Jvm.exec) (hb : c.code = cc) (hg : ∀ w ∈ gw, w.before args s = true) (hown : s.vm.findClass R_pn = some m.cls) (hK : va_K D kls tys s) (hP : va_P D kls ws H) (q0 : Nat) {fs : List Value} (he : ws[q0]? = some (a, .inr (4, fs))) {v : Value} (hv : fs[10]? = some v) (hdg : decode cc pc = .ok (.getfield 38, 3)) (kk : W p l e R s m args below meth c H locs cells slots Q (F0 m (pc + 3) ls (v :: rest))) : W p l e R s m args below meth c H locs cells slots Q (F0 m pc ls (.ref a :: rest)) := va_get hx hb hg in_pn hown hK hP q0 he rfl 10 (by decide) (hg _ kw_150) (fun _ h => h) hv hdg kk
theorem pf_pn_38 {p : Program} {l : Launch} {e : Env} {R : Room} {s : State} {m : MethodId} {args : Array Value} {below : List Frame} {meth : Method} {c : Code} {H H0 : Heap} {locs : List Loc} {cells slots : Nat} {Q : State → Prop} {cc : ByteArray} {pc : Nat} {ls : Array Slot} {rest : List Value} {D : va_G} {tys : List (ClassId × FieldType)} {ws : va_W} {a : Nat} {A : Nat → Prop} (hx : p.tables.exec = Jvm.exec) (hb : c.code = cc) (hg : ∀ w ∈ gw, w.before args s = true) (hown : s.vm.findClass R_pn = some m.cls) (hK : va_K D kls tys s) (hP : va_P D kls ws H) (hD : va_D A ws) (hS : va_S A H0 H locs) (q0 : Nat) {fs : List Value} (he : ws[q0]? = some (a, .inr (4, fs))) {v : Value} (hn : narrow .boolean v = v) (hfit : fits .boolean v = true) (hl : 10 < fs.length) (hdg : decode cc pc = .ok (.putfield 38, 3)) (kk : ∀ (H1 : Heap) (locs1 : List Loc), va_P D kls (ws.set q0 (a, .inr (4, fs.set 10 v))) H1 → va_D A (ws.set q0 (a, .inr (4, fs.set 10 v))) → va_S A H0 H1 locs1 → W p l e R s m args below meth c H1 locs1 cells slots Q (F0 m (pc + 3) ls rest)) : W p l e R s m args below meth c H locs cells slots Q (F0 m pc ls (v :: .ref a :: rest)) := va_put hx hb hg in_pn t_pn t_pn_ok n_pn hown hK hP hD hS q0 he rfl 10 (by decide) (hg _ kw_150) (fun _ h => h) rfl (t_pn_ok 10 (by decide)) hn hfit hl hdg kk
theorem gf_pn_42 {p : Program} {l : Launch} {e : Env} {R : Room} {s : State} {m : MethodId} {args : Array Value} {below : List Frame} {meth : Method} {c : Code} {H : Heap} {locs : List Loc} {cells slots : Nat} {Q : State → Prop} {cc : ByteArray} {pc : Nat} {ls : Array Slot} {rest : List Value} {D : va_G} {tys : List (ClassId × FieldType)} {ws : va_W} {a : Nat} (hx : p.tables.exec = Jvm.exec) (hb : c.code = cc) (hg : ∀ w ∈ gw, w.before args s = true) (hown : s.vm.findClass R_pn = some m.cls) (hK : va_K D kls tys s) (hP : va_P D kls ws H) (q0 : Nat) {fs : List Value} (he : ws[q0]? = some (a, .inr (4, fs))) {v : Value} (hv : fs[9]? = some v) (hdg : decode cc pc = .ok (.getfield 42, 3)) (kk : W p l e R s m args below meth c H locs cells slots Q (F0 m (pc + 3) ls (v :: rest))) : W p l e R s m args below meth c H locs cells slots Q (F0 m pc ls (.ref a :: rest)) := va_get hx hb hg in_pn hown hK hP q0 he rfl 9 (by decide) (hg _ kw_149) (fun _ h => h) hv hdg kk
theorem pf_pn_42 {p : Program} {l : Launch} {e : Env} {R : Room} {s : State} {m : MethodId} {args : Array Value} {below : List Frame} {meth : Method} {c : Code} {H H0 : Heap} {locs : List Loc} {cells slots : Nat} {Q : State → Prop} {cc : ByteArray} {pc : Nat} {ls : Array Slot} {rest : List Value} {D : va_G} {tys : List (ClassId × FieldType)} {ws : va_W} {a : Nat} {A : Nat → Prop} (hx : p.tables.exec = Jvm.exec) (hb : c.code = cc) (hg : ∀ w ∈ gw, w.before args s = true) (hown : s.vm.findClass R_pn = some m.cls) (hK : va_K D kls tys s) (hP : va_P D kls ws H) (hD : va_D A ws) (hS : va_S A H0 H locs) (q0 : Nat) {fs : List Value} (he : ws[q0]? = some (a, .inr (4, fs))) {v : Value} (hn : narrow .boolean v = v) (hfit : fits .boolean v = true) (hl : 9 < fs.length) (hdg : decode cc pc = .ok (.putfield 42, 3)) (kk : ∀ (H1 : Heap) (locs1 : List Loc), va_P D kls (ws.set q0 (a, .inr (4, fs.set 9 v))) H1 → va_D A (ws.set q0 (a, .inr (4, fs.set 9 v))) → va_S A H0 H1 locs1 → W p l e R s m args below meth c H1 locs1 cells slots Q (F0 m (pc + 3) ls rest)) : W p l e R s m args below meth c H locs cells slots Q (F0 m pc ls (v :: .ref a :: rest)) := va_put hx hb hg in_pn t_pn t_pn_ok n_pn hown hK hP hD hS q0 he rfl 9 (by decide) (hg _ kw_149) (fun _ h => h) rfl (t_pn_ok 9 (by decide)) hn hfit hl hdg kk
theorem gf_pn_45 {p : Program} {l : Launch} {e : Env} {R : Room} {s : State} {m : MethodId} {args : Array Value} {below : List Frame} {meth : Method} {c : Code} {H : Heap} {locs : List Loc} {cells slots : Nat} {Q : State → Prop} {cc : ByteArray} {pc : Nat} {ls : Array Slot} {rest : List Value} {D : va_G} {tys : List (ClassId × FieldType)} {ws : va_W} {a : Nat} (hx : p.tables.exec = Jvm.exec) (hb : c.code = cc) (hg : ∀ w ∈ gw, w.before args s = true) (hown : s.vm.findClass R_pn = some m.cls) (hK : va_K D kls tys s) (hP : va_P D kls ws H) (q0 : Nat) {fs : List Value} (he : ws[q0]? = some (a, .inr (4, fs))) {v : Value} (hv : fs[8]? = some v) (hdg : decode cc pc = .ok (.getfield 45, 3)) (kk : W p l e R s m args below meth c H locs cells slots Q (F0 m (pc + 3) ls (v :: rest))) : W p l e R s m args below meth c H locs cells slots Q (F0 m pc ls (.ref a :: rest)) := va_get hx hb hg in_pn hown hK hP q0 he rfl 8 (by decide) (hg _ kw_148) (fun _ h => h) hv hdg kk
theorem pf_pn_45 {p : Program} {l : Launch} {e : Env} {R : Room} {s : State} {m : MethodId} {args : Array Value} {below : List Frame} {meth : Method} {c : Code} {H H0 : Heap} {locs : List Loc} {cells slots : Nat} {Q : State → Prop} {cc : ByteArray} {pc : Nat} {ls : Array Slot} {rest : List Value} {D : va_G} {tys : List (ClassId × FieldType)} {ws : va_W} {a : Nat} {A : Nat → Prop} (hx : p.tables.exec = Jvm.exec) (hb : c.code = cc) (hg : ∀ w ∈ gw, w.before args s = true) (hown : s.vm.findClass R_pn = some m.cls) (hK : va_K D kls tys s) (hP : va_P D kls ws H) (hD : va_D A ws) (hS : va_S A H0 H locs) (q0 : Nat) {fs : List Value} (he : ws[q0]? = some (a, .inr (4, fs))) {v : Value} (hn : narrow .int v = v) (hfit : fits .int v = true) (hl : 8 < fs.length) (hdg : decode cc pc = .ok (.putfield 45, 3)) (kk : ∀ (H1 : Heap) (locs1 : List Loc), va_P D kls (ws.set q0 (a, .inr (4, fs.set 8 v))) H1 → va_D A (ws.set q0 (a, .inr (4, fs.set 8 v))) → va_S A H0 H1 locs1 → W p l e R s m args below meth c H1 locs1 cells slots Q (F0 m (pc + 3) ls rest)) : W p l e R s m args below meth c H locs cells slots Q (F0 m pc ls (v :: .ref a :: rest)) := va_put hx hb hg in_pn t_pn t_pn_ok n_pn hown hK hP hD hS q0 he rfl 8 (by decide) (hg _ kw_148) (fun _ h => h) rfl (t_pn_ok 8 (by decide)) hn hfit hl hdg kk
theorem gv_pn_49 : GoodIn gw (wsV R_pn 49 R_cr y_cr_sumOfWays w_cr_sumOfWays) := gd_V kw_332 kw_333 kw_334 kw_3 kw_335
theorem gv_pn_55 : GoodIn gw (wsV R_pn 55 R_pn y_pn_begin w_pn_begin) := gd_V kw_337 kw_339 ks_pn_begin kw_4 kw_340
theorem gv_pn_58 : GoodIn gw (wsV R_pn 58 R_pn y_pn_canEnd w_pn_canEnd) := gd_V kw_346 kw_348 ks_pn_canEnd kw_4 kw_349
theorem gf_pn_62 {p : Program} {l : Launch} {e : Env} {R : Room} {s : State} {m : MethodId} {args : Array Value} {below : List Frame} {meth : Method} {c : Code} {H : Heap} {locs : List Loc} {cells slots : Nat} {Q : State → Prop} {cc : ByteArray} {pc : Nat} {ls : Array Slot} {rest : List Value} {D : va_G} {tys : List (ClassId × FieldType)} {ws : va_W} {a : Nat} (hx : p.tables.exec = Jvm.exec) (hb : c.code = cc) (hg : ∀ w ∈ gw, w.before args s = true) (hown : s.vm.findClass R_pn = some m.cls) (hK : va_K D kls tys s) (hP : va_P D kls ws H) (q0 : Nat) {fs : List Value} (he : ws[q0]? = some (a, .inr (4, fs))) {v : Value} (hv : fs[7]? = some v) (hdg : decode cc pc = .ok (.getfield 62, 3)) (kk : W p l e R s m args below meth c H locs cells slots Q (F0 m (pc + 3) ls (v :: rest))) : W p l e R s m args below meth c H locs cells slots Q (F0 m pc ls (.ref a :: rest)) := va_get hx hb hg in_pn hown hK hP q0 he rfl 7 (by decide) (hg _ kw_147) (fun _ h => h) hv hdg kk
theorem pf_pn_62 {p : Program} {l : Launch} {e : Env} {R : Room} {s : State} {m : MethodId} {args : Array Value} {below : List Frame} {meth : Method} {c : Code} {H H0 : Heap} {locs : List Loc} {cells slots : Nat} {Q : State → Prop} {cc : ByteArray} {pc : Nat} {ls : Array Slot} {rest : List Value} {D : va_G} {tys : List (ClassId × FieldType)} {ws : va_W} {a : Nat} {A : Nat → Prop} (hx : p.tables.exec = Jvm.exec) (hb : c.code = cc) (hg : ∀ w ∈ gw, w.before args s = true) (hown : s.vm.findClass R_pn = some m.cls) (hK : va_K D kls tys s) (hP : va_P D kls ws H) (hD : va_D A ws) (hS : va_S A H0 H locs) (q0 : Nat) {fs : List Value} (he : ws[q0]? = some (a, .inr (4, fs))) {v : Value} (hn : narrow .int v = v) (hfit : fits .int v = true) (hl : 7 < fs.length) (hdg : decode cc pc = .ok (.putfield 62, 3)) (kk : ∀ (H1 : Heap) (locs1 : List Loc), va_P D kls (ws.set q0 (a, .inr (4, fs.set 7 v))) H1 → va_D A (ws.set q0 (a, .inr (4, fs.set 7 v))) → va_S A H0 H1 locs1 → W p l e R s m args below meth c H1 locs1 cells slots Q (F0 m (pc + 3) ls rest)) : W p l e R s m args below meth c H locs cells slots Q (F0 m pc ls (v :: .ref a :: rest)) := va_put hx hb hg in_pn t_pn t_pn_ok n_pn hown hK hP hD hS q0 he rfl 7 (by decide) (hg _ kw_147) (fun _ h => h) rfl (t_pn_ok 7 (by decide)) hn hfit hl hdg kk
theorem gv_pn_65 : GoodIn gw (wsV R_pn 65 R_pn y_pn_layOut w_pn_layOut) := gd_V kw_394 kw_396 ks_pn_layOut kw_4 kw_397
theorem gf_pn_68 {p : Program} {l : Launch} {e : Env} {R : Room} {s : State} {m : MethodId} {args : Array Value} {below : List Frame} {meth : Method} {c : Code} {H : Heap} {locs : List Loc} {cells slots : Nat} {Q : State → Prop} {cc : ByteArray} {pc : Nat} {ls : Array Slot} {rest : List Value} {D : va_G} {tys : List (ClassId × FieldType)} {ws : va_W} {a : Nat} (hx : p.tables.exec = Jvm.exec) (hb : c.code = cc) (hg : ∀ w ∈ gw, w.before args s = true) (hown : s.vm.findClass R_pn = some m.cls) (hK : va_K D kls tys s) (hP : va_P D kls ws H) (q0 : Nat) {fs : List Value} (he : ws[q0]? = some (a, .inr (4, fs))) {v : Value} (hv : fs[6]? = some v) (hdg : decode cc pc = .ok (.getfield 68, 3)) (kk : W p l e R s m args below meth c H locs cells slots Q (F0 m (pc + 3) ls (v :: rest))) : W p l e R s m args below meth c H locs cells slots Q (F0 m pc ls (.ref a :: rest)) := va_get hx hb hg in_pn hown hK hP q0 he rfl 6 (by decide) (hg _ kw_146) (fun _ h => h) hv hdg kk
theorem pf_pn_68 {p : Program} {l : Launch} {e : Env} {R : Room} {s : State} {m : MethodId} {args : Array Value} {below : List Frame} {meth : Method} {c : Code} {H H0 : Heap} {locs : List Loc} {cells slots : Nat} {Q : State → Prop} {cc : ByteArray} {pc : Nat} {ls : Array Slot} {rest : List Value} {D : va_G} {tys : List (ClassId × FieldType)} {ws : va_W} {a : Nat} {A : Nat → Prop} (hx : p.tables.exec = Jvm.exec) (hb : c.code = cc) (hg : ∀ w ∈ gw, w.before args s = true) (hown : s.vm.findClass R_pn = some m.cls) (hK : va_K D kls tys s) (hP : va_P D kls ws H) (hD : va_D A ws) (hS : va_S A H0 H locs) (q0 : Nat) {fs : List Value} (he : ws[q0]? = some (a, .inr (4, fs))) {v : Value} (hn : narrow .int v = v) (hfit : fits .int v = true) (hl : 6 < fs.length) (hdg : decode cc pc = .ok (.putfield 68, 3)) (kk : ∀ (H1 : Heap) (locs1 : List Loc), va_P D kls (ws.set q0 (a, .inr (4, fs.set 6 v))) H1 → va_D A (ws.set q0 (a, .inr (4, fs.set 6 v))) → va_S A H0 H1 locs1 → W p l e R s m args below meth c H1 locs1 cells slots Q (F0 m (pc + 3) ls rest)) : W p l e R s m args below meth c H locs cells slots Q (F0 m pc ls (v :: .ref a :: rest)) := va_put hx hb hg in_pn t_pn t_pn_ok n_pn hown hK hP hD hS q0 he rfl 6 (by decide) (hg _ kw_146) (fun _ h => h) rfl (t_pn_ok 6 (by decide)) hn hfit hl hdg kk
theorem gv_pn_71 : GoodIn gw (wsV R_pn 71 R_pn y_pn_homeSince w_pn_homeSince) := gd_V kw_357 kw_359 ks_pn_homeSince kw_4 kw_360
theorem gl_pn_75 : (Cond.methodLink R_pn 75 y_ma_min) ∈ gw := kw_422
theorem gt_pn_75 : (Cond.static y_ma_min) ∈ gw := kw_423
theorem gi_pn_75 : (Cond.initialized y_ma_min.cls) ∈ gw := kw_10
theorem gg_pn_75 : GoodIn gw w_ma_min := gd_c kw_424
theorem gv_pn_80 : GoodIn gw (wsV R_pn 80 R_le y_le_reset w_le_reset) := gd_V kw_341 kw_342 kw_343 kw_5 kw_344
theorem gf_pn_83 {p : Program} {l : Launch} {e : Env} {R : Room} {s : State} {m : MethodId} {args : Array Value} {below : List Frame} {meth : Method} {c : Code} {H : Heap} {locs : List Loc} {cells slots : Nat} {Q : State → Prop} {cc : ByteArray} {pc : Nat} {ls : Array Slot} {rest : List Value} {D : va_G} {tys : List (ClassId × FieldType)} {ws : va_W} {a : Nat} (hx : p.tables.exec = Jvm.exec) (hb : c.code = cc) (hg : ∀ w ∈ gw, w.before args s = true) (hown : s.vm.findClass R_pn = some m.cls) (hK : va_K D kls tys s) (hP : va_P D kls ws H) (q0 : Nat) {fs : List Value} (he : ws[q0]? = some (a, .inr (0, fs))) {v : Value} (hv : fs[1]? = some v) (hdg : decode cc pc = .ok (.getfield 83, 3)) (kk : W p l e R s m args below meth c H locs cells slots Q (F0 m (pc + 3) ls (v :: rest))) : W p l e R s m args below meth c H locs cells slots Q (F0 m pc ls (.ref a :: rest)) := va_get hx hb hg in_cr hown hK hP q0 he rfl 1 (by decide) (hg _ kw_93) (fun _ h => h) hv hdg kk
theorem gf_pn_86 {p : Program} {l : Launch} {e : Env} {R : Room} {s : State} {m : MethodId} {args : Array Value} {below : List Frame} {meth : Method} {c : Code} {H : Heap} {locs : List Loc} {cells slots : Nat} {Q : State → Prop} {cc : ByteArray} {pc : Nat} {ls : Array Slot} {rest : List Value} {D : va_G} {tys : List (ClassId × FieldType)} {ws : va_W} {a : Nat} (hx : p.tables.exec = Jvm.exec) (hb : c.code = cc) (hg : ∀ w ∈ gw, w.before args s = true) (hown : s.vm.findClass R_pn = some m.cls) (hK : va_K D kls tys s) (hP : va_P D kls ws H) (q0 : Nat) {fs : List Value} (he : ws[q0]? = some (a, .inr (0, fs))) {v : Value} (hv : fs[2]? = some v) (hdg : decode cc pc = .ok (.getfield 86, 3)) (kk : W p l e R s m args below meth c H locs cells slots Q (F0 m (pc + 3) ls (v :: rest))) : W p l e R s m args below meth c H locs cells slots Q (F0 m pc ls (.ref a :: rest)) := va_get hx hb hg in_cr hown hK hP q0 he rfl 2 (by decide) (hg _ kw_96) (fun _ h => h) hv hdg kk
theorem gv_pn_89 : GoodIn gw (wsV R_pn 89 R_pn y_pn_isOver w_pn_isOver) := gd_V kw_398 kw_400 ks_pn_isOver kw_4 kw_401
theorem gc_pn_9 : (Cond.classLink R_pn 9 R_le) ∈ gw := kw_129
theorem gv_pn_93 : GoodIn gw (wsV R_pn 93 R_pn y_pn_chooseNext w_pn_chooseNext) := gd_V kw_402 kw_404 ks_pn_chooseNext kw_4 kw_405
theorem gf_pn_96 {p : Program} {l : Launch} {e : Env} {R : Room} {s : State} {m : MethodId} {args : Array Value} {below : List Frame} {meth : Method} {c : Code} {H : Heap} {locs : List Loc} {cells slots : Nat} {Q : State → Prop} {cc : ByteArray} {pc : Nat} {ls : Array Slot} {rest : List Value} {D : va_G} {tys : List (ClassId × FieldType)} {ws : va_W} {a : Nat} (hx : p.tables.exec = Jvm.exec) (hb : c.code = cc) (hg : ∀ w ∈ gw, w.before args s = true) (hown : s.vm.findClass R_pn = some m.cls) (hK : va_K D kls tys s) (hP : va_P D kls ws H) (q0 : Nat) {fs : List Value} (he : ws[q0]? = some (a, .inr (0, fs))) {v : Value} (hv : fs[3]? = some v) (hdg : decode cc pc = .ok (.getfield 96, 3)) (kk : W p l e R s m args below meth c H locs cells slots Q (F0 m (pc + 3) ls (v :: rest))) : W p l e R s m args below meth c H locs cells slots Q (F0 m pc ls (.ref a :: rest)) := va_get hx hb hg in_cr hown hK hP q0 he rfl 3 (by decide) (hg _ kw_99) (fun _ h => h) hv hdg kk
theorem gf_pn_99 {p : Program} {l : Launch} {e : Env} {R : Room} {s : State} {m : MethodId} {args : Array Value} {below : List Frame} {meth : Method} {c : Code} {H : Heap} {locs : List Loc} {cells slots : Nat} {Q : State → Prop} {cc : ByteArray} {pc : Nat} {ls : Array Slot} {rest : List Value} {D : va_G} {tys : List (ClassId × FieldType)} {ws : va_W} {a : Nat} (hx : p.tables.exec = Jvm.exec) (hb : c.code = cc) (hg : ∀ w ∈ gw, w.before args s = true) (hown : s.vm.findClass R_pn = some m.cls) (hK : va_K D kls tys s) (hP : va_P D kls ws H) (q0 : Nat) {fs : List Value} (he : ws[q0]? = some (a, .inr (1, fs))) {v : Value} (hv : fs[5]? = some v) (hdg : decode cc pc = .ok (.getfield 99, 3)) (kk : W p l e R s m args below meth c H locs cells slots Q (F0 m (pc + 3) ls (v :: rest))) : W p l e R s m args below meth c H locs cells slots Q (F0 m pc ls (.ref a :: rest)) := va_get hx hb hg in_fl hown hK hP q0 he rfl 5 (by decide) (hg _ kw_60) (fun _ h => h) hv hdg kk
theorem gf_vd_15 {p : Program} {l : Launch} {e : Env} {R : Room} {s : State} {m : MethodId} {args : Array Value} {below : List Frame} {meth : Method} {c : Code} {H : Heap} {locs : List Loc} {cells slots : Nat} {Q : State → Prop} {cc : ByteArray} {pc : Nat} {ls : Array Slot} {rest : List Value} {D : va_G} {tys : List (ClassId × FieldType)} {ws : va_W} {a : Nat} (hx : p.tables.exec = Jvm.exec) (hb : c.code = cc) (hg : ∀ w ∈ gw, w.before args s = true) (hown : s.vm.findClass R_vd = some m.cls) (hK : va_K D kls tys s) (hP : va_P D kls ws H) (q0 : Nat) {fs : List Value} (he : ws[q0]? = some (a, .inr (5, fs))) {v : Value} (hv : fs[1]? = some v) (hdg : decode cc pc = .ok (.getfield 15, 3)) (kk : W p l e R s m args below meth c H locs cells slots Q (F0 m (pc + 3) ls (v :: rest))) : W p l e R s m args below meth c H locs cells slots Q (F0 m pc ls (.ref a :: rest)) := va_get hx hb hg in_vd hown hK hP q0 he rfl 1 (by decide) (hg _ kw_199) (fun _ h => h) hv hdg kk
theorem pf_vd_15 {p : Program} {l : Launch} {e : Env} {R : Room} {s : State} {m : MethodId} {args : Array Value} {below : List Frame} {meth : Method} {c : Code} {H H0 : Heap} {locs : List Loc} {cells slots : Nat} {Q : State → Prop} {cc : ByteArray} {pc : Nat} {ls : Array Slot} {rest : List Value} {D : va_G} {tys : List (ClassId × FieldType)} {ws : va_W} {a : Nat} {A : Nat → Prop} (hx : p.tables.exec = Jvm.exec) (hb : c.code = cc) (hg : ∀ w ∈ gw, w.before args s = true) (hown : s.vm.findClass R_vd = some m.cls) (hi : meth.name = "<init>") (hK : va_K D kls tys s) (hP : va_P D kls ws H) (hD : va_D A ws) (hS : va_S A H0 H locs) (q0 : Nat) {fs : List Value} (he : ws[q0]? = some (a, .inr (5, fs))) {v : Value} (hn : narrow (.object "MoverRoom$Crew") v = v) (hfit : fits (.object "MoverRoom$Crew") v = true) (hl : 1 < fs.length) (hdg : decode cc pc = .ok (.putfield 15, 3)) (kk : ∀ (H1 : Heap) (locs1 : List Loc), va_P D kls (ws.set q0 (a, .inr (5, fs.set 1 v))) H1 → va_D A (ws.set q0 (a, .inr (5, fs.set 1 v))) → va_S A H0 H1 locs1 → W p l e R s m args below meth c H1 locs1 cells slots Q (F0 m (pc + 3) ls rest)) : W p l e R s m args below meth c H locs cells slots Q (F0 m pc ls (v :: .ref a :: rest)) := va_putF hx hb hg in_vd t_vd t_vd_ok n_vd hown hK hP hD hS q0 he rfl 1 (by decide) (hg _ kw_199) (fun _ h => h) rfl hi rfl (t_vd_ok 1 (by decide)) hn hfit hl hdg kk
theorem gf_vd_19 {p : Program} {l : Launch} {e : Env} {R : Room} {s : State} {m : MethodId} {args : Array Value} {below : List Frame} {meth : Method} {c : Code} {H : Heap} {locs : List Loc} {cells slots : Nat} {Q : State → Prop} {cc : ByteArray} {pc : Nat} {ls : Array Slot} {rest : List Value} {D : va_G} {tys : List (ClassId × FieldType)} {ws : va_W} {a : Nat} (hx : p.tables.exec = Jvm.exec) (hb : c.code = cc) (hg : ∀ w ∈ gw, w.before args s = true) (hown : s.vm.findClass R_vd = some m.cls) (hK : va_K D kls tys s) (hP : va_P D kls ws H) (q0 : Nat) {fs : List Value} (he : ws[q0]? = some (a, .inr (5, fs))) {v : Value} (hv : fs[2]? = some v) (hdg : decode cc pc = .ok (.getfield 19, 3)) (kk : W p l e R s m args below meth c H locs cells slots Q (F0 m (pc + 3) ls (v :: rest))) : W p l e R s m args below meth c H locs cells slots Q (F0 m pc ls (.ref a :: rest)) := va_get hx hb hg in_vd hown hK hP q0 he rfl 2 (by decide) (hg _ kw_200) (fun _ h => h) hv hdg kk
theorem pf_vd_19 {p : Program} {l : Launch} {e : Env} {R : Room} {s : State} {m : MethodId} {args : Array Value} {below : List Frame} {meth : Method} {c : Code} {H H0 : Heap} {locs : List Loc} {cells slots : Nat} {Q : State → Prop} {cc : ByteArray} {pc : Nat} {ls : Array Slot} {rest : List Value} {D : va_G} {tys : List (ClassId × FieldType)} {ws : va_W} {a : Nat} {A : Nat → Prop} (hx : p.tables.exec = Jvm.exec) (hb : c.code = cc) (hg : ∀ w ∈ gw, w.before args s = true) (hown : s.vm.findClass R_vd = some m.cls) (hi : meth.name = "<init>") (hK : va_K D kls tys s) (hP : va_P D kls ws H) (hD : va_D A ws) (hS : va_S A H0 H locs) (q0 : Nat) {fs : List Value} (he : ws[q0]? = some (a, .inr (5, fs))) {v : Value} (hn : narrow (.object "MoverRoom$LaidPlan") v = v) (hfit : fits (.object "MoverRoom$LaidPlan") v = true) (hl : 2 < fs.length) (hdg : decode cc pc = .ok (.putfield 19, 3)) (kk : ∀ (H1 : Heap) (locs1 : List Loc), va_P D kls (ws.set q0 (a, .inr (5, fs.set 2 v))) H1 → va_D A (ws.set q0 (a, .inr (5, fs.set 2 v))) → va_S A H0 H1 locs1 → W p l e R s m args below meth c H1 locs1 cells slots Q (F0 m (pc + 3) ls rest)) : W p l e R s m args below meth c H locs cells slots Q (F0 m pc ls (v :: .ref a :: rest)) := va_putF hx hb hg in_vd t_vd t_vd_ok n_vd hown hK hP hD hS q0 he rfl 2 (by decide) (hg _ kw_200) (fun _ h => h) rfl hi rfl (t_vd_ok 2 (by decide)) hn hfit hl hdg kk
theorem gv_vd_23 : GoodIn gw (wsV R_vd 23 R_vd y_vd_blame w_vd_blame) := gd_V kw_445 kw_447 ks_vd_blame kw_7 kw_448
theorem gf_vd_27 {p : Program} {l : Launch} {e : Env} {R : Room} {s : State} {m : MethodId} {args : Array Value} {below : List Frame} {meth : Method} {c : Code} {H : Heap} {locs : List Loc} {cells slots : Nat} {Q : State → Prop} {cc : ByteArray} {pc : Nat} {ls : Array Slot} {rest : List Value} {D : va_G} {tys : List (ClassId × FieldType)} {ws : va_W} {a : Nat} (hx : p.tables.exec = Jvm.exec) (hb : c.code = cc) (hg : ∀ w ∈ gw, w.before args s = true) (hown : s.vm.findClass R_vd = some m.cls) (hK : va_K D kls tys s) (hP : va_P D kls ws H) (q0 : Nat) {fs : List Value} (he : ws[q0]? = some (a, .inr (5, fs))) {v : Value} (hv : fs[3]? = some v) (hdg : decode cc pc = .ok (.getfield 27, 3)) (kk : W p l e R s m args below meth c H locs cells slots Q (F0 m (pc + 3) ls (v :: rest))) : W p l e R s m args below meth c H locs cells slots Q (F0 m pc ls (.ref a :: rest)) := va_get hx hb hg in_vd hown hK hP q0 he rfl 3 (by decide) (hg _ kw_201) (fun _ h => h) hv hdg kk
theorem pf_vd_27 {p : Program} {l : Launch} {e : Env} {R : Room} {s : State} {m : MethodId} {args : Array Value} {below : List Frame} {meth : Method} {c : Code} {H H0 : Heap} {locs : List Loc} {cells slots : Nat} {Q : State → Prop} {cc : ByteArray} {pc : Nat} {ls : Array Slot} {rest : List Value} {D : va_G} {tys : List (ClassId × FieldType)} {ws : va_W} {a : Nat} {A : Nat → Prop} (hx : p.tables.exec = Jvm.exec) (hb : c.code = cc) (hg : ∀ w ∈ gw, w.before args s = true) (hown : s.vm.findClass R_vd = some m.cls) (hK : va_K D kls tys s) (hP : va_P D kls ws H) (hD : va_D A ws) (hS : va_S A H0 H locs) (q0 : Nat) {fs : List Value} (he : ws[q0]? = some (a, .inr (5, fs))) {v : Value} (hn : narrow .int v = v) (hfit : fits .int v = true) (hl : 3 < fs.length) (hdg : decode cc pc = .ok (.putfield 27, 3)) (kk : ∀ (H1 : Heap) (locs1 : List Loc), va_P D kls (ws.set q0 (a, .inr (5, fs.set 3 v))) H1 → va_D A (ws.set q0 (a, .inr (5, fs.set 3 v))) → va_S A H0 H1 locs1 → W p l e R s m args below meth c H1 locs1 cells slots Q (F0 m (pc + 3) ls rest)) : W p l e R s m args below meth c H locs cells slots Q (F0 m pc ls (v :: .ref a :: rest)) := va_put hx hb hg in_vd t_vd t_vd_ok n_vd hown hK hP hD hS q0 he rfl 3 (by decide) (hg _ kw_201) (fun _ h => h) rfl (t_vd_ok 3 (by decide)) hn hfit hl hdg kk
theorem gv_vd_31 : GoodIn gw (wsV R_vd 31 R_vd y_vd_seekStrayed w_vd_seekStrayed) := gd_V kw_449 kw_451 ks_vd_seekStrayed kw_7 kw_452
theorem gv_vd_35 : GoodIn gw (wsV R_vd 35 R_vd y_vd_seekMeeting w_vd_seekMeeting) := gd_V kw_470 kw_472 ks_vd_seekMeeting kw_7 kw_473
theorem pf_vd_39 {p : Program} {l : Launch} {e : Env} {R : Room} {s : State} {m : MethodId} {args : Array Value} {below : List Frame} {meth : Method} {c : Code} {H H0 : Heap} {locs : List Loc} {cells slots : Nat} {Q : State → Prop} {cc : ByteArray} {pc : Nat} {ls : Array Slot} {rest : List Value} {D : va_G} {tys : List (ClassId × FieldType)} {ws : va_W} {a : Nat} {A : Nat → Prop} (hx : p.tables.exec = Jvm.exec) (hb : c.code = cc) (hg : ∀ w ∈ gw, w.before args s = true) (hown : s.vm.findClass R_vd = some m.cls) (hK : va_K D kls tys s) (hP : va_P D kls ws H) (hD : va_D A ws) (hS : va_S A H0 H locs) (q0 : Nat) {fs : List Value} (he : ws[q0]? = some (a, .inr (5, fs))) {v : Value} (hn : narrow .int v = v) (hfit : fits .int v = true) (hl : 4 < fs.length) (hdg : decode cc pc = .ok (.putfield 39, 3)) (kk : ∀ (H1 : Heap) (locs1 : List Loc), va_P D kls (ws.set q0 (a, .inr (5, fs.set 4 v))) H1 → va_D A (ws.set q0 (a, .inr (5, fs.set 4 v))) → va_S A H0 H1 locs1 → W p l e R s m args below meth c H1 locs1 cells slots Q (F0 m (pc + 3) ls rest)) : W p l e R s m args below meth c H locs cells slots Q (F0 m pc ls (v :: .ref a :: rest)) := va_put hx hb hg in_vd t_vd t_vd_ok n_vd hown hK hP hD hS q0 he rfl 4 (by decide) (hg _ kw_203) (fun _ h => h) rfl (t_vd_ok 4 (by decide)) hn hfit hl hdg kk
theorem pf_vd_42 {p : Program} {l : Launch} {e : Env} {R : Room} {s : State} {m : MethodId} {args : Array Value} {below : List Frame} {meth : Method} {c : Code} {H H0 : Heap} {locs : List Loc} {cells slots : Nat} {Q : State → Prop} {cc : ByteArray} {pc : Nat} {ls : Array Slot} {rest : List Value} {D : va_G} {tys : List (ClassId × FieldType)} {ws : va_W} {a : Nat} {A : Nat → Prop} (hx : p.tables.exec = Jvm.exec) (hb : c.code = cc) (hg : ∀ w ∈ gw, w.before args s = true) (hown : s.vm.findClass R_vd = some m.cls) (hK : va_K D kls tys s) (hP : va_P D kls ws H) (hD : va_D A ws) (hS : va_S A H0 H locs) (q0 : Nat) {fs : List Value} (he : ws[q0]? = some (a, .inr (5, fs))) {v : Value} (hn : narrow .int v = v) (hfit : fits .int v = true) (hl : 5 < fs.length) (hdg : decode cc pc = .ok (.putfield 42, 3)) (kk : ∀ (H1 : Heap) (locs1 : List Loc), va_P D kls (ws.set q0 (a, .inr (5, fs.set 5 v))) H1 → va_D A (ws.set q0 (a, .inr (5, fs.set 5 v))) → va_S A H0 H1 locs1 → W p l e R s m args below meth c H1 locs1 cells slots Q (F0 m (pc + 3) ls rest)) : W p l e R s m args below meth c H locs cells slots Q (F0 m pc ls (v :: .ref a :: rest)) := va_put hx hb hg in_vd t_vd t_vd_ok n_vd hown hK hP hD hS q0 he rfl 5 (by decide) (hg _ kw_205) (fun _ h => h) rfl (t_vd_ok 5 (by decide)) hn hfit hl hdg kk
theorem pf_vd_45 {p : Program} {l : Launch} {e : Env} {R : Room} {s : State} {m : MethodId} {args : Array Value} {below : List Frame} {meth : Method} {c : Code} {H H0 : Heap} {locs : List Loc} {cells slots : Nat} {Q : State → Prop} {cc : ByteArray} {pc : Nat} {ls : Array Slot} {rest : List Value} {D : va_G} {tys : List (ClassId × FieldType)} {ws : va_W} {a : Nat} {A : Nat → Prop} (hx : p.tables.exec = Jvm.exec) (hb : c.code = cc) (hg : ∀ w ∈ gw, w.before args s = true) (hown : s.vm.findClass R_vd = some m.cls) (hK : va_K D kls tys s) (hP : va_P D kls ws H) (hD : va_D A ws) (hS : va_S A H0 H locs) (q0 : Nat) {fs : List Value} (he : ws[q0]? = some (a, .inr (5, fs))) {v : Value} (hn : narrow .int v = v) (hfit : fits .int v = true) (hl : 6 < fs.length) (hdg : decode cc pc = .ok (.putfield 45, 3)) (kk : ∀ (H1 : Heap) (locs1 : List Loc), va_P D kls (ws.set q0 (a, .inr (5, fs.set 6 v))) H1 → va_D A (ws.set q0 (a, .inr (5, fs.set 6 v))) → va_S A H0 H1 locs1 → W p l e R s m args below meth c H1 locs1 cells slots Q (F0 m (pc + 3) ls rest)) : W p l e R s m args below meth c H locs cells slots Q (F0 m pc ls (v :: .ref a :: rest)) := va_put hx hb hg in_vd t_vd t_vd_ok n_vd hown hK hP hD hS q0 he rfl 6 (by decide) (hg _ kw_207) (fun _ h => h) rfl (t_vd_ok 6 (by decide)) hn hfit hl hdg kk
theorem gf_vd_48 {p : Program} {l : Launch} {e : Env} {R : Room} {s : State} {m : MethodId} {args : Array Value} {below : List Frame} {meth : Method} {c : Code} {H : Heap} {locs : List Loc} {cells slots : Nat} {Q : State → Prop} {cc : ByteArray} {pc : Nat} {ls : Array Slot} {rest : List Value} {D : va_G} {tys : List (ClassId × FieldType)} {ws : va_W} {a : Nat} (hx : p.tables.exec = Jvm.exec) (hb : c.code = cc) (hg : ∀ w ∈ gw, w.before args s = true) (hown : s.vm.findClass R_vd = some m.cls) (hK : va_K D kls tys s) (hP : va_P D kls ws H) (q0 : Nat) {fs : List Value} (he : ws[q0]? = some (a, .inr (0, fs))) {v : Value} (hv : fs[1]? = some v) (hdg : decode cc pc = .ok (.getfield 48, 3)) (kk : W p l e R s m args below meth c H locs cells slots Q (F0 m (pc + 3) ls (v :: rest))) : W p l e R s m args below meth c H locs cells slots Q (F0 m pc ls (.ref a :: rest)) := va_get hx hb hg in_cr hown hK hP q0 he rfl 1 (by decide) (hg _ kw_91) (fun _ h => h) hv hdg kk
theorem gv_vd_53 : GoodIn gw (wsV R_vd 53 R_vd y_vd_strays w_vd_strays) := gd_V kw_453 kw_455 ks_vd_strays kw_7 kw_456
theorem gv_vd_57 : GoodIn gw (wsV R_vd 57 R_ld y_ld_isNowhere w_ld_isNowhere) := gd_V kw_457 kw_458 kw_459 kw_6 kw_460
theorem gv_vd_63 : GoodIn gw (wsV R_vd 63 R_ld y_ld_placeOf w_ld_placeOf) := gd_V kw_461 kw_462 kw_463 kw_6 kw_464
theorem gf_vd_67 {p : Program} {l : Launch} {e : Env} {R : Room} {s : State} {m : MethodId} {args : Array Value} {below : List Frame} {meth : Method} {c : Code} {H : Heap} {locs : List Loc} {cells slots : Nat} {Q : State → Prop} {cc : ByteArray} {pc : Nat} {ls : Array Slot} {rest : List Value} {D : va_G} {tys : List (ClassId × FieldType)} {ws : va_W} {a : Nat} (hx : p.tables.exec = Jvm.exec) (hb : c.code = cc) (hg : ∀ w ∈ gw, w.before args s = true) (hown : s.vm.findClass R_vd = some m.cls) (hK : va_K D kls tys s) (hP : va_P D kls ws H) (q0 : Nat) {fs : List Value} (he : ws[q0]? = some (a, .inr (0, fs))) {v : Value} (hv : fs[2]? = some v) (hdg : decode cc pc = .ok (.getfield 67, 3)) (kk : W p l e R s m args below meth c H locs cells slots Q (F0 m (pc + 3) ls (v :: rest))) : W p l e R s m args below meth c H locs cells slots Q (F0 m pc ls (.ref a :: rest)) := va_get hx hb hg in_cr hown hK hP q0 he rfl 2 (by decide) (hg _ kw_95) (fun _ h => h) hv hdg kk
theorem gv_vd_71 : GoodIn gw (wsV R_vd 71 R_fl y_fl_leads w_fl_leads) := gd_V kw_466 kw_467 kw_468 kw_2 kw_469
theorem gf_vd_76 {p : Program} {l : Launch} {e : Env} {R : Room} {s : State} {m : MethodId} {args : Array Value} {below : List Frame} {meth : Method} {c : Code} {H : Heap} {locs : List Loc} {cells slots : Nat} {Q : State → Prop} {cc : ByteArray} {pc : Nat} {ls : Array Slot} {rest : List Value} {D : va_G} {tys : List (ClassId × FieldType)} {ws : va_W} {a : Nat} (hx : p.tables.exec = Jvm.exec) (hb : c.code = cc) (hg : ∀ w ∈ gw, w.before args s = true) (hown : s.vm.findClass R_vd = some m.cls) (hK : va_K D kls tys s) (hP : va_P D kls ws H) (q0 : Nat) {fs : List Value} (he : ws[q0]? = some (a, .inr (0, fs))) {v : Value} (hv : fs[3]? = some v) (hdg : decode cc pc = .ok (.getfield 76, 3)) (kk : W p l e R s m args below meth c H locs cells slots Q (F0 m (pc + 3) ls (v :: rest))) : W p l e R s m args below meth c H locs cells slots Q (F0 m pc ls (.ref a :: rest)) := va_get hx hb hg in_cr hown hK hP q0 he rfl 3 (by decide) (hg _ kw_98) (fun _ h => h) hv hdg kk
theorem gv_vd_79 : GoodIn gw (wsV R_vd 79 R_vd y_vd_share w_vd_share) := gd_V kw_474 kw_476 ks_vd_share kw_7 kw_477
theorem gv_vd_83 : GoodIn gw (wsV R_vd 83 R_vd y_vd_exchange w_vd_exchange) := gd_V kw_478 kw_480 ks_vd_exchange kw_7 kw_481
theorem gf_vd_9 {p : Program} {l : Launch} {e : Env} {R : Room} {s : State} {m : MethodId} {args : Array Value} {below : List Frame} {meth : Method} {c : Code} {H : Heap} {locs : List Loc} {cells slots : Nat} {Q : State → Prop} {cc : ByteArray} {pc : Nat} {ls : Array Slot} {rest : List Value} {D : va_G} {tys : List (ClassId × FieldType)} {ws : va_W} {a : Nat} (hx : p.tables.exec = Jvm.exec) (hb : c.code = cc) (hg : ∀ w ∈ gw, w.before args s = true) (hown : s.vm.findClass R_vd = some m.cls) (hK : va_K D kls tys s) (hP : va_P D kls ws H) (q0 : Nat) {fs : List Value} (he : ws[q0]? = some (a, .inr (5, fs))) {v : Value} (hv : fs[0]? = some v) (hdg : decode cc pc = .ok (.getfield 9, 3)) (kk : W p l e R s m args below meth c H locs cells slots Q (F0 m (pc + 3) ls (v :: rest))) : W p l e R s m args below meth c H locs cells slots Q (F0 m pc ls (.ref a :: rest)) := va_get hx hb hg in_vd hown hK hP q0 he rfl 0 (by decide) (hg _ kw_198) (fun _ h => h) hv hdg kk
theorem pf_vd_9 {p : Program} {l : Launch} {e : Env} {R : Room} {s : State} {m : MethodId} {args : Array Value} {below : List Frame} {meth : Method} {c : Code} {H H0 : Heap} {locs : List Loc} {cells slots : Nat} {Q : State → Prop} {cc : ByteArray} {pc : Nat} {ls : Array Slot} {rest : List Value} {D : va_G} {tys : List (ClassId × FieldType)} {ws : va_W} {a : Nat} {A : Nat → Prop} (hx : p.tables.exec = Jvm.exec) (hb : c.code = cc) (hg : ∀ w ∈ gw, w.before args s = true) (hown : s.vm.findClass R_vd = some m.cls) (hi : meth.name = "<init>") (hK : va_K D kls tys s) (hP : va_P D kls ws H) (hD : va_D A ws) (hS : va_S A H0 H locs) (q0 : Nat) {fs : List Value} (he : ws[q0]? = some (a, .inr (5, fs))) {v : Value} (hn : narrow (.object "MoverRoom$Floor") v = v) (hfit : fits (.object "MoverRoom$Floor") v = true) (hl : 0 < fs.length) (hdg : decode cc pc = .ok (.putfield 9, 3)) (kk : ∀ (H1 : Heap) (locs1 : List Loc), va_P D kls (ws.set q0 (a, .inr (5, fs.set 0 v))) H1 → va_D A (ws.set q0 (a, .inr (5, fs.set 0 v))) → va_S A H0 H1 locs1 → W p l e R s m args below meth c H1 locs1 cells slots Q (F0 m (pc + 3) ls rest)) : W p l e R s m args below meth c H locs cells slots Q (F0 m pc ls (v :: .ref a :: rest)) := va_putF hx hb hg in_vd t_vd t_vd_ok n_vd hown hK hP hD hS q0 he rfl 0 (by decide) (hg _ kw_198) (fun _ h => h) rfl hi rfl (t_vd_ok 0 (by decide)) hn hfit hl hdg kk
theorem go_cr : (Cond.methodLink R_cr 3 objectInit) ∈ gw := kw_87
theorem gj_cr : (Cond.instantiable R_cr 8) ∈ gw := kw_83
theorem gi_cr : (Cond.initialized R_cr) ∈ gw := kw_3
theorem go_fl : (Cond.methodLink R_fl 3 objectInit) ∈ gw := kw_24
theorem gj_fl : (Cond.instantiable R_fl 7) ∈ gw := kw_20
theorem gi_fl : (Cond.initialized R_fl) ∈ gw := kw_2
theorem go_ld : (Cond.methodLink R_ld 3 objectInit) ∈ gw := kw_180
theorem gj_ld : (Cond.instantiable R_ld 3) ∈ gw := kw_176
theorem gi_ld : (Cond.initialized R_ld) ∈ gw := kw_6
theorem go_le : (Cond.methodLink R_le 3 objectInit) ∈ gw := kw_134
theorem gj_le : (Cond.instantiable R_le 1) ∈ gw := kw_130
theorem gi_le : (Cond.initialized R_le) ∈ gw := kw_5
theorem go_pn : (Cond.methodLink R_pn 3 objectInit) ∈ gw := kw_128
theorem gj_pn : (Cond.instantiable R_pn 11) ∈ gw := kw_124
theorem gi_pn : (Cond.initialized R_pn) ∈ gw := kw_4
theorem go_vd : (Cond.methodLink R_vd 3 objectInit) ∈ gw := kw_197
theorem gj_vd : (Cond.instantiable R_vd 7) ∈ gw := kw_193
theorem gi_vd : (Cond.initialized R_vd) ∈ gw := kw_7
theorem go_mr : (Cond.methodLink R_mr 3 objectInit) ∈ gw := kw_16
theorem gj_mr : (Cond.instantiable R_mr 5) ∈ gw := kw_12
theorem gi_mr : (Cond.initialized R_mr) ∈ gw := kw_1
theorem go_md : (Cond.methodLink R_md 1 objectInit) ∈ gw := kw_487
theorem gj_md : (Cond.instantiable R_md 33) ∈ gw := kw_483
theorem gi_md : (Cond.initialized R_md) ∈ gw := kw_8
theorem go_m : (Cond.instanceMethod objectInit) ∈ gw := kw_17
theorem go_c : (Cond.code objectInit ⟨#[0xb1]⟩ 1 none) ∈ gw := kw_18
theorem ga_boolean : (Cond.arrayClass .boolean) ∈ gw := kw_80
theorem ga_int : (Cond.arrayClass .int) ∈ gw := kw_81
theorem ga_long : (Cond.arrayClass .long) ∈ gw := kw_122
theorem gc_cr_18 : (Cond.classLink R_cr 18 "[[I") ∈ gw := kw_88
theorem gc_fl_22 : (Cond.classLink R_fl 22 "[[I") ∈ gw := kw_25
theorem gc_ld_9 : (Cond.classLink R_ld 9 "[[I") ∈ gw := kw_181
theorem gc_pn_18 : (Cond.classLink R_pn 18 "[[I") ∈ gw := kw_139
theorem gx_md_45 : (Cond.constant R_md 45 512000) ∈ gw := kw_488
theorem gx_mr_89 : (Cond.constantLong R_mr 89 (-1)) ∈ gw := kw_307
theorem gx_le_25 : (Cond.constantLong R_le 25 (15)) ∈ gw := kw_392
theorem gx_le_27 : (Cond.constantLong R_le 27 (-1)) ∈ gw := kw_393
theorem gx_md_118 : (Cond.constantLong R_md 118 (-1)) ∈ gw := kw_641
end
section
theorem d_fl_init_0 : decode b_fl_init 0 = .ok (.aload_n 0, 1) := by decide +kernel
theorem d_fl_init_1 : decode b_fl_init 1 = .ok (.invokespecial 3, 3) := by decide +kernel
theorem d_fl_init_4 : decode b_fl_init 4 = .ok (.aload_n 0, 1) := by decide +kernel
theorem d_fl_init_5 : decode b_fl_init 5 = .ok (.bipush 25, 2) := by decide +kernel
theorem d_fl_init_7 : decode b_fl_init 7 = .ok (.newarray .boolean, 2) := by decide +kernel
theorem d_fl_init_9 : decode b_fl_init 9 = .ok (.putfield 9, 3) := by decide +kernel
theorem d_fl_init_12 : decode b_fl_init 12 = .ok (.aload_n 0, 1) := by decide +kernel
theorem d_fl_init_13 : decode b_fl_init 13 = .ok (.bipush 25, 2) := by decide +kernel
theorem d_fl_init_15 : decode b_fl_init 15 = .ok (.newarray .int, 2) := by decide +kernel
theorem d_fl_init_17 : decode b_fl_init 17 = .ok (.putfield 15, 3) := by decide +kernel
theorem d_fl_init_20 : decode b_fl_init 20 = .ok (.aload_n 0, 1) := by decide +kernel
theorem d_fl_init_21 : decode b_fl_init 21 = .ok (.bipush 25, 2) := by decide +kernel
theorem d_fl_init_23 : decode b_fl_init 23 = .ok (.newarray .int, 2) := by decide +kernel
theorem d_fl_init_25 : decode b_fl_init 25 = .ok (.putfield 19, 3) := by decide +kernel
theorem d_fl_init_28 : decode b_fl_init 28 = .ok (.aload_n 0, 1) := by decide +kernel
theorem d_fl_init_29 : decode b_fl_init 29 = .ok (.bipush 25, 2) := by decide +kernel
theorem d_fl_init_31 : decode b_fl_init 31 = .ok (.iconst 5, 1) := by decide +kernel
theorem d_fl_init_32 : decode b_fl_init 32 = .ok (.multianewarray 22 2, 4) := by decide +kernel
theorem d_fl_init_36 : decode b_fl_init 36 = .ok (.putfield 24, 3) := by decide +kernel
theorem d_fl_init_39 : decode b_fl_init 39 = .ok (.aload_n 0, 1) := by decide +kernel
theorem d_fl_init_40 : decode b_fl_init 40 = .ok (.iconst 1, 1) := by decide +kernel
theorem d_fl_init_41 : decode b_fl_init 41 = .ok (.iconst 1, 1) := by decide +kernel
theorem d_fl_init_42 : decode b_fl_init 42 = .ok (.invokevirtual 27, 3) := by decide +kernel
theorem d_fl_init_45 : decode b_fl_init 45 = .ok (.return_, 1) := by decide +kernel
theorem d_fl_build_0 : decode b_fl_build 0 = .ok (.aload_n 0, 1) := by decide +kernel
theorem d_fl_build_1 : decode b_fl_build 1 = .ok (.iload_n 1, 1) := by decide +kernel
theorem d_fl_build_2 : decode b_fl_build 2 = .ok (.putfield 31, 3) := by decide +kernel
theorem d_fl_build_5 : decode b_fl_build 5 = .ok (.aload_n 0, 1) := by decide +kernel
theorem d_fl_build_6 : decode b_fl_build 6 = .ok (.iload_n 2, 1) := by decide +kernel
theorem d_fl_build_7 : decode b_fl_build 7 = .ok (.putfield 35, 3) := by decide +kernel
theorem d_fl_build_10 : decode b_fl_build 10 = .ok (.iconst 0, 1) := by decide +kernel
theorem d_fl_build_11 : decode b_fl_build 11 = .ok (.istore_n 3, 1) := by decide +kernel
theorem d_fl_build_12 : decode b_fl_build 12 = .ok (.iload_n 3, 1) := by decide +kernel
theorem d_fl_build_13 : decode b_fl_build 13 = .ok (.bipush 25, 2) := by decide +kernel
theorem d_fl_build_15 : decode b_fl_build 15 = .ok (.if_icmp .ge 16, 3) := by decide +kernel
theorem d_fl_build_18 : decode b_fl_build 18 = .ok (.aload_n 0, 1) := by decide +kernel
theorem d_fl_build_19 : decode b_fl_build 19 = .ok (.getfield 9, 3) := by decide +kernel
theorem d_fl_build_22 : decode b_fl_build 22 = .ok (.iload_n 3, 1) := by decide +kernel
theorem d_fl_build_23 : decode b_fl_build 23 = .ok (.iconst 0, 1) := by decide +kernel
theorem d_fl_build_24 : decode b_fl_build 24 = .ok (.bastore, 1) := by decide +kernel
theorem d_fl_build_25 : decode b_fl_build 25 = .ok (.iinc 3 1, 3) := by decide +kernel
theorem d_fl_build_28 : decode b_fl_build 28 = .ok (.goto (-16), 3) := by decide +kernel
theorem d_fl_build_31 : decode b_fl_build 31 = .ok (.aload_n 0, 1) := by decide +kernel
theorem d_fl_build_32 : decode b_fl_build 32 = .ok (.invokevirtual 38, 3) := by decide +kernel
theorem d_fl_build_35 : decode b_fl_build 35 = .ok (.return_, 1) := by decide +kernel
theorem d_fl_turn_0 : decode b_fl_turn 0 = .ok (.aload_n 0, 1) := by decide +kernel
theorem d_fl_turn_1 : decode b_fl_turn 1 = .ok (.getfield 9, 3) := by decide +kernel
theorem d_fl_turn_4 : decode b_fl_turn 4 = .ok (.iload_n 1, 1) := by decide +kernel
theorem d_fl_turn_5 : decode b_fl_turn 5 = .ok (.aload_n 0, 1) := by decide +kernel
theorem d_fl_turn_6 : decode b_fl_turn 6 = .ok (.getfield 9, 3) := by decide +kernel
theorem d_fl_turn_9 : decode b_fl_turn 9 = .ok (.iload_n 1, 1) := by decide +kernel
theorem d_fl_turn_10 : decode b_fl_turn 10 = .ok (.baload, 1) := by decide +kernel
theorem d_fl_turn_11 : decode b_fl_turn 11 = .ok (.ifCond .ne 7, 3) := by decide +kernel
theorem d_fl_turn_14 : decode b_fl_turn 14 = .ok (.iconst 1, 1) := by decide +kernel
theorem d_fl_turn_15 : decode b_fl_turn 15 = .ok (.goto 4, 3) := by decide +kernel
theorem d_fl_turn_18 : decode b_fl_turn 18 = .ok (.iconst 0, 1) := by decide +kernel
theorem d_fl_turn_19 : decode b_fl_turn 19 = .ok (.bastore, 1) := by decide +kernel
theorem d_fl_turn_20 : decode b_fl_turn 20 = .ok (.aload_n 0, 1) := by decide +kernel
theorem d_fl_turn_21 : decode b_fl_turn 21 = .ok (.invokevirtual 38, 3) := by decide +kernel
theorem d_fl_turn_24 : decode b_fl_turn 24 = .ok (.return_, 1) := by decide +kernel
theorem d_fl_has_0 : decode b_fl_has 0 = .ok (.iload_n 1, 1) := by decide +kernel
theorem d_fl_has_1 : decode b_fl_has 1 = .ok (.ifCond .lt 20, 3) := by decide +kernel
theorem d_fl_has_4 : decode b_fl_has 4 = .ok (.iload_n 1, 1) := by decide +kernel
theorem d_fl_has_5 : decode b_fl_has 5 = .ok (.aload_n 0, 1) := by decide +kernel
theorem d_fl_has_6 : decode b_fl_has 6 = .ok (.getfield 31, 3) := by decide +kernel
theorem d_fl_has_9 : decode b_fl_has 9 = .ok (.aload_n 0, 1) := by decide +kernel
theorem d_fl_has_10 : decode b_fl_has 10 = .ok (.getfield 35, 3) := by decide +kernel
theorem d_fl_has_13 : decode b_fl_has 13 = .ok (.imul, 1) := by decide +kernel
theorem d_fl_has_14 : decode b_fl_has 14 = .ok (.if_icmp .ge 7, 3) := by decide +kernel
theorem d_fl_has_17 : decode b_fl_has 17 = .ok (.iconst 1, 1) := by decide +kernel
theorem d_fl_has_18 : decode b_fl_has 18 = .ok (.goto 4, 3) := by decide +kernel
theorem d_fl_has_21 : decode b_fl_has 21 = .ok (.iconst 0, 1) := by decide +kernel
theorem d_fl_has_22 : decode b_fl_has 22 = .ok (.ireturn, 1) := by decide +kernel
theorem d_fl_isFree_0 : decode b_fl_isFree 0 = .ok (.aload_n 0, 1) := by decide +kernel
theorem d_fl_isFree_1 : decode b_fl_isFree 1 = .ok (.iload_n 1, 1) := by decide +kernel
theorem d_fl_isFree_2 : decode b_fl_isFree 2 = .ok (.invokevirtual 41, 3) := by decide +kernel
theorem d_fl_isFree_5 : decode b_fl_isFree 5 = .ok (.ifCond .eq 16, 3) := by decide +kernel
theorem d_fl_isFree_8 : decode b_fl_isFree 8 = .ok (.aload_n 0, 1) := by decide +kernel
theorem d_fl_isFree_9 : decode b_fl_isFree 9 = .ok (.getfield 9, 3) := by decide +kernel
theorem d_fl_isFree_12 : decode b_fl_isFree 12 = .ok (.iload_n 1, 1) := by decide +kernel
theorem d_fl_isFree_13 : decode b_fl_isFree 13 = .ok (.baload, 1) := by decide +kernel
theorem d_fl_isFree_14 : decode b_fl_isFree 14 = .ok (.ifCond .ne 7, 3) := by decide +kernel
theorem d_fl_isFree_17 : decode b_fl_isFree 17 = .ok (.iconst 1, 1) := by decide +kernel
theorem d_fl_isFree_18 : decode b_fl_isFree 18 = .ok (.goto 4, 3) := by decide +kernel
theorem d_fl_isFree_21 : decode b_fl_isFree 21 = .ok (.iconst 0, 1) := by decide +kernel
theorem d_fl_isFree_22 : decode b_fl_isFree 22 = .ok (.ireturn, 1) := by decide +kernel
theorem d_fl_chart_0 : decode b_fl_chart 0 = .ok (.aload_n 0, 1) := by decide +kernel
theorem d_fl_chart_1 : decode b_fl_chart 1 = .ok (.iconst 0, 1) := by decide +kernel
theorem d_fl_chart_2 : decode b_fl_chart 2 = .ok (.putfield 48, 3) := by decide +kernel
theorem d_fl_chart_5 : decode b_fl_chart 5 = .ok (.iconst 0, 1) := by decide +kernel
theorem d_fl_chart_6 : decode b_fl_chart 6 = .ok (.istore_n 1, 1) := by decide +kernel
theorem d_fl_chart_7 : decode b_fl_chart 7 = .ok (.iload_n 1, 1) := by decide +kernel
theorem d_fl_chart_8 : decode b_fl_chart 8 = .ok (.aload_n 0, 1) := by decide +kernel
theorem d_fl_chart_9 : decode b_fl_chart 9 = .ok (.getfield 35, 3) := by decide +kernel
theorem d_fl_chart_12 : decode b_fl_chart 12 = .ok (.if_icmp .ge 38, 3) := by decide +kernel
theorem d_fl_chart_15 : decode b_fl_chart 15 = .ok (.iconst 0, 1) := by decide +kernel
theorem d_fl_chart_16 : decode b_fl_chart 16 = .ok (.istore_n 2, 1) := by decide +kernel
theorem d_fl_chart_17 : decode b_fl_chart 17 = .ok (.iload_n 2, 1) := by decide +kernel
theorem d_fl_chart_18 : decode b_fl_chart 18 = .ok (.aload_n 0, 1) := by decide +kernel
theorem d_fl_chart_19 : decode b_fl_chart 19 = .ok (.getfield 31, 3) := by decide +kernel
theorem d_fl_chart_22 : decode b_fl_chart 22 = .ok (.if_icmp .ge 22, 3) := by decide +kernel
theorem d_fl_chart_25 : decode b_fl_chart 25 = .ok (.aload_n 0, 1) := by decide +kernel
theorem d_fl_chart_26 : decode b_fl_chart 26 = .ok (.iload_n 2, 1) := by decide +kernel
theorem d_fl_chart_27 : decode b_fl_chart 27 = .ok (.aload_n 0, 1) := by decide +kernel
theorem d_fl_chart_28 : decode b_fl_chart 28 = .ok (.getfield 31, 3) := by decide +kernel
theorem d_fl_chart_31 : decode b_fl_chart 31 = .ok (.iload_n 1, 1) := by decide +kernel
theorem d_fl_chart_32 : decode b_fl_chart 32 = .ok (.imul, 1) := by decide +kernel
theorem d_fl_chart_33 : decode b_fl_chart 33 = .ok (.iload_n 2, 1) := by decide +kernel
theorem d_fl_chart_34 : decode b_fl_chart 34 = .ok (.iadd, 1) := by decide +kernel
theorem d_fl_chart_35 : decode b_fl_chart 35 = .ok (.invokevirtual 51, 3) := by decide +kernel
theorem d_fl_chart_38 : decode b_fl_chart 38 = .ok (.iinc 2 1, 3) := by decide +kernel
theorem d_fl_chart_41 : decode b_fl_chart 41 = .ok (.goto (-24), 3) := by decide +kernel
theorem d_fl_chart_44 : decode b_fl_chart 44 = .ok (.iinc 1 1, 3) := by decide +kernel
theorem d_fl_chart_47 : decode b_fl_chart 47 = .ok (.goto (-40), 3) := by decide +kernel
theorem d_fl_chart_50 : decode b_fl_chart 50 = .ok (.return_, 1) := by decide +kernel
theorem d_fl_chartCell_0 : decode b_fl_chartCell 0 = .ok (.aload_n 0, 1) := by decide +kernel
theorem d_fl_chartCell_1 : decode b_fl_chartCell 1 = .ok (.getfield 15, 3) := by decide +kernel
theorem d_fl_chartCell_4 : decode b_fl_chartCell 4 = .ok (.iload_n 2, 1) := by decide +kernel
theorem d_fl_chartCell_5 : decode b_fl_chartCell 5 = .ok (.aload_n 0, 1) := by decide +kernel
theorem d_fl_chartCell_6 : decode b_fl_chartCell 6 = .ok (.getfield 48, 3) := by decide +kernel
theorem d_fl_chartCell_9 : decode b_fl_chartCell 9 = .ok (.iastore, 1) := by decide +kernel
theorem d_fl_chartCell_10 : decode b_fl_chartCell 10 = .ok (.aload_n 0, 1) := by decide +kernel
theorem d_fl_chartCell_11 : decode b_fl_chartCell 11 = .ok (.getfield 19, 3) := by decide +kernel
theorem d_fl_chartCell_14 : decode b_fl_chartCell 14 = .ok (.iload_n 2, 1) := by decide +kernel
theorem d_fl_chartCell_15 : decode b_fl_chartCell 15 = .ok (.iconst 0, 1) := by decide +kernel
theorem d_fl_chartCell_16 : decode b_fl_chartCell 16 = .ok (.iastore, 1) := by decide +kernel
theorem d_fl_chartCell_17 : decode b_fl_chartCell 17 = .ok (.aload_n 0, 1) := by decide +kernel
theorem d_fl_chartCell_18 : decode b_fl_chartCell 18 = .ok (.getfield 9, 3) := by decide +kernel
theorem d_fl_chartCell_21 : decode b_fl_chartCell 21 = .ok (.iload_n 2, 1) := by decide +kernel
theorem d_fl_chartCell_22 : decode b_fl_chartCell 22 = .ok (.baload, 1) := by decide +kernel
theorem d_fl_chartCell_23 : decode b_fl_chartCell 23 = .ok (.ifCond .eq 4, 3) := by decide +kernel
theorem d_fl_chartCell_26 : decode b_fl_chartCell 26 = .ok (.return_, 1) := by decide +kernel
theorem d_fl_chartCell_27 : decode b_fl_chartCell 27 = .ok (.aload_n 0, 1) := by decide +kernel
theorem d_fl_chartCell_28 : decode b_fl_chartCell 28 = .ok (.dup, 1) := by decide +kernel
theorem d_fl_chartCell_29 : decode b_fl_chartCell 29 = .ok (.getfield 48, 3) := by decide +kernel
theorem d_fl_chartCell_32 : decode b_fl_chartCell 32 = .ok (.iconst 1, 1) := by decide +kernel
theorem d_fl_chartCell_33 : decode b_fl_chartCell 33 = .ok (.iadd, 1) := by decide +kernel
theorem d_fl_chartCell_34 : decode b_fl_chartCell 34 = .ok (.putfield 48, 3) := by decide +kernel
theorem d_fl_chartCell_37 : decode b_fl_chartCell 37 = .ok (.aload_n 0, 1) := by decide +kernel
theorem d_fl_chartCell_38 : decode b_fl_chartCell 38 = .ok (.iload_n 2, 1) := by decide +kernel
theorem d_fl_chartCell_39 : decode b_fl_chartCell 39 = .ok (.iload_n 2, 1) := by decide +kernel
theorem d_fl_chartCell_40 : decode b_fl_chartCell 40 = .ok (.aload_n 0, 1) := by decide +kernel
theorem d_fl_chartCell_41 : decode b_fl_chartCell 41 = .ok (.getfield 31, 3) := by decide +kernel
theorem d_fl_chartCell_44 : decode b_fl_chartCell 44 = .ok (.isub, 1) := by decide +kernel
theorem d_fl_chartCell_45 : decode b_fl_chartCell 45 = .ok (.invokevirtual 54, 3) := by decide +kernel
theorem d_fl_chartCell_48 : decode b_fl_chartCell 48 = .ok (.iload_n 1, 1) := by decide +kernel
theorem d_fl_chartCell_49 : decode b_fl_chartCell 49 = .ok (.ifCond .le 11, 3) := by decide +kernel
theorem d_fl_chartCell_52 : decode b_fl_chartCell 52 = .ok (.aload_n 0, 1) := by decide +kernel
theorem d_fl_chartCell_53 : decode b_fl_chartCell 53 = .ok (.iload_n 2, 1) := by decide +kernel
theorem d_fl_chartCell_54 : decode b_fl_chartCell 54 = .ok (.iload_n 2, 1) := by decide +kernel
theorem d_fl_chartCell_55 : decode b_fl_chartCell 55 = .ok (.iconst 1, 1) := by decide +kernel
theorem d_fl_chartCell_56 : decode b_fl_chartCell 56 = .ok (.isub, 1) := by decide +kernel
theorem d_fl_chartCell_57 : decode b_fl_chartCell 57 = .ok (.invokevirtual 54, 3) := by decide +kernel
theorem d_fl_chartCell_60 : decode b_fl_chartCell 60 = .ok (.aload_n 0, 1) := by decide +kernel
theorem d_fl_chartCell_61 : decode b_fl_chartCell 61 = .ok (.iload_n 2, 1) := by decide +kernel
theorem d_fl_chartCell_62 : decode b_fl_chartCell 62 = .ok (.iload_n 2, 1) := by decide +kernel
theorem d_fl_chartCell_63 : decode b_fl_chartCell 63 = .ok (.invokevirtual 54, 3) := by decide +kernel
theorem d_fl_chartCell_66 : decode b_fl_chartCell 66 = .ok (.iload_n 1, 1) := by decide +kernel
theorem d_fl_chartCell_67 : decode b_fl_chartCell 67 = .ok (.aload_n 0, 1) := by decide +kernel
theorem d_fl_chartCell_68 : decode b_fl_chartCell 68 = .ok (.getfield 31, 3) := by decide +kernel
theorem d_fl_chartCell_71 : decode b_fl_chartCell 71 = .ok (.iconst 1, 1) := by decide +kernel
theorem d_fl_chartCell_72 : decode b_fl_chartCell 72 = .ok (.isub, 1) := by decide +kernel
theorem d_fl_chartCell_73 : decode b_fl_chartCell 73 = .ok (.if_icmp .ge 11, 3) := by decide +kernel
theorem d_fl_chartCell_76 : decode b_fl_chartCell 76 = .ok (.aload_n 0, 1) := by decide +kernel
theorem d_fl_chartCell_77 : decode b_fl_chartCell 77 = .ok (.iload_n 2, 1) := by decide +kernel
theorem d_fl_chartCell_78 : decode b_fl_chartCell 78 = .ok (.iload_n 2, 1) := by decide +kernel
theorem d_fl_chartCell_79 : decode b_fl_chartCell 79 = .ok (.iconst 1, 1) := by decide +kernel
theorem d_fl_chartCell_80 : decode b_fl_chartCell 80 = .ok (.iadd, 1) := by decide +kernel
theorem d_fl_chartCell_81 : decode b_fl_chartCell 81 = .ok (.invokevirtual 54, 3) := by decide +kernel
theorem d_fl_chartCell_84 : decode b_fl_chartCell 84 = .ok (.aload_n 0, 1) := by decide +kernel
theorem d_fl_chartCell_85 : decode b_fl_chartCell 85 = .ok (.iload_n 2, 1) := by decide +kernel
theorem d_fl_chartCell_86 : decode b_fl_chartCell 86 = .ok (.iload_n 2, 1) := by decide +kernel
theorem d_fl_chartCell_87 : decode b_fl_chartCell 87 = .ok (.aload_n 0, 1) := by decide +kernel
theorem d_fl_chartCell_88 : decode b_fl_chartCell 88 = .ok (.getfield 31, 3) := by decide +kernel
theorem d_fl_chartCell_91 : decode b_fl_chartCell 91 = .ok (.iadd, 1) := by decide +kernel
theorem d_fl_chartCell_92 : decode b_fl_chartCell 92 = .ok (.invokevirtual 54, 3) := by decide +kernel
theorem d_fl_chartCell_95 : decode b_fl_chartCell 95 = .ok (.return_, 1) := by decide +kernel
theorem d_fl_addStep_0 : decode b_fl_addStep 0 = .ok (.aload_n 0, 1) := by decide +kernel
theorem d_fl_addStep_1 : decode b_fl_addStep 1 = .ok (.iload_n 2, 1) := by decide +kernel
theorem d_fl_addStep_2 : decode b_fl_addStep 2 = .ok (.invokevirtual 45, 3) := by decide +kernel
theorem d_fl_addStep_5 : decode b_fl_addStep 5 = .ok (.ifCond .eq 27, 3) := by decide +kernel
theorem d_fl_addStep_8 : decode b_fl_addStep 8 = .ok (.aload_n 0, 1) := by decide +kernel
theorem d_fl_addStep_9 : decode b_fl_addStep 9 = .ok (.getfield 24, 3) := by decide +kernel
theorem d_fl_addStep_12 : decode b_fl_addStep 12 = .ok (.iload_n 1, 1) := by decide +kernel
theorem d_fl_addStep_13 : decode b_fl_addStep 13 = .ok (.aaload, 1) := by decide +kernel
theorem d_fl_addStep_14 : decode b_fl_addStep 14 = .ok (.aload_n 0, 1) := by decide +kernel
theorem d_fl_addStep_15 : decode b_fl_addStep 15 = .ok (.getfield 19, 3) := by decide +kernel
theorem d_fl_addStep_18 : decode b_fl_addStep 18 = .ok (.iload_n 1, 1) := by decide +kernel
theorem d_fl_addStep_19 : decode b_fl_addStep 19 = .ok (.iaload, 1) := by decide +kernel
theorem d_fl_addStep_20 : decode b_fl_addStep 20 = .ok (.iload_n 2, 1) := by decide +kernel
theorem d_fl_addStep_21 : decode b_fl_addStep 21 = .ok (.iastore, 1) := by decide +kernel
theorem d_fl_addStep_22 : decode b_fl_addStep 22 = .ok (.aload_n 0, 1) := by decide +kernel
theorem d_fl_addStep_23 : decode b_fl_addStep 23 = .ok (.getfield 19, 3) := by decide +kernel
theorem d_fl_addStep_26 : decode b_fl_addStep 26 = .ok (.iload_n 1, 1) := by decide +kernel
theorem d_fl_addStep_27 : decode b_fl_addStep 27 = .ok (.dup2, 1) := by decide +kernel
theorem d_fl_addStep_28 : decode b_fl_addStep 28 = .ok (.iaload, 1) := by decide +kernel
theorem d_fl_addStep_29 : decode b_fl_addStep 29 = .ok (.iconst 1, 1) := by decide +kernel
theorem d_fl_addStep_30 : decode b_fl_addStep 30 = .ok (.iadd, 1) := by decide +kernel
theorem d_fl_addStep_31 : decode b_fl_addStep 31 = .ok (.iastore, 1) := by decide +kernel
theorem d_fl_addStep_32 : decode b_fl_addStep 32 = .ok (.return_, 1) := by decide +kernel
theorem d_cr_init_0 : decode b_cr_init 0 = .ok (.aload_n 0, 1) := by decide +kernel
theorem d_cr_init_1 : decode b_cr_init 1 = .ok (.invokespecial 3, 3) := by decide +kernel
theorem d_cr_init_4 : decode b_cr_init 4 = .ok (.aload_n 0, 1) := by decide +kernel
theorem d_cr_init_5 : decode b_cr_init 5 = .ok (.iconst 5, 1) := by decide +kernel
theorem d_cr_init_6 : decode b_cr_init 6 = .ok (.newarray .int, 2) := by decide +kernel
theorem d_cr_init_8 : decode b_cr_init 8 = .ok (.putfield 9, 3) := by decide +kernel
theorem d_cr_init_11 : decode b_cr_init 11 = .ok (.aload_n 0, 1) := by decide +kernel
theorem d_cr_init_12 : decode b_cr_init 12 = .ok (.iconst 5, 1) := by decide +kernel
theorem d_cr_init_13 : decode b_cr_init 13 = .ok (.newarray .int, 2) := by decide +kernel
theorem d_cr_init_15 : decode b_cr_init 15 = .ok (.putfield 15, 3) := by decide +kernel
theorem d_cr_init_18 : decode b_cr_init 18 = .ok (.aload_n 0, 1) := by decide +kernel
theorem d_cr_init_19 : decode b_cr_init 19 = .ok (.iconst 5, 1) := by decide +kernel
theorem d_cr_init_20 : decode b_cr_init 20 = .ok (.bipush 25, 2) := by decide +kernel
theorem d_cr_init_22 : decode b_cr_init 22 = .ok (.multianewarray 18 2, 4) := by decide +kernel
theorem d_cr_init_26 : decode b_cr_init 26 = .ok (.putfield 20, 3) := by decide +kernel
theorem d_cr_init_29 : decode b_cr_init 29 = .ok (.aload_n 0, 1) := by decide +kernel
theorem d_cr_init_30 : decode b_cr_init 30 = .ok (.bipush 25, 2) := by decide +kernel
theorem d_cr_init_32 : decode b_cr_init 32 = .ok (.newarray .int, 2) := by decide +kernel
theorem d_cr_init_34 : decode b_cr_init 34 = .ok (.putfield 23, 3) := by decide +kernel
theorem d_cr_init_37 : decode b_cr_init 37 = .ok (.aload_n 0, 1) := by decide +kernel
theorem d_cr_init_38 : decode b_cr_init 38 = .ok (.bipush 25, 2) := by decide +kernel
theorem d_cr_init_40 : decode b_cr_init 40 = .ok (.newarray .long, 2) := by decide +kernel
theorem d_cr_init_42 : decode b_cr_init 42 = .ok (.putfield 26, 3) := by decide +kernel
theorem d_cr_init_45 : decode b_cr_init 45 = .ok (.aload_n 0, 1) := by decide +kernel
theorem d_cr_init_46 : decode b_cr_init 46 = .ok (.bipush 25, 2) := by decide +kernel
theorem d_cr_init_48 : decode b_cr_init 48 = .ok (.newarray .long, 2) := by decide +kernel
theorem d_cr_init_50 : decode b_cr_init 50 = .ok (.putfield 30, 3) := by decide +kernel
theorem d_cr_init_53 : decode b_cr_init 53 = .ok (.aload_n 0, 1) := by decide +kernel
theorem d_cr_init_54 : decode b_cr_init 54 = .ok (.aload_n 1, 1) := by decide +kernel
theorem d_cr_init_55 : decode b_cr_init 55 = .ok (.putfield 33, 3) := by decide +kernel
theorem d_cr_init_58 : decode b_cr_init 58 = .ok (.return_, 1) := by decide +kernel
theorem d_cr_has_0 : decode b_cr_has 0 = .ok (.iload_n 1, 1) := by decide +kernel
theorem d_cr_has_1 : decode b_cr_has 1 = .ok (.ifCond .lt 15, 3) := by decide +kernel
theorem d_cr_has_4 : decode b_cr_has 4 = .ok (.iload_n 1, 1) := by decide +kernel
theorem d_cr_has_5 : decode b_cr_has 5 = .ok (.aload_n 0, 1) := by decide +kernel
theorem d_cr_has_6 : decode b_cr_has 6 = .ok (.getfield 37, 3) := by decide +kernel
theorem d_cr_has_9 : decode b_cr_has 9 = .ok (.if_icmp .ge 7, 3) := by decide +kernel
theorem d_cr_has_12 : decode b_cr_has 12 = .ok (.iconst 1, 1) := by decide +kernel
theorem d_cr_has_13 : decode b_cr_has 13 = .ok (.goto 4, 3) := by decide +kernel
theorem d_cr_has_16 : decode b_cr_has 16 = .ok (.iconst 0, 1) := by decide +kernel
theorem d_cr_has_17 : decode b_cr_has 17 = .ok (.ireturn, 1) := by decide +kernel
theorem d_cr_dismiss_0 : decode b_cr_dismiss 0 = .ok (.aload_n 0, 1) := by decide +kernel
theorem d_cr_dismiss_1 : decode b_cr_dismiss 1 = .ok (.iconst 0, 1) := by decide +kernel
theorem d_cr_dismiss_2 : decode b_cr_dismiss 2 = .ok (.putfield 37, 3) := by decide +kernel
theorem d_cr_dismiss_5 : decode b_cr_dismiss 5 = .ok (.return_, 1) := by decide +kernel
theorem d_cr_canTake_0 : decode b_cr_canTake 0 = .ok (.aload_n 0, 1) := by decide +kernel
theorem d_cr_canTake_1 : decode b_cr_canTake 1 = .ok (.getfield 37, 3) := by decide +kernel
theorem d_cr_canTake_4 : decode b_cr_canTake 4 = .ok (.iconst 5, 1) := by decide +kernel
theorem d_cr_canTake_5 : decode b_cr_canTake 5 = .ok (.if_icmp .lt 5, 3) := by decide +kernel
theorem d_cr_canTake_8 : decode b_cr_canTake 8 = .ok (.iconst 0, 1) := by decide +kernel
theorem d_cr_canTake_9 : decode b_cr_canTake 9 = .ok (.ireturn, 1) := by decide +kernel
theorem d_cr_canTake_10 : decode b_cr_canTake 10 = .ok (.aload_n 0, 1) := by decide +kernel
theorem d_cr_canTake_11 : decode b_cr_canTake 11 = .ok (.getfield 33, 3) := by decide +kernel
theorem d_cr_canTake_14 : decode b_cr_canTake 14 = .ok (.getfield 41, 3) := by decide +kernel
theorem d_cr_canTake_17 : decode b_cr_canTake 17 = .ok (.istore_n 3, 1) := by decide +kernel
theorem d_cr_canTake_18 : decode b_cr_canTake 18 = .ok (.iconst 0, 1) := by decide +kernel
theorem d_cr_canTake_19 : decode b_cr_canTake 19 = .ok (.istore 4, 2) := by decide +kernel
theorem d_cr_canTake_21 : decode b_cr_canTake 21 = .ok (.iload 4, 2) := by decide +kernel
theorem d_cr_canTake_23 : decode b_cr_canTake 23 = .ok (.aload_n 0, 1) := by decide +kernel
theorem d_cr_canTake_24 : decode b_cr_canTake 24 = .ok (.getfield 37, 3) := by decide +kernel
theorem d_cr_canTake_27 : decode b_cr_canTake 27 = .ok (.if_icmp .ge 43, 3) := by decide +kernel
theorem d_cr_canTake_30 : decode b_cr_canTake 30 = .ok (.aload_n 0, 1) := by decide +kernel
theorem d_cr_canTake_31 : decode b_cr_canTake 31 = .ok (.getfield 9, 3) := by decide +kernel
theorem d_cr_canTake_34 : decode b_cr_canTake 34 = .ok (.iload 4, 2) := by decide +kernel
theorem d_cr_canTake_36 : decode b_cr_canTake 36 = .ok (.iaload, 1) := by decide +kernel
theorem d_cr_canTake_37 : decode b_cr_canTake 37 = .ok (.iload_n 1, 1) := by decide +kernel
theorem d_cr_canTake_38 : decode b_cr_canTake 38 = .ok (.if_icmp .eq 14, 3) := by decide +kernel
theorem d_cr_canTake_41 : decode b_cr_canTake 41 = .ok (.aload_n 0, 1) := by decide +kernel
theorem d_cr_canTake_42 : decode b_cr_canTake 42 = .ok (.getfield 15, 3) := by decide +kernel
theorem d_cr_canTake_45 : decode b_cr_canTake 45 = .ok (.iload 4, 2) := by decide +kernel
theorem d_cr_canTake_47 : decode b_cr_canTake 47 = .ok (.iaload, 1) := by decide +kernel
theorem d_cr_canTake_48 : decode b_cr_canTake 48 = .ok (.iload_n 2, 1) := by decide +kernel
theorem d_cr_canTake_49 : decode b_cr_canTake 49 = .ok (.if_icmp .ne 5, 3) := by decide +kernel
theorem d_cr_canTake_52 : decode b_cr_canTake 52 = .ok (.iconst 0, 1) := by decide +kernel
theorem d_cr_canTake_53 : decode b_cr_canTake 53 = .ok (.ireturn, 1) := by decide +kernel
theorem d_cr_canTake_54 : decode b_cr_canTake 54 = .ok (.iload_n 3, 1) := by decide +kernel
theorem d_cr_canTake_55 : decode b_cr_canTake 55 = .ok (.aload_n 0, 1) := by decide +kernel
theorem d_cr_canTake_56 : decode b_cr_canTake 56 = .ok (.getfield 33, 3) := by decide +kernel
theorem d_cr_canTake_59 : decode b_cr_canTake 59 = .ok (.getfield 41, 3) := by decide +kernel
theorem d_cr_canTake_62 : decode b_cr_canTake 62 = .ok (.imul, 1) := by decide +kernel
theorem d_cr_canTake_63 : decode b_cr_canTake 63 = .ok (.istore_n 3, 1) := by decide +kernel
theorem d_cr_canTake_64 : decode b_cr_canTake 64 = .ok (.iinc 4 1, 3) := by decide +kernel
theorem d_cr_canTake_67 : decode b_cr_canTake 67 = .ok (.goto (-46), 3) := by decide +kernel
theorem d_cr_canTake_70 : decode b_cr_canTake 70 = .ok (.iload_n 3, 1) := by decide +kernel
theorem d_cr_canTake_71 : decode b_cr_canTake 71 = .ok (.sipush 16000, 3) := by decide +kernel
theorem d_cr_canTake_74 : decode b_cr_canTake 74 = .ok (.if_icmp .gt 7, 3) := by decide +kernel
theorem d_cr_canTake_77 : decode b_cr_canTake 77 = .ok (.iconst 1, 1) := by decide +kernel
theorem d_cr_canTake_78 : decode b_cr_canTake 78 = .ok (.goto 4, 3) := by decide +kernel
theorem d_cr_canTake_81 : decode b_cr_canTake 81 = .ok (.iconst 0, 1) := by decide +kernel
theorem d_cr_canTake_82 : decode b_cr_canTake 82 = .ok (.ireturn, 1) := by decide +kernel
theorem d_cr_take_0 : decode b_cr_take 0 = .ok (.aload_n 0, 1) := by decide +kernel
theorem d_cr_take_1 : decode b_cr_take 1 = .ok (.getfield 37, 3) := by decide +kernel
theorem d_cr_take_4 : decode b_cr_take 4 = .ok (.istore_n 3, 1) := by decide +kernel
theorem d_cr_take_5 : decode b_cr_take 5 = .ok (.aload_n 0, 1) := by decide +kernel
theorem d_cr_take_6 : decode b_cr_take 6 = .ok (.getfield 9, 3) := by decide +kernel
theorem d_cr_take_9 : decode b_cr_take 9 = .ok (.iload_n 3, 1) := by decide +kernel
theorem d_cr_take_10 : decode b_cr_take 10 = .ok (.iload_n 1, 1) := by decide +kernel
theorem d_cr_take_11 : decode b_cr_take 11 = .ok (.iastore, 1) := by decide +kernel
theorem d_cr_take_12 : decode b_cr_take 12 = .ok (.aload_n 0, 1) := by decide +kernel
theorem d_cr_take_13 : decode b_cr_take 13 = .ok (.getfield 15, 3) := by decide +kernel
theorem d_cr_take_16 : decode b_cr_take 16 = .ok (.iload_n 3, 1) := by decide +kernel
theorem d_cr_take_17 : decode b_cr_take 17 = .ok (.iload_n 2, 1) := by decide +kernel
theorem d_cr_take_18 : decode b_cr_take 18 = .ok (.iastore, 1) := by decide +kernel
theorem d_cr_take_19 : decode b_cr_take 19 = .ok (.aload_n 0, 1) := by decide +kernel
theorem d_cr_take_20 : decode b_cr_take 20 = .ok (.dup, 1) := by decide +kernel
theorem d_cr_take_21 : decode b_cr_take 21 = .ok (.getfield 37, 3) := by decide +kernel
theorem d_cr_take_24 : decode b_cr_take 24 = .ok (.iconst 1, 1) := by decide +kernel
theorem d_cr_take_25 : decode b_cr_take 25 = .ok (.iadd, 1) := by decide +kernel
theorem d_cr_take_26 : decode b_cr_take 26 = .ok (.putfield 37, 3) := by decide +kernel
theorem d_cr_take_29 : decode b_cr_take 29 = .ok (.aload_n 0, 1) := by decide +kernel
theorem d_cr_take_30 : decode b_cr_take 30 = .ok (.iload_n 2, 1) := by decide +kernel
theorem d_cr_take_31 : decode b_cr_take 31 = .ok (.aload_n 0, 1) := by decide +kernel
theorem d_cr_take_32 : decode b_cr_take 32 = .ok (.getfield 20, 3) := by decide +kernel
theorem d_cr_take_35 : decode b_cr_take 35 = .ok (.iload_n 3, 1) := by decide +kernel
theorem d_cr_take_36 : decode b_cr_take 36 = .ok (.aaload, 1) := by decide +kernel
theorem d_cr_take_37 : decode b_cr_take 37 = .ok (.invokevirtual 46, 3) := by decide +kernel
theorem d_cr_take_40 : decode b_cr_take 40 = .ok (.iload_n 3, 1) := by decide +kernel
theorem d_cr_take_41 : decode b_cr_take 41 = .ok (.ireturn, 1) := by decide +kernel
theorem d_cr_sumOfWays_0 : decode b_cr_sumOfWays 0 = .ok (.iconst 0, 1) := by decide +kernel
theorem d_cr_sumOfWays_1 : decode b_cr_sumOfWays 1 = .ok (.istore_n 1, 1) := by decide +kernel
theorem d_cr_sumOfWays_2 : decode b_cr_sumOfWays 2 = .ok (.iconst 0, 1) := by decide +kernel
theorem d_cr_sumOfWays_3 : decode b_cr_sumOfWays 3 = .ok (.istore_n 2, 1) := by decide +kernel
theorem d_cr_sumOfWays_4 : decode b_cr_sumOfWays 4 = .ok (.iload_n 2, 1) := by decide +kernel
theorem d_cr_sumOfWays_5 : decode b_cr_sumOfWays 5 = .ok (.aload_n 0, 1) := by decide +kernel
theorem d_cr_sumOfWays_6 : decode b_cr_sumOfWays 6 = .ok (.getfield 37, 3) := by decide +kernel
theorem d_cr_sumOfWays_9 : decode b_cr_sumOfWays 9 = .ok (.if_icmp .ge 26, 3) := by decide +kernel
theorem d_cr_sumOfWays_12 : decode b_cr_sumOfWays 12 = .ok (.aload_n 0, 1) := by decide +kernel
theorem d_cr_sumOfWays_13 : decode b_cr_sumOfWays 13 = .ok (.iload_n 2, 1) := by decide +kernel
theorem d_cr_sumOfWays_14 : decode b_cr_sumOfWays 14 = .ok (.invokevirtual 50, 3) := by decide +kernel
theorem d_cr_sumOfWays_17 : decode b_cr_sumOfWays 17 = .ok (.istore_n 3, 1) := by decide +kernel
theorem d_cr_sumOfWays_18 : decode b_cr_sumOfWays 18 = .ok (.iload_n 3, 1) := by decide +kernel
theorem d_cr_sumOfWays_19 : decode b_cr_sumOfWays 19 = .ok (.iconst (-1), 1) := by decide +kernel
theorem d_cr_sumOfWays_20 : decode b_cr_sumOfWays 20 = .ok (.if_icmp .ne 5, 3) := by decide +kernel
theorem d_cr_sumOfWays_23 : decode b_cr_sumOfWays 23 = .ok (.iconst (-1), 1) := by decide +kernel
theorem d_cr_sumOfWays_24 : decode b_cr_sumOfWays 24 = .ok (.ireturn, 1) := by decide +kernel
theorem d_cr_sumOfWays_25 : decode b_cr_sumOfWays 25 = .ok (.iload_n 1, 1) := by decide +kernel
theorem d_cr_sumOfWays_26 : decode b_cr_sumOfWays 26 = .ok (.iload_n 3, 1) := by decide +kernel
theorem d_cr_sumOfWays_27 : decode b_cr_sumOfWays 27 = .ok (.iadd, 1) := by decide +kernel
theorem d_cr_sumOfWays_28 : decode b_cr_sumOfWays 28 = .ok (.istore_n 1, 1) := by decide +kernel
theorem d_cr_sumOfWays_29 : decode b_cr_sumOfWays 29 = .ok (.iinc 2 1, 3) := by decide +kernel
theorem d_cr_sumOfWays_32 : decode b_cr_sumOfWays 32 = .ok (.goto (-28), 3) := by decide +kernel
theorem d_cr_sumOfWays_35 : decode b_cr_sumOfWays 35 = .ok (.iload_n 1, 1) := by decide +kernel
theorem d_cr_sumOfWays_36 : decode b_cr_sumOfWays 36 = .ok (.ireturn, 1) := by decide +kernel
theorem d_cr_measure_0 : decode b_cr_measure 0 = .ok (.aload_n 2, 1) := by decide +kernel
theorem d_cr_measure_1 : decode b_cr_measure 1 = .ok (.iconst (-1), 1) := by decide +kernel
theorem d_cr_measure_2 : decode b_cr_measure 2 = .ok (.invokestatic 77, 3) := by decide +kernel
theorem d_cr_measure_5 : decode b_cr_measure 5 = .ok (.aload_n 2, 1) := by decide +kernel
theorem d_cr_measure_6 : decode b_cr_measure 6 = .ok (.iload_n 1, 1) := by decide +kernel
theorem d_cr_measure_7 : decode b_cr_measure 7 = .ok (.iconst 0, 1) := by decide +kernel
theorem d_cr_measure_8 : decode b_cr_measure 8 = .ok (.iastore, 1) := by decide +kernel
theorem d_cr_measure_9 : decode b_cr_measure 9 = .ok (.aload_n 0, 1) := by decide +kernel
theorem d_cr_measure_10 : decode b_cr_measure 10 = .ok (.getfield 23, 3) := by decide +kernel
theorem d_cr_measure_13 : decode b_cr_measure 13 = .ok (.iconst 0, 1) := by decide +kernel
theorem d_cr_measure_14 : decode b_cr_measure 14 = .ok (.iload_n 1, 1) := by decide +kernel
theorem d_cr_measure_15 : decode b_cr_measure 15 = .ok (.iastore, 1) := by decide +kernel
theorem d_cr_measure_16 : decode b_cr_measure 16 = .ok (.iconst 1, 1) := by decide +kernel
theorem d_cr_measure_17 : decode b_cr_measure 17 = .ok (.istore_n 3, 1) := by decide +kernel
theorem d_cr_measure_18 : decode b_cr_measure 18 = .ok (.iconst 0, 1) := by decide +kernel
theorem d_cr_measure_19 : decode b_cr_measure 19 = .ok (.istore 4, 2) := by decide +kernel
theorem d_cr_measure_21 : decode b_cr_measure 21 = .ok (.iload 4, 2) := by decide +kernel
theorem d_cr_measure_23 : decode b_cr_measure 23 = .ok (.iload_n 3, 1) := by decide +kernel
theorem d_cr_measure_24 : decode b_cr_measure 24 = .ok (.if_icmp .ge 93, 3) := by decide +kernel
theorem d_cr_measure_27 : decode b_cr_measure 27 = .ok (.iload 4, 2) := by decide +kernel
theorem d_cr_measure_29 : decode b_cr_measure 29 = .ok (.bipush 25, 2) := by decide +kernel
theorem d_cr_measure_31 : decode b_cr_measure 31 = .ok (.if_icmp .ge 86, 3) := by decide +kernel
theorem d_cr_measure_34 : decode b_cr_measure 34 = .ok (.aload_n 0, 1) := by decide +kernel
theorem d_cr_measure_35 : decode b_cr_measure 35 = .ok (.getfield 23, 3) := by decide +kernel
theorem d_cr_measure_38 : decode b_cr_measure 38 = .ok (.iload 4, 2) := by decide +kernel
theorem d_cr_measure_40 : decode b_cr_measure 40 = .ok (.iaload, 1) := by decide +kernel
theorem d_cr_measure_41 : decode b_cr_measure 41 = .ok (.istore 5, 2) := by decide +kernel
theorem d_cr_measure_43 : decode b_cr_measure 43 = .ok (.iconst 0, 1) := by decide +kernel
theorem d_cr_measure_44 : decode b_cr_measure 44 = .ok (.istore 6, 2) := by decide +kernel
theorem d_cr_measure_46 : decode b_cr_measure 46 = .ok (.iload 6, 2) := by decide +kernel
theorem d_cr_measure_48 : decode b_cr_measure 48 = .ok (.aload_n 0, 1) := by decide +kernel
theorem d_cr_measure_49 : decode b_cr_measure 49 = .ok (.getfield 33, 3) := by decide +kernel
theorem d_cr_measure_52 : decode b_cr_measure 52 = .ok (.getfield 71, 3) := by decide +kernel
theorem d_cr_measure_55 : decode b_cr_measure 55 = .ok (.iload 5, 2) := by decide +kernel
theorem d_cr_measure_57 : decode b_cr_measure 57 = .ok (.iaload, 1) := by decide +kernel
theorem d_cr_measure_58 : decode b_cr_measure 58 = .ok (.if_icmp .ge 53, 3) := by decide +kernel
theorem d_cr_measure_61 : decode b_cr_measure 61 = .ok (.aload_n 0, 1) := by decide +kernel
theorem d_cr_measure_62 : decode b_cr_measure 62 = .ok (.getfield 33, 3) := by decide +kernel
theorem d_cr_measure_65 : decode b_cr_measure 65 = .ok (.getfield 74, 3) := by decide +kernel
theorem d_cr_measure_68 : decode b_cr_measure 68 = .ok (.iload 5, 2) := by decide +kernel
theorem d_cr_measure_70 : decode b_cr_measure 70 = .ok (.aaload, 1) := by decide +kernel
theorem d_cr_measure_71 : decode b_cr_measure 71 = .ok (.iload 6, 2) := by decide +kernel
theorem d_cr_measure_73 : decode b_cr_measure 73 = .ok (.iaload, 1) := by decide +kernel
theorem d_cr_measure_74 : decode b_cr_measure 74 = .ok (.istore 7, 2) := by decide +kernel
theorem d_cr_measure_76 : decode b_cr_measure 76 = .ok (.aload_n 2, 1) := by decide +kernel
theorem d_cr_measure_77 : decode b_cr_measure 77 = .ok (.iload 7, 2) := by decide +kernel
theorem d_cr_measure_79 : decode b_cr_measure 79 = .ok (.iaload, 1) := by decide +kernel
theorem d_cr_measure_80 : decode b_cr_measure 80 = .ok (.iconst (-1), 1) := by decide +kernel
theorem d_cr_measure_81 : decode b_cr_measure 81 = .ok (.if_icmp .ne 24, 3) := by decide +kernel
theorem d_cr_measure_84 : decode b_cr_measure 84 = .ok (.aload_n 2, 1) := by decide +kernel
theorem d_cr_measure_85 : decode b_cr_measure 85 = .ok (.iload 7, 2) := by decide +kernel
theorem d_cr_measure_87 : decode b_cr_measure 87 = .ok (.aload_n 2, 1) := by decide +kernel
theorem d_cr_measure_88 : decode b_cr_measure 88 = .ok (.iload 5, 2) := by decide +kernel
theorem d_cr_measure_90 : decode b_cr_measure 90 = .ok (.iaload, 1) := by decide +kernel
theorem d_cr_measure_91 : decode b_cr_measure 91 = .ok (.iconst 1, 1) := by decide +kernel
theorem d_cr_measure_92 : decode b_cr_measure 92 = .ok (.iadd, 1) := by decide +kernel
theorem d_cr_measure_93 : decode b_cr_measure 93 = .ok (.iastore, 1) := by decide +kernel
end
section
theorem d_cr_measure_94 : decode b_cr_measure 94 = .ok (.aload_n 0, 1) := by decide +kernel
theorem d_cr_measure_95 : decode b_cr_measure 95 = .ok (.getfield 23, 3) := by decide +kernel
theorem d_cr_measure_98 : decode b_cr_measure 98 = .ok (.iload_n 3, 1) := by decide +kernel
theorem d_cr_measure_99 : decode b_cr_measure 99 = .ok (.iload 7, 2) := by decide +kernel
theorem d_cr_measure_101 : decode b_cr_measure 101 = .ok (.iastore, 1) := by decide +kernel
theorem d_cr_measure_102 : decode b_cr_measure 102 = .ok (.iinc 3 1, 3) := by decide +kernel
theorem d_cr_measure_105 : decode b_cr_measure 105 = .ok (.iinc 6 1, 3) := by decide +kernel
theorem d_cr_measure_108 : decode b_cr_measure 108 = .ok (.goto (-62), 3) := by decide +kernel
theorem d_cr_measure_111 : decode b_cr_measure 111 = .ok (.iinc 4 1, 3) := by decide +kernel
theorem d_cr_measure_114 : decode b_cr_measure 114 = .ok (.goto (-93), 3) := by decide +kernel
theorem d_cr_measure_117 : decode b_cr_measure 117 = .ok (.return_, 1) := by decide +kernel
theorem d_ld_init_0 : decode b_ld_init 0 = .ok (.aload_n 0, 1) := by decide +kernel
theorem d_ld_init_1 : decode b_ld_init 1 = .ok (.invokespecial 3, 3) := by decide +kernel
theorem d_ld_init_4 : decode b_ld_init 4 = .ok (.aload_n 0, 1) := by decide +kernel
theorem d_ld_init_5 : decode b_ld_init 5 = .ok (.bipush 6, 2) := by decide +kernel
theorem d_ld_init_7 : decode b_ld_init 7 = .ok (.bipush 30, 2) := by decide +kernel
theorem d_ld_init_9 : decode b_ld_init 9 = .ok (.multianewarray 9 2, 4) := by decide +kernel
theorem d_ld_init_13 : decode b_ld_init 13 = .ok (.putfield 11, 3) := by decide +kernel
theorem d_ld_init_16 : decode b_ld_init 16 = .ok (.aload_n 0, 1) := by decide +kernel
theorem d_ld_init_17 : decode b_ld_init 17 = .ok (.bipush 6, 2) := by decide +kernel
theorem d_ld_init_19 : decode b_ld_init 19 = .ok (.newarray .int, 2) := by decide +kernel
theorem d_ld_init_21 : decode b_ld_init 21 = .ok (.putfield 16, 3) := by decide +kernel
theorem d_ld_init_24 : decode b_ld_init 24 = .ok (.aload_n 0, 1) := by decide +kernel
theorem d_ld_init_25 : decode b_ld_init 25 = .ok (.bipush 6, 2) := by decide +kernel
theorem d_ld_init_27 : decode b_ld_init 27 = .ok (.newarray .int, 2) := by decide +kernel
theorem d_ld_init_29 : decode b_ld_init 29 = .ok (.putfield 20, 3) := by decide +kernel
theorem d_ld_init_32 : decode b_ld_init 32 = .ok (.return_, 1) := by decide +kernel
theorem d_ld_forget_0 : decode b_ld_forget 0 = .ok (.aload_n 0, 1) := by decide +kernel
theorem d_ld_forget_1 : decode b_ld_forget 1 = .ok (.getfield 16, 3) := by decide +kernel
theorem d_ld_forget_4 : decode b_ld_forget 4 = .ok (.iconst 0, 1) := by decide +kernel
theorem d_ld_forget_5 : decode b_ld_forget 5 = .ok (.invokestatic 23, 3) := by decide +kernel
theorem d_ld_forget_8 : decode b_ld_forget 8 = .ok (.aload_n 0, 1) := by decide +kernel
theorem d_ld_forget_9 : decode b_ld_forget 9 = .ok (.getfield 20, 3) := by decide +kernel
theorem d_ld_forget_12 : decode b_ld_forget 12 = .ok (.iconst 0, 1) := by decide +kernel
theorem d_ld_forget_13 : decode b_ld_forget 13 = .ok (.invokestatic 23, 3) := by decide +kernel
theorem d_ld_forget_16 : decode b_ld_forget 16 = .ok (.return_, 1) := by decide +kernel
theorem d_ld_tell_0 : decode b_ld_tell 0 = .ok (.aload_n 0, 1) := by decide +kernel
theorem d_ld_tell_1 : decode b_ld_tell 1 = .ok (.iload_n 1, 1) := by decide +kernel
theorem d_ld_tell_2 : decode b_ld_tell 2 = .ok (.iload_n 2, 1) := by decide +kernel
theorem d_ld_tell_3 : decode b_ld_tell 3 = .ok (.invokevirtual 29, 3) := by decide +kernel
theorem d_ld_tell_6 : decode b_ld_tell 6 = .ok (.ifCond .eq 14, 3) := by decide +kernel
theorem d_ld_tell_9 : decode b_ld_tell 9 = .ok (.aload_n 0, 1) := by decide +kernel
theorem d_ld_tell_10 : decode b_ld_tell 10 = .ok (.getfield 11, 3) := by decide +kernel
theorem d_ld_tell_13 : decode b_ld_tell 13 = .ok (.iload_n 1, 1) := by decide +kernel
theorem d_ld_tell_14 : decode b_ld_tell 14 = .ok (.aaload, 1) := by decide +kernel
theorem d_ld_tell_15 : decode b_ld_tell 15 = .ok (.iload_n 2, 1) := by decide +kernel
theorem d_ld_tell_16 : decode b_ld_tell 16 = .ok (.iaload, 1) := by decide +kernel
theorem d_ld_tell_17 : decode b_ld_tell 17 = .ok (.goto 4, 3) := by decide +kernel
theorem d_ld_tell_20 : decode b_ld_tell 20 = .ok (.iconst (-1), 1) := by decide +kernel
theorem d_ld_tell_21 : decode b_ld_tell 21 = .ok (.istore 4, 2) := by decide +kernel
theorem d_ld_tell_23 : decode b_ld_tell 23 = .ok (.aload_n 0, 1) := by decide +kernel
theorem d_ld_tell_24 : decode b_ld_tell 24 = .ok (.getfield 11, 3) := by decide +kernel
theorem d_ld_tell_27 : decode b_ld_tell 27 = .ok (.iload_n 1, 1) := by decide +kernel
theorem d_ld_tell_28 : decode b_ld_tell 28 = .ok (.aaload, 1) := by decide +kernel
theorem d_ld_tell_29 : decode b_ld_tell 29 = .ok (.iload_n 2, 1) := by decide +kernel
theorem d_ld_tell_30 : decode b_ld_tell 30 = .ok (.iload_n 3, 1) := by decide +kernel
theorem d_ld_tell_31 : decode b_ld_tell 31 = .ok (.iastore, 1) := by decide +kernel
theorem d_ld_tell_32 : decode b_ld_tell 32 = .ok (.aload_n 0, 1) := by decide +kernel
theorem d_ld_tell_33 : decode b_ld_tell 33 = .ok (.getfield 16, 3) := by decide +kernel
theorem d_ld_tell_36 : decode b_ld_tell 36 = .ok (.iload_n 1, 1) := by decide +kernel
theorem d_ld_tell_37 : decode b_ld_tell 37 = .ok (.dup2, 1) := by decide +kernel
theorem d_ld_tell_38 : decode b_ld_tell 38 = .ok (.iaload, 1) := by decide +kernel
theorem d_ld_tell_39 : decode b_ld_tell 39 = .ok (.iconst 1, 1) := by decide +kernel
theorem d_ld_tell_40 : decode b_ld_tell 40 = .ok (.iload_n 2, 1) := by decide +kernel
theorem d_ld_tell_41 : decode b_ld_tell 41 = .ok (.ishl, 1) := by decide +kernel
theorem d_ld_tell_42 : decode b_ld_tell 42 = .ok (.ior, 1) := by decide +kernel
theorem d_ld_tell_43 : decode b_ld_tell 43 = .ok (.iastore, 1) := by decide +kernel
theorem d_ld_tell_44 : decode b_ld_tell 44 = .ok (.aload_n 0, 1) := by decide +kernel
theorem d_ld_tell_45 : decode b_ld_tell 45 = .ok (.getfield 20, 3) := by decide +kernel
theorem d_ld_tell_48 : decode b_ld_tell 48 = .ok (.iload_n 1, 1) := by decide +kernel
theorem d_ld_tell_49 : decode b_ld_tell 49 = .ok (.iaload, 1) := by decide +kernel
theorem d_ld_tell_50 : decode b_ld_tell 50 = .ok (.bipush 30, 2) := by decide +kernel
theorem d_ld_tell_52 : decode b_ld_tell 52 = .ok (.if_icmp .ge 30, 3) := by decide +kernel
theorem d_ld_tell_55 : decode b_ld_tell 55 = .ok (.aload_n 0, 1) := by decide +kernel
theorem d_ld_tell_56 : decode b_ld_tell 56 = .ok (.iload_n 1, 1) := by decide +kernel
theorem d_ld_tell_57 : decode b_ld_tell 57 = .ok (.aload_n 0, 1) := by decide +kernel
theorem d_ld_tell_58 : decode b_ld_tell 58 = .ok (.getfield 20, 3) := by decide +kernel
theorem d_ld_tell_61 : decode b_ld_tell 61 = .ok (.iload_n 1, 1) := by decide +kernel
theorem d_ld_tell_62 : decode b_ld_tell 62 = .ok (.iaload, 1) := by decide +kernel
theorem d_ld_tell_63 : decode b_ld_tell 63 = .ok (.invokevirtual 29, 3) := by decide +kernel
theorem d_ld_tell_66 : decode b_ld_tell 66 = .ok (.ifCond .eq 16, 3) := by decide +kernel
theorem d_ld_tell_69 : decode b_ld_tell 69 = .ok (.aload_n 0, 1) := by decide +kernel
theorem d_ld_tell_70 : decode b_ld_tell 70 = .ok (.getfield 20, 3) := by decide +kernel
theorem d_ld_tell_73 : decode b_ld_tell 73 = .ok (.iload_n 1, 1) := by decide +kernel
theorem d_ld_tell_74 : decode b_ld_tell 74 = .ok (.dup2, 1) := by decide +kernel
theorem d_ld_tell_75 : decode b_ld_tell 75 = .ok (.iaload, 1) := by decide +kernel
theorem d_ld_tell_76 : decode b_ld_tell 76 = .ok (.iconst 1, 1) := by decide +kernel
theorem d_ld_tell_77 : decode b_ld_tell 77 = .ok (.iadd, 1) := by decide +kernel
theorem d_ld_tell_78 : decode b_ld_tell 78 = .ok (.iastore, 1) := by decide +kernel
theorem d_ld_tell_79 : decode b_ld_tell 79 = .ok (.goto (-35), 3) := by decide +kernel
theorem d_ld_tell_82 : decode b_ld_tell 82 = .ok (.iload 4, 2) := by decide +kernel
theorem d_ld_tell_84 : decode b_ld_tell 84 = .ok (.ireturn, 1) := by decide +kernel
theorem d_ld_isTold_0 : decode b_ld_isTold 0 = .ok (.aload_n 0, 1) := by decide +kernel
theorem d_ld_isTold_1 : decode b_ld_isTold 1 = .ok (.getfield 16, 3) := by decide +kernel
theorem d_ld_isTold_4 : decode b_ld_isTold 4 = .ok (.iload_n 1, 1) := by decide +kernel
theorem d_ld_isTold_5 : decode b_ld_isTold 5 = .ok (.iaload, 1) := by decide +kernel
theorem d_ld_isTold_6 : decode b_ld_isTold 6 = .ok (.iload_n 2, 1) := by decide +kernel
theorem d_ld_isTold_7 : decode b_ld_isTold 7 = .ok (.ishr, 1) := by decide +kernel
theorem d_ld_isTold_8 : decode b_ld_isTold 8 = .ok (.iconst 1, 1) := by decide +kernel
theorem d_ld_isTold_9 : decode b_ld_isTold 9 = .ok (.iand, 1) := by decide +kernel
theorem d_ld_isTold_10 : decode b_ld_isTold 10 = .ok (.iconst 1, 1) := by decide +kernel
theorem d_ld_isTold_11 : decode b_ld_isTold 11 = .ok (.if_icmp .ne 7, 3) := by decide +kernel
theorem d_ld_isTold_14 : decode b_ld_isTold 14 = .ok (.iconst 1, 1) := by decide +kernel
theorem d_ld_isTold_15 : decode b_ld_isTold 15 = .ok (.goto 4, 3) := by decide +kernel
theorem d_ld_isTold_18 : decode b_ld_isTold 18 = .ok (.iconst 0, 1) := by decide +kernel
theorem d_ld_isTold_19 : decode b_ld_isTold 19 = .ok (.ireturn, 1) := by decide +kernel
theorem d_le_init_0 : decode b_le_init 0 = .ok (.aload_n 0, 1) := by decide +kernel
theorem d_le_init_1 : decode b_le_init 1 = .ok (.invokespecial 3, 3) := by decide +kernel
theorem d_le_init_4 : decode b_le_init 4 = .ok (.aload_n 0, 1) := by decide +kernel
theorem d_le_init_5 : decode b_le_init 5 = .ok (.sipush 1296, 3) := by decide +kernel
theorem d_le_init_8 : decode b_le_init 8 = .ok (.newarray .long, 2) := by decide +kernel
theorem d_le_init_10 : decode b_le_init 10 = .ok (.putfield 9, 3) := by decide +kernel
theorem d_le_init_13 : decode b_le_init 13 = .ok (.return_, 1) := by decide +kernel
theorem d_le_reset_0 : decode b_le_reset 0 = .ok (.aload_n 0, 1) := by decide +kernel
theorem d_le_reset_1 : decode b_le_reset 1 = .ok (.getfield 9, 3) := by decide +kernel
theorem d_le_reset_4 : decode b_le_reset 4 = .ok (.lconst 0, 1) := by decide +kernel
theorem d_le_reset_5 : decode b_le_reset 5 = .ok (.invokestatic 15, 3) := by decide +kernel
theorem d_le_reset_8 : decode b_le_reset 8 = .ok (.return_, 1) := by decide +kernel
theorem d_pn_init_0 : decode b_pn_init 0 = .ok (.aload_n 0, 1) := by decide +kernel
theorem d_pn_init_1 : decode b_pn_init 1 = .ok (.invokespecial 3, 3) := by decide +kernel
theorem d_pn_init_4 : decode b_pn_init 4 = .ok (.aload_n 0, 1) := by decide +kernel
theorem d_pn_init_5 : decode b_pn_init 5 = .ok (.new 9, 3) := by decide +kernel
theorem d_pn_init_8 : decode b_pn_init 8 = .ok (.dup, 1) := by decide +kernel
theorem d_pn_init_9 : decode b_pn_init 9 = .ok (.invokespecial 11, 3) := by decide +kernel
theorem d_pn_init_12 : decode b_pn_init 12 = .ok (.putfield 12, 3) := by decide +kernel
theorem d_pn_init_15 : decode b_pn_init 15 = .ok (.aload_n 0, 1) := by decide +kernel
theorem d_pn_init_16 : decode b_pn_init 16 = .ok (.bipush 32, 2) := by decide +kernel
theorem d_pn_init_18 : decode b_pn_init 18 = .ok (.iconst 5, 1) := by decide +kernel
theorem d_pn_init_19 : decode b_pn_init 19 = .ok (.multianewarray 18 2, 4) := by decide +kernel
theorem d_pn_init_23 : decode b_pn_init 23 = .ok (.putfield 20, 3) := by decide +kernel
theorem d_pn_init_26 : decode b_pn_init 26 = .ok (.aload_n 0, 1) := by decide +kernel
theorem d_pn_init_27 : decode b_pn_init 27 = .ok (.bipush 32, 2) := by decide +kernel
theorem d_pn_init_29 : decode b_pn_init 29 = .ok (.newarray .int, 2) := by decide +kernel
theorem d_pn_init_31 : decode b_pn_init 31 = .ok (.putfield 23, 3) := by decide +kernel
theorem d_pn_init_34 : decode b_pn_init 34 = .ok (.aload_n 0, 1) := by decide +kernel
theorem d_pn_init_35 : decode b_pn_init 35 = .ok (.bipush 32, 2) := by decide +kernel
theorem d_pn_init_37 : decode b_pn_init 37 = .ok (.iconst 5, 1) := by decide +kernel
theorem d_pn_init_38 : decode b_pn_init 38 = .ok (.multianewarray 18 2, 4) := by decide +kernel
theorem d_pn_init_42 : decode b_pn_init 42 = .ok (.putfield 27, 3) := by decide +kernel
theorem d_pn_init_45 : decode b_pn_init 45 = .ok (.aload_n 0, 1) := by decide +kernel
theorem d_pn_init_46 : decode b_pn_init 46 = .ok (.aload_n 1, 1) := by decide +kernel
theorem d_pn_init_47 : decode b_pn_init 47 = .ok (.putfield 30, 3) := by decide +kernel
theorem d_pn_init_50 : decode b_pn_init 50 = .ok (.aload_n 0, 1) := by decide +kernel
theorem d_pn_init_51 : decode b_pn_init 51 = .ok (.aload_n 2, 1) := by decide +kernel
theorem d_pn_init_52 : decode b_pn_init 52 = .ok (.putfield 34, 3) := by decide +kernel
theorem d_pn_init_55 : decode b_pn_init 55 = .ok (.return_, 1) := by decide +kernel
theorem d_pn_forget_0 : decode b_pn_forget 0 = .ok (.aload_n 0, 1) := by decide +kernel
theorem d_pn_forget_1 : decode b_pn_forget 1 = .ok (.iconst 0, 1) := by decide +kernel
theorem d_pn_forget_2 : decode b_pn_forget 2 = .ok (.putfield 38, 3) := by decide +kernel
theorem d_pn_forget_5 : decode b_pn_forget 5 = .ok (.aload_n 0, 1) := by decide +kernel
theorem d_pn_forget_6 : decode b_pn_forget 6 = .ok (.iconst 0, 1) := by decide +kernel
theorem d_pn_forget_7 : decode b_pn_forget 7 = .ok (.putfield 42, 3) := by decide +kernel
theorem d_pn_forget_10 : decode b_pn_forget 10 = .ok (.aload_n 0, 1) := by decide +kernel
theorem d_pn_forget_11 : decode b_pn_forget 11 = .ok (.iconst 0, 1) := by decide +kernel
theorem d_pn_forget_12 : decode b_pn_forget 12 = .ok (.putfield 45, 3) := by decide +kernel
theorem d_pn_forget_15 : decode b_pn_forget 15 = .ok (.return_, 1) := by decide +kernel
theorem d_pn_find_0 : decode b_pn_find 0 = .ok (.aload_n 0, 1) := by decide +kernel
theorem d_pn_find_1 : decode b_pn_find 1 = .ok (.getfield 34, 3) := by decide +kernel
theorem d_pn_find_4 : decode b_pn_find 4 = .ok (.invokevirtual 49, 3) := by decide +kernel
theorem d_pn_find_7 : decode b_pn_find 7 = .ok (.istore_n 2, 1) := by decide +kernel
theorem d_pn_find_8 : decode b_pn_find 8 = .ok (.iload_n 2, 1) := by decide +kernel
theorem d_pn_find_9 : decode b_pn_find 9 = .ok (.iconst (-1), 1) := by decide +kernel
theorem d_pn_find_10 : decode b_pn_find 10 = .ok (.if_icmp .ne 5, 3) := by decide +kernel
theorem d_pn_find_13 : decode b_pn_find 13 = .ok (.iconst (-1), 1) := by decide +kernel
theorem d_pn_find_14 : decode b_pn_find 14 = .ok (.ireturn, 1) := by decide +kernel
theorem d_pn_find_15 : decode b_pn_find 15 = .ok (.aload_n 0, 1) := by decide +kernel
theorem d_pn_find_16 : decode b_pn_find 16 = .ok (.getfield 45, 3) := by decide +kernel
theorem d_pn_find_19 : decode b_pn_find 19 = .ok (.ifCond .ne 7, 3) := by decide +kernel
theorem d_pn_find_22 : decode b_pn_find 22 = .ok (.aload_n 0, 1) := by decide +kernel
theorem d_pn_find_23 : decode b_pn_find 23 = .ok (.invokevirtual 55, 3) := by decide +kernel
theorem d_pn_find_26 : decode b_pn_find 26 = .ok (.aload_n 0, 1) := by decide +kernel
theorem d_pn_find_27 : decode b_pn_find 27 = .ok (.getfield 42, 3) := by decide +kernel
theorem d_pn_find_30 : decode b_pn_find 30 = .ok (.ifCond .ne 57, 3) := by decide +kernel
theorem d_pn_find_33 : decode b_pn_find 33 = .ok (.aload_n 0, 1) := by decide +kernel
theorem d_pn_find_34 : decode b_pn_find 34 = .ok (.getfield 45, 3) := by decide +kernel
theorem d_pn_find_37 : decode b_pn_find 37 = .ok (.iload_n 1, 1) := by decide +kernel
theorem d_pn_find_38 : decode b_pn_find 38 = .ok (.if_icmp .gt 49, 3) := by decide +kernel
theorem d_pn_find_41 : decode b_pn_find 41 = .ok (.aload_n 0, 1) := by decide +kernel
theorem d_pn_find_42 : decode b_pn_find 42 = .ok (.iconst 0, 1) := by decide +kernel
theorem d_pn_find_43 : decode b_pn_find 43 = .ok (.iload_n 2, 1) := by decide +kernel
theorem d_pn_find_44 : decode b_pn_find 44 = .ok (.aload_n 0, 1) := by decide +kernel
theorem d_pn_find_45 : decode b_pn_find 45 = .ok (.getfield 45, 3) := by decide +kernel
theorem d_pn_find_48 : decode b_pn_find 48 = .ok (.iadd, 1) := by decide +kernel
theorem d_pn_find_49 : decode b_pn_find 49 = .ok (.invokevirtual 58, 3) := by decide +kernel
theorem d_pn_find_52 : decode b_pn_find 52 = .ok (.ifCond .eq 22, 3) := by decide +kernel
theorem d_pn_find_55 : decode b_pn_find 55 = .ok (.aload_n 0, 1) := by decide +kernel
theorem d_pn_find_56 : decode b_pn_find 56 = .ok (.iconst 1, 1) := by decide +kernel
theorem d_pn_find_57 : decode b_pn_find 57 = .ok (.putfield 42, 3) := by decide +kernel
theorem d_pn_find_60 : decode b_pn_find 60 = .ok (.aload_n 0, 1) := by decide +kernel
theorem d_pn_find_61 : decode b_pn_find 61 = .ok (.iload_n 2, 1) := by decide +kernel
theorem d_pn_find_62 : decode b_pn_find 62 = .ok (.aload_n 0, 1) := by decide +kernel
theorem d_pn_find_63 : decode b_pn_find 63 = .ok (.getfield 45, 3) := by decide +kernel
theorem d_pn_find_66 : decode b_pn_find 66 = .ok (.iadd, 1) := by decide +kernel
theorem d_pn_find_67 : decode b_pn_find 67 = .ok (.putfield 62, 3) := by decide +kernel
theorem d_pn_find_70 : decode b_pn_find 70 = .ok (.aload_n 0, 1) := by decide +kernel
theorem d_pn_find_71 : decode b_pn_find 71 = .ok (.invokevirtual 65, 3) := by decide +kernel
theorem d_pn_find_74 : decode b_pn_find 74 = .ok (.aload_n 0, 1) := by decide +kernel
theorem d_pn_find_75 : decode b_pn_find 75 = .ok (.dup, 1) := by decide +kernel
theorem d_pn_find_76 : decode b_pn_find 76 = .ok (.getfield 45, 3) := by decide +kernel
theorem d_pn_find_79 : decode b_pn_find 79 = .ok (.iconst 1, 1) := by decide +kernel
theorem d_pn_find_80 : decode b_pn_find 80 = .ok (.iadd, 1) := by decide +kernel
theorem d_pn_find_81 : decode b_pn_find 81 = .ok (.putfield 45, 3) := by decide +kernel
theorem d_pn_find_84 : decode b_pn_find 84 = .ok (.goto (-58), 3) := by decide +kernel
theorem d_pn_find_87 : decode b_pn_find 87 = .ok (.aload_n 0, 1) := by decide +kernel
theorem d_pn_find_88 : decode b_pn_find 88 = .ok (.aload_n 0, 1) := by decide +kernel
theorem d_pn_find_89 : decode b_pn_find 89 = .ok (.getfield 42, 3) := by decide +kernel
theorem d_pn_find_92 : decode b_pn_find 92 = .ok (.ifCond .eq 17, 3) := by decide +kernel
theorem d_pn_find_95 : decode b_pn_find 95 = .ok (.aload_n 0, 1) := by decide +kernel
theorem d_pn_find_96 : decode b_pn_find 96 = .ok (.getfield 62, 3) := by decide +kernel
theorem d_pn_find_99 : decode b_pn_find 99 = .ok (.iload_n 2, 1) := by decide +kernel
theorem d_pn_find_100 : decode b_pn_find 100 = .ok (.iload_n 1, 1) := by decide +kernel
theorem d_pn_find_101 : decode b_pn_find 101 = .ok (.iadd, 1) := by decide +kernel
theorem d_pn_find_102 : decode b_pn_find 102 = .ok (.if_icmp .gt 7, 3) := by decide +kernel
theorem d_pn_find_105 : decode b_pn_find 105 = .ok (.iconst 1, 1) := by decide +kernel
theorem d_pn_find_106 : decode b_pn_find 106 = .ok (.goto 4, 3) := by decide +kernel
theorem d_pn_find_109 : decode b_pn_find 109 = .ok (.iconst 0, 1) := by decide +kernel
theorem d_pn_find_110 : decode b_pn_find 110 = .ok (.putfield 38, 3) := by decide +kernel
theorem d_pn_find_113 : decode b_pn_find 113 = .ok (.aload_n 0, 1) := by decide +kernel
theorem d_pn_find_114 : decode b_pn_find 114 = .ok (.getfield 38, 3) := by decide +kernel
theorem d_pn_find_117 : decode b_pn_find 117 = .ok (.ifCond .eq 10, 3) := by decide +kernel
theorem d_pn_find_120 : decode b_pn_find 120 = .ok (.aload_n 0, 1) := by decide +kernel
theorem d_pn_find_121 : decode b_pn_find 121 = .ok (.getfield 62, 3) := by decide +kernel
theorem d_pn_find_124 : decode b_pn_find 124 = .ok (.goto 4, 3) := by decide +kernel
theorem d_pn_find_127 : decode b_pn_find 127 = .ok (.iconst (-1), 1) := by decide +kernel
theorem d_pn_find_128 : decode b_pn_find 128 = .ok (.ireturn, 1) := by decide +kernel
theorem d_pn_begin_0 : decode b_pn_begin 0 = .ok (.aload_n 0, 1) := by decide +kernel
theorem d_pn_begin_1 : decode b_pn_begin 1 = .ok (.getfield 12, 3) := by decide +kernel
theorem d_pn_begin_4 : decode b_pn_begin 4 = .ok (.invokevirtual 80, 3) := by decide +kernel
theorem d_pn_begin_7 : decode b_pn_begin 7 = .ok (.iconst 0, 1) := by decide +kernel
theorem d_pn_begin_8 : decode b_pn_begin 8 = .ok (.istore_n 1, 1) := by decide +kernel
theorem d_pn_begin_9 : decode b_pn_begin 9 = .ok (.iload_n 1, 1) := by decide +kernel
theorem d_pn_begin_10 : decode b_pn_begin 10 = .ok (.aload_n 0, 1) := by decide +kernel
theorem d_pn_begin_11 : decode b_pn_begin 11 = .ok (.getfield 34, 3) := by decide +kernel
theorem d_pn_begin_14 : decode b_pn_begin 14 = .ok (.getfield 83, 3) := by decide +kernel
theorem d_pn_begin_17 : decode b_pn_begin 17 = .ok (.if_icmp .ge 26, 3) := by decide +kernel
theorem d_pn_begin_20 : decode b_pn_begin 20 = .ok (.aload_n 0, 1) := by decide +kernel
theorem d_pn_begin_21 : decode b_pn_begin 21 = .ok (.getfield 27, 3) := by decide +kernel
theorem d_pn_begin_24 : decode b_pn_begin 24 = .ok (.iconst 0, 1) := by decide +kernel
theorem d_pn_begin_25 : decode b_pn_begin 25 = .ok (.aaload, 1) := by decide +kernel
theorem d_pn_begin_26 : decode b_pn_begin 26 = .ok (.iload_n 1, 1) := by decide +kernel
theorem d_pn_begin_27 : decode b_pn_begin 27 = .ok (.aload_n 0, 1) := by decide +kernel
theorem d_pn_begin_28 : decode b_pn_begin 28 = .ok (.getfield 34, 3) := by decide +kernel
theorem d_pn_begin_31 : decode b_pn_begin 31 = .ok (.getfield 86, 3) := by decide +kernel
theorem d_pn_begin_34 : decode b_pn_begin 34 = .ok (.iload_n 1, 1) := by decide +kernel
theorem d_pn_begin_35 : decode b_pn_begin 35 = .ok (.iaload, 1) := by decide +kernel
theorem d_pn_begin_36 : decode b_pn_begin 36 = .ok (.iastore, 1) := by decide +kernel
theorem d_pn_begin_37 : decode b_pn_begin 37 = .ok (.iinc 1 1, 3) := by decide +kernel
theorem d_pn_begin_40 : decode b_pn_begin 40 = .ok (.goto (-31), 3) := by decide +kernel
theorem d_pn_begin_43 : decode b_pn_begin 43 = .ok (.return_, 1) := by decide +kernel
theorem d_pn_canEnd_0 : decode b_pn_canEnd 0 = .ok (.iconst 0, 1) := by decide +kernel
theorem d_pn_canEnd_1 : decode b_pn_canEnd 1 = .ok (.istore_n 3, 1) := by decide +kernel
theorem d_pn_canEnd_2 : decode b_pn_canEnd 2 = .ok (.iconst 0, 1) := by decide +kernel
theorem d_pn_canEnd_3 : decode b_pn_canEnd 3 = .ok (.istore 4, 2) := by decide +kernel
theorem d_pn_canEnd_5 : decode b_pn_canEnd 5 = .ok (.iload 4, 2) := by decide +kernel
theorem d_pn_canEnd_7 : decode b_pn_canEnd 7 = .ok (.aload_n 0, 1) := by decide +kernel
theorem d_pn_canEnd_8 : decode b_pn_canEnd 8 = .ok (.getfield 34, 3) := by decide +kernel
theorem d_pn_canEnd_11 : decode b_pn_canEnd 11 = .ok (.getfield 83, 3) := by decide +kernel
theorem d_pn_canEnd_14 : decode b_pn_canEnd 14 = .ok (.if_icmp .ge 38, 3) := by decide +kernel
theorem d_pn_canEnd_17 : decode b_pn_canEnd 17 = .ok (.aload_n 0, 1) := by decide +kernel
theorem d_pn_canEnd_18 : decode b_pn_canEnd 18 = .ok (.getfield 27, 3) := by decide +kernel
theorem d_pn_canEnd_21 : decode b_pn_canEnd 21 = .ok (.iload_n 1, 1) := by decide +kernel
theorem d_pn_canEnd_22 : decode b_pn_canEnd 22 = .ok (.aaload, 1) := by decide +kernel
theorem d_pn_canEnd_23 : decode b_pn_canEnd 23 = .ok (.iload 4, 2) := by decide +kernel
theorem d_pn_canEnd_25 : decode b_pn_canEnd 25 = .ok (.iaload, 1) := by decide +kernel
theorem d_pn_canEnd_26 : decode b_pn_canEnd 26 = .ok (.aload_n 0, 1) := by decide +kernel
theorem d_pn_canEnd_27 : decode b_pn_canEnd 27 = .ok (.getfield 34, 3) := by decide +kernel
theorem d_pn_canEnd_30 : decode b_pn_canEnd 30 = .ok (.getfield 96, 3) := by decide +kernel
theorem d_pn_canEnd_33 : decode b_pn_canEnd 33 = .ok (.iload 4, 2) := by decide +kernel
theorem d_pn_canEnd_35 : decode b_pn_canEnd 35 = .ok (.iaload, 1) := by decide +kernel
theorem d_pn_canEnd_36 : decode b_pn_canEnd 36 = .ok (.if_icmp .ne 10, 3) := by decide +kernel
theorem d_pn_canEnd_39 : decode b_pn_canEnd 39 = .ok (.iload_n 3, 1) := by decide +kernel
theorem d_pn_canEnd_40 : decode b_pn_canEnd 40 = .ok (.iconst 1, 1) := by decide +kernel
theorem d_pn_canEnd_41 : decode b_pn_canEnd 41 = .ok (.iload 4, 2) := by decide +kernel
theorem d_pn_canEnd_43 : decode b_pn_canEnd 43 = .ok (.ishl, 1) := by decide +kernel
theorem d_pn_canEnd_44 : decode b_pn_canEnd 44 = .ok (.ior, 1) := by decide +kernel
theorem d_pn_canEnd_45 : decode b_pn_canEnd 45 = .ok (.istore_n 3, 1) := by decide +kernel
theorem d_pn_canEnd_46 : decode b_pn_canEnd 46 = .ok (.iinc 4 1, 3) := by decide +kernel
theorem d_pn_canEnd_49 : decode b_pn_canEnd 49 = .ok (.goto (-44), 3) := by decide +kernel
theorem d_pn_canEnd_52 : decode b_pn_canEnd 52 = .ok (.iload_n 3, 1) := by decide +kernel
theorem d_pn_canEnd_53 : decode b_pn_canEnd 53 = .ok (.istore 4, 2) := by decide +kernel
theorem d_pn_canEnd_55 : decode b_pn_canEnd 55 = .ok (.iload 4, 2) := by decide +kernel
theorem d_pn_canEnd_57 : decode b_pn_canEnd 57 = .ok (.ifCond .lt 45, 3) := by decide +kernel
theorem d_pn_canEnd_60 : decode b_pn_canEnd 60 = .ok (.iload 4, 2) := by decide +kernel
theorem d_pn_canEnd_62 : decode b_pn_canEnd 62 = .ok (.iload_n 3, 1) := by decide +kernel
theorem d_pn_canEnd_63 : decode b_pn_canEnd 63 = .ok (.iconst (-1), 1) := by decide +kernel
theorem d_pn_canEnd_64 : decode b_pn_canEnd 64 = .ok (.ixor, 1) := by decide +kernel
theorem d_pn_canEnd_65 : decode b_pn_canEnd 65 = .ok (.iand, 1) := by decide +kernel
theorem d_pn_canEnd_66 : decode b_pn_canEnd 66 = .ok (.ifCond .ne 30, 3) := by decide +kernel
theorem d_pn_canEnd_69 : decode b_pn_canEnd 69 = .ok (.aload_n 0, 1) := by decide +kernel
theorem d_pn_canEnd_70 : decode b_pn_canEnd 70 = .ok (.iload_n 1, 1) := by decide +kernel
theorem d_pn_canEnd_71 : decode b_pn_canEnd 71 = .ok (.iload 4, 2) := by decide +kernel
theorem d_pn_canEnd_73 : decode b_pn_canEnd 73 = .ok (.iload_n 2, 1) := by decide +kernel
theorem d_pn_canEnd_74 : decode b_pn_canEnd 74 = .ok (.invokevirtual 111, 3) := by decide +kernel
theorem d_pn_canEnd_77 : decode b_pn_canEnd 77 = .ok (.istore 5, 2) := by decide +kernel
theorem d_pn_canEnd_79 : decode b_pn_canEnd 79 = .ok (.iload 5, 2) := by decide +kernel
theorem d_pn_canEnd_81 : decode b_pn_canEnd 81 = .ok (.ifCond .lt 15, 3) := by decide +kernel
theorem d_pn_canEnd_84 : decode b_pn_canEnd 84 = .ok (.aload_n 0, 1) := by decide +kernel
theorem d_pn_canEnd_85 : decode b_pn_canEnd 85 = .ok (.iconst 0, 1) := by decide +kernel
theorem d_pn_canEnd_86 : decode b_pn_canEnd 86 = .ok (.iload 5, 2) := by decide +kernel
theorem d_pn_canEnd_88 : decode b_pn_canEnd 88 = .ok (.invokevirtual 115, 3) := by decide +kernel
theorem d_pn_canEnd_91 : decode b_pn_canEnd 91 = .ok (.ifCond .eq 5, 3) := by decide +kernel
theorem d_pn_canEnd_94 : decode b_pn_canEnd 94 = .ok (.iconst 1, 1) := by decide +kernel
theorem d_pn_canEnd_95 : decode b_pn_canEnd 95 = .ok (.ireturn, 1) := by decide +kernel
theorem d_pn_canEnd_96 : decode b_pn_canEnd 96 = .ok (.iinc 4 (-1), 3) := by decide +kernel
theorem d_pn_canEnd_99 : decode b_pn_canEnd 99 = .ok (.goto (-44), 3) := by decide +kernel
theorem d_pn_canEnd_102 : decode b_pn_canEnd 102 = .ok (.iconst 0, 1) := by decide +kernel
theorem d_pn_canEnd_103 : decode b_pn_canEnd 103 = .ok (.ireturn, 1) := by decide +kernel
theorem d_pn_startSearch_0 : decode b_pn_startSearch 0 = .ok (.iload_n 3, 1) := by decide +kernel
theorem d_pn_startSearch_1 : decode b_pn_startSearch 1 = .ok (.istore 4, 2) := by decide +kernel
theorem d_pn_startSearch_3 : decode b_pn_startSearch 3 = .ok (.iconst 0, 1) := by decide +kernel
theorem d_pn_startSearch_4 : decode b_pn_startSearch 4 = .ok (.istore 5, 2) := by decide +kernel
theorem d_pn_startSearch_6 : decode b_pn_startSearch 6 = .ok (.iload 5, 2) := by decide +kernel
theorem d_pn_startSearch_8 : decode b_pn_startSearch 8 = .ok (.aload_n 0, 1) := by decide +kernel
theorem d_pn_startSearch_9 : decode b_pn_startSearch 9 = .ok (.getfield 34, 3) := by decide +kernel
theorem d_pn_startSearch_12 : decode b_pn_startSearch 12 = .ok (.getfield 83, 3) := by decide +kernel
theorem d_pn_startSearch_15 : decode b_pn_startSearch 15 = .ok (.if_icmp .ge 70, 3) := by decide +kernel
theorem d_pn_startSearch_18 : decode b_pn_startSearch 18 = .ok (.aload_n 0, 1) := by decide +kernel
theorem d_pn_startSearch_19 : decode b_pn_startSearch 19 = .ok (.getfield 27, 3) := by decide +kernel
theorem d_pn_startSearch_22 : decode b_pn_startSearch 22 = .ok (.iload_n 1, 1) := by decide +kernel
theorem d_pn_startSearch_23 : decode b_pn_startSearch 23 = .ok (.aaload, 1) := by decide +kernel
theorem d_pn_startSearch_24 : decode b_pn_startSearch 24 = .ok (.iload 5, 2) := by decide +kernel
theorem d_pn_startSearch_26 : decode b_pn_startSearch 26 = .ok (.iaload, 1) := by decide +kernel
theorem d_pn_startSearch_27 : decode b_pn_startSearch 27 = .ok (.istore 6, 2) := by decide +kernel
theorem d_pn_startSearch_29 : decode b_pn_startSearch 29 = .ok (.aload_n 0, 1) := by decide +kernel
theorem d_pn_startSearch_30 : decode b_pn_startSearch 30 = .ok (.getfield 20, 3) := by decide +kernel
theorem d_pn_startSearch_33 : decode b_pn_startSearch 33 = .ok (.iconst 0, 1) := by decide +kernel
theorem d_pn_startSearch_34 : decode b_pn_startSearch 34 = .ok (.aaload, 1) := by decide +kernel
theorem d_pn_startSearch_35 : decode b_pn_startSearch 35 = .ok (.iload 5, 2) := by decide +kernel
theorem d_pn_startSearch_37 : decode b_pn_startSearch 37 = .ok (.iload 6, 2) := by decide +kernel
theorem d_pn_startSearch_39 : decode b_pn_startSearch 39 = .ok (.iastore, 1) := by decide +kernel
theorem d_pn_startSearch_40 : decode b_pn_startSearch 40 = .ok (.iload_n 2, 1) := by decide +kernel
theorem d_pn_startSearch_41 : decode b_pn_startSearch 41 = .ok (.iload 5, 2) := by decide +kernel
theorem d_pn_startSearch_43 : decode b_pn_startSearch 43 = .ok (.invokestatic 118, 3) := by decide +kernel
theorem d_pn_startSearch_46 : decode b_pn_startSearch 46 = .ok (.ifCond .eq 18, 3) := by decide +kernel
theorem d_pn_startSearch_49 : decode b_pn_startSearch 49 = .ok (.iload 4, 2) := by decide +kernel
theorem d_pn_startSearch_51 : decode b_pn_startSearch 51 = .ok (.aload_n 0, 1) := by decide +kernel
theorem d_pn_startSearch_52 : decode b_pn_startSearch 52 = .ok (.iload 5, 2) := by decide +kernel
theorem d_pn_startSearch_54 : decode b_pn_startSearch 54 = .ok (.iload_n 1, 1) := by decide +kernel
theorem d_pn_startSearch_55 : decode b_pn_startSearch 55 = .ok (.invokevirtual 71, 3) := by decide +kernel
theorem d_pn_startSearch_58 : decode b_pn_startSearch 58 = .ok (.isub, 1) := by decide +kernel
theorem d_pn_startSearch_59 : decode b_pn_startSearch 59 = .ok (.istore 4, 2) := by decide +kernel
theorem d_pn_startSearch_61 : decode b_pn_startSearch 61 = .ok (.goto 18, 3) := by decide +kernel
theorem d_pn_startSearch_64 : decode b_pn_startSearch 64 = .ok (.iload 4, 2) := by decide +kernel
theorem d_pn_startSearch_66 : decode b_pn_startSearch 66 = .ok (.iload_n 1, 1) := by decide +kernel
theorem d_pn_startSearch_67 : decode b_pn_startSearch 67 = .ok (.aload_n 0, 1) := by decide +kernel
theorem d_pn_startSearch_68 : decode b_pn_startSearch 68 = .ok (.iload 5, 2) := by decide +kernel
theorem d_pn_startSearch_70 : decode b_pn_startSearch 70 = .ok (.iload 6, 2) := by decide +kernel
theorem d_pn_startSearch_72 : decode b_pn_startSearch 72 = .ok (.invokevirtual 121, 3) := by decide +kernel
theorem d_pn_startSearch_75 : decode b_pn_startSearch 75 = .ok (.iadd, 1) := by decide +kernel
theorem d_pn_startSearch_76 : decode b_pn_startSearch 76 = .ok (.isub, 1) := by decide +kernel
theorem d_pn_startSearch_77 : decode b_pn_startSearch 77 = .ok (.istore 4, 2) := by decide +kernel
theorem d_pn_startSearch_79 : decode b_pn_startSearch 79 = .ok (.iinc 5 1, 3) := by decide +kernel
theorem d_pn_startSearch_82 : decode b_pn_startSearch 82 = .ok (.goto (-76), 3) := by decide +kernel
theorem d_pn_startSearch_85 : decode b_pn_startSearch 85 = .ok (.aload_n 0, 1) := by decide +kernel
theorem d_pn_startSearch_86 : decode b_pn_startSearch 86 = .ok (.getfield 23, 3) := by decide +kernel
theorem d_pn_startSearch_89 : decode b_pn_startSearch 89 = .ok (.iconst 0, 1) := by decide +kernel
theorem d_pn_startSearch_90 : decode b_pn_startSearch 90 = .ok (.iload_n 2, 1) := by decide +kernel
theorem d_pn_startSearch_91 : decode b_pn_startSearch 91 = .ok (.iastore, 1) := by decide +kernel
theorem d_pn_startSearch_92 : decode b_pn_startSearch 92 = .ok (.iload 4, 2) := by decide +kernel
theorem d_pn_startSearch_94 : decode b_pn_startSearch 94 = .ok (.ireturn, 1) := by decide +kernel
theorem d_pn_reachesEnd_0 : decode b_pn_reachesEnd 0 = .ok (.aload_n 0, 1) := by decide +kernel
theorem d_pn_reachesEnd_1 : decode b_pn_reachesEnd 1 = .ok (.getfield 23, 3) := by decide +kernel
theorem d_pn_reachesEnd_4 : decode b_pn_reachesEnd 4 = .ok (.iload_n 1, 1) := by decide +kernel
theorem d_pn_reachesEnd_5 : decode b_pn_reachesEnd 5 = .ok (.iaload, 1) := by decide +kernel
theorem d_pn_reachesEnd_6 : decode b_pn_reachesEnd 6 = .ok (.iconst 1, 1) := by decide +kernel
theorem d_pn_reachesEnd_7 : decode b_pn_reachesEnd 7 = .ok (.aload_n 0, 1) := by decide +kernel
theorem d_pn_reachesEnd_8 : decode b_pn_reachesEnd 8 = .ok (.getfield 34, 3) := by decide +kernel
theorem d_pn_reachesEnd_11 : decode b_pn_reachesEnd 11 = .ok (.getfield 83, 3) := by decide +kernel
theorem d_pn_reachesEnd_14 : decode b_pn_reachesEnd 14 = .ok (.ishl, 1) := by decide +kernel
theorem d_pn_reachesEnd_15 : decode b_pn_reachesEnd 15 = .ok (.iconst 1, 1) := by decide +kernel
theorem d_pn_reachesEnd_16 : decode b_pn_reachesEnd 16 = .ok (.isub, 1) := by decide +kernel
theorem d_pn_reachesEnd_17 : decode b_pn_reachesEnd 17 = .ok (.if_icmp .ne 5, 3) := by decide +kernel
theorem d_pn_reachesEnd_20 : decode b_pn_reachesEnd 20 = .ok (.iconst 1, 1) := by decide +kernel
theorem d_pn_reachesEnd_21 : decode b_pn_reachesEnd 21 = .ok (.ireturn, 1) := by decide +kernel
theorem d_pn_reachesEnd_22 : decode b_pn_reachesEnd 22 = .ok (.iload_n 1, 1) := by decide +kernel
theorem d_pn_reachesEnd_23 : decode b_pn_reachesEnd 23 = .ok (.iconst 1, 1) := by decide +kernel
theorem d_pn_reachesEnd_24 : decode b_pn_reachesEnd 24 = .ok (.iadd, 1) := by decide +kernel
theorem d_pn_reachesEnd_25 : decode b_pn_reachesEnd 25 = .ok (.bipush 32, 2) := by decide +kernel
theorem d_pn_reachesEnd_27 : decode b_pn_reachesEnd 27 = .ok (.if_icmp .lt 5, 3) := by decide +kernel
theorem d_pn_reachesEnd_30 : decode b_pn_reachesEnd 30 = .ok (.iconst 0, 1) := by decide +kernel
theorem d_pn_reachesEnd_31 : decode b_pn_reachesEnd 31 = .ok (.ireturn, 1) := by decide +kernel
theorem d_pn_reachesEnd_32 : decode b_pn_reachesEnd 32 = .ok (.aload_n 0, 1) := by decide +kernel
theorem d_pn_reachesEnd_33 : decode b_pn_reachesEnd 33 = .ok (.iload_n 1, 1) := by decide +kernel
theorem d_pn_reachesEnd_34 : decode b_pn_reachesEnd 34 = .ok (.invokevirtual 127, 3) := by decide +kernel
theorem d_pn_reachesEnd_37 : decode b_pn_reachesEnd 37 = .ok (.istore_n 3, 1) := by decide +kernel
theorem d_pn_reachesEnd_38 : decode b_pn_reachesEnd 38 = .ok (.aload_n 0, 1) := by decide +kernel
theorem d_pn_reachesEnd_39 : decode b_pn_reachesEnd 39 = .ok (.getfield 12, 3) := by decide +kernel
theorem d_pn_reachesEnd_42 : decode b_pn_reachesEnd 42 = .ok (.iload_n 3, 1) := by decide +kernel
theorem d_pn_reachesEnd_43 : decode b_pn_reachesEnd 43 = .ok (.invokevirtual 131, 3) := by decide +kernel
theorem d_pn_reachesEnd_46 : decode b_pn_reachesEnd 46 = .ok (.iload_n 2, 1) := by decide +kernel
theorem d_pn_reachesEnd_47 : decode b_pn_reachesEnd 47 = .ok (.if_icmp .le 5, 3) := by decide +kernel
theorem d_pn_reachesEnd_50 : decode b_pn_reachesEnd 50 = .ok (.iconst 0, 1) := by decide +kernel
theorem d_pn_reachesEnd_51 : decode b_pn_reachesEnd 51 = .ok (.ireturn, 1) := by decide +kernel
theorem d_pn_reachesEnd_52 : decode b_pn_reachesEnd 52 = .ok (.aload_n 0, 1) := by decide +kernel
theorem d_pn_reachesEnd_53 : decode b_pn_reachesEnd 53 = .ok (.iload_n 1, 1) := by decide +kernel
theorem d_pn_reachesEnd_54 : decode b_pn_reachesEnd 54 = .ok (.iconst 0, 1) := by decide +kernel
theorem d_pn_reachesEnd_55 : decode b_pn_reachesEnd 55 = .ok (.iconst 0, 1) := by decide +kernel
theorem d_pn_reachesEnd_56 : decode b_pn_reachesEnd 56 = .ok (.iload_n 2, 1) := by decide +kernel
theorem d_pn_reachesEnd_57 : decode b_pn_reachesEnd 57 = .ok (.invokevirtual 134, 3) := by decide +kernel
theorem d_pn_reachesEnd_60 : decode b_pn_reachesEnd 60 = .ok (.ifCond .eq 5, 3) := by decide +kernel
end
section
theorem d_pn_reachesEnd_63 : decode b_pn_reachesEnd 63 = .ok (.iconst 1, 1) := by decide +kernel
theorem d_pn_reachesEnd_64 : decode b_pn_reachesEnd 64 = .ok (.ireturn, 1) := by decide +kernel
theorem d_pn_reachesEnd_65 : decode b_pn_reachesEnd 65 = .ok (.aload_n 0, 1) := by decide +kernel
theorem d_pn_reachesEnd_66 : decode b_pn_reachesEnd 66 = .ok (.getfield 12, 3) := by decide +kernel
theorem d_pn_reachesEnd_69 : decode b_pn_reachesEnd 69 = .ok (.iload_n 3, 1) := by decide +kernel
theorem d_pn_reachesEnd_70 : decode b_pn_reachesEnd 70 = .ok (.iload_n 2, 1) := by decide +kernel
theorem d_pn_reachesEnd_71 : decode b_pn_reachesEnd 71 = .ok (.iconst 1, 1) := by decide +kernel
theorem d_pn_reachesEnd_72 : decode b_pn_reachesEnd 72 = .ok (.iadd, 1) := by decide +kernel
theorem d_pn_reachesEnd_73 : decode b_pn_reachesEnd 73 = .ok (.invokevirtual 138, 3) := by decide +kernel
theorem d_pn_reachesEnd_76 : decode b_pn_reachesEnd 76 = .ok (.iconst 0, 1) := by decide +kernel
theorem d_pn_reachesEnd_77 : decode b_pn_reachesEnd 77 = .ok (.ireturn, 1) := by decide +kernel
theorem d_pn_layOut_0 : decode b_pn_layOut 0 = .ok (.aload_n 0, 1) := by decide +kernel
theorem d_pn_layOut_1 : decode b_pn_layOut 1 = .ok (.iconst 0, 1) := by decide +kernel
theorem d_pn_layOut_2 : decode b_pn_layOut 2 = .ok (.putfield 68, 3) := by decide +kernel
theorem d_pn_layOut_5 : decode b_pn_layOut 5 = .ok (.aload_n 0, 1) := by decide +kernel
theorem d_pn_layOut_6 : decode b_pn_layOut 6 = .ok (.getfield 68, 3) := by decide +kernel
theorem d_pn_layOut_9 : decode b_pn_layOut 9 = .ok (.bipush 31, 2) := by decide +kernel
theorem d_pn_layOut_11 : decode b_pn_layOut 11 = .ok (.if_icmp .ge 37, 3) := by decide +kernel
theorem d_pn_layOut_14 : decode b_pn_layOut 14 = .ok (.aload_n 0, 1) := by decide +kernel
theorem d_pn_layOut_15 : decode b_pn_layOut 15 = .ok (.aload_n 0, 1) := by decide +kernel
theorem d_pn_layOut_16 : decode b_pn_layOut 16 = .ok (.getfield 68, 3) := by decide +kernel
theorem d_pn_layOut_19 : decode b_pn_layOut 19 = .ok (.invokevirtual 89, 3) := by decide +kernel
theorem d_pn_layOut_22 : decode b_pn_layOut 22 = .ok (.ifCond .ne 26, 3) := by decide +kernel
theorem d_pn_layOut_25 : decode b_pn_layOut 25 = .ok (.aload_n 0, 1) := by decide +kernel
theorem d_pn_layOut_26 : decode b_pn_layOut 26 = .ok (.aload_n 0, 1) := by decide +kernel
theorem d_pn_layOut_27 : decode b_pn_layOut 27 = .ok (.getfield 68, 3) := by decide +kernel
theorem d_pn_layOut_30 : decode b_pn_layOut 30 = .ok (.iconst 0, 1) := by decide +kernel
theorem d_pn_layOut_31 : decode b_pn_layOut 31 = .ok (.invokevirtual 93, 3) := by decide +kernel
theorem d_pn_layOut_34 : decode b_pn_layOut 34 = .ok (.pop, 1) := by decide +kernel
theorem d_pn_layOut_35 : decode b_pn_layOut 35 = .ok (.aload_n 0, 1) := by decide +kernel
theorem d_pn_layOut_36 : decode b_pn_layOut 36 = .ok (.dup, 1) := by decide +kernel
theorem d_pn_layOut_37 : decode b_pn_layOut 37 = .ok (.getfield 68, 3) := by decide +kernel
theorem d_pn_layOut_40 : decode b_pn_layOut 40 = .ok (.iconst 1, 1) := by decide +kernel
theorem d_pn_layOut_41 : decode b_pn_layOut 41 = .ok (.iadd, 1) := by decide +kernel
theorem d_pn_layOut_42 : decode b_pn_layOut 42 = .ok (.putfield 68, 3) := by decide +kernel
theorem d_pn_layOut_45 : decode b_pn_layOut 45 = .ok (.goto (-40), 3) := by decide +kernel
theorem d_pn_layOut_48 : decode b_pn_layOut 48 = .ok (.return_, 1) := by decide +kernel
theorem d_pn_isOver_0 : decode b_pn_isOver 0 = .ok (.iconst 0, 1) := by decide +kernel
theorem d_pn_isOver_1 : decode b_pn_isOver 1 = .ok (.istore_n 2, 1) := by decide +kernel
theorem d_pn_isOver_2 : decode b_pn_isOver 2 = .ok (.iload_n 2, 1) := by decide +kernel
theorem d_pn_isOver_3 : decode b_pn_isOver 3 = .ok (.aload_n 0, 1) := by decide +kernel
theorem d_pn_isOver_4 : decode b_pn_isOver 4 = .ok (.getfield 34, 3) := by decide +kernel
theorem d_pn_isOver_7 : decode b_pn_isOver 7 = .ok (.getfield 83, 3) := by decide +kernel
theorem d_pn_isOver_10 : decode b_pn_isOver 10 = .ok (.if_icmp .ge 31, 3) := by decide +kernel
theorem d_pn_isOver_13 : decode b_pn_isOver 13 = .ok (.aload_n 0, 1) := by decide +kernel
theorem d_pn_isOver_14 : decode b_pn_isOver 14 = .ok (.getfield 27, 3) := by decide +kernel
theorem d_pn_isOver_17 : decode b_pn_isOver 17 = .ok (.iload_n 1, 1) := by decide +kernel
theorem d_pn_isOver_18 : decode b_pn_isOver 18 = .ok (.aaload, 1) := by decide +kernel
theorem d_pn_isOver_19 : decode b_pn_isOver 19 = .ok (.iload_n 2, 1) := by decide +kernel
theorem d_pn_isOver_20 : decode b_pn_isOver 20 = .ok (.iaload, 1) := by decide +kernel
theorem d_pn_isOver_21 : decode b_pn_isOver 21 = .ok (.aload_n 0, 1) := by decide +kernel
theorem d_pn_isOver_22 : decode b_pn_isOver 22 = .ok (.getfield 34, 3) := by decide +kernel
theorem d_pn_isOver_25 : decode b_pn_isOver 25 = .ok (.getfield 96, 3) := by decide +kernel
theorem d_pn_isOver_28 : decode b_pn_isOver 28 = .ok (.iload_n 2, 1) := by decide +kernel
theorem d_pn_isOver_29 : decode b_pn_isOver 29 = .ok (.iaload, 1) := by decide +kernel
theorem d_pn_isOver_30 : decode b_pn_isOver 30 = .ok (.if_icmp .eq 5, 3) := by decide +kernel
theorem d_pn_isOver_33 : decode b_pn_isOver 33 = .ok (.iconst 0, 1) := by decide +kernel
theorem d_pn_isOver_34 : decode b_pn_isOver 34 = .ok (.ireturn, 1) := by decide +kernel
theorem d_pn_isOver_35 : decode b_pn_isOver 35 = .ok (.iinc 2 1, 3) := by decide +kernel
theorem d_pn_isOver_38 : decode b_pn_isOver 38 = .ok (.goto (-36), 3) := by decide +kernel
theorem d_pn_isOver_41 : decode b_pn_isOver 41 = .ok (.iconst 1, 1) := by decide +kernel
theorem d_pn_isOver_42 : decode b_pn_isOver 42 = .ok (.ireturn, 1) := by decide +kernel
theorem d_vd_init_0 : decode b_vd_init 0 = .ok (.aload_n 0, 1) := by decide +kernel
theorem d_vd_init_1 : decode b_vd_init 1 = .ok (.invokespecial 3, 3) := by decide +kernel
theorem d_vd_init_4 : decode b_vd_init 4 = .ok (.aload_n 0, 1) := by decide +kernel
theorem d_vd_init_5 : decode b_vd_init 5 = .ok (.aload_n 1, 1) := by decide +kernel
theorem d_vd_init_6 : decode b_vd_init 6 = .ok (.putfield 9, 3) := by decide +kernel
theorem d_vd_init_9 : decode b_vd_init 9 = .ok (.aload_n 0, 1) := by decide +kernel
theorem d_vd_init_10 : decode b_vd_init 10 = .ok (.aload_n 2, 1) := by decide +kernel
theorem d_vd_init_11 : decode b_vd_init 11 = .ok (.putfield 15, 3) := by decide +kernel
theorem d_vd_init_14 : decode b_vd_init 14 = .ok (.aload_n 0, 1) := by decide +kernel
theorem d_vd_init_15 : decode b_vd_init 15 = .ok (.aload_n 3, 1) := by decide +kernel
theorem d_vd_init_16 : decode b_vd_init 16 = .ok (.putfield 19, 3) := by decide +kernel
theorem d_vd_init_19 : decode b_vd_init 19 = .ok (.return_, 1) := by decide +kernel
theorem d_vd_seek_0 : decode b_vd_seek 0 = .ok (.aload_n 0, 1) := by decide +kernel
theorem d_vd_seek_1 : decode b_vd_seek 1 = .ok (.iconst 0, 1) := by decide +kernel
theorem d_vd_seek_2 : decode b_vd_seek 2 = .ok (.iconst (-1), 1) := by decide +kernel
theorem d_vd_seek_3 : decode b_vd_seek 3 = .ok (.iconst (-1), 1) := by decide +kernel
theorem d_vd_seek_4 : decode b_vd_seek 4 = .ok (.iconst (-1), 1) := by decide +kernel
theorem d_vd_seek_5 : decode b_vd_seek 5 = .ok (.invokevirtual 23, 3) := by decide +kernel
theorem d_vd_seek_8 : decode b_vd_seek 8 = .ok (.iconst 0, 1) := by decide +kernel
theorem d_vd_seek_9 : decode b_vd_seek 9 = .ok (.istore_n 1, 1) := by decide +kernel
theorem d_vd_seek_10 : decode b_vd_seek 10 = .ok (.iload_n 1, 1) := by decide +kernel
theorem d_vd_seek_11 : decode b_vd_seek 11 = .ok (.bipush 30, 2) := by decide +kernel
theorem d_vd_seek_13 : decode b_vd_seek 13 = .ok (.if_icmp .ge 51, 3) := by decide +kernel
theorem d_vd_seek_16 : decode b_vd_seek 16 = .ok (.aload_n 0, 1) := by decide +kernel
theorem d_vd_seek_17 : decode b_vd_seek 17 = .ok (.getfield 27, 3) := by decide +kernel
theorem d_vd_seek_20 : decode b_vd_seek 20 = .ok (.ifCond .ne 44, 3) := by decide +kernel
theorem d_vd_seek_23 : decode b_vd_seek 23 = .ok (.aload_n 0, 1) := by decide +kernel
theorem d_vd_seek_24 : decode b_vd_seek 24 = .ok (.iload_n 1, 1) := by decide +kernel
theorem d_vd_seek_25 : decode b_vd_seek 25 = .ok (.invokevirtual 31, 3) := by decide +kernel
theorem d_vd_seek_28 : decode b_vd_seek 28 = .ok (.aload_n 0, 1) := by decide +kernel
theorem d_vd_seek_29 : decode b_vd_seek 29 = .ok (.getfield 27, 3) := by decide +kernel
theorem d_vd_seek_32 : decode b_vd_seek 32 = .ok (.ifCond .ne 9, 3) := by decide +kernel
theorem d_vd_seek_35 : decode b_vd_seek 35 = .ok (.aload_n 0, 1) := by decide +kernel
theorem d_vd_seek_36 : decode b_vd_seek 36 = .ok (.iload_n 1, 1) := by decide +kernel
theorem d_vd_seek_37 : decode b_vd_seek 37 = .ok (.iconst 2, 1) := by decide +kernel
theorem d_vd_seek_38 : decode b_vd_seek 38 = .ok (.invokevirtual 35, 3) := by decide +kernel
theorem d_vd_seek_41 : decode b_vd_seek 41 = .ok (.aload_n 0, 1) := by decide +kernel
theorem d_vd_seek_42 : decode b_vd_seek 42 = .ok (.getfield 27, 3) := by decide +kernel
theorem d_vd_seek_45 : decode b_vd_seek 45 = .ok (.ifCond .ne 13, 3) := by decide +kernel
theorem d_vd_seek_48 : decode b_vd_seek 48 = .ok (.iload_n 1, 1) := by decide +kernel
theorem d_vd_seek_49 : decode b_vd_seek 49 = .ok (.ifCond .le 9, 3) := by decide +kernel
theorem d_vd_seek_52 : decode b_vd_seek 52 = .ok (.aload_n 0, 1) := by decide +kernel
theorem d_vd_seek_53 : decode b_vd_seek 53 = .ok (.iload_n 1, 1) := by decide +kernel
theorem d_vd_seek_54 : decode b_vd_seek 54 = .ok (.iconst 3, 1) := by decide +kernel
theorem d_vd_seek_55 : decode b_vd_seek 55 = .ok (.invokevirtual 35, 3) := by decide +kernel
theorem d_vd_seek_58 : decode b_vd_seek 58 = .ok (.iinc 1 1, 3) := by decide +kernel
theorem d_vd_seek_61 : decode b_vd_seek 61 = .ok (.goto (-51), 3) := by decide +kernel
theorem d_vd_seek_64 : decode b_vd_seek 64 = .ok (.return_, 1) := by decide +kernel
theorem d_vd_blame_0 : decode b_vd_blame 0 = .ok (.aload_n 0, 1) := by decide +kernel
theorem d_vd_blame_1 : decode b_vd_blame 1 = .ok (.iload_n 1, 1) := by decide +kernel
theorem d_vd_blame_2 : decode b_vd_blame 2 = .ok (.putfield 27, 3) := by decide +kernel
theorem d_vd_blame_5 : decode b_vd_blame 5 = .ok (.aload_n 0, 1) := by decide +kernel
theorem d_vd_blame_6 : decode b_vd_blame 6 = .ok (.iload_n 2, 1) := by decide +kernel
theorem d_vd_blame_7 : decode b_vd_blame 7 = .ok (.putfield 39, 3) := by decide +kernel
theorem d_vd_blame_10 : decode b_vd_blame 10 = .ok (.aload_n 0, 1) := by decide +kernel
theorem d_vd_blame_11 : decode b_vd_blame 11 = .ok (.iload_n 3, 1) := by decide +kernel
theorem d_vd_blame_12 : decode b_vd_blame 12 = .ok (.putfield 42, 3) := by decide +kernel
theorem d_vd_blame_15 : decode b_vd_blame 15 = .ok (.aload_n 0, 1) := by decide +kernel
theorem d_vd_blame_16 : decode b_vd_blame 16 = .ok (.iload 4, 2) := by decide +kernel
theorem d_vd_blame_18 : decode b_vd_blame 18 = .ok (.putfield 45, 3) := by decide +kernel
theorem d_vd_blame_21 : decode b_vd_blame 21 = .ok (.return_, 1) := by decide +kernel
theorem d_vd_seekStrayed_0 : decode b_vd_seekStrayed 0 = .ok (.iconst 0, 1) := by decide +kernel
theorem d_vd_seekStrayed_1 : decode b_vd_seekStrayed 1 = .ok (.istore_n 2, 1) := by decide +kernel
theorem d_vd_seekStrayed_2 : decode b_vd_seekStrayed 2 = .ok (.iload_n 2, 1) := by decide +kernel
theorem d_vd_seekStrayed_3 : decode b_vd_seekStrayed 3 = .ok (.aload_n 0, 1) := by decide +kernel
theorem d_vd_seekStrayed_4 : decode b_vd_seekStrayed 4 = .ok (.getfield 15, 3) := by decide +kernel
theorem d_vd_seekStrayed_7 : decode b_vd_seekStrayed 7 = .ok (.getfield 48, 3) := by decide +kernel
theorem d_vd_seekStrayed_10 : decode b_vd_seekStrayed 10 = .ok (.if_icmp .ge 27, 3) := by decide +kernel
theorem d_vd_seekStrayed_13 : decode b_vd_seekStrayed 13 = .ok (.aload_n 0, 1) := by decide +kernel
theorem d_vd_seekStrayed_14 : decode b_vd_seekStrayed 14 = .ok (.iload_n 2, 1) := by decide +kernel
theorem d_vd_seekStrayed_15 : decode b_vd_seekStrayed 15 = .ok (.iload_n 1, 1) := by decide +kernel
theorem d_vd_seekStrayed_16 : decode b_vd_seekStrayed 16 = .ok (.invokevirtual 53, 3) := by decide +kernel
theorem d_vd_seekStrayed_19 : decode b_vd_seekStrayed 19 = .ok (.ifCond .eq 12, 3) := by decide +kernel
theorem d_vd_seekStrayed_22 : decode b_vd_seekStrayed 22 = .ok (.aload_n 0, 1) := by decide +kernel
theorem d_vd_seekStrayed_23 : decode b_vd_seekStrayed 23 = .ok (.iconst 1, 1) := by decide +kernel
theorem d_vd_seekStrayed_24 : decode b_vd_seekStrayed 24 = .ok (.iload_n 1, 1) := by decide +kernel
theorem d_vd_seekStrayed_25 : decode b_vd_seekStrayed 25 = .ok (.iload_n 2, 1) := by decide +kernel
theorem d_vd_seekStrayed_26 : decode b_vd_seekStrayed 26 = .ok (.iconst (-1), 1) := by decide +kernel
theorem d_vd_seekStrayed_27 : decode b_vd_seekStrayed 27 = .ok (.invokevirtual 23, 3) := by decide +kernel
theorem d_vd_seekStrayed_30 : decode b_vd_seekStrayed 30 = .ok (.return_, 1) := by decide +kernel
theorem d_vd_seekStrayed_31 : decode b_vd_seekStrayed 31 = .ok (.iinc 2 1, 3) := by decide +kernel
theorem d_vd_seekStrayed_34 : decode b_vd_seekStrayed 34 = .ok (.goto (-32), 3) := by decide +kernel
theorem d_vd_seekStrayed_37 : decode b_vd_seekStrayed 37 = .ok (.return_, 1) := by decide +kernel
theorem d_vd_seekMeeting_0 : decode b_vd_seekMeeting 0 = .ok (.iconst 0, 1) := by decide +kernel
theorem d_vd_seekMeeting_1 : decode b_vd_seekMeeting 1 = .ok (.istore_n 3, 1) := by decide +kernel
theorem d_vd_seekMeeting_2 : decode b_vd_seekMeeting 2 = .ok (.iload_n 3, 1) := by decide +kernel
theorem d_vd_seekMeeting_3 : decode b_vd_seekMeeting 3 = .ok (.aload_n 0, 1) := by decide +kernel
theorem d_vd_seekMeeting_4 : decode b_vd_seekMeeting 4 = .ok (.getfield 15, 3) := by decide +kernel
theorem d_vd_seekMeeting_7 : decode b_vd_seekMeeting 7 = .ok (.getfield 48, 3) := by decide +kernel
theorem d_vd_seekMeeting_10 : decode b_vd_seekMeeting 10 = .ok (.if_icmp .ge 72, 3) := by decide +kernel
theorem d_vd_seekMeeting_13 : decode b_vd_seekMeeting 13 = .ok (.iload_n 3, 1) := by decide +kernel
theorem d_vd_seekMeeting_14 : decode b_vd_seekMeeting 14 = .ok (.iconst 1, 1) := by decide +kernel
theorem d_vd_seekMeeting_15 : decode b_vd_seekMeeting 15 = .ok (.iadd, 1) := by decide +kernel
theorem d_vd_seekMeeting_16 : decode b_vd_seekMeeting 16 = .ok (.istore 4, 2) := by decide +kernel
theorem d_vd_seekMeeting_18 : decode b_vd_seekMeeting 18 = .ok (.iload 4, 2) := by decide +kernel
theorem d_vd_seekMeeting_20 : decode b_vd_seekMeeting 20 = .ok (.aload_n 0, 1) := by decide +kernel
theorem d_vd_seekMeeting_21 : decode b_vd_seekMeeting 21 = .ok (.getfield 15, 3) := by decide +kernel
theorem d_vd_seekMeeting_24 : decode b_vd_seekMeeting 24 = .ok (.getfield 48, 3) := by decide +kernel
theorem d_vd_seekMeeting_27 : decode b_vd_seekMeeting 27 = .ok (.if_icmp .ge 49, 3) := by decide +kernel
theorem d_vd_seekMeeting_30 : decode b_vd_seekMeeting 30 = .ok (.iload_n 2, 1) := by decide +kernel
theorem d_vd_seekMeeting_31 : decode b_vd_seekMeeting 31 = .ok (.iconst 2, 1) := by decide +kernel
theorem d_vd_seekMeeting_32 : decode b_vd_seekMeeting 32 = .ok (.if_icmp .ne 17, 3) := by decide +kernel
theorem d_vd_seekMeeting_35 : decode b_vd_seekMeeting 35 = .ok (.aload_n 0, 1) := by decide +kernel
theorem d_vd_seekMeeting_36 : decode b_vd_seekMeeting 36 = .ok (.iload_n 3, 1) := by decide +kernel
theorem d_vd_seekMeeting_37 : decode b_vd_seekMeeting 37 = .ok (.iload 4, 2) := by decide +kernel
theorem d_vd_seekMeeting_39 : decode b_vd_seekMeeting 39 = .ok (.iload_n 1, 1) := by decide +kernel
theorem d_vd_seekMeeting_40 : decode b_vd_seekMeeting 40 = .ok (.invokevirtual 79, 3) := by decide +kernel
theorem d_vd_seekMeeting_43 : decode b_vd_seekMeeting 43 = .ok (.ifCond .eq 27, 3) := by decide +kernel
theorem d_vd_seekMeeting_46 : decode b_vd_seekMeeting 46 = .ok (.goto 14, 3) := by decide +kernel
theorem d_vd_seekMeeting_49 : decode b_vd_seekMeeting 49 = .ok (.aload_n 0, 1) := by decide +kernel
theorem d_vd_seekMeeting_50 : decode b_vd_seekMeeting 50 = .ok (.iload_n 3, 1) := by decide +kernel
theorem d_vd_seekMeeting_51 : decode b_vd_seekMeeting 51 = .ok (.iload 4, 2) := by decide +kernel
theorem d_vd_seekMeeting_53 : decode b_vd_seekMeeting 53 = .ok (.iload_n 1, 1) := by decide +kernel
theorem d_vd_seekMeeting_54 : decode b_vd_seekMeeting 54 = .ok (.invokevirtual 83, 3) := by decide +kernel
theorem d_vd_seekMeeting_57 : decode b_vd_seekMeeting 57 = .ok (.ifCond .eq 13, 3) := by decide +kernel
theorem d_vd_seekMeeting_60 : decode b_vd_seekMeeting 60 = .ok (.aload_n 0, 1) := by decide +kernel
theorem d_vd_seekMeeting_61 : decode b_vd_seekMeeting 61 = .ok (.iload_n 2, 1) := by decide +kernel
theorem d_vd_seekMeeting_62 : decode b_vd_seekMeeting 62 = .ok (.iload_n 1, 1) := by decide +kernel
theorem d_vd_seekMeeting_63 : decode b_vd_seekMeeting 63 = .ok (.iload_n 3, 1) := by decide +kernel
theorem d_vd_seekMeeting_64 : decode b_vd_seekMeeting 64 = .ok (.iload 4, 2) := by decide +kernel
theorem d_vd_seekMeeting_66 : decode b_vd_seekMeeting 66 = .ok (.invokevirtual 23, 3) := by decide +kernel
theorem d_vd_seekMeeting_69 : decode b_vd_seekMeeting 69 = .ok (.return_, 1) := by decide +kernel
theorem d_vd_seekMeeting_70 : decode b_vd_seekMeeting 70 = .ok (.iinc 4 1, 3) := by decide +kernel
theorem d_vd_seekMeeting_73 : decode b_vd_seekMeeting 73 = .ok (.goto (-55), 3) := by decide +kernel
theorem d_vd_seekMeeting_76 : decode b_vd_seekMeeting 76 = .ok (.iinc 3 1, 3) := by decide +kernel
theorem d_vd_seekMeeting_79 : decode b_vd_seekMeeting 79 = .ok (.goto (-77), 3) := by decide +kernel
theorem d_vd_seekMeeting_82 : decode b_vd_seekMeeting 82 = .ok (.return_, 1) := by decide +kernel
theorem d_mr_init_0 : decode b_mr_init 0 = .ok (.aload_n 0, 1) := by decide +kernel
theorem d_mr_init_1 : decode b_mr_init 1 = .ok (.invokespecial 3, 3) := by decide +kernel
theorem d_mr_init_4 : decode b_mr_init 4 = .ok (.aload_n 0, 1) := by decide +kernel
theorem d_mr_init_5 : decode b_mr_init 5 = .ok (.new 9, 3) := by decide +kernel
theorem d_mr_init_8 : decode b_mr_init 8 = .ok (.dup, 1) := by decide +kernel
theorem d_mr_init_9 : decode b_mr_init 9 = .ok (.invokespecial 11, 3) := by decide +kernel
theorem d_mr_init_12 : decode b_mr_init 12 = .ok (.putfield 12, 3) := by decide +kernel
theorem d_mr_init_15 : decode b_mr_init 15 = .ok (.aload_n 0, 1) := by decide +kernel
theorem d_mr_init_16 : decode b_mr_init 16 = .ok (.new 16, 3) := by decide +kernel
theorem d_mr_init_19 : decode b_mr_init 19 = .ok (.dup, 1) := by decide +kernel
theorem d_mr_init_20 : decode b_mr_init 20 = .ok (.aload_n 0, 1) := by decide +kernel
theorem d_mr_init_21 : decode b_mr_init 21 = .ok (.getfield 12, 3) := by decide +kernel
theorem d_mr_init_24 : decode b_mr_init 24 = .ok (.invokespecial 18, 3) := by decide +kernel
theorem d_mr_init_27 : decode b_mr_init 27 = .ok (.putfield 21, 3) := by decide +kernel
theorem d_mr_init_30 : decode b_mr_init 30 = .ok (.aload_n 0, 1) := by decide +kernel
theorem d_mr_init_31 : decode b_mr_init 31 = .ok (.new 25, 3) := by decide +kernel
theorem d_mr_init_34 : decode b_mr_init 34 = .ok (.dup, 1) := by decide +kernel
theorem d_mr_init_35 : decode b_mr_init 35 = .ok (.aload_n 0, 1) := by decide +kernel
theorem d_mr_init_36 : decode b_mr_init 36 = .ok (.getfield 12, 3) := by decide +kernel
theorem d_mr_init_39 : decode b_mr_init 39 = .ok (.aload_n 0, 1) := by decide +kernel
theorem d_mr_init_40 : decode b_mr_init 40 = .ok (.getfield 21, 3) := by decide +kernel
theorem d_mr_init_43 : decode b_mr_init 43 = .ok (.invokespecial 27, 3) := by decide +kernel
theorem d_mr_init_46 : decode b_mr_init 46 = .ok (.putfield 30, 3) := by decide +kernel
theorem d_mr_init_49 : decode b_mr_init 49 = .ok (.aload_n 0, 1) := by decide +kernel
theorem d_mr_init_50 : decode b_mr_init 50 = .ok (.new 34, 3) := by decide +kernel
theorem d_mr_init_53 : decode b_mr_init 53 = .ok (.dup, 1) := by decide +kernel
theorem d_mr_init_54 : decode b_mr_init 54 = .ok (.invokespecial 36, 3) := by decide +kernel
theorem d_mr_init_57 : decode b_mr_init 57 = .ok (.putfield 37, 3) := by decide +kernel
theorem d_mr_init_60 : decode b_mr_init 60 = .ok (.aload_n 0, 1) := by decide +kernel
theorem d_mr_init_61 : decode b_mr_init 61 = .ok (.new 41, 3) := by decide +kernel
theorem d_mr_init_64 : decode b_mr_init 64 = .ok (.dup, 1) := by decide +kernel
theorem d_mr_init_65 : decode b_mr_init 65 = .ok (.aload_n 0, 1) := by decide +kernel
theorem d_mr_init_66 : decode b_mr_init 66 = .ok (.getfield 12, 3) := by decide +kernel
theorem d_mr_init_69 : decode b_mr_init 69 = .ok (.aload_n 0, 1) := by decide +kernel
theorem d_mr_init_70 : decode b_mr_init 70 = .ok (.getfield 21, 3) := by decide +kernel
theorem d_mr_init_73 : decode b_mr_init 73 = .ok (.aload_n 0, 1) := by decide +kernel
theorem d_mr_init_74 : decode b_mr_init 74 = .ok (.getfield 37, 3) := by decide +kernel
theorem d_mr_init_77 : decode b_mr_init 77 = .ok (.invokespecial 43, 3) := by decide +kernel
theorem d_mr_init_80 : decode b_mr_init 80 = .ok (.putfield 46, 3) := by decide +kernel
theorem d_mr_init_83 : decode b_mr_init 83 = .ok (.return_, 1) := by decide +kernel
theorem d_mr_room_0 : decode b_mr_room 0 = .ok (.iload_n 1, 1) := by decide +kernel
theorem d_mr_room_1 : decode b_mr_room 1 = .ok (.iconst 1, 1) := by decide +kernel
theorem d_mr_room_2 : decode b_mr_room 2 = .ok (.if_icmp .lt 28, 3) := by decide +kernel
theorem d_mr_room_5 : decode b_mr_room 5 = .ok (.iload_n 1, 1) := by decide +kernel
theorem d_mr_room_6 : decode b_mr_room 6 = .ok (.bipush 6, 2) := by decide +kernel
theorem d_mr_room_8 : decode b_mr_room 8 = .ok (.if_icmp .gt 22, 3) := by decide +kernel
theorem d_mr_room_11 : decode b_mr_room 11 = .ok (.iload_n 2, 1) := by decide +kernel
theorem d_mr_room_12 : decode b_mr_room 12 = .ok (.iconst 1, 1) := by decide +kernel
theorem d_mr_room_13 : decode b_mr_room 13 = .ok (.if_icmp .lt 17, 3) := by decide +kernel
theorem d_mr_room_16 : decode b_mr_room 16 = .ok (.iload_n 2, 1) := by decide +kernel
theorem d_mr_room_17 : decode b_mr_room 17 = .ok (.bipush 6, 2) := by decide +kernel
theorem d_mr_room_19 : decode b_mr_room 19 = .ok (.if_icmp .gt 11, 3) := by decide +kernel
theorem d_mr_room_22 : decode b_mr_room 22 = .ok (.iload_n 1, 1) := by decide +kernel
theorem d_mr_room_23 : decode b_mr_room 23 = .ok (.iload_n 2, 1) := by decide +kernel
theorem d_mr_room_24 : decode b_mr_room 24 = .ok (.imul, 1) := by decide +kernel
theorem d_mr_room_25 : decode b_mr_room 25 = .ok (.bipush 25, 2) := by decide +kernel
theorem d_mr_room_27 : decode b_mr_room 27 = .ok (.if_icmp .le 5, 3) := by decide +kernel
theorem d_mr_room_30 : decode b_mr_room 30 = .ok (.iconst (-1), 1) := by decide +kernel
theorem d_mr_room_31 : decode b_mr_room 31 = .ok (.ireturn, 1) := by decide +kernel
theorem d_mr_room_32 : decode b_mr_room 32 = .ok (.aload_n 0, 1) := by decide +kernel
theorem d_mr_room_33 : decode b_mr_room 33 = .ok (.getfield 12, 3) := by decide +kernel
theorem d_mr_room_36 : decode b_mr_room 36 = .ok (.iload_n 1, 1) := by decide +kernel
theorem d_mr_room_37 : decode b_mr_room 37 = .ok (.iload_n 2, 1) := by decide +kernel
theorem d_mr_room_38 : decode b_mr_room 38 = .ok (.invokevirtual 50, 3) := by decide +kernel
theorem d_mr_room_41 : decode b_mr_room 41 = .ok (.aload_n 0, 1) := by decide +kernel
theorem d_mr_room_42 : decode b_mr_room 42 = .ok (.getfield 21, 3) := by decide +kernel
theorem d_mr_room_45 : decode b_mr_room 45 = .ok (.invokevirtual 54, 3) := by decide +kernel
theorem d_mr_room_48 : decode b_mr_room 48 = .ok (.aload_n 0, 1) := by decide +kernel
theorem d_mr_room_49 : decode b_mr_room 49 = .ok (.getfield 30, 3) := by decide +kernel
theorem d_mr_room_52 : decode b_mr_room 52 = .ok (.invokevirtual 57, 3) := by decide +kernel
theorem d_mr_room_55 : decode b_mr_room 55 = .ok (.aload_n 0, 1) := by decide +kernel
theorem d_mr_room_56 : decode b_mr_room 56 = .ok (.getfield 37, 3) := by decide +kernel
theorem d_mr_room_59 : decode b_mr_room 59 = .ok (.invokevirtual 60, 3) := by decide +kernel
theorem d_mr_room_62 : decode b_mr_room 62 = .ok (.iload_n 1, 1) := by decide +kernel
theorem d_mr_room_63 : decode b_mr_room 63 = .ok (.iload_n 2, 1) := by decide +kernel
theorem d_mr_room_64 : decode b_mr_room 64 = .ok (.imul, 1) := by decide +kernel
theorem d_mr_room_65 : decode b_mr_room 65 = .ok (.ireturn, 1) := by decide +kernel
theorem d_mr_wall_0 : decode b_mr_wall 0 = .ok (.aload_n 0, 1) := by decide +kernel
theorem d_mr_wall_1 : decode b_mr_wall 1 = .ok (.getfield 12, 3) := by decide +kernel
theorem d_mr_wall_4 : decode b_mr_wall 4 = .ok (.iload_n 1, 1) := by decide +kernel
theorem d_mr_wall_5 : decode b_mr_wall 5 = .ok (.invokevirtual 61, 3) := by decide +kernel
theorem d_mr_wall_8 : decode b_mr_wall 8 = .ok (.ifCond .ne 5, 3) := by decide +kernel
theorem d_mr_wall_11 : decode b_mr_wall 11 = .ok (.iconst (-1), 1) := by decide +kernel
theorem d_mr_wall_12 : decode b_mr_wall 12 = .ok (.ireturn, 1) := by decide +kernel
theorem d_mr_wall_13 : decode b_mr_wall 13 = .ok (.aload_n 0, 1) := by decide +kernel
theorem d_mr_wall_14 : decode b_mr_wall 14 = .ok (.getfield 12, 3) := by decide +kernel
theorem d_mr_wall_17 : decode b_mr_wall 17 = .ok (.iload_n 1, 1) := by decide +kernel
theorem d_mr_wall_18 : decode b_mr_wall 18 = .ok (.invokevirtual 65, 3) := by decide +kernel
theorem d_mr_wall_21 : decode b_mr_wall 21 = .ok (.aload_n 0, 1) := by decide +kernel
theorem d_mr_wall_22 : decode b_mr_wall 22 = .ok (.getfield 21, 3) := by decide +kernel
theorem d_mr_wall_25 : decode b_mr_wall 25 = .ok (.invokevirtual 54, 3) := by decide +kernel
theorem d_mr_wall_28 : decode b_mr_wall 28 = .ok (.aload_n 0, 1) := by decide +kernel
theorem d_mr_wall_29 : decode b_mr_wall 29 = .ok (.getfield 30, 3) := by decide +kernel
theorem d_mr_wall_32 : decode b_mr_wall 32 = .ok (.invokevirtual 57, 3) := by decide +kernel
theorem d_mr_wall_35 : decode b_mr_wall 35 = .ok (.aload_n 0, 1) := by decide +kernel
theorem d_mr_wall_36 : decode b_mr_wall 36 = .ok (.getfield 12, 3) := by decide +kernel
theorem d_mr_wall_39 : decode b_mr_wall 39 = .ok (.iload_n 1, 1) := by decide +kernel
theorem d_mr_wall_40 : decode b_mr_wall 40 = .ok (.invokevirtual 69, 3) := by decide +kernel
theorem d_mr_wall_43 : decode b_mr_wall 43 = .ok (.ifCond .eq 7, 3) := by decide +kernel
theorem d_mr_wall_46 : decode b_mr_wall 46 = .ok (.iconst 0, 1) := by decide +kernel
theorem d_mr_wall_47 : decode b_mr_wall 47 = .ok (.goto 4, 3) := by decide +kernel
theorem d_mr_wall_50 : decode b_mr_wall 50 = .ok (.iconst 1, 1) := by decide +kernel
theorem d_mr_wall_51 : decode b_mr_wall 51 = .ok (.ireturn, 1) := by decide +kernel
theorem d_mr_mover_0 : decode b_mr_mover 0 = .ok (.aload_n 0, 1) := by decide +kernel
theorem d_mr_mover_1 : decode b_mr_mover 1 = .ok (.getfield 12, 3) := by decide +kernel
theorem d_mr_mover_4 : decode b_mr_mover 4 = .ok (.iload_n 1, 1) := by decide +kernel
theorem d_mr_mover_5 : decode b_mr_mover 5 = .ok (.invokevirtual 69, 3) := by decide +kernel
theorem d_mr_mover_8 : decode b_mr_mover 8 = .ok (.ifCond .eq 26, 3) := by decide +kernel
theorem d_mr_mover_11 : decode b_mr_mover 11 = .ok (.aload_n 0, 1) := by decide +kernel
theorem d_mr_mover_12 : decode b_mr_mover 12 = .ok (.getfield 12, 3) := by decide +kernel
theorem d_mr_mover_15 : decode b_mr_mover 15 = .ok (.iload_n 2, 1) := by decide +kernel
theorem d_mr_mover_16 : decode b_mr_mover 16 = .ok (.invokevirtual 69, 3) := by decide +kernel
theorem d_mr_mover_19 : decode b_mr_mover 19 = .ok (.ifCond .eq 15, 3) := by decide +kernel
theorem d_mr_mover_22 : decode b_mr_mover 22 = .ok (.aload_n 0, 1) := by decide +kernel
theorem d_mr_mover_23 : decode b_mr_mover 23 = .ok (.getfield 21, 3) := by decide +kernel
theorem d_mr_mover_26 : decode b_mr_mover 26 = .ok (.iload_n 1, 1) := by decide +kernel
theorem d_mr_mover_27 : decode b_mr_mover 27 = .ok (.iload_n 2, 1) := by decide +kernel
theorem d_mr_mover_28 : decode b_mr_mover 28 = .ok (.invokevirtual 72, 3) := by decide +kernel
theorem d_mr_mover_31 : decode b_mr_mover 31 = .ok (.ifCond .ne 5, 3) := by decide +kernel
theorem d_mr_mover_34 : decode b_mr_mover 34 = .ok (.iconst (-1), 1) := by decide +kernel
theorem d_mr_mover_35 : decode b_mr_mover 35 = .ok (.ireturn, 1) := by decide +kernel
theorem d_mr_mover_36 : decode b_mr_mover 36 = .ok (.aload_n 0, 1) := by decide +kernel
theorem d_mr_mover_37 : decode b_mr_mover 37 = .ok (.getfield 30, 3) := by decide +kernel
theorem d_mr_mover_40 : decode b_mr_mover 40 = .ok (.invokevirtual 57, 3) := by decide +kernel
theorem d_mr_mover_43 : decode b_mr_mover 43 = .ok (.aload_n 0, 1) := by decide +kernel
theorem d_mr_mover_44 : decode b_mr_mover 44 = .ok (.getfield 21, 3) := by decide +kernel
theorem d_mr_mover_47 : decode b_mr_mover 47 = .ok (.iload_n 1, 1) := by decide +kernel
theorem d_mr_mover_48 : decode b_mr_mover 48 = .ok (.iload_n 2, 1) := by decide +kernel
theorem d_mr_mover_49 : decode b_mr_mover 49 = .ok (.invokevirtual 76, 3) := by decide +kernel
theorem d_mr_mover_52 : decode b_mr_mover 52 = .ok (.ireturn, 1) := by decide +kernel
theorem d_mr_clear_0 : decode b_mr_clear 0 = .ok (.aload_n 0, 1) := by decide +kernel
theorem d_mr_clear_1 : decode b_mr_clear 1 = .ok (.getfield 21, 3) := by decide +kernel
theorem d_mr_clear_4 : decode b_mr_clear 4 = .ok (.getfield 80, 3) := by decide +kernel
theorem d_mr_clear_7 : decode b_mr_clear 7 = .ok (.istore_n 1, 1) := by decide +kernel
theorem d_mr_clear_8 : decode b_mr_clear 8 = .ok (.aload_n 0, 1) := by decide +kernel
theorem d_mr_clear_9 : decode b_mr_clear 9 = .ok (.getfield 21, 3) := by decide +kernel
theorem d_mr_clear_12 : decode b_mr_clear 12 = .ok (.invokevirtual 54, 3) := by decide +kernel
theorem d_mr_clear_15 : decode b_mr_clear 15 = .ok (.aload_n 0, 1) := by decide +kernel
theorem d_mr_clear_16 : decode b_mr_clear 16 = .ok (.getfield 30, 3) := by decide +kernel
theorem d_mr_clear_19 : decode b_mr_clear 19 = .ok (.invokevirtual 57, 3) := by decide +kernel
theorem d_mr_clear_22 : decode b_mr_clear 22 = .ok (.iload_n 1, 1) := by decide +kernel
theorem d_mr_clear_23 : decode b_mr_clear 23 = .ok (.ireturn, 1) := by decide +kernel
theorem d_mr_distance_0 : decode b_mr_distance 0 = .ok (.aload_n 0, 1) := by decide +kernel
theorem d_mr_distance_1 : decode b_mr_distance 1 = .ok (.getfield 21, 3) := by decide +kernel
theorem d_mr_distance_4 : decode b_mr_distance 4 = .ok (.iload_n 1, 1) := by decide +kernel
theorem d_mr_distance_5 : decode b_mr_distance 5 = .ok (.invokevirtual 84, 3) := by decide +kernel
theorem d_mr_distance_8 : decode b_mr_distance 8 = .ok (.ifCond .eq 14, 3) := by decide +kernel
theorem d_mr_distance_11 : decode b_mr_distance 11 = .ok (.aload_n 0, 1) := by decide +kernel
theorem d_mr_distance_12 : decode b_mr_distance 12 = .ok (.getfield 21, 3) := by decide +kernel
theorem d_mr_distance_15 : decode b_mr_distance 15 = .ok (.iload_n 1, 1) := by decide +kernel
theorem d_mr_distance_16 : decode b_mr_distance 16 = .ok (.invokevirtual 85, 3) := by decide +kernel
theorem d_mr_distance_19 : decode b_mr_distance 19 = .ok (.goto 4, 3) := by decide +kernel
theorem d_mr_distance_22 : decode b_mr_distance 22 = .ok (.iconst (-1), 1) := by decide +kernel
theorem d_mr_distance_23 : decode b_mr_distance 23 = .ok (.ireturn, 1) := by decide +kernel
theorem d_mr_ways_0 : decode b_mr_ways 0 = .ok (.aload_n 0, 1) := by decide +kernel
theorem d_mr_ways_1 : decode b_mr_ways 1 = .ok (.getfield 21, 3) := by decide +kernel
theorem d_mr_ways_4 : decode b_mr_ways 4 = .ok (.iload_n 1, 1) := by decide +kernel
theorem d_mr_ways_5 : decode b_mr_ways 5 = .ok (.invokevirtual 84, 3) := by decide +kernel
theorem d_mr_ways_8 : decode b_mr_ways 8 = .ok (.ifCond .eq 13, 3) := by decide +kernel
theorem d_mr_ways_11 : decode b_mr_ways 11 = .ok (.iload_n 2, 1) := by decide +kernel
theorem d_mr_ways_12 : decode b_mr_ways 12 = .ok (.ifCond .lt 9, 3) := by decide +kernel
theorem d_mr_ways_15 : decode b_mr_ways 15 = .ok (.iload_n 2, 1) := by decide +kernel
theorem d_mr_ways_16 : decode b_mr_ways 16 = .ok (.bipush 20, 2) := by decide +kernel
theorem d_mr_ways_18 : decode b_mr_ways 18 = .ok (.if_icmp .le 7, 3) := by decide +kernel
theorem d_mr_ways_21 : decode b_mr_ways 21 = .ok (.ldc2_w 89, 3) := by decide +kernel
theorem d_mr_ways_24 : decode b_mr_ways 24 = .ok (.lreturn, 1) := by decide +kernel
theorem d_mr_ways_25 : decode b_mr_ways 25 = .ok (.aload_n 0, 1) := by decide +kernel
theorem d_mr_ways_26 : decode b_mr_ways 26 = .ok (.getfield 21, 3) := by decide +kernel
theorem d_mr_ways_29 : decode b_mr_ways 29 = .ok (.iload_n 1, 1) := by decide +kernel
theorem d_mr_ways_30 : decode b_mr_ways 30 = .ok (.iload_n 2, 1) := by decide +kernel
theorem d_mr_ways_31 : decode b_mr_ways 31 = .ok (.invokevirtual 91, 3) := by decide +kernel
theorem d_mr_ways_34 : decode b_mr_ways 34 = .ok (.lreturn, 1) := by decide +kernel
theorem d_mr_solve_0 : decode b_mr_solve 0 = .ok (.iload_n 1, 1) := by decide +kernel
theorem d_mr_solve_1 : decode b_mr_solve 1 = .ok (.ifCond .lt 9, 3) := by decide +kernel
theorem d_mr_solve_4 : decode b_mr_solve 4 = .ok (.iload_n 1, 1) := by decide +kernel
theorem d_mr_solve_5 : decode b_mr_solve 5 = .ok (.bipush 6, 2) := by decide +kernel
theorem d_mr_solve_7 : decode b_mr_solve 7 = .ok (.if_icmp .le 5, 3) := by decide +kernel
theorem d_mr_solve_10 : decode b_mr_solve 10 = .ok (.iconst (-1), 1) := by decide +kernel
theorem d_mr_solve_11 : decode b_mr_solve 11 = .ok (.ireturn, 1) := by decide +kernel
theorem d_mr_solve_12 : decode b_mr_solve 12 = .ok (.aload_n 0, 1) := by decide +kernel
theorem d_mr_solve_13 : decode b_mr_solve 13 = .ok (.getfield 30, 3) := by decide +kernel
theorem d_mr_solve_16 : decode b_mr_solve 16 = .ok (.iload_n 1, 1) := by decide +kernel
theorem d_mr_solve_17 : decode b_mr_solve 17 = .ok (.invokevirtual 95, 3) := by decide +kernel
theorem d_mr_solve_20 : decode b_mr_solve 20 = .ok (.ireturn, 1) := by decide +kernel
theorem d_mr_cost_0 : decode b_mr_cost 0 = .ok (.aload_n 0, 1) := by decide +kernel
theorem d_mr_cost_1 : decode b_mr_cost 1 = .ok (.getfield 30, 3) := by decide +kernel
theorem d_mr_cost_4 : decode b_mr_cost 4 = .ok (.getfield 98, 3) := by decide +kernel
theorem d_mr_cost_7 : decode b_mr_cost 7 = .ok (.ifCond .eq 25, 3) := by decide +kernel
theorem d_mr_cost_10 : decode b_mr_cost 10 = .ok (.aload_n 0, 1) := by decide +kernel
theorem d_mr_cost_11 : decode b_mr_cost 11 = .ok (.getfield 21, 3) := by decide +kernel
theorem d_mr_cost_14 : decode b_mr_cost 14 = .ok (.iload_n 1, 1) := by decide +kernel
theorem d_mr_cost_15 : decode b_mr_cost 15 = .ok (.invokevirtual 84, 3) := by decide +kernel
theorem d_mr_cost_18 : decode b_mr_cost 18 = .ok (.ifCond .eq 14, 3) := by decide +kernel
theorem d_mr_cost_21 : decode b_mr_cost 21 = .ok (.aload_n 0, 1) := by decide +kernel
theorem d_mr_cost_22 : decode b_mr_cost 22 = .ok (.getfield 30, 3) := by decide +kernel
theorem d_mr_cost_25 : decode b_mr_cost 25 = .ok (.iload_n 1, 1) := by decide +kernel
theorem d_mr_cost_26 : decode b_mr_cost 26 = .ok (.invokevirtual 102, 3) := by decide +kernel
theorem d_mr_cost_29 : decode b_mr_cost 29 = .ok (.goto 4, 3) := by decide +kernel
theorem d_mr_cost_32 : decode b_mr_cost 32 = .ok (.iconst (-1), 1) := by decide +kernel
theorem d_mr_cost_33 : decode b_mr_cost 33 = .ok (.ireturn, 1) := by decide +kernel
theorem d_mr_at_0 : decode b_mr_at 0 = .ok (.aload_n 0, 1) := by decide +kernel
theorem d_mr_at_1 : decode b_mr_at 1 = .ok (.getfield 30, 3) := by decide +kernel
theorem d_mr_at_4 : decode b_mr_at 4 = .ok (.getfield 98, 3) := by decide +kernel
theorem d_mr_at_7 : decode b_mr_at 7 = .ok (.ifCond .eq 30, 3) := by decide +kernel
theorem d_mr_at_10 : decode b_mr_at 10 = .ok (.aload_n 0, 1) := by decide +kernel
theorem d_mr_at_11 : decode b_mr_at 11 = .ok (.getfield 21, 3) := by decide +kernel
theorem d_mr_at_14 : decode b_mr_at 14 = .ok (.iload_n 1, 1) := by decide +kernel
theorem d_mr_at_15 : decode b_mr_at 15 = .ok (.invokevirtual 84, 3) := by decide +kernel
theorem d_mr_at_18 : decode b_mr_at 18 = .ok (.ifCond .eq 19, 3) := by decide +kernel
theorem d_mr_at_21 : decode b_mr_at 21 = .ok (.iload_n 2, 1) := by decide +kernel
theorem d_mr_at_22 : decode b_mr_at 22 = .ok (.ifCond .lt 15, 3) := by decide +kernel
end
section
theorem d_mr_at_25 : decode b_mr_at 25 = .ok (.aload_n 0, 1) := by decide +kernel
theorem d_mr_at_26 : decode b_mr_at 26 = .ok (.getfield 30, 3) := by decide +kernel
theorem d_mr_at_29 : decode b_mr_at 29 = .ok (.iload_n 1, 1) := by decide +kernel
theorem d_mr_at_30 : decode b_mr_at 30 = .ok (.iload_n 2, 1) := by decide +kernel
theorem d_mr_at_31 : decode b_mr_at 31 = .ok (.invokevirtual 105, 3) := by decide +kernel
theorem d_mr_at_34 : decode b_mr_at 34 = .ok (.goto 4, 3) := by decide +kernel
theorem d_mr_at_37 : decode b_mr_at 37 = .ok (.iconst (-1), 1) := by decide +kernel
theorem d_mr_at_38 : decode b_mr_at 38 = .ok (.ireturn, 1) := by decide +kernel
theorem d_mr_lay_0 : decode b_mr_lay 0 = .ok (.iload_n 1, 1) := by decide +kernel
theorem d_mr_lay_1 : decode b_mr_lay 1 = .ok (.ifCond .lt 19, 3) := by decide +kernel
theorem d_mr_lay_4 : decode b_mr_lay 4 = .ok (.iload_n 1, 1) := by decide +kernel
theorem d_mr_lay_5 : decode b_mr_lay 5 = .ok (.bipush 6, 2) := by decide +kernel
theorem d_mr_lay_7 : decode b_mr_lay 7 = .ok (.if_icmp .ge 13, 3) := by decide +kernel
theorem d_mr_lay_10 : decode b_mr_lay 10 = .ok (.iload_n 2, 1) := by decide +kernel
theorem d_mr_lay_11 : decode b_mr_lay 11 = .ok (.ifCond .lt 9, 3) := by decide +kernel
theorem d_mr_lay_14 : decode b_mr_lay 14 = .ok (.iload_n 2, 1) := by decide +kernel
theorem d_mr_lay_15 : decode b_mr_lay 15 = .ok (.bipush 30, 2) := by decide +kernel
theorem d_mr_lay_17 : decode b_mr_lay 17 = .ok (.if_icmp .lt 5, 3) := by decide +kernel
theorem d_mr_lay_20 : decode b_mr_lay 20 = .ok (.iconst (-1), 1) := by decide +kernel
theorem d_mr_lay_21 : decode b_mr_lay 21 = .ok (.ireturn, 1) := by decide +kernel
theorem d_mr_lay_22 : decode b_mr_lay 22 = .ok (.aload_n 0, 1) := by decide +kernel
theorem d_mr_lay_23 : decode b_mr_lay 23 = .ok (.getfield 37, 3) := by decide +kernel
theorem d_mr_lay_26 : decode b_mr_lay 26 = .ok (.iload_n 1, 1) := by decide +kernel
theorem d_mr_lay_27 : decode b_mr_lay 27 = .ok (.iload_n 2, 1) := by decide +kernel
theorem d_mr_lay_28 : decode b_mr_lay 28 = .ok (.iload_n 3, 1) := by decide +kernel
theorem d_mr_lay_29 : decode b_mr_lay 29 = .ok (.invokevirtual 108, 3) := by decide +kernel
theorem d_mr_lay_32 : decode b_mr_lay 32 = .ok (.ireturn, 1) := by decide +kernel
theorem d_mr_judge_0 : decode b_mr_judge 0 = .ok (.iload_n 1, 1) := by decide +kernel
theorem d_mr_judge_1 : decode b_mr_judge 1 = .ok (.ifCond .lt 8, 3) := by decide +kernel
theorem d_mr_judge_4 : decode b_mr_judge 4 = .ok (.iload_n 1, 1) := by decide +kernel
theorem d_mr_judge_5 : decode b_mr_judge 5 = .ok (.iconst 3, 1) := by decide +kernel
theorem d_mr_judge_6 : decode b_mr_judge 6 = .ok (.if_icmp .le 5, 3) := by decide +kernel
theorem d_mr_judge_9 : decode b_mr_judge 9 = .ok (.iconst (-1), 1) := by decide +kernel
theorem d_mr_judge_10 : decode b_mr_judge 10 = .ok (.ireturn, 1) := by decide +kernel
theorem d_mr_judge_11 : decode b_mr_judge 11 = .ok (.aload_n 0, 1) := by decide +kernel
theorem d_mr_judge_12 : decode b_mr_judge 12 = .ok (.getfield 46, 3) := by decide +kernel
theorem d_mr_judge_15 : decode b_mr_judge 15 = .ok (.invokevirtual 112, 3) := by decide +kernel
theorem d_mr_judge_18 : decode b_mr_judge 18 = .ok (.iload_n 1, 1) := by decide +kernel
theorem d_mr_judge_19 : decode b_mr_judge 19 = .ok (.tableswitch 49 0 2 #[25, 33, 41], 25) := by decide +kernel
theorem d_mr_judge_44 : decode b_mr_judge 44 = .ok (.aload_n 0, 1) := by decide +kernel
theorem d_mr_judge_45 : decode b_mr_judge 45 = .ok (.getfield 46, 3) := by decide +kernel
theorem d_mr_judge_48 : decode b_mr_judge 48 = .ok (.getfield 115, 3) := by decide +kernel
theorem d_mr_judge_51 : decode b_mr_judge 51 = .ok (.ireturn, 1) := by decide +kernel
theorem d_mr_judge_52 : decode b_mr_judge 52 = .ok (.aload_n 0, 1) := by decide +kernel
theorem d_mr_judge_53 : decode b_mr_judge 53 = .ok (.getfield 46, 3) := by decide +kernel
theorem d_mr_judge_56 : decode b_mr_judge 56 = .ok (.getfield 118, 3) := by decide +kernel
theorem d_mr_judge_59 : decode b_mr_judge 59 = .ok (.ireturn, 1) := by decide +kernel
theorem d_mr_judge_60 : decode b_mr_judge 60 = .ok (.aload_n 0, 1) := by decide +kernel
theorem d_mr_judge_61 : decode b_mr_judge 61 = .ok (.getfield 46, 3) := by decide +kernel
theorem d_mr_judge_64 : decode b_mr_judge 64 = .ok (.getfield 121, 3) := by decide +kernel
theorem d_mr_judge_67 : decode b_mr_judge 67 = .ok (.ireturn, 1) := by decide +kernel
theorem d_mr_judge_68 : decode b_mr_judge 68 = .ok (.aload_n 0, 1) := by decide +kernel
theorem d_mr_judge_69 : decode b_mr_judge 69 = .ok (.getfield 46, 3) := by decide +kernel
theorem d_mr_judge_72 : decode b_mr_judge 72 = .ok (.getfield 124, 3) := by decide +kernel
theorem d_mr_judge_75 : decode b_mr_judge 75 = .ok (.ireturn, 1) := by decide +kernel
theorem d_md_init_0 : decode b_md_init 0 = .ok (.aload_n 0, 1) := by decide +kernel
theorem d_md_init_1 : decode b_md_init 1 = .ok (.invokespecial 1, 3) := by decide +kernel
theorem d_md_init_4 : decode b_md_init 4 = .ok (.aload_n 0, 1) := by decide +kernel
theorem d_md_init_5 : decode b_md_init 5 = .ok (.iconst 1, 1) := by decide +kernel
theorem d_md_init_6 : decode b_md_init 6 = .ok (.putfield 7, 3) := by decide +kernel
theorem d_md_init_9 : decode b_md_init 9 = .ok (.aload_n 0, 1) := by decide +kernel
theorem d_md_init_10 : decode b_md_init 10 = .ok (.iconst 1, 1) := by decide +kernel
theorem d_md_init_11 : decode b_md_init 11 = .ok (.putfield 13, 3) := by decide +kernel
theorem d_md_init_14 : decode b_md_init 14 = .ok (.aload_n 0, 1) := by decide +kernel
theorem d_md_init_15 : decode b_md_init 15 = .ok (.bipush 25, 2) := by decide +kernel
theorem d_md_init_17 : decode b_md_init 17 = .ok (.newarray .boolean, 2) := by decide +kernel
theorem d_md_init_19 : decode b_md_init 19 = .ok (.putfield 16, 3) := by decide +kernel
theorem d_md_init_22 : decode b_md_init 22 = .ok (.aload_n 0, 1) := by decide +kernel
theorem d_md_init_23 : decode b_md_init 23 = .ok (.bipush 25, 2) := by decide +kernel
theorem d_md_init_25 : decode b_md_init 25 = .ok (.newarray .int, 2) := by decide +kernel
theorem d_md_init_27 : decode b_md_init 27 = .ok (.putfield 20, 3) := by decide +kernel
theorem d_md_init_30 : decode b_md_init 30 = .ok (.aload_n 0, 1) := by decide +kernel
theorem d_md_init_31 : decode b_md_init 31 = .ok (.bipush 25, 2) := by decide +kernel
theorem d_md_init_33 : decode b_md_init 33 = .ok (.newarray .int, 2) := by decide +kernel
theorem d_md_init_35 : decode b_md_init 35 = .ok (.putfield 24, 3) := by decide +kernel
theorem d_md_init_38 : decode b_md_init 38 = .ok (.aload_n 0, 1) := by decide +kernel
theorem d_md_init_39 : decode b_md_init 39 = .ok (.sipush 180, 3) := by decide +kernel
theorem d_md_init_42 : decode b_md_init 42 = .ok (.newarray .int, 2) := by decide +kernel
theorem d_md_init_44 : decode b_md_init 44 = .ok (.putfield 27, 3) := by decide +kernel
theorem d_md_init_47 : decode b_md_init 47 = .ok (.aload_n 0, 1) := by decide +kernel
theorem d_md_init_48 : decode b_md_init 48 = .ok (.sipush 180, 3) := by decide +kernel
theorem d_md_init_51 : decode b_md_init 51 = .ok (.newarray .boolean, 2) := by decide +kernel
theorem d_md_init_53 : decode b_md_init 53 = .ok (.putfield 30, 3) := by decide +kernel
theorem d_md_init_56 : decode b_md_init 56 = .ok (.aload_n 0, 1) := by decide +kernel
theorem d_md_init_57 : decode b_md_init 57 = .ok (.bipush 25, 2) := by decide +kernel
theorem d_md_init_59 : decode b_md_init 59 = .ok (.newarray .int, 2) := by decide +kernel
theorem d_md_init_61 : decode b_md_init 61 = .ok (.putfield 33, 3) := by decide +kernel
theorem d_md_init_64 : decode b_md_init 64 = .ok (.aload_n 0, 1) := by decide +kernel
theorem d_md_init_65 : decode b_md_init 65 = .ok (.bipush 25, 2) := by decide +kernel
theorem d_md_init_67 : decode b_md_init 67 = .ok (.newarray .int, 2) := by decide +kernel
theorem d_md_init_69 : decode b_md_init 69 = .ok (.putfield 36, 3) := by decide +kernel
theorem d_md_init_72 : decode b_md_init 72 = .ok (.aload_n 0, 1) := by decide +kernel
theorem d_md_init_73 : decode b_md_init 73 = .ok (.bipush 125, 2) := by decide +kernel
theorem d_md_init_75 : decode b_md_init 75 = .ok (.newarray .int, 2) := by decide +kernel
theorem d_md_init_77 : decode b_md_init 77 = .ok (.putfield 39, 3) := by decide +kernel
theorem d_md_init_80 : decode b_md_init 80 = .ok (.aload_n 0, 1) := by decide +kernel
theorem d_md_init_81 : decode b_md_init 81 = .ok (.bipush 25, 2) := by decide +kernel
theorem d_md_init_83 : decode b_md_init 83 = .ok (.newarray .int, 2) := by decide +kernel
theorem d_md_init_85 : decode b_md_init 85 = .ok (.putfield 42, 3) := by decide +kernel
theorem d_md_init_88 : decode b_md_init 88 = .ok (.aload_n 0, 1) := by decide +kernel
theorem d_md_init_89 : decode b_md_init 89 = .ok (.ldc 45, 2) := by decide +kernel
theorem d_md_init_91 : decode b_md_init 91 = .ok (.newarray .int, 2) := by decide +kernel
theorem d_md_init_93 : decode b_md_init 93 = .ok (.putfield 46, 3) := by decide +kernel
theorem d_md_init_96 : decode b_md_init 96 = .ok (.aload_n 0, 1) := by decide +kernel
theorem d_md_init_97 : decode b_md_init 97 = .ok (.ldc 45, 2) := by decide +kernel
theorem d_md_init_99 : decode b_md_init 99 = .ok (.newarray .boolean, 2) := by decide +kernel
theorem d_md_init_101 : decode b_md_init 101 = .ok (.putfield 49, 3) := by decide +kernel
theorem d_md_init_104 : decode b_md_init 104 = .ok (.aload_n 0, 1) := by decide +kernel
theorem d_md_init_105 : decode b_md_init 105 = .ok (.ldc 45, 2) := by decide +kernel
theorem d_md_init_107 : decode b_md_init 107 = .ok (.newarray .int, 2) := by decide +kernel
theorem d_md_init_109 : decode b_md_init 109 = .ok (.putfield 52, 3) := by decide +kernel
theorem d_md_init_112 : decode b_md_init 112 = .ok (.aload_n 0, 1) := by decide +kernel
theorem d_md_init_113 : decode b_md_init 113 = .ok (.bipush 6, 2) := by decide +kernel
theorem d_md_init_115 : decode b_md_init 115 = .ok (.newarray .int, 2) := by decide +kernel
theorem d_md_init_117 : decode b_md_init 117 = .ok (.putfield 55, 3) := by decide +kernel
theorem d_md_init_120 : decode b_md_init 120 = .ok (.aload_n 0, 1) := by decide +kernel
theorem d_md_init_121 : decode b_md_init 121 = .ok (.bipush 6, 2) := by decide +kernel
theorem d_md_init_123 : decode b_md_init 123 = .ok (.newarray .int, 2) := by decide +kernel
theorem d_md_init_125 : decode b_md_init 125 = .ok (.putfield 58, 3) := by decide +kernel
theorem d_md_init_128 : decode b_md_init 128 = .ok (.aload_n 0, 1) := by decide +kernel
theorem d_md_init_129 : decode b_md_init 129 = .ok (.bipush 6, 2) := by decide +kernel
theorem d_md_init_131 : decode b_md_init 131 = .ok (.newarray .int, 2) := by decide +kernel
theorem d_md_init_133 : decode b_md_init 133 = .ok (.putfield 61, 3) := by decide +kernel
theorem d_md_init_136 : decode b_md_init 136 = .ok (.aload_n 0, 1) := by decide +kernel
theorem d_md_init_137 : decode b_md_init 137 = .ok (.sipush 1260, 3) := by decide +kernel
theorem d_md_init_140 : decode b_md_init 140 = .ok (.newarray .int, 2) := by decide +kernel
theorem d_md_init_142 : decode b_md_init 142 = .ok (.putfield 64, 3) := by decide +kernel
theorem d_md_init_145 : decode b_md_init 145 = .ok (.aload_n 0, 1) := by decide +kernel
theorem d_md_init_146 : decode b_md_init 146 = .ok (.bipush 6, 2) := by decide +kernel
theorem d_md_init_148 : decode b_md_init 148 = .ok (.newarray .int, 2) := by decide +kernel
theorem d_md_init_150 : decode b_md_init 150 = .ok (.putfield 67, 3) := by decide +kernel
theorem d_md_init_153 : decode b_md_init 153 = .ok (.aload_n 0, 1) := by decide +kernel
theorem d_md_init_154 : decode b_md_init 154 = .ok (.bipush 64, 2) := by decide +kernel
theorem d_md_init_156 : decode b_md_init 156 = .ok (.newarray .int, 2) := by decide +kernel
theorem d_md_init_158 : decode b_md_init 158 = .ok (.putfield 70, 3) := by decide +kernel
theorem d_md_init_161 : decode b_md_init 161 = .ok (.aload_n 0, 1) := by decide +kernel
theorem d_md_init_162 : decode b_md_init 162 = .ok (.bipush 64, 2) := by decide +kernel
theorem d_md_init_164 : decode b_md_init 164 = .ok (.newarray .int, 2) := by decide +kernel
theorem d_md_init_166 : decode b_md_init 166 = .ok (.putfield 73, 3) := by decide +kernel
theorem d_md_init_169 : decode b_md_init 169 = .ok (.aload_n 0, 1) := by decide +kernel
theorem d_md_init_170 : decode b_md_init 170 = .ok (.bipush 25, 2) := by decide +kernel
theorem d_md_init_172 : decode b_md_init 172 = .ok (.newarray .int, 2) := by decide +kernel
theorem d_md_init_174 : decode b_md_init 174 = .ok (.putfield 76, 3) := by decide +kernel
theorem d_md_init_177 : decode b_md_init 177 = .ok (.aload_n 0, 1) := by decide +kernel
theorem d_md_init_178 : decode b_md_init 178 = .ok (.bipush 25, 2) := by decide +kernel
theorem d_md_init_180 : decode b_md_init 180 = .ok (.newarray .long, 2) := by decide +kernel
theorem d_md_init_182 : decode b_md_init 182 = .ok (.putfield 79, 3) := by decide +kernel
theorem d_md_init_185 : decode b_md_init 185 = .ok (.aload_n 0, 1) := by decide +kernel
theorem d_md_init_186 : decode b_md_init 186 = .ok (.bipush 25, 2) := by decide +kernel
theorem d_md_init_188 : decode b_md_init 188 = .ok (.newarray .long, 2) := by decide +kernel
theorem d_md_init_190 : decode b_md_init 190 = .ok (.putfield 83, 3) := by decide +kernel
theorem d_md_init_193 : decode b_md_init 193 = .ok (.return_, 1) := by decide +kernel
theorem d_md_size_0 : decode b_md_size 0 = .ok (.aload_n 0, 1) := by decide +kernel
theorem d_md_size_1 : decode b_md_size 1 = .ok (.getfield 7, 3) := by decide +kernel
theorem d_md_size_4 : decode b_md_size 4 = .ok (.aload_n 0, 1) := by decide +kernel
theorem d_md_size_5 : decode b_md_size 5 = .ok (.getfield 13, 3) := by decide +kernel
theorem d_md_size_8 : decode b_md_size 8 = .ok (.imul, 1) := by decide +kernel
theorem d_md_size_9 : decode b_md_size 9 = .ok (.ireturn, 1) := by decide +kernel
theorem d_md_room_0 : decode b_md_room 0 = .ok (.iload_n 1, 1) := by decide +kernel
theorem d_md_room_1 : decode b_md_room 1 = .ok (.iconst 1, 1) := by decide +kernel
theorem d_md_room_2 : decode b_md_room 2 = .ok (.if_icmp .lt 28, 3) := by decide +kernel
theorem d_md_room_5 : decode b_md_room 5 = .ok (.iload_n 1, 1) := by decide +kernel
theorem d_md_room_6 : decode b_md_room 6 = .ok (.bipush 6, 2) := by decide +kernel
theorem d_md_room_8 : decode b_md_room 8 = .ok (.if_icmp .gt 22, 3) := by decide +kernel
theorem d_md_room_11 : decode b_md_room 11 = .ok (.iload_n 2, 1) := by decide +kernel
theorem d_md_room_12 : decode b_md_room 12 = .ok (.iconst 1, 1) := by decide +kernel
theorem d_md_room_13 : decode b_md_room 13 = .ok (.if_icmp .lt 17, 3) := by decide +kernel
theorem d_md_room_16 : decode b_md_room 16 = .ok (.iload_n 2, 1) := by decide +kernel
theorem d_md_room_17 : decode b_md_room 17 = .ok (.bipush 6, 2) := by decide +kernel
theorem d_md_room_19 : decode b_md_room 19 = .ok (.if_icmp .gt 11, 3) := by decide +kernel
theorem d_md_room_22 : decode b_md_room 22 = .ok (.iload_n 1, 1) := by decide +kernel
theorem d_md_room_23 : decode b_md_room 23 = .ok (.iload_n 2, 1) := by decide +kernel
theorem d_md_room_24 : decode b_md_room 24 = .ok (.imul, 1) := by decide +kernel
theorem d_md_room_25 : decode b_md_room 25 = .ok (.bipush 25, 2) := by decide +kernel
theorem d_md_room_27 : decode b_md_room 27 = .ok (.if_icmp .le 5, 3) := by decide +kernel
theorem d_md_room_30 : decode b_md_room 30 = .ok (.iconst (-1), 1) := by decide +kernel
theorem d_md_room_31 : decode b_md_room 31 = .ok (.ireturn, 1) := by decide +kernel
theorem d_md_room_32 : decode b_md_room 32 = .ok (.aload_n 0, 1) := by decide +kernel
theorem d_md_room_33 : decode b_md_room 33 = .ok (.iload_n 1, 1) := by decide +kernel
theorem d_md_room_34 : decode b_md_room 34 = .ok (.putfield 7, 3) := by decide +kernel
theorem d_md_room_37 : decode b_md_room 37 = .ok (.aload_n 0, 1) := by decide +kernel
theorem d_md_room_38 : decode b_md_room 38 = .ok (.iload_n 2, 1) := by decide +kernel
theorem d_md_room_39 : decode b_md_room 39 = .ok (.putfield 13, 3) := by decide +kernel
theorem d_md_room_42 : decode b_md_room 42 = .ok (.aload_n 0, 1) := by decide +kernel
theorem d_md_room_43 : decode b_md_room 43 = .ok (.iconst 0, 1) := by decide +kernel
theorem d_md_room_44 : decode b_md_room 44 = .ok (.putfield 86, 3) := by decide +kernel
theorem d_md_room_47 : decode b_md_room 47 = .ok (.aload_n 0, 1) := by decide +kernel
theorem d_md_room_48 : decode b_md_room 48 = .ok (.iconst 0, 1) := by decide +kernel
theorem d_md_room_49 : decode b_md_room 49 = .ok (.putfield 89, 3) := by decide +kernel
theorem d_md_room_52 : decode b_md_room 52 = .ok (.iconst 0, 1) := by decide +kernel
theorem d_md_room_53 : decode b_md_room 53 = .ok (.istore_n 3, 1) := by decide +kernel
theorem d_md_room_54 : decode b_md_room 54 = .ok (.iload_n 3, 1) := by decide +kernel
theorem d_md_room_55 : decode b_md_room 55 = .ok (.bipush 25, 2) := by decide +kernel
theorem d_md_room_57 : decode b_md_room 57 = .ok (.if_icmp .ge 16, 3) := by decide +kernel
theorem d_md_room_60 : decode b_md_room 60 = .ok (.aload_n 0, 1) := by decide +kernel
theorem d_md_room_61 : decode b_md_room 61 = .ok (.getfield 16, 3) := by decide +kernel
theorem d_md_room_64 : decode b_md_room 64 = .ok (.iload_n 3, 1) := by decide +kernel
theorem d_md_room_65 : decode b_md_room 65 = .ok (.iconst 0, 1) := by decide +kernel
theorem d_md_room_66 : decode b_md_room 66 = .ok (.bastore, 1) := by decide +kernel
theorem d_md_room_67 : decode b_md_room 67 = .ok (.iinc 3 1, 3) := by decide +kernel
theorem d_md_room_70 : decode b_md_room 70 = .ok (.goto (-16), 3) := by decide +kernel
theorem d_md_room_73 : decode b_md_room 73 = .ok (.iconst 0, 1) := by decide +kernel
theorem d_md_room_74 : decode b_md_room 74 = .ok (.istore_n 3, 1) := by decide +kernel
theorem d_md_room_75 : decode b_md_room 75 = .ok (.iload_n 3, 1) := by decide +kernel
theorem d_md_room_76 : decode b_md_room 76 = .ok (.sipush 180, 3) := by decide +kernel
theorem d_md_room_79 : decode b_md_room 79 = .ok (.if_icmp .ge 16, 3) := by decide +kernel
theorem d_md_room_82 : decode b_md_room 82 = .ok (.aload_n 0, 1) := by decide +kernel
theorem d_md_room_83 : decode b_md_room 83 = .ok (.getfield 30, 3) := by decide +kernel
theorem d_md_room_86 : decode b_md_room 86 = .ok (.iload_n 3, 1) := by decide +kernel
theorem d_md_room_87 : decode b_md_room 87 = .ok (.iconst 0, 1) := by decide +kernel
theorem d_md_room_88 : decode b_md_room 88 = .ok (.bastore, 1) := by decide +kernel
theorem d_md_room_89 : decode b_md_room 89 = .ok (.iinc 3 1, 3) := by decide +kernel
theorem d_md_room_92 : decode b_md_room 92 = .ok (.goto (-17), 3) := by decide +kernel
theorem d_md_room_95 : decode b_md_room 95 = .ok (.aload_n 0, 1) := by decide +kernel
theorem d_md_room_96 : decode b_md_room 96 = .ok (.invokevirtual 93, 3) := by decide +kernel
theorem d_md_room_99 : decode b_md_room 99 = .ok (.ireturn, 1) := by decide +kernel
theorem d_md_isCell_0 : decode b_md_isCell 0 = .ok (.iload_n 1, 1) := by decide +kernel
theorem d_md_isCell_1 : decode b_md_isCell 1 = .ok (.ifCond .lt 15, 3) := by decide +kernel
theorem d_md_isCell_4 : decode b_md_isCell 4 = .ok (.iload_n 1, 1) := by decide +kernel
theorem d_md_isCell_5 : decode b_md_isCell 5 = .ok (.aload_n 0, 1) := by decide +kernel
theorem d_md_isCell_6 : decode b_md_isCell 6 = .ok (.invokevirtual 93, 3) := by decide +kernel
theorem d_md_isCell_9 : decode b_md_isCell 9 = .ok (.if_icmp .ge 7, 3) := by decide +kernel
theorem d_md_isCell_12 : decode b_md_isCell 12 = .ok (.iconst 1, 1) := by decide +kernel
theorem d_md_isCell_13 : decode b_md_isCell 13 = .ok (.goto 4, 3) := by decide +kernel
theorem d_md_isCell_16 : decode b_md_isCell 16 = .ok (.iconst 0, 1) := by decide +kernel
theorem d_md_isCell_17 : decode b_md_isCell 17 = .ok (.ireturn, 1) := by decide +kernel
theorem d_md_isFree_0 : decode b_md_isFree 0 = .ok (.aload_n 0, 1) := by decide +kernel
theorem d_md_isFree_1 : decode b_md_isFree 1 = .ok (.iload_n 1, 1) := by decide +kernel
theorem d_md_isFree_2 : decode b_md_isFree 2 = .ok (.invokevirtual 97, 3) := by decide +kernel
theorem d_md_isFree_5 : decode b_md_isFree 5 = .ok (.ifCond .eq 16, 3) := by decide +kernel
theorem d_md_isFree_8 : decode b_md_isFree 8 = .ok (.aload_n 0, 1) := by decide +kernel
theorem d_md_isFree_9 : decode b_md_isFree 9 = .ok (.getfield 16, 3) := by decide +kernel
theorem d_md_isFree_12 : decode b_md_isFree 12 = .ok (.iload_n 1, 1) := by decide +kernel
theorem d_md_isFree_13 : decode b_md_isFree 13 = .ok (.baload, 1) := by decide +kernel
theorem d_md_isFree_14 : decode b_md_isFree 14 = .ok (.ifCond .ne 7, 3) := by decide +kernel
theorem d_md_isFree_17 : decode b_md_isFree 17 = .ok (.iconst 1, 1) := by decide +kernel
theorem d_md_isFree_18 : decode b_md_isFree 18 = .ok (.goto 4, 3) := by decide +kernel
theorem d_md_isFree_21 : decode b_md_isFree 21 = .ok (.iconst 0, 1) := by decide +kernel
theorem d_md_isFree_22 : decode b_md_isFree 22 = .ok (.ireturn, 1) := by decide +kernel
theorem d_md_wall_0 : decode b_md_wall 0 = .ok (.aload_n 0, 1) := by decide +kernel
theorem d_md_wall_1 : decode b_md_wall 1 = .ok (.iload_n 1, 1) := by decide +kernel
theorem d_md_wall_2 : decode b_md_wall 2 = .ok (.invokevirtual 97, 3) := by decide +kernel
theorem d_md_wall_5 : decode b_md_wall 5 = .ok (.ifCond .ne 5, 3) := by decide +kernel
theorem d_md_wall_8 : decode b_md_wall 8 = .ok (.iconst (-1), 1) := by decide +kernel
theorem d_md_wall_9 : decode b_md_wall 9 = .ok (.ireturn, 1) := by decide +kernel
theorem d_md_wall_10 : decode b_md_wall 10 = .ok (.aload_n 0, 1) := by decide +kernel
theorem d_md_wall_11 : decode b_md_wall 11 = .ok (.getfield 16, 3) := by decide +kernel
theorem d_md_wall_14 : decode b_md_wall 14 = .ok (.iload_n 1, 1) := by decide +kernel
theorem d_md_wall_15 : decode b_md_wall 15 = .ok (.aload_n 0, 1) := by decide +kernel
theorem d_md_wall_16 : decode b_md_wall 16 = .ok (.getfield 16, 3) := by decide +kernel
theorem d_md_wall_19 : decode b_md_wall 19 = .ok (.iload_n 1, 1) := by decide +kernel
theorem d_md_wall_20 : decode b_md_wall 20 = .ok (.baload, 1) := by decide +kernel
theorem d_md_wall_21 : decode b_md_wall 21 = .ok (.ifCond .ne 7, 3) := by decide +kernel
theorem d_md_wall_24 : decode b_md_wall 24 = .ok (.iconst 1, 1) := by decide +kernel
theorem d_md_wall_25 : decode b_md_wall 25 = .ok (.goto 4, 3) := by decide +kernel
theorem d_md_wall_28 : decode b_md_wall 28 = .ok (.iconst 0, 1) := by decide +kernel
theorem d_md_wall_29 : decode b_md_wall 29 = .ok (.bastore, 1) := by decide +kernel
theorem d_md_wall_30 : decode b_md_wall 30 = .ok (.aload_n 0, 1) := by decide +kernel
theorem d_md_wall_31 : decode b_md_wall 31 = .ok (.iconst 0, 1) := by decide +kernel
theorem d_md_wall_32 : decode b_md_wall 32 = .ok (.putfield 86, 3) := by decide +kernel
theorem d_md_wall_35 : decode b_md_wall 35 = .ok (.aload_n 0, 1) := by decide +kernel
theorem d_md_wall_36 : decode b_md_wall 36 = .ok (.iconst 0, 1) := by decide +kernel
theorem d_md_wall_37 : decode b_md_wall 37 = .ok (.putfield 89, 3) := by decide +kernel
theorem d_md_wall_40 : decode b_md_wall 40 = .ok (.aload_n 0, 1) := by decide +kernel
theorem d_md_wall_41 : decode b_md_wall 41 = .ok (.getfield 16, 3) := by decide +kernel
theorem d_md_wall_44 : decode b_md_wall 44 = .ok (.iload_n 1, 1) := by decide +kernel
theorem d_md_wall_45 : decode b_md_wall 45 = .ok (.baload, 1) := by decide +kernel
theorem d_md_wall_46 : decode b_md_wall 46 = .ok (.ifCond .eq 7, 3) := by decide +kernel
theorem d_md_wall_49 : decode b_md_wall 49 = .ok (.iconst 1, 1) := by decide +kernel
theorem d_md_wall_50 : decode b_md_wall 50 = .ok (.goto 4, 3) := by decide +kernel
theorem d_md_wall_53 : decode b_md_wall 53 = .ok (.iconst 0, 1) := by decide +kernel
theorem d_md_wall_54 : decode b_md_wall 54 = .ok (.ireturn, 1) := by decide +kernel
theorem d_md_freeCells_0 : decode b_md_freeCells 0 = .ok (.iconst 0, 1) := by decide +kernel
theorem d_md_freeCells_1 : decode b_md_freeCells 1 = .ok (.istore_n 1, 1) := by decide +kernel
theorem d_md_freeCells_2 : decode b_md_freeCells 2 = .ok (.iconst 0, 1) := by decide +kernel
theorem d_md_freeCells_3 : decode b_md_freeCells 3 = .ok (.istore_n 2, 1) := by decide +kernel
theorem d_md_freeCells_4 : decode b_md_freeCells 4 = .ok (.iload_n 2, 1) := by decide +kernel
theorem d_md_freeCells_5 : decode b_md_freeCells 5 = .ok (.aload_n 0, 1) := by decide +kernel
theorem d_md_freeCells_6 : decode b_md_freeCells 6 = .ok (.invokevirtual 93, 3) := by decide +kernel
theorem d_md_freeCells_9 : decode b_md_freeCells 9 = .ok (.if_icmp .ge 26, 3) := by decide +kernel
theorem d_md_freeCells_12 : decode b_md_freeCells 12 = .ok (.iload_n 1, 1) := by decide +kernel
theorem d_md_freeCells_13 : decode b_md_freeCells 13 = .ok (.aload_n 0, 1) := by decide +kernel
theorem d_md_freeCells_14 : decode b_md_freeCells 14 = .ok (.getfield 16, 3) := by decide +kernel
theorem d_md_freeCells_17 : decode b_md_freeCells 17 = .ok (.iload_n 2, 1) := by decide +kernel
theorem d_md_freeCells_18 : decode b_md_freeCells 18 = .ok (.baload, 1) := by decide +kernel
theorem d_md_freeCells_19 : decode b_md_freeCells 19 = .ok (.ifCond .eq 7, 3) := by decide +kernel
theorem d_md_freeCells_22 : decode b_md_freeCells 22 = .ok (.iconst 0, 1) := by decide +kernel
theorem d_md_freeCells_23 : decode b_md_freeCells 23 = .ok (.goto 4, 3) := by decide +kernel
theorem d_md_freeCells_26 : decode b_md_freeCells 26 = .ok (.iconst 1, 1) := by decide +kernel
theorem d_md_freeCells_27 : decode b_md_freeCells 27 = .ok (.iadd, 1) := by decide +kernel
theorem d_md_freeCells_28 : decode b_md_freeCells 28 = .ok (.istore_n 1, 1) := by decide +kernel
theorem d_md_freeCells_29 : decode b_md_freeCells 29 = .ok (.iinc 2 1, 3) := by decide +kernel
theorem d_md_freeCells_32 : decode b_md_freeCells 32 = .ok (.goto (-28), 3) := by decide +kernel
theorem d_md_freeCells_35 : decode b_md_freeCells 35 = .ok (.iload_n 1, 1) := by decide +kernel
theorem d_md_freeCells_36 : decode b_md_freeCells 36 = .ok (.ireturn, 1) := by decide +kernel
theorem d_md_mover_0 : decode b_md_mover 0 = .ok (.aload_n 0, 1) := by decide +kernel
theorem d_md_mover_1 : decode b_md_mover 1 = .ok (.iload_n 1, 1) := by decide +kernel
theorem d_md_mover_2 : decode b_md_mover 2 = .ok (.invokevirtual 101, 3) := by decide +kernel
theorem d_md_mover_5 : decode b_md_mover 5 = .ok (.ifCond .eq 11, 3) := by decide +kernel
theorem d_md_mover_8 : decode b_md_mover 8 = .ok (.aload_n 0, 1) := by decide +kernel
theorem d_md_mover_9 : decode b_md_mover 9 = .ok (.iload_n 2, 1) := by decide +kernel
theorem d_md_mover_10 : decode b_md_mover 10 = .ok (.invokevirtual 101, 3) := by decide +kernel
theorem d_md_mover_13 : decode b_md_mover 13 = .ok (.ifCond .ne 5, 3) := by decide +kernel
theorem d_md_mover_16 : decode b_md_mover 16 = .ok (.iconst (-1), 1) := by decide +kernel
theorem d_md_mover_17 : decode b_md_mover 17 = .ok (.ireturn, 1) := by decide +kernel
theorem d_md_mover_18 : decode b_md_mover 18 = .ok (.aload_n 0, 1) := by decide +kernel
theorem d_md_mover_19 : decode b_md_mover 19 = .ok (.invokevirtual 104, 3) := by decide +kernel
theorem d_md_mover_22 : decode b_md_mover 22 = .ok (.istore_n 3, 1) := by decide +kernel
theorem d_md_mover_23 : decode b_md_mover 23 = .ok (.iload_n 3, 1) := by decide +kernel
theorem d_md_mover_24 : decode b_md_mover 24 = .ok (.istore 4, 2) := by decide +kernel
theorem d_md_mover_26 : decode b_md_mover 26 = .ok (.iconst 0, 1) := by decide +kernel
theorem d_md_mover_27 : decode b_md_mover 27 = .ok (.istore 5, 2) := by decide +kernel
theorem d_md_mover_29 : decode b_md_mover 29 = .ok (.iload 5, 2) := by decide +kernel
theorem d_md_mover_31 : decode b_md_mover 31 = .ok (.aload_n 0, 1) := by decide +kernel
theorem d_md_mover_32 : decode b_md_mover 32 = .ok (.getfield 86, 3) := by decide +kernel
theorem d_md_mover_35 : decode b_md_mover 35 = .ok (.if_icmp .ge 52, 3) := by decide +kernel
theorem d_md_mover_38 : decode b_md_mover 38 = .ok (.aload_n 0, 1) := by decide +kernel
theorem d_md_mover_39 : decode b_md_mover 39 = .ok (.getfield 20, 3) := by decide +kernel
theorem d_md_mover_42 : decode b_md_mover 42 = .ok (.iload 5, 2) := by decide +kernel
theorem d_md_mover_44 : decode b_md_mover 44 = .ok (.iaload, 1) := by decide +kernel
theorem d_md_mover_45 : decode b_md_mover 45 = .ok (.iload_n 1, 1) := by decide +kernel
theorem d_md_mover_46 : decode b_md_mover 46 = .ok (.if_icmp .eq 14, 3) := by decide +kernel
theorem d_md_mover_49 : decode b_md_mover 49 = .ok (.aload_n 0, 1) := by decide +kernel
theorem d_md_mover_50 : decode b_md_mover 50 = .ok (.getfield 24, 3) := by decide +kernel
theorem d_md_mover_53 : decode b_md_mover 53 = .ok (.iload 5, 2) := by decide +kernel
theorem d_md_mover_55 : decode b_md_mover 55 = .ok (.iaload, 1) := by decide +kernel
theorem d_md_mover_56 : decode b_md_mover 56 = .ok (.iload_n 2, 1) := by decide +kernel
theorem d_md_mover_57 : decode b_md_mover 57 = .ok (.if_icmp .ne 5, 3) := by decide +kernel
theorem d_md_mover_60 : decode b_md_mover 60 = .ok (.iconst (-1), 1) := by decide +kernel
theorem d_md_mover_61 : decode b_md_mover 61 = .ok (.ireturn, 1) := by decide +kernel
theorem d_md_mover_62 : decode b_md_mover 62 = .ok (.iload 4, 2) := by decide +kernel
theorem d_md_mover_64 : decode b_md_mover 64 = .ok (.sipush 16000, 3) := by decide +kernel
theorem d_md_mover_67 : decode b_md_mover 67 = .ok (.if_icmp .le 8, 3) := by decide +kernel
theorem d_md_mover_70 : decode b_md_mover 70 = .ok (.iload 4, 2) := by decide +kernel
theorem d_md_mover_72 : decode b_md_mover 72 = .ok (.goto 7, 3) := by decide +kernel
theorem d_md_mover_75 : decode b_md_mover 75 = .ok (.iload 4, 2) := by decide +kernel
theorem d_md_mover_77 : decode b_md_mover 77 = .ok (.iload_n 3, 1) := by decide +kernel
theorem d_md_mover_78 : decode b_md_mover 78 = .ok (.imul, 1) := by decide +kernel
theorem d_md_mover_79 : decode b_md_mover 79 = .ok (.istore 4, 2) := by decide +kernel
theorem d_md_mover_81 : decode b_md_mover 81 = .ok (.iinc 5 1, 3) := by decide +kernel
theorem d_md_mover_84 : decode b_md_mover 84 = .ok (.goto (-55), 3) := by decide +kernel
theorem d_md_mover_87 : decode b_md_mover 87 = .ok (.iload 4, 2) := by decide +kernel
theorem d_md_mover_89 : decode b_md_mover 89 = .ok (.sipush 16000, 3) := by decide +kernel
theorem d_md_mover_92 : decode b_md_mover 92 = .ok (.if_icmp .le 5, 3) := by decide +kernel
theorem d_md_mover_95 : decode b_md_mover 95 = .ok (.iconst (-1), 1) := by decide +kernel
theorem d_md_mover_96 : decode b_md_mover 96 = .ok (.ireturn, 1) := by decide +kernel
theorem d_md_mover_97 : decode b_md_mover 97 = .ok (.aload_n 0, 1) := by decide +kernel
theorem d_md_mover_98 : decode b_md_mover 98 = .ok (.getfield 20, 3) := by decide +kernel
theorem d_md_mover_101 : decode b_md_mover 101 = .ok (.aload_n 0, 1) := by decide +kernel
theorem d_md_mover_102 : decode b_md_mover 102 = .ok (.getfield 86, 3) := by decide +kernel
theorem d_md_mover_105 : decode b_md_mover 105 = .ok (.iload_n 1, 1) := by decide +kernel
theorem d_md_mover_106 : decode b_md_mover 106 = .ok (.iastore, 1) := by decide +kernel
theorem d_md_mover_107 : decode b_md_mover 107 = .ok (.aload_n 0, 1) := by decide +kernel
theorem d_md_mover_108 : decode b_md_mover 108 = .ok (.getfield 24, 3) := by decide +kernel
theorem d_md_mover_111 : decode b_md_mover 111 = .ok (.aload_n 0, 1) := by decide +kernel
theorem d_md_mover_112 : decode b_md_mover 112 = .ok (.getfield 86, 3) := by decide +kernel
theorem d_md_mover_115 : decode b_md_mover 115 = .ok (.iload_n 2, 1) := by decide +kernel
theorem d_md_mover_116 : decode b_md_mover 116 = .ok (.iastore, 1) := by decide +kernel
theorem d_md_mover_117 : decode b_md_mover 117 = .ok (.aload_n 0, 1) := by decide +kernel
theorem d_md_mover_118 : decode b_md_mover 118 = .ok (.dup, 1) := by decide +kernel
theorem d_md_mover_119 : decode b_md_mover 119 = .ok (.getfield 86, 3) := by decide +kernel
theorem d_md_mover_122 : decode b_md_mover 122 = .ok (.iconst 1, 1) := by decide +kernel
theorem d_md_mover_123 : decode b_md_mover 123 = .ok (.iadd, 1) := by decide +kernel
theorem d_md_mover_124 : decode b_md_mover 124 = .ok (.putfield 86, 3) := by decide +kernel
theorem d_md_mover_127 : decode b_md_mover 127 = .ok (.aload_n 0, 1) := by decide +kernel
theorem d_md_mover_128 : decode b_md_mover 128 = .ok (.iconst 0, 1) := by decide +kernel
theorem d_md_mover_129 : decode b_md_mover 129 = .ok (.putfield 89, 3) := by decide +kernel
theorem d_md_mover_132 : decode b_md_mover 132 = .ok (.aload_n 0, 1) := by decide +kernel
theorem d_md_mover_133 : decode b_md_mover 133 = .ok (.getfield 86, 3) := by decide +kernel
theorem d_md_mover_136 : decode b_md_mover 136 = .ok (.iconst 1, 1) := by decide +kernel
theorem d_md_mover_137 : decode b_md_mover 137 = .ok (.isub, 1) := by decide +kernel
theorem d_md_mover_138 : decode b_md_mover 138 = .ok (.ireturn, 1) := by decide +kernel
theorem d_md_clear_0 : decode b_md_clear 0 = .ok (.aload_n 0, 1) := by decide +kernel
theorem d_md_clear_1 : decode b_md_clear 1 = .ok (.getfield 86, 3) := by decide +kernel
theorem d_md_clear_4 : decode b_md_clear 4 = .ok (.istore_n 1, 1) := by decide +kernel
theorem d_md_clear_5 : decode b_md_clear 5 = .ok (.aload_n 0, 1) := by decide +kernel
theorem d_md_clear_6 : decode b_md_clear 6 = .ok (.iconst 0, 1) := by decide +kernel
theorem d_md_clear_7 : decode b_md_clear 7 = .ok (.putfield 86, 3) := by decide +kernel
theorem d_md_clear_10 : decode b_md_clear 10 = .ok (.aload_n 0, 1) := by decide +kernel
theorem d_md_clear_11 : decode b_md_clear 11 = .ok (.iconst 0, 1) := by decide +kernel
theorem d_md_clear_12 : decode b_md_clear 12 = .ok (.putfield 89, 3) := by decide +kernel
theorem d_md_clear_15 : decode b_md_clear 15 = .ok (.iload_n 1, 1) := by decide +kernel
theorem d_md_clear_16 : decode b_md_clear 16 = .ok (.ireturn, 1) := by decide +kernel
theorem d_md_isMover_0 : decode b_md_isMover 0 = .ok (.iload_n 1, 1) := by decide +kernel
theorem d_md_isMover_1 : decode b_md_isMover 1 = .ok (.ifCond .lt 15, 3) := by decide +kernel
theorem d_md_isMover_4 : decode b_md_isMover 4 = .ok (.iload_n 1, 1) := by decide +kernel
theorem d_md_isMover_5 : decode b_md_isMover 5 = .ok (.aload_n 0, 1) := by decide +kernel
theorem d_md_isMover_6 : decode b_md_isMover 6 = .ok (.getfield 86, 3) := by decide +kernel
theorem d_md_isMover_9 : decode b_md_isMover 9 = .ok (.if_icmp .ge 7, 3) := by decide +kernel
theorem d_md_isMover_12 : decode b_md_isMover 12 = .ok (.iconst 1, 1) := by decide +kernel
theorem d_md_isMover_13 : decode b_md_isMover 13 = .ok (.goto 4, 3) := by decide +kernel
theorem d_md_isMover_16 : decode b_md_isMover 16 = .ok (.iconst 0, 1) := by decide +kernel
theorem d_md_isMover_17 : decode b_md_isMover 17 = .ok (.ireturn, 1) := by decide +kernel
theorem d_md_distance_0 : decode b_md_distance 0 = .ok (.aload_n 0, 1) := by decide +kernel
theorem d_md_distance_1 : decode b_md_distance 1 = .ok (.iload_n 1, 1) := by decide +kernel
theorem d_md_distance_2 : decode b_md_distance 2 = .ok (.invokevirtual 111, 3) := by decide +kernel
theorem d_md_distance_5 : decode b_md_distance 5 = .ok (.ifCond .ne 5, 3) := by decide +kernel
theorem d_md_distance_8 : decode b_md_distance 8 = .ok (.iconst (-1), 1) := by decide +kernel
theorem d_md_distance_9 : decode b_md_distance 9 = .ok (.ireturn, 1) := by decide +kernel
theorem d_md_distance_10 : decode b_md_distance 10 = .ok (.aload_n 0, 1) := by decide +kernel
end
section
theorem d_md_distance_11 : decode b_md_distance 11 = .ok (.aload_n 0, 1) := by decide +kernel
theorem d_md_distance_12 : decode b_md_distance 12 = .ok (.getfield 24, 3) := by decide +kernel
theorem d_md_distance_15 : decode b_md_distance 15 = .ok (.iload_n 1, 1) := by decide +kernel
theorem d_md_distance_16 : decode b_md_distance 16 = .ok (.iaload, 1) := by decide +kernel
theorem d_md_distance_17 : decode b_md_distance 17 = .ok (.invokevirtual 114, 3) := by decide +kernel
theorem d_md_distance_20 : decode b_md_distance 20 = .ok (.aload_n 0, 1) := by decide +kernel
theorem d_md_distance_21 : decode b_md_distance 21 = .ok (.getfield 76, 3) := by decide +kernel
theorem d_md_distance_24 : decode b_md_distance 24 = .ok (.aload_n 0, 1) := by decide +kernel
theorem d_md_distance_25 : decode b_md_distance 25 = .ok (.getfield 20, 3) := by decide +kernel
theorem d_md_distance_28 : decode b_md_distance 28 = .ok (.iload_n 1, 1) := by decide +kernel
theorem d_md_distance_29 : decode b_md_distance 29 = .ok (.iaload, 1) := by decide +kernel
theorem d_md_distance_30 : decode b_md_distance 30 = .ok (.iaload, 1) := by decide +kernel
theorem d_md_distance_31 : decode b_md_distance 31 = .ok (.ireturn, 1) := by decide +kernel
theorem d_md_ways_0 : decode b_md_ways 0 = .ok (.aload_n 0, 1) := by decide +kernel
theorem d_md_ways_1 : decode b_md_ways 1 = .ok (.iload_n 1, 1) := by decide +kernel
theorem d_md_ways_2 : decode b_md_ways 2 = .ok (.invokevirtual 111, 3) := by decide +kernel
theorem d_md_ways_5 : decode b_md_ways 5 = .ok (.ifCond .eq 13, 3) := by decide +kernel
theorem d_md_ways_8 : decode b_md_ways 8 = .ok (.iload_n 2, 1) := by decide +kernel
theorem d_md_ways_9 : decode b_md_ways 9 = .ok (.ifCond .lt 9, 3) := by decide +kernel
theorem d_md_ways_12 : decode b_md_ways 12 = .ok (.iload_n 2, 1) := by decide +kernel
theorem d_md_ways_13 : decode b_md_ways 13 = .ok (.bipush 20, 2) := by decide +kernel
theorem d_md_ways_15 : decode b_md_ways 15 = .ok (.if_icmp .le 7, 3) := by decide +kernel
theorem d_md_ways_18 : decode b_md_ways 18 = .ok (.ldc2_w 118, 3) := by decide +kernel
theorem d_md_ways_21 : decode b_md_ways 21 = .ok (.lreturn, 1) := by decide +kernel
theorem d_md_ways_22 : decode b_md_ways 22 = .ok (.iconst 0, 1) := by decide +kernel
theorem d_md_ways_23 : decode b_md_ways 23 = .ok (.istore_n 3, 1) := by decide +kernel
theorem d_md_ways_24 : decode b_md_ways 24 = .ok (.iload_n 3, 1) := by decide +kernel
theorem d_md_ways_25 : decode b_md_ways 25 = .ok (.bipush 25, 2) := by decide +kernel
theorem d_md_ways_27 : decode b_md_ways 27 = .ok (.if_icmp .ge 30, 3) := by decide +kernel
theorem d_md_ways_30 : decode b_md_ways 30 = .ok (.aload_n 0, 1) := by decide +kernel
theorem d_md_ways_31 : decode b_md_ways 31 = .ok (.getfield 79, 3) := by decide +kernel
theorem d_md_ways_34 : decode b_md_ways 34 = .ok (.iload_n 3, 1) := by decide +kernel
theorem d_md_ways_35 : decode b_md_ways 35 = .ok (.iload_n 3, 1) := by decide +kernel
theorem d_md_ways_36 : decode b_md_ways 36 = .ok (.aload_n 0, 1) := by decide +kernel
theorem d_md_ways_37 : decode b_md_ways 37 = .ok (.getfield 20, 3) := by decide +kernel
theorem d_md_ways_40 : decode b_md_ways 40 = .ok (.iload_n 1, 1) := by decide +kernel
theorem d_md_ways_41 : decode b_md_ways 41 = .ok (.iaload, 1) := by decide +kernel
theorem d_md_ways_42 : decode b_md_ways 42 = .ok (.if_icmp .ne 7, 3) := by decide +kernel
theorem d_md_ways_45 : decode b_md_ways 45 = .ok (.lconst 1, 1) := by decide +kernel
theorem d_md_ways_46 : decode b_md_ways 46 = .ok (.goto 4, 3) := by decide +kernel
theorem d_md_ways_49 : decode b_md_ways 49 = .ok (.lconst 0, 1) := by decide +kernel
theorem d_md_ways_50 : decode b_md_ways 50 = .ok (.lastore, 1) := by decide +kernel
theorem d_md_ways_51 : decode b_md_ways 51 = .ok (.iinc 3 1, 3) := by decide +kernel
theorem d_md_ways_54 : decode b_md_ways 54 = .ok (.goto (-30), 3) := by decide +kernel
theorem d_md_ways_57 : decode b_md_ways 57 = .ok (.iconst 0, 1) := by decide +kernel
theorem d_md_ways_58 : decode b_md_ways 58 = .ok (.istore_n 3, 1) := by decide +kernel
theorem d_md_ways_59 : decode b_md_ways 59 = .ok (.iload_n 3, 1) := by decide +kernel
theorem d_md_ways_60 : decode b_md_ways 60 = .ok (.iload_n 2, 1) := by decide +kernel
theorem d_md_ways_61 : decode b_md_ways 61 = .ok (.if_icmp .ge 187, 3) := by decide +kernel
theorem d_md_ways_64 : decode b_md_ways 64 = .ok (.iload_n 3, 1) := by decide +kernel
theorem d_md_ways_65 : decode b_md_ways 65 = .ok (.iload_n 2, 1) := by decide +kernel
theorem d_md_ways_66 : decode b_md_ways 66 = .ok (.iconst 1, 1) := by decide +kernel
theorem d_md_ways_67 : decode b_md_ways 67 = .ok (.isub, 1) := by decide +kernel
theorem d_md_ways_68 : decode b_md_ways 68 = .ok (.if_icmp .ne 15, 3) := by decide +kernel
theorem d_md_ways_71 : decode b_md_ways 71 = .ok (.aload_n 0, 1) := by decide +kernel
theorem d_md_ways_72 : decode b_md_ways 72 = .ok (.getfield 79, 3) := by decide +kernel
theorem d_md_ways_75 : decode b_md_ways 75 = .ok (.aload_n 0, 1) := by decide +kernel
theorem d_md_ways_76 : decode b_md_ways 76 = .ok (.getfield 24, 3) := by decide +kernel
theorem d_md_ways_79 : decode b_md_ways 79 = .ok (.iload_n 1, 1) := by decide +kernel
theorem d_md_ways_80 : decode b_md_ways 80 = .ok (.iaload, 1) := by decide +kernel
theorem d_md_ways_81 : decode b_md_ways 81 = .ok (.lconst 0, 1) := by decide +kernel
theorem d_md_ways_82 : decode b_md_ways 82 = .ok (.lastore, 1) := by decide +kernel
theorem d_md_ways_83 : decode b_md_ways 83 = .ok (.iconst 0, 1) := by decide +kernel
theorem d_md_ways_84 : decode b_md_ways 84 = .ok (.istore 4, 2) := by decide +kernel
theorem d_md_ways_86 : decode b_md_ways 86 = .ok (.iload 4, 2) := by decide +kernel
theorem d_md_ways_88 : decode b_md_ways 88 = .ok (.aload_n 0, 1) := by decide +kernel
theorem d_md_ways_89 : decode b_md_ways 89 = .ok (.invokevirtual 93, 3) := by decide +kernel
theorem d_md_ways_92 : decode b_md_ways 92 = .ok (.if_icmp .ge 118, 3) := by decide +kernel
theorem d_md_ways_95 : decode b_md_ways 95 = .ok (.aload_n 0, 1) := by decide +kernel
theorem d_md_ways_96 : decode b_md_ways 96 = .ok (.getfield 83, 3) := by decide +kernel
theorem d_md_ways_99 : decode b_md_ways 99 = .ok (.iload 4, 2) := by decide +kernel
theorem d_md_ways_101 : decode b_md_ways 101 = .ok (.aload_n 0, 1) := by decide +kernel
theorem d_md_ways_102 : decode b_md_ways 102 = .ok (.getfield 16, 3) := by decide +kernel
theorem d_md_ways_105 : decode b_md_ways 105 = .ok (.iload 4, 2) := by decide +kernel
theorem d_md_ways_107 : decode b_md_ways 107 = .ok (.baload, 1) := by decide +kernel
theorem d_md_ways_108 : decode b_md_ways 108 = .ok (.ifCond .eq 7, 3) := by decide +kernel
theorem d_md_ways_111 : decode b_md_ways 111 = .ok (.lconst 0, 1) := by decide +kernel
theorem d_md_ways_112 : decode b_md_ways 112 = .ok (.goto 10, 3) := by decide +kernel
theorem d_md_ways_115 : decode b_md_ways 115 = .ok (.aload_n 0, 1) := by decide +kernel
theorem d_md_ways_116 : decode b_md_ways 116 = .ok (.getfield 79, 3) := by decide +kernel
theorem d_md_ways_119 : decode b_md_ways 119 = .ok (.iload 4, 2) := by decide +kernel
theorem d_md_ways_121 : decode b_md_ways 121 = .ok (.laload, 1) := by decide +kernel
theorem d_md_ways_122 : decode b_md_ways 122 = .ok (.lastore, 1) := by decide +kernel
theorem d_md_ways_123 : decode b_md_ways 123 = .ok (.iconst 0, 1) := by decide +kernel
theorem d_md_ways_124 : decode b_md_ways 124 = .ok (.istore 5, 2) := by decide +kernel
theorem d_md_ways_126 : decode b_md_ways 126 = .ok (.iload 5, 2) := by decide +kernel
theorem d_md_ways_128 : decode b_md_ways 128 = .ok (.aload_n 0, 1) := by decide +kernel
theorem d_md_ways_129 : decode b_md_ways 129 = .ok (.invokevirtual 93, 3) := by decide +kernel
theorem d_md_ways_132 : decode b_md_ways 132 = .ok (.if_icmp .ge 72, 3) := by decide +kernel
theorem d_md_ways_135 : decode b_md_ways 135 = .ok (.aload_n 0, 1) := by decide +kernel
theorem d_md_ways_136 : decode b_md_ways 136 = .ok (.getfield 16, 3) := by decide +kernel
theorem d_md_ways_139 : decode b_md_ways 139 = .ok (.iload 4, 2) := by decide +kernel
theorem d_md_ways_141 : decode b_md_ways 141 = .ok (.baload, 1) := by decide +kernel
theorem d_md_ways_142 : decode b_md_ways 142 = .ok (.ifCond .ne 62, 3) := by decide +kernel
theorem d_md_ways_145 : decode b_md_ways 145 = .ok (.aload_n 0, 1) := by decide +kernel
theorem d_md_ways_146 : decode b_md_ways 146 = .ok (.getfield 83, 3) := by decide +kernel
theorem d_md_ways_149 : decode b_md_ways 149 = .ok (.iload 4, 2) := by decide +kernel
theorem d_md_ways_151 : decode b_md_ways 151 = .ok (.aload_n 0, 1) := by decide +kernel
theorem d_md_ways_152 : decode b_md_ways 152 = .ok (.iload 5, 2) := by decide +kernel
theorem d_md_ways_154 : decode b_md_ways 154 = .ok (.iload 4, 2) := by decide +kernel
theorem d_md_ways_156 : decode b_md_ways 156 = .ok (.invokevirtual 107, 3) := by decide +kernel
theorem d_md_ways_159 : decode b_md_ways 159 = .ok (.ifCond .eq 31, 3) := by decide +kernel
theorem d_md_ways_162 : decode b_md_ways 162 = .ok (.aload_n 0, 1) := by decide +kernel
theorem d_md_ways_163 : decode b_md_ways 163 = .ok (.getfield 16, 3) := by decide +kernel
theorem d_md_ways_166 : decode b_md_ways 166 = .ok (.iload 5, 2) := by decide +kernel
theorem d_md_ways_168 : decode b_md_ways 168 = .ok (.baload, 1) := by decide +kernel
theorem d_md_ways_169 : decode b_md_ways 169 = .ok (.ifCond .ne 21, 3) := by decide +kernel
theorem d_md_ways_172 : decode b_md_ways 172 = .ok (.aload_n 0, 1) := by decide +kernel
theorem d_md_ways_173 : decode b_md_ways 173 = .ok (.getfield 83, 3) := by decide +kernel
theorem d_md_ways_176 : decode b_md_ways 176 = .ok (.iload 4, 2) := by decide +kernel
theorem d_md_ways_178 : decode b_md_ways 178 = .ok (.laload, 1) := by decide +kernel
theorem d_md_ways_179 : decode b_md_ways 179 = .ok (.aload_n 0, 1) := by decide +kernel
theorem d_md_ways_180 : decode b_md_ways 180 = .ok (.getfield 79, 3) := by decide +kernel
theorem d_md_ways_183 : decode b_md_ways 183 = .ok (.iload 5, 2) := by decide +kernel
theorem d_md_ways_185 : decode b_md_ways 185 = .ok (.laload, 1) := by decide +kernel
theorem d_md_ways_186 : decode b_md_ways 186 = .ok (.ladd, 1) := by decide +kernel
theorem d_md_ways_187 : decode b_md_ways 187 = .ok (.goto 10, 3) := by decide +kernel
theorem d_md_ways_190 : decode b_md_ways 190 = .ok (.aload_n 0, 1) := by decide +kernel
theorem d_md_ways_191 : decode b_md_ways 191 = .ok (.getfield 83, 3) := by decide +kernel
theorem d_md_ways_194 : decode b_md_ways 194 = .ok (.iload 4, 2) := by decide +kernel
theorem d_md_ways_196 : decode b_md_ways 196 = .ok (.laload, 1) := by decide +kernel
theorem d_md_ways_197 : decode b_md_ways 197 = .ok (.lastore, 1) := by decide +kernel
theorem d_md_ways_198 : decode b_md_ways 198 = .ok (.iinc 5 1, 3) := by decide +kernel
theorem d_md_ways_201 : decode b_md_ways 201 = .ok (.goto (-75), 3) := by decide +kernel
theorem d_md_ways_204 : decode b_md_ways 204 = .ok (.iinc 4 1, 3) := by decide +kernel
theorem d_md_ways_207 : decode b_md_ways 207 = .ok (.goto (-121), 3) := by decide +kernel
theorem d_md_ways_210 : decode b_md_ways 210 = .ok (.iconst 0, 1) := by decide +kernel
theorem d_md_ways_211 : decode b_md_ways 211 = .ok (.istore 4, 2) := by decide +kernel
theorem d_md_ways_213 : decode b_md_ways 213 = .ok (.iload 4, 2) := by decide +kernel
theorem d_md_ways_215 : decode b_md_ways 215 = .ok (.aload_n 0, 1) := by decide +kernel
theorem d_md_ways_216 : decode b_md_ways 216 = .ok (.invokevirtual 93, 3) := by decide +kernel
theorem d_md_ways_219 : decode b_md_ways 219 = .ok (.if_icmp .ge 23, 3) := by decide +kernel
theorem d_md_ways_222 : decode b_md_ways 222 = .ok (.aload_n 0, 1) := by decide +kernel
theorem d_md_ways_223 : decode b_md_ways 223 = .ok (.getfield 79, 3) := by decide +kernel
theorem d_md_ways_226 : decode b_md_ways 226 = .ok (.iload 4, 2) := by decide +kernel
theorem d_md_ways_228 : decode b_md_ways 228 = .ok (.aload_n 0, 1) := by decide +kernel
theorem d_md_ways_229 : decode b_md_ways 229 = .ok (.getfield 83, 3) := by decide +kernel
theorem d_md_ways_232 : decode b_md_ways 232 = .ok (.iload 4, 2) := by decide +kernel
theorem d_md_ways_234 : decode b_md_ways 234 = .ok (.laload, 1) := by decide +kernel
theorem d_md_ways_235 : decode b_md_ways 235 = .ok (.lastore, 1) := by decide +kernel
theorem d_md_ways_236 : decode b_md_ways 236 = .ok (.iinc 4 1, 3) := by decide +kernel
theorem d_md_ways_239 : decode b_md_ways 239 = .ok (.goto (-26), 3) := by decide +kernel
theorem d_md_ways_242 : decode b_md_ways 242 = .ok (.iinc 3 1, 3) := by decide +kernel
theorem d_md_ways_245 : decode b_md_ways 245 = .ok (.goto (-186), 3) := by decide +kernel
theorem d_md_ways_248 : decode b_md_ways 248 = .ok (.aload_n 0, 1) := by decide +kernel
theorem d_md_ways_249 : decode b_md_ways 249 = .ok (.getfield 79, 3) := by decide +kernel
theorem d_md_ways_252 : decode b_md_ways 252 = .ok (.aload_n 0, 1) := by decide +kernel
theorem d_md_ways_253 : decode b_md_ways 253 = .ok (.getfield 24, 3) := by decide +kernel
theorem d_md_ways_256 : decode b_md_ways 256 = .ok (.iload_n 1, 1) := by decide +kernel
theorem d_md_ways_257 : decode b_md_ways 257 = .ok (.iaload, 1) := by decide +kernel
theorem d_md_ways_258 : decode b_md_ways 258 = .ok (.laload, 1) := by decide +kernel
theorem d_md_ways_259 : decode b_md_ways 259 = .ok (.lreturn, 1) := by decide +kernel
theorem d_md_solve_0 : decode b_md_solve 0 = .ok (.aload_n 0, 1) := by decide +kernel
theorem d_md_solve_1 : decode b_md_solve 1 = .ok (.iconst 0, 1) := by decide +kernel
theorem d_md_solve_2 : decode b_md_solve 2 = .ok (.putfield 89, 3) := by decide +kernel
theorem d_md_solve_5 : decode b_md_solve 5 = .ok (.iload_n 1, 1) := by decide +kernel
theorem d_md_solve_6 : decode b_md_solve 6 = .ok (.ifCond .lt 9, 3) := by decide +kernel
theorem d_md_solve_9 : decode b_md_solve 9 = .ok (.iload_n 1, 1) := by decide +kernel
theorem d_md_solve_10 : decode b_md_solve 10 = .ok (.bipush 6, 2) := by decide +kernel
theorem d_md_solve_12 : decode b_md_solve 12 = .ok (.if_icmp .le 5, 3) := by decide +kernel
theorem d_md_solve_15 : decode b_md_solve 15 = .ok (.iconst (-1), 1) := by decide +kernel
theorem d_md_solve_16 : decode b_md_solve 16 = .ok (.ireturn, 1) := by decide +kernel
theorem d_md_solve_17 : decode b_md_solve 17 = .ok (.iload_n 1, 1) := by decide +kernel
theorem d_md_solve_18 : decode b_md_solve 18 = .ok (.istore_n 2, 1) := by decide +kernel
theorem d_md_solve_19 : decode b_md_solve 19 = .ok (.iconst 0, 1) := by decide +kernel
theorem d_md_solve_20 : decode b_md_solve 20 = .ok (.istore_n 3, 1) := by decide +kernel
theorem d_md_solve_21 : decode b_md_solve 21 = .ok (.iload_n 3, 1) := by decide +kernel
theorem d_md_solve_22 : decode b_md_solve 22 = .ok (.aload_n 0, 1) := by decide +kernel
theorem d_md_solve_23 : decode b_md_solve 23 = .ok (.getfield 86, 3) := by decide +kernel
theorem d_md_solve_26 : decode b_md_solve 26 = .ok (.if_icmp .ge 29, 3) := by decide +kernel
theorem d_md_solve_29 : decode b_md_solve 29 = .ok (.aload_n 0, 1) := by decide +kernel
theorem d_md_solve_30 : decode b_md_solve 30 = .ok (.iload_n 3, 1) := by decide +kernel
theorem d_md_solve_31 : decode b_md_solve 31 = .ok (.invokevirtual 164, 3) := by decide +kernel
theorem d_md_solve_34 : decode b_md_solve 34 = .ok (.istore 4, 2) := by decide +kernel
theorem d_md_solve_36 : decode b_md_solve 36 = .ok (.iload 4, 2) := by decide +kernel
theorem d_md_solve_38 : decode b_md_solve 38 = .ok (.iconst (-1), 1) := by decide +kernel
theorem d_md_solve_39 : decode b_md_solve 39 = .ok (.if_icmp .ne 5, 3) := by decide +kernel
theorem d_md_solve_42 : decode b_md_solve 42 = .ok (.iconst (-1), 1) := by decide +kernel
theorem d_md_solve_43 : decode b_md_solve 43 = .ok (.ireturn, 1) := by decide +kernel
theorem d_md_solve_44 : decode b_md_solve 44 = .ok (.iload_n 2, 1) := by decide +kernel
theorem d_md_solve_45 : decode b_md_solve 45 = .ok (.iload 4, 2) := by decide +kernel
theorem d_md_solve_47 : decode b_md_solve 47 = .ok (.iadd, 1) := by decide +kernel
theorem d_md_solve_48 : decode b_md_solve 48 = .ok (.istore_n 2, 1) := by decide +kernel
theorem d_md_solve_49 : decode b_md_solve 49 = .ok (.iinc 3 1, 3) := by decide +kernel
theorem d_md_solve_52 : decode b_md_solve 52 = .ok (.goto (-31), 3) := by decide +kernel
theorem d_md_solve_55 : decode b_md_solve 55 = .ok (.aload_n 0, 1) := by decide +kernel
theorem d_md_solve_56 : decode b_md_solve 56 = .ok (.getfield 86, 3) := by decide +kernel
theorem d_md_solve_59 : decode b_md_solve 59 = .ok (.ifCond .ne 15, 3) := by decide +kernel
theorem d_md_solve_62 : decode b_md_solve 62 = .ok (.aload_n 0, 1) := by decide +kernel
theorem d_md_solve_63 : decode b_md_solve 63 = .ok (.iconst 1, 1) := by decide +kernel
theorem d_md_solve_64 : decode b_md_solve 64 = .ok (.putfield 89, 3) := by decide +kernel
theorem d_md_solve_67 : decode b_md_solve 67 = .ok (.aload_n 0, 1) := by decide +kernel
theorem d_md_solve_68 : decode b_md_solve 68 = .ok (.iconst 0, 1) := by decide +kernel
theorem d_md_solve_69 : decode b_md_solve 69 = .ok (.putfield 167, 3) := by decide +kernel
theorem d_md_solve_72 : decode b_md_solve 72 = .ok (.iconst 0, 1) := by decide +kernel
theorem d_md_solve_73 : decode b_md_solve 73 = .ok (.ireturn, 1) := by decide +kernel
theorem d_md_solve_74 : decode b_md_solve 74 = .ok (.aload_n 0, 1) := by decide +kernel
theorem d_md_solve_75 : decode b_md_solve 75 = .ok (.invokevirtual 170, 3) := by decide +kernel
theorem d_md_solve_78 : decode b_md_solve 78 = .ok (.aload_n 0, 1) := by decide +kernel
theorem d_md_solve_79 : decode b_md_solve 79 = .ok (.iload_n 2, 1) := by decide +kernel
theorem d_md_solve_80 : decode b_md_solve 80 = .ok (.invokevirtual 173, 3) := by decide +kernel
theorem d_md_solve_83 : decode b_md_solve 83 = .ok (.iconst 0, 1) := by decide +kernel
theorem d_md_solve_84 : decode b_md_solve 84 = .ok (.istore_n 3, 1) := by decide +kernel
theorem d_md_solve_85 : decode b_md_solve 85 = .ok (.iload_n 3, 1) := by decide +kernel
theorem d_md_solve_86 : decode b_md_solve 86 = .ok (.aload_n 0, 1) := by decide +kernel
theorem d_md_solve_87 : decode b_md_solve 87 = .ok (.getfield 86, 3) := by decide +kernel
theorem d_md_solve_90 : decode b_md_solve 90 = .ok (.if_icmp .ge 26, 3) := by decide +kernel
theorem d_md_solve_93 : decode b_md_solve 93 = .ok (.aload_n 0, 1) := by decide +kernel
theorem d_md_solve_94 : decode b_md_solve 94 = .ok (.getfield 55, 3) := by decide +kernel
theorem d_md_solve_97 : decode b_md_solve 97 = .ok (.iload_n 3, 1) := by decide +kernel
theorem d_md_solve_98 : decode b_md_solve 98 = .ok (.aload_n 0, 1) := by decide +kernel
theorem d_md_solve_99 : decode b_md_solve 99 = .ok (.getfield 36, 3) := by decide +kernel
theorem d_md_solve_102 : decode b_md_solve 102 = .ok (.aload_n 0, 1) := by decide +kernel
theorem d_md_solve_103 : decode b_md_solve 103 = .ok (.getfield 20, 3) := by decide +kernel
theorem d_md_solve_106 : decode b_md_solve 106 = .ok (.iload_n 3, 1) := by decide +kernel
theorem d_md_solve_107 : decode b_md_solve 107 = .ok (.iaload, 1) := by decide +kernel
theorem d_md_solve_108 : decode b_md_solve 108 = .ok (.iaload, 1) := by decide +kernel
theorem d_md_solve_109 : decode b_md_solve 109 = .ok (.iastore, 1) := by decide +kernel
theorem d_md_solve_110 : decode b_md_solve 110 = .ok (.iinc 3 1, 3) := by decide +kernel
theorem d_md_solve_113 : decode b_md_solve 113 = .ok (.goto (-28), 3) := by decide +kernel
theorem d_md_solve_116 : decode b_md_solve 116 = .ok (.aload_n 0, 1) := by decide +kernel
theorem d_md_solve_117 : decode b_md_solve 117 = .ok (.getfield 46, 3) := by decide +kernel
theorem d_md_solve_120 : decode b_md_solve 120 = .ok (.aload_n 0, 1) := by decide +kernel
theorem d_md_solve_121 : decode b_md_solve 121 = .ok (.aload_n 0, 1) := by decide +kernel
theorem d_md_solve_122 : decode b_md_solve 122 = .ok (.getfield 55, 3) := by decide +kernel
theorem d_md_solve_125 : decode b_md_solve 125 = .ok (.invokevirtual 150, 3) := by decide +kernel
theorem d_md_solve_128 : decode b_md_solve 128 = .ok (.aload_n 0, 1) := by decide +kernel
theorem d_md_solve_129 : decode b_md_solve 129 = .ok (.getfield 86, 3) := by decide +kernel
theorem d_md_solve_132 : decode b_md_solve 132 = .ok (.ishl, 1) := by decide +kernel
theorem d_md_solve_133 : decode b_md_solve 133 = .ok (.iaload, 1) := by decide +kernel
theorem d_md_solve_134 : decode b_md_solve 134 = .ok (.istore_n 3, 1) := by decide +kernel
theorem d_md_solve_135 : decode b_md_solve 135 = .ok (.iload_n 3, 1) := by decide +kernel
theorem d_md_solve_136 : decode b_md_solve 136 = .ok (.iload_n 2, 1) := by decide +kernel
theorem d_md_solve_137 : decode b_md_solve 137 = .ok (.if_icmp .le 5, 3) := by decide +kernel
theorem d_md_solve_140 : decode b_md_solve 140 = .ok (.iconst (-1), 1) := by decide +kernel
theorem d_md_solve_141 : decode b_md_solve 141 = .ok (.ireturn, 1) := by decide +kernel
theorem d_md_solve_142 : decode b_md_solve 142 = .ok (.aload_n 0, 1) := by decide +kernel
theorem d_md_solve_143 : decode b_md_solve 143 = .ok (.iload_n 3, 1) := by decide +kernel
theorem d_md_solve_144 : decode b_md_solve 144 = .ok (.invokevirtual 176, 3) := by decide +kernel
theorem d_md_solve_147 : decode b_md_solve 147 = .ok (.aload_n 0, 1) := by decide +kernel
theorem d_md_solve_148 : decode b_md_solve 148 = .ok (.iconst 1, 1) := by decide +kernel
theorem d_md_solve_149 : decode b_md_solve 149 = .ok (.putfield 89, 3) := by decide +kernel
theorem d_md_solve_152 : decode b_md_solve 152 = .ok (.iload_n 3, 1) := by decide +kernel
theorem d_md_solve_153 : decode b_md_solve 153 = .ok (.ireturn, 1) := by decide +kernel
theorem d_md_cost_0 : decode b_md_cost 0 = .ok (.aload_n 0, 1) := by decide +kernel
theorem d_md_cost_1 : decode b_md_cost 1 = .ok (.getfield 89, 3) := by decide +kernel
theorem d_md_cost_4 : decode b_md_cost 4 = .ok (.ifCond .eq 11, 3) := by decide +kernel
theorem d_md_cost_7 : decode b_md_cost 7 = .ok (.aload_n 0, 1) := by decide +kernel
theorem d_md_cost_8 : decode b_md_cost 8 = .ok (.iload_n 1, 1) := by decide +kernel
theorem d_md_cost_9 : decode b_md_cost 9 = .ok (.invokevirtual 111, 3) := by decide +kernel
theorem d_md_cost_12 : decode b_md_cost 12 = .ok (.ifCond .ne 7, 3) := by decide +kernel
theorem d_md_cost_15 : decode b_md_cost 15 = .ok (.iconst (-1), 1) := by decide +kernel
theorem d_md_cost_16 : decode b_md_cost 16 = .ok (.goto 9, 3) := by decide +kernel
theorem d_md_cost_19 : decode b_md_cost 19 = .ok (.aload_n 0, 1) := by decide +kernel
theorem d_md_cost_20 : decode b_md_cost 20 = .ok (.getfield 67, 3) := by decide +kernel
theorem d_md_cost_23 : decode b_md_cost 23 = .ok (.iload_n 1, 1) := by decide +kernel
theorem d_md_cost_24 : decode b_md_cost 24 = .ok (.iaload, 1) := by decide +kernel
theorem d_md_cost_25 : decode b_md_cost 25 = .ok (.ireturn, 1) := by decide +kernel
theorem d_md_at_0 : decode b_md_at 0 = .ok (.aload_n 0, 1) := by decide +kernel
theorem d_md_at_1 : decode b_md_at 1 = .ok (.getfield 89, 3) := by decide +kernel
theorem d_md_at_4 : decode b_md_at 4 = .ok (.ifCond .eq 15, 3) := by decide +kernel
theorem d_md_at_7 : decode b_md_at 7 = .ok (.aload_n 0, 1) := by decide +kernel
theorem d_md_at_8 : decode b_md_at 8 = .ok (.iload_n 1, 1) := by decide +kernel
theorem d_md_at_9 : decode b_md_at 9 = .ok (.invokevirtual 111, 3) := by decide +kernel
theorem d_md_at_12 : decode b_md_at 12 = .ok (.ifCond .eq 7, 3) := by decide +kernel
theorem d_md_at_15 : decode b_md_at 15 = .ok (.iload_n 2, 1) := by decide +kernel
theorem d_md_at_16 : decode b_md_at 16 = .ok (.ifCond .ge 5, 3) := by decide +kernel
theorem d_md_at_19 : decode b_md_at 19 = .ok (.iconst (-1), 1) := by decide +kernel
theorem d_md_at_20 : decode b_md_at 20 = .ok (.ireturn, 1) := by decide +kernel
theorem d_md_at_21 : decode b_md_at 21 = .ok (.aload_n 0, 1) := by decide +kernel
theorem d_md_at_22 : decode b_md_at 22 = .ok (.getfield 64, 3) := by decide +kernel
theorem d_md_at_25 : decode b_md_at 25 = .ok (.bipush 6, 2) := by decide +kernel
theorem d_md_at_27 : decode b_md_at 27 = .ok (.iload_n 2, 1) := by decide +kernel
theorem d_md_at_28 : decode b_md_at 28 = .ok (.aload_n 0, 1) := by decide +kernel
theorem d_md_at_29 : decode b_md_at 29 = .ok (.getfield 167, 3) := by decide +kernel
theorem d_md_at_32 : decode b_md_at 32 = .ok (.if_icmp .ge 7, 3) := by decide +kernel
theorem d_md_at_35 : decode b_md_at 35 = .ok (.iload_n 2, 1) := by decide +kernel
theorem d_md_at_36 : decode b_md_at 36 = .ok (.goto 7, 3) := by decide +kernel
theorem d_md_at_39 : decode b_md_at 39 = .ok (.aload_n 0, 1) := by decide +kernel
theorem d_md_at_40 : decode b_md_at 40 = .ok (.getfield 167, 3) := by decide +kernel
theorem d_md_at_43 : decode b_md_at 43 = .ok (.imul, 1) := by decide +kernel
theorem d_md_at_44 : decode b_md_at 44 = .ok (.iload_n 1, 1) := by decide +kernel
theorem d_md_at_45 : decode b_md_at 45 = .ok (.iadd, 1) := by decide +kernel
theorem d_md_at_46 : decode b_md_at 46 = .ok (.iaload, 1) := by decide +kernel
theorem d_md_at_47 : decode b_md_at 47 = .ok (.ireturn, 1) := by decide +kernel
theorem d_md_lay_0 : decode b_md_lay 0 = .ok (.iload_n 1, 1) := by decide +kernel
theorem d_md_lay_1 : decode b_md_lay 1 = .ok (.ifCond .lt 19, 3) := by decide +kernel
theorem d_md_lay_4 : decode b_md_lay 4 = .ok (.iload_n 1, 1) := by decide +kernel
theorem d_md_lay_5 : decode b_md_lay 5 = .ok (.bipush 6, 2) := by decide +kernel
theorem d_md_lay_7 : decode b_md_lay 7 = .ok (.if_icmp .ge 13, 3) := by decide +kernel
theorem d_md_lay_10 : decode b_md_lay 10 = .ok (.iload_n 2, 1) := by decide +kernel
theorem d_md_lay_11 : decode b_md_lay 11 = .ok (.ifCond .lt 9, 3) := by decide +kernel
theorem d_md_lay_14 : decode b_md_lay 14 = .ok (.iload_n 2, 1) := by decide +kernel
theorem d_md_lay_15 : decode b_md_lay 15 = .ok (.bipush 30, 2) := by decide +kernel
theorem d_md_lay_17 : decode b_md_lay 17 = .ok (.if_icmp .lt 5, 3) := by decide +kernel
theorem d_md_lay_20 : decode b_md_lay 20 = .ok (.iconst (-1), 1) := by decide +kernel
theorem d_md_lay_21 : decode b_md_lay 21 = .ok (.ireturn, 1) := by decide +kernel
theorem d_md_lay_22 : decode b_md_lay 22 = .ok (.aload_n 0, 1) := by decide +kernel
theorem d_md_lay_23 : decode b_md_lay 23 = .ok (.getfield 30, 3) := by decide +kernel
theorem d_md_lay_26 : decode b_md_lay 26 = .ok (.bipush 30, 2) := by decide +kernel
theorem d_md_lay_28 : decode b_md_lay 28 = .ok (.iload_n 1, 1) := by decide +kernel
theorem d_md_lay_29 : decode b_md_lay 29 = .ok (.imul, 1) := by decide +kernel
theorem d_md_lay_30 : decode b_md_lay 30 = .ok (.iload_n 2, 1) := by decide +kernel
theorem d_md_lay_31 : decode b_md_lay 31 = .ok (.iadd, 1) := by decide +kernel
theorem d_md_lay_32 : decode b_md_lay 32 = .ok (.baload, 1) := by decide +kernel
theorem d_md_lay_33 : decode b_md_lay 33 = .ok (.ifCond .eq 17, 3) := by decide +kernel
theorem d_md_lay_36 : decode b_md_lay 36 = .ok (.aload_n 0, 1) := by decide +kernel
theorem d_md_lay_37 : decode b_md_lay 37 = .ok (.getfield 27, 3) := by decide +kernel
theorem d_md_lay_40 : decode b_md_lay 40 = .ok (.bipush 30, 2) := by decide +kernel
theorem d_md_lay_42 : decode b_md_lay 42 = .ok (.iload_n 1, 1) := by decide +kernel
theorem d_md_lay_43 : decode b_md_lay 43 = .ok (.imul, 1) := by decide +kernel
theorem d_md_lay_44 : decode b_md_lay 44 = .ok (.iload_n 2, 1) := by decide +kernel
theorem d_md_lay_45 : decode b_md_lay 45 = .ok (.iadd, 1) := by decide +kernel
theorem d_md_lay_46 : decode b_md_lay 46 = .ok (.iaload, 1) := by decide +kernel
theorem d_md_lay_47 : decode b_md_lay 47 = .ok (.goto 4, 3) := by decide +kernel
theorem d_md_lay_50 : decode b_md_lay 50 = .ok (.iconst (-1), 1) := by decide +kernel
theorem d_md_lay_51 : decode b_md_lay 51 = .ok (.istore 4, 2) := by decide +kernel
theorem d_md_lay_53 : decode b_md_lay 53 = .ok (.aload_n 0, 1) := by decide +kernel
theorem d_md_lay_54 : decode b_md_lay 54 = .ok (.getfield 27, 3) := by decide +kernel
theorem d_md_lay_57 : decode b_md_lay 57 = .ok (.bipush 30, 2) := by decide +kernel
theorem d_md_lay_59 : decode b_md_lay 59 = .ok (.iload_n 1, 1) := by decide +kernel
theorem d_md_lay_60 : decode b_md_lay 60 = .ok (.imul, 1) := by decide +kernel
theorem d_md_lay_61 : decode b_md_lay 61 = .ok (.iload_n 2, 1) := by decide +kernel
theorem d_md_lay_62 : decode b_md_lay 62 = .ok (.iadd, 1) := by decide +kernel
theorem d_md_lay_63 : decode b_md_lay 63 = .ok (.iload_n 3, 1) := by decide +kernel
theorem d_md_lay_64 : decode b_md_lay 64 = .ok (.iastore, 1) := by decide +kernel
theorem d_md_lay_65 : decode b_md_lay 65 = .ok (.aload_n 0, 1) := by decide +kernel
theorem d_md_lay_66 : decode b_md_lay 66 = .ok (.getfield 30, 3) := by decide +kernel
theorem d_md_lay_69 : decode b_md_lay 69 = .ok (.bipush 30, 2) := by decide +kernel
theorem d_md_lay_71 : decode b_md_lay 71 = .ok (.iload_n 1, 1) := by decide +kernel
theorem d_md_lay_72 : decode b_md_lay 72 = .ok (.imul, 1) := by decide +kernel
theorem d_md_lay_73 : decode b_md_lay 73 = .ok (.iload_n 2, 1) := by decide +kernel
theorem d_md_lay_74 : decode b_md_lay 74 = .ok (.iadd, 1) := by decide +kernel
theorem d_md_lay_75 : decode b_md_lay 75 = .ok (.iconst 1, 1) := by decide +kernel
theorem d_md_lay_76 : decode b_md_lay 76 = .ok (.bastore, 1) := by decide +kernel
theorem d_md_lay_77 : decode b_md_lay 77 = .ok (.iload 4, 2) := by decide +kernel
theorem d_md_lay_79 : decode b_md_lay 79 = .ok (.ireturn, 1) := by decide +kernel
theorem d_md_look_0 : decode b_md_look 0 = .ok (.aload_n 0, 1) := by decide +kernel
theorem d_md_look_1 : decode b_md_look 1 = .ok (.iconst 0, 1) := by decide +kernel
theorem d_md_look_2 : decode b_md_look 2 = .ok (.putfield 196, 3) := by decide +kernel
theorem d_md_look_5 : decode b_md_look 5 = .ok (.aload_n 0, 1) := by decide +kernel
theorem d_md_look_6 : decode b_md_look 6 = .ok (.iconst (-1), 1) := by decide +kernel
theorem d_md_look_7 : decode b_md_look 7 = .ok (.putfield 199, 3) := by decide +kernel
theorem d_md_look_10 : decode b_md_look 10 = .ok (.aload_n 0, 1) := by decide +kernel
theorem d_md_look_11 : decode b_md_look 11 = .ok (.iconst (-1), 1) := by decide +kernel
theorem d_md_look_12 : decode b_md_look 12 = .ok (.putfield 202, 3) := by decide +kernel
theorem d_md_look_15 : decode b_md_look 15 = .ok (.aload_n 0, 1) := by decide +kernel
theorem d_md_look_16 : decode b_md_look 16 = .ok (.iconst (-1), 1) := by decide +kernel
theorem d_md_look_17 : decode b_md_look 17 = .ok (.putfield 205, 3) := by decide +kernel
theorem d_md_look_20 : decode b_md_look 20 = .ok (.iconst 0, 1) := by decide +kernel
theorem d_md_look_21 : decode b_md_look 21 = .ok (.istore_n 1, 1) := by decide +kernel
theorem d_md_look_22 : decode b_md_look 22 = .ok (.iload_n 1, 1) := by decide +kernel
theorem d_md_look_23 : decode b_md_look 23 = .ok (.bipush 30, 2) := by decide +kernel
theorem d_md_look_25 : decode b_md_look 25 = .ok (.if_icmp .ge 200, 3) := by decide +kernel
theorem d_md_look_28 : decode b_md_look 28 = .ok (.aload_n 0, 1) := by decide +kernel
theorem d_md_look_29 : decode b_md_look 29 = .ok (.getfield 196, 3) := by decide +kernel
theorem d_md_look_32 : decode b_md_look 32 = .ok (.ifCond .ne 193, 3) := by decide +kernel
theorem d_md_look_35 : decode b_md_look 35 = .ok (.iconst 0, 1) := by decide +kernel
theorem d_md_look_36 : decode b_md_look 36 = .ok (.istore_n 2, 1) := by decide +kernel
theorem d_md_look_37 : decode b_md_look 37 = .ok (.iload_n 2, 1) := by decide +kernel
theorem d_md_look_38 : decode b_md_look 38 = .ok (.aload_n 0, 1) := by decide +kernel
theorem d_md_look_39 : decode b_md_look 39 = .ok (.getfield 86, 3) := by decide +kernel
theorem d_md_look_42 : decode b_md_look 42 = .ok (.if_icmp .ge 26, 3) := by decide +kernel
theorem d_md_look_45 : decode b_md_look 45 = .ok (.aload_n 0, 1) := by decide +kernel
theorem d_md_look_46 : decode b_md_look 46 = .ok (.iload_n 2, 1) := by decide +kernel
theorem d_md_look_47 : decode b_md_look 47 = .ok (.iload_n 1, 1) := by decide +kernel
theorem d_md_look_48 : decode b_md_look 48 = .ok (.invokevirtual 208, 3) := by decide +kernel
theorem d_md_look_51 : decode b_md_look 51 = .ok (.ifCond .eq 11, 3) := by decide +kernel
theorem d_md_look_54 : decode b_md_look 54 = .ok (.aload_n 0, 1) := by decide +kernel
theorem d_md_look_55 : decode b_md_look 55 = .ok (.iconst 1, 1) := by decide +kernel
theorem d_md_look_56 : decode b_md_look 56 = .ok (.iload_n 1, 1) := by decide +kernel
theorem d_md_look_57 : decode b_md_look 57 = .ok (.iload_n 2, 1) := by decide +kernel
theorem d_md_look_58 : decode b_md_look 58 = .ok (.iconst (-1), 1) := by decide +kernel
theorem d_md_look_59 : decode b_md_look 59 = .ok (.invokevirtual 211, 3) := by decide +kernel
theorem d_md_look_62 : decode b_md_look 62 = .ok (.iinc 2 1, 3) := by decide +kernel
theorem d_md_look_65 : decode b_md_look 65 = .ok (.goto (-28), 3) := by decide +kernel
theorem d_md_look_68 : decode b_md_look 68 = .ok (.iconst 0, 1) := by decide +kernel
theorem d_md_look_69 : decode b_md_look 69 = .ok (.istore_n 2, 1) := by decide +kernel
theorem d_md_look_70 : decode b_md_look 70 = .ok (.iload_n 2, 1) := by decide +kernel
theorem d_md_look_71 : decode b_md_look 71 = .ok (.aload_n 0, 1) := by decide +kernel
theorem d_md_look_72 : decode b_md_look 72 = .ok (.getfield 86, 3) := by decide +kernel
theorem d_md_look_75 : decode b_md_look 75 = .ok (.if_icmp .ge 57, 3) := by decide +kernel
theorem d_md_look_78 : decode b_md_look 78 = .ok (.aload_n 0, 1) := by decide +kernel
theorem d_md_look_79 : decode b_md_look 79 = .ok (.getfield 196, 3) := by decide +kernel
theorem d_md_look_82 : decode b_md_look 82 = .ok (.ifCond .ne 50, 3) := by decide +kernel
theorem d_md_look_85 : decode b_md_look 85 = .ok (.iload_n 2, 1) := by decide +kernel
theorem d_md_look_86 : decode b_md_look 86 = .ok (.iconst 1, 1) := by decide +kernel
theorem d_md_look_87 : decode b_md_look 87 = .ok (.iadd, 1) := by decide +kernel
theorem d_md_look_88 : decode b_md_look 88 = .ok (.istore_n 3, 1) := by decide +kernel
theorem d_md_look_89 : decode b_md_look 89 = .ok (.iload_n 3, 1) := by decide +kernel
theorem d_md_look_90 : decode b_md_look 90 = .ok (.aload_n 0, 1) := by decide +kernel
theorem d_md_look_91 : decode b_md_look 91 = .ok (.getfield 86, 3) := by decide +kernel
theorem d_md_look_94 : decode b_md_look 94 = .ok (.if_icmp .ge 32, 3) := by decide +kernel
theorem d_md_look_97 : decode b_md_look 97 = .ok (.aload_n 0, 1) := by decide +kernel
theorem d_md_look_98 : decode b_md_look 98 = .ok (.iload_n 2, 1) := by decide +kernel
theorem d_md_look_99 : decode b_md_look 99 = .ok (.iload_n 1, 1) := by decide +kernel
theorem d_md_look_100 : decode b_md_look 100 = .ok (.invokevirtual 193, 3) := by decide +kernel
theorem d_md_look_103 : decode b_md_look 103 = .ok (.aload_n 0, 1) := by decide +kernel
theorem d_md_look_104 : decode b_md_look 104 = .ok (.iload_n 3, 1) := by decide +kernel
theorem d_md_look_105 : decode b_md_look 105 = .ok (.iload_n 1, 1) := by decide +kernel
end
section
theorem d_md_look_106 : decode b_md_look 106 = .ok (.invokevirtual 193, 3) := by decide +kernel
theorem d_md_look_109 : decode b_md_look 109 = .ok (.if_icmp .ne 11, 3) := by decide +kernel
theorem d_md_look_112 : decode b_md_look 112 = .ok (.aload_n 0, 1) := by decide +kernel
theorem d_md_look_113 : decode b_md_look 113 = .ok (.iconst 2, 1) := by decide +kernel
theorem d_md_look_114 : decode b_md_look 114 = .ok (.iload_n 1, 1) := by decide +kernel
theorem d_md_look_115 : decode b_md_look 115 = .ok (.iload_n 2, 1) := by decide +kernel
theorem d_md_look_116 : decode b_md_look 116 = .ok (.iload_n 3, 1) := by decide +kernel
theorem d_md_look_117 : decode b_md_look 117 = .ok (.invokevirtual 211, 3) := by decide +kernel
theorem d_md_look_120 : decode b_md_look 120 = .ok (.iinc 3 1, 3) := by decide +kernel
theorem d_md_look_123 : decode b_md_look 123 = .ok (.goto (-34), 3) := by decide +kernel
theorem d_md_look_126 : decode b_md_look 126 = .ok (.iinc 2 1, 3) := by decide +kernel
theorem d_md_look_129 : decode b_md_look 129 = .ok (.goto (-59), 3) := by decide +kernel
theorem d_md_look_132 : decode b_md_look 132 = .ok (.iconst 0, 1) := by decide +kernel
theorem d_md_look_133 : decode b_md_look 133 = .ok (.istore_n 2, 1) := by decide +kernel
theorem d_md_look_134 : decode b_md_look 134 = .ok (.iload_n 2, 1) := by decide +kernel
theorem d_md_look_135 : decode b_md_look 135 = .ok (.aload_n 0, 1) := by decide +kernel
theorem d_md_look_136 : decode b_md_look 136 = .ok (.getfield 86, 3) := by decide +kernel
theorem d_md_look_139 : decode b_md_look 139 = .ok (.if_icmp .ge 80, 3) := by decide +kernel
theorem d_md_look_142 : decode b_md_look 142 = .ok (.aload_n 0, 1) := by decide +kernel
theorem d_md_look_143 : decode b_md_look 143 = .ok (.getfield 196, 3) := by decide +kernel
theorem d_md_look_146 : decode b_md_look 146 = .ok (.ifCond .ne 73, 3) := by decide +kernel
theorem d_md_look_149 : decode b_md_look 149 = .ok (.iload_n 1, 1) := by decide +kernel
theorem d_md_look_150 : decode b_md_look 150 = .ok (.ifCond .le 69, 3) := by decide +kernel
theorem d_md_look_153 : decode b_md_look 153 = .ok (.iload_n 2, 1) := by decide +kernel
theorem d_md_look_154 : decode b_md_look 154 = .ok (.iconst 1, 1) := by decide +kernel
theorem d_md_look_155 : decode b_md_look 155 = .ok (.iadd, 1) := by decide +kernel
theorem d_md_look_156 : decode b_md_look 156 = .ok (.istore_n 3, 1) := by decide +kernel
theorem d_md_look_157 : decode b_md_look 157 = .ok (.iload_n 3, 1) := by decide +kernel
theorem d_md_look_158 : decode b_md_look 158 = .ok (.aload_n 0, 1) := by decide +kernel
theorem d_md_look_159 : decode b_md_look 159 = .ok (.getfield 86, 3) := by decide +kernel
theorem d_md_look_162 : decode b_md_look 162 = .ok (.if_icmp .ge 51, 3) := by decide +kernel
theorem d_md_look_165 : decode b_md_look 165 = .ok (.aload_n 0, 1) := by decide +kernel
theorem d_md_look_166 : decode b_md_look 166 = .ok (.iload_n 2, 1) := by decide +kernel
theorem d_md_look_167 : decode b_md_look 167 = .ok (.iload_n 1, 1) := by decide +kernel
theorem d_md_look_168 : decode b_md_look 168 = .ok (.invokevirtual 193, 3) := by decide +kernel
theorem d_md_look_171 : decode b_md_look 171 = .ok (.aload_n 0, 1) := by decide +kernel
theorem d_md_look_172 : decode b_md_look 172 = .ok (.iload_n 3, 1) := by decide +kernel
theorem d_md_look_173 : decode b_md_look 173 = .ok (.iload_n 1, 1) := by decide +kernel
theorem d_md_look_174 : decode b_md_look 174 = .ok (.iconst 1, 1) := by decide +kernel
theorem d_md_look_175 : decode b_md_look 175 = .ok (.isub, 1) := by decide +kernel
theorem d_md_look_176 : decode b_md_look 176 = .ok (.invokevirtual 193, 3) := by decide +kernel
theorem d_md_look_179 : decode b_md_look 179 = .ok (.if_icmp .ne 28, 3) := by decide +kernel
theorem d_md_look_182 : decode b_md_look 182 = .ok (.aload_n 0, 1) := by decide +kernel
theorem d_md_look_183 : decode b_md_look 183 = .ok (.iload_n 3, 1) := by decide +kernel
theorem d_md_look_184 : decode b_md_look 184 = .ok (.iload_n 1, 1) := by decide +kernel
theorem d_md_look_185 : decode b_md_look 185 = .ok (.invokevirtual 193, 3) := by decide +kernel
theorem d_md_look_188 : decode b_md_look 188 = .ok (.aload_n 0, 1) := by decide +kernel
theorem d_md_look_189 : decode b_md_look 189 = .ok (.iload_n 2, 1) := by decide +kernel
theorem d_md_look_190 : decode b_md_look 190 = .ok (.iload_n 1, 1) := by decide +kernel
theorem d_md_look_191 : decode b_md_look 191 = .ok (.iconst 1, 1) := by decide +kernel
theorem d_md_look_192 : decode b_md_look 192 = .ok (.isub, 1) := by decide +kernel
theorem d_md_look_193 : decode b_md_look 193 = .ok (.invokevirtual 193, 3) := by decide +kernel
theorem d_md_look_196 : decode b_md_look 196 = .ok (.if_icmp .ne 11, 3) := by decide +kernel
theorem d_md_look_199 : decode b_md_look 199 = .ok (.aload_n 0, 1) := by decide +kernel
theorem d_md_look_200 : decode b_md_look 200 = .ok (.iconst 3, 1) := by decide +kernel
theorem d_md_look_201 : decode b_md_look 201 = .ok (.iload_n 1, 1) := by decide +kernel
theorem d_md_look_202 : decode b_md_look 202 = .ok (.iload_n 2, 1) := by decide +kernel
theorem d_md_look_203 : decode b_md_look 203 = .ok (.iload_n 3, 1) := by decide +kernel
theorem d_md_look_204 : decode b_md_look 204 = .ok (.invokevirtual 211, 3) := by decide +kernel
theorem d_md_look_207 : decode b_md_look 207 = .ok (.iinc 3 1, 3) := by decide +kernel
theorem d_md_look_210 : decode b_md_look 210 = .ok (.goto (-53), 3) := by decide +kernel
theorem d_md_look_213 : decode b_md_look 213 = .ok (.iinc 2 1, 3) := by decide +kernel
theorem d_md_look_216 : decode b_md_look 216 = .ok (.goto (-82), 3) := by decide +kernel
theorem d_md_look_219 : decode b_md_look 219 = .ok (.iinc 1 1, 3) := by decide +kernel
theorem d_md_look_222 : decode b_md_look 222 = .ok (.goto (-200), 3) := by decide +kernel
theorem d_md_look_225 : decode b_md_look 225 = .ok (.return_, 1) := by decide +kernel
theorem d_md_judge_0 : decode b_md_judge 0 = .ok (.aload_n 0, 1) := by decide +kernel
theorem d_md_judge_1 : decode b_md_judge 1 = .ok (.invokevirtual 215, 3) := by decide +kernel
theorem d_md_judge_4 : decode b_md_judge 4 = .ok (.iload_n 1, 1) := by decide +kernel
theorem d_md_judge_5 : decode b_md_judge 5 = .ok (.ifCond .ne 10, 3) := by decide +kernel
theorem d_md_judge_8 : decode b_md_judge 8 = .ok (.aload_n 0, 1) := by decide +kernel
theorem d_md_judge_9 : decode b_md_judge 9 = .ok (.getfield 196, 3) := by decide +kernel
theorem d_md_judge_12 : decode b_md_judge 12 = .ok (.goto 40, 3) := by decide +kernel
theorem d_md_judge_15 : decode b_md_judge 15 = .ok (.iload_n 1, 1) := by decide +kernel
theorem d_md_judge_16 : decode b_md_judge 16 = .ok (.iconst 1, 1) := by decide +kernel
theorem d_md_judge_17 : decode b_md_judge 17 = .ok (.if_icmp .ne 10, 3) := by decide +kernel
theorem d_md_judge_20 : decode b_md_judge 20 = .ok (.aload_n 0, 1) := by decide +kernel
theorem d_md_judge_21 : decode b_md_judge 21 = .ok (.getfield 199, 3) := by decide +kernel
theorem d_md_judge_24 : decode b_md_judge 24 = .ok (.goto 28, 3) := by decide +kernel
theorem d_md_judge_27 : decode b_md_judge 27 = .ok (.iload_n 1, 1) := by decide +kernel
theorem d_md_judge_28 : decode b_md_judge 28 = .ok (.iconst 2, 1) := by decide +kernel
theorem d_md_judge_29 : decode b_md_judge 29 = .ok (.if_icmp .ne 10, 3) := by decide +kernel
theorem d_md_judge_32 : decode b_md_judge 32 = .ok (.aload_n 0, 1) := by decide +kernel
theorem d_md_judge_33 : decode b_md_judge 33 = .ok (.getfield 202, 3) := by decide +kernel
theorem d_md_judge_36 : decode b_md_judge 36 = .ok (.goto 16, 3) := by decide +kernel
theorem d_md_judge_39 : decode b_md_judge 39 = .ok (.iload_n 1, 1) := by decide +kernel
theorem d_md_judge_40 : decode b_md_judge 40 = .ok (.iconst 3, 1) := by decide +kernel
theorem d_md_judge_41 : decode b_md_judge 41 = .ok (.if_icmp .ne 10, 3) := by decide +kernel
theorem d_md_judge_44 : decode b_md_judge 44 = .ok (.aload_n 0, 1) := by decide +kernel
theorem d_md_judge_45 : decode b_md_judge 45 = .ok (.getfield 205, 3) := by decide +kernel
theorem d_md_judge_48 : decode b_md_judge 48 = .ok (.goto 4, 3) := by decide +kernel
theorem d_md_judge_51 : decode b_md_judge 51 = .ok (.iconst (-1), 1) := by decide +kernel
theorem d_md_judge_52 : decode b_md_judge 52 = .ok (.ireturn, 1) := by decide +kernel
theorem d_ar_fillI_0 : decode b_ar_fillI 0 = .ok (.iconst 0, 1) := by decide +kernel
theorem d_ar_fillI_1 : decode b_ar_fillI 1 = .ok (.istore_n 2, 1) := by decide +kernel
theorem d_ar_fillI_2 : decode b_ar_fillI 2 = .ok (.aload_n 0, 1) := by decide +kernel
theorem d_ar_fillI_3 : decode b_ar_fillI 3 = .ok (.arraylength, 1) := by decide +kernel
theorem d_ar_fillI_4 : decode b_ar_fillI 4 = .ok (.istore_n 3, 1) := by decide +kernel
theorem d_ar_fillI_5 : decode b_ar_fillI 5 = .ok (.iload_n 2, 1) := by decide +kernel
theorem d_ar_fillI_6 : decode b_ar_fillI 6 = .ok (.iload_n 3, 1) := by decide +kernel
theorem d_ar_fillI_7 : decode b_ar_fillI 7 = .ok (.if_icmp .ge 13, 3) := by decide +kernel
theorem d_ar_fillI_10 : decode b_ar_fillI 10 = .ok (.aload_n 0, 1) := by decide +kernel
theorem d_ar_fillI_11 : decode b_ar_fillI 11 = .ok (.iload_n 2, 1) := by decide +kernel
theorem d_ar_fillI_12 : decode b_ar_fillI 12 = .ok (.iload_n 1, 1) := by decide +kernel
theorem d_ar_fillI_13 : decode b_ar_fillI 13 = .ok (.iastore, 1) := by decide +kernel
theorem d_ar_fillI_14 : decode b_ar_fillI 14 = .ok (.iinc 2 1, 3) := by decide +kernel
theorem d_ar_fillI_17 : decode b_ar_fillI 17 = .ok (.goto (-12), 3) := by decide +kernel
theorem d_ar_fillI_20 : decode b_ar_fillI 20 = .ok (.return_, 1) := by decide +kernel
theorem d_ar_fillJ_0 : decode b_ar_fillJ 0 = .ok (.iconst 0, 1) := by decide +kernel
theorem d_ar_fillJ_1 : decode b_ar_fillJ 1 = .ok (.istore_n 3, 1) := by decide +kernel
theorem d_ar_fillJ_2 : decode b_ar_fillJ 2 = .ok (.aload_n 0, 1) := by decide +kernel
theorem d_ar_fillJ_3 : decode b_ar_fillJ 3 = .ok (.arraylength, 1) := by decide +kernel
theorem d_ar_fillJ_4 : decode b_ar_fillJ 4 = .ok (.istore 4, 2) := by decide +kernel
theorem d_ar_fillJ_6 : decode b_ar_fillJ 6 = .ok (.iload_n 3, 1) := by decide +kernel
theorem d_ar_fillJ_7 : decode b_ar_fillJ 7 = .ok (.iload 4, 2) := by decide +kernel
theorem d_ar_fillJ_9 : decode b_ar_fillJ 9 = .ok (.if_icmp .ge 13, 3) := by decide +kernel
theorem d_ar_fillJ_12 : decode b_ar_fillJ 12 = .ok (.aload_n 0, 1) := by decide +kernel
theorem d_ar_fillJ_13 : decode b_ar_fillJ 13 = .ok (.iload_n 3, 1) := by decide +kernel
theorem d_ar_fillJ_14 : decode b_ar_fillJ 14 = .ok (.lload_n 1, 1) := by decide +kernel
theorem d_ar_fillJ_15 : decode b_ar_fillJ 15 = .ok (.lastore, 1) := by decide +kernel
theorem d_ar_fillJ_16 : decode b_ar_fillJ 16 = .ok (.iinc 3 1, 3) := by decide +kernel
theorem d_ar_fillJ_19 : decode b_ar_fillJ 19 = .ok (.goto (-13), 3) := by decide +kernel
theorem d_ar_fillJ_22 : decode b_ar_fillJ 22 = .ok (.return_, 1) := by decide +kernel
theorem d_md_isBeside_0 : decode b_md_isBeside 0 = .ok (.iload_n 1, 1) := by decide +kernel
theorem d_md_isBeside_1 : decode b_md_isBeside 1 = .ok (.aload_n 0, 1) := by decide +kernel
theorem d_md_isBeside_2 : decode b_md_isBeside 2 = .ok (.getfield 7, 3) := by decide +kernel
theorem d_md_isBeside_5 : decode b_md_isBeside 5 = .ok (.irem, 1) := by decide +kernel
theorem d_md_isBeside_6 : decode b_md_isBeside 6 = .ok (.iload_n 2, 1) := by decide +kernel
theorem d_md_isBeside_7 : decode b_md_isBeside 7 = .ok (.aload_n 0, 1) := by decide +kernel
theorem d_md_isBeside_8 : decode b_md_isBeside 8 = .ok (.getfield 7, 3) := by decide +kernel
theorem d_md_isBeside_11 : decode b_md_isBeside 11 = .ok (.irem, 1) := by decide +kernel
theorem d_md_isBeside_12 : decode b_md_isBeside 12 = .ok (.isub, 1) := by decide +kernel
theorem d_md_isBeside_13 : decode b_md_isBeside 13 = .ok (.istore_n 3, 1) := by decide +kernel
theorem d_md_isBeside_14 : decode b_md_isBeside 14 = .ok (.iload_n 1, 1) := by decide +kernel
theorem d_md_isBeside_15 : decode b_md_isBeside 15 = .ok (.aload_n 0, 1) := by decide +kernel
theorem d_md_isBeside_16 : decode b_md_isBeside 16 = .ok (.getfield 7, 3) := by decide +kernel
theorem d_md_isBeside_19 : decode b_md_isBeside 19 = .ok (.idiv, 1) := by decide +kernel
theorem d_md_isBeside_20 : decode b_md_isBeside 20 = .ok (.iload_n 2, 1) := by decide +kernel
theorem d_md_isBeside_21 : decode b_md_isBeside 21 = .ok (.aload_n 0, 1) := by decide +kernel
theorem d_md_isBeside_22 : decode b_md_isBeside 22 = .ok (.getfield 7, 3) := by decide +kernel
theorem d_md_isBeside_25 : decode b_md_isBeside 25 = .ok (.idiv, 1) := by decide +kernel
theorem d_md_isBeside_26 : decode b_md_isBeside 26 = .ok (.isub, 1) := by decide +kernel
theorem d_md_isBeside_27 : decode b_md_isBeside 27 = .ok (.istore 4, 2) := by decide +kernel
theorem d_md_isBeside_29 : decode b_md_isBeside 29 = .ok (.iload_n 3, 1) := by decide +kernel
theorem d_md_isBeside_30 : decode b_md_isBeside 30 = .ok (.iload_n 3, 1) := by decide +kernel
theorem d_md_isBeside_31 : decode b_md_isBeside 31 = .ok (.imul, 1) := by decide +kernel
theorem d_md_isBeside_32 : decode b_md_isBeside 32 = .ok (.iload 4, 2) := by decide +kernel
theorem d_md_isBeside_34 : decode b_md_isBeside 34 = .ok (.iload 4, 2) := by decide +kernel
theorem d_md_isBeside_36 : decode b_md_isBeside 36 = .ok (.imul, 1) := by decide +kernel
theorem d_md_isBeside_37 : decode b_md_isBeside 37 = .ok (.iadd, 1) := by decide +kernel
theorem d_md_isBeside_38 : decode b_md_isBeside 38 = .ok (.iconst 1, 1) := by decide +kernel
theorem d_md_isBeside_39 : decode b_md_isBeside 39 = .ok (.if_icmp .ne 7, 3) := by decide +kernel
theorem d_md_isBeside_42 : decode b_md_isBeside 42 = .ok (.iconst 1, 1) := by decide +kernel
theorem d_md_isBeside_43 : decode b_md_isBeside 43 = .ok (.goto 4, 3) := by decide +kernel
theorem d_md_isBeside_46 : decode b_md_isBeside 46 = .ok (.iconst 0, 1) := by decide +kernel
theorem d_md_isBeside_47 : decode b_md_isBeside 47 = .ok (.ireturn, 1) := by decide +kernel
theorem d_md_findFar_0 : decode b_md_findFar 0 = .ok (.iconst 0, 1) := by decide +kernel
theorem d_md_findFar_1 : decode b_md_findFar 1 = .ok (.istore_n 2, 1) := by decide +kernel
theorem d_md_findFar_2 : decode b_md_findFar 2 = .ok (.iload_n 2, 1) := by decide +kernel
theorem d_md_findFar_3 : decode b_md_findFar 3 = .ok (.bipush 25, 2) := by decide +kernel
theorem d_md_findFar_5 : decode b_md_findFar 5 = .ok (.if_icmp .ge 25, 3) := by decide +kernel
theorem d_md_findFar_8 : decode b_md_findFar 8 = .ok (.aload_n 0, 1) := by decide +kernel
theorem d_md_findFar_9 : decode b_md_findFar 9 = .ok (.getfield 76, 3) := by decide +kernel
theorem d_md_findFar_12 : decode b_md_findFar 12 = .ok (.iload_n 2, 1) := by decide +kernel
theorem d_md_findFar_13 : decode b_md_findFar 13 = .ok (.iload_n 2, 1) := by decide +kernel
theorem d_md_findFar_14 : decode b_md_findFar 14 = .ok (.iload_n 1, 1) := by decide +kernel
theorem d_md_findFar_15 : decode b_md_findFar 15 = .ok (.if_icmp .ne 7, 3) := by decide +kernel
theorem d_md_findFar_18 : decode b_md_findFar 18 = .ok (.iconst 0, 1) := by decide +kernel
theorem d_md_findFar_19 : decode b_md_findFar 19 = .ok (.goto 4, 3) := by decide +kernel
theorem d_md_findFar_22 : decode b_md_findFar 22 = .ok (.iconst (-1), 1) := by decide +kernel
theorem d_md_findFar_23 : decode b_md_findFar 23 = .ok (.iastore, 1) := by decide +kernel
theorem d_md_findFar_24 : decode b_md_findFar 24 = .ok (.iinc 2 1, 3) := by decide +kernel
theorem d_md_findFar_27 : decode b_md_findFar 27 = .ok (.goto (-25), 3) := by decide +kernel
theorem d_md_findFar_30 : decode b_md_findFar 30 = .ok (.iconst 0, 1) := by decide +kernel
theorem d_md_findFar_31 : decode b_md_findFar 31 = .ok (.istore_n 2, 1) := by decide +kernel
theorem d_md_findFar_32 : decode b_md_findFar 32 = .ok (.iload_n 2, 1) := by decide +kernel
theorem d_md_findFar_33 : decode b_md_findFar 33 = .ok (.bipush 25, 2) := by decide +kernel
theorem d_md_findFar_35 : decode b_md_findFar 35 = .ok (.if_icmp .ge 104, 3) := by decide +kernel
theorem d_md_findFar_38 : decode b_md_findFar 38 = .ok (.iconst 0, 1) := by decide +kernel
theorem d_md_findFar_39 : decode b_md_findFar 39 = .ok (.istore_n 3, 1) := by decide +kernel
theorem d_md_findFar_40 : decode b_md_findFar 40 = .ok (.iload_n 3, 1) := by decide +kernel
theorem d_md_findFar_41 : decode b_md_findFar 41 = .ok (.aload_n 0, 1) := by decide +kernel
theorem d_md_findFar_42 : decode b_md_findFar 42 = .ok (.invokevirtual 93, 3) := by decide +kernel
theorem d_md_findFar_45 : decode b_md_findFar 45 = .ok (.if_icmp .ge 88, 3) := by decide +kernel
theorem d_md_findFar_48 : decode b_md_findFar 48 = .ok (.iconst 0, 1) := by decide +kernel
theorem d_md_findFar_49 : decode b_md_findFar 49 = .ok (.istore 4, 2) := by decide +kernel
theorem d_md_findFar_51 : decode b_md_findFar 51 = .ok (.iload 4, 2) := by decide +kernel
theorem d_md_findFar_53 : decode b_md_findFar 53 = .ok (.aload_n 0, 1) := by decide +kernel
theorem d_md_findFar_54 : decode b_md_findFar 54 = .ok (.invokevirtual 93, 3) := by decide +kernel
theorem d_md_findFar_57 : decode b_md_findFar 57 = .ok (.if_icmp .ge 70, 3) := by decide +kernel
theorem d_md_findFar_60 : decode b_md_findFar 60 = .ok (.aload_n 0, 1) := by decide +kernel
theorem d_md_findFar_61 : decode b_md_findFar 61 = .ok (.getfield 76, 3) := by decide +kernel
theorem d_md_findFar_64 : decode b_md_findFar 64 = .ok (.iload_n 3, 1) := by decide +kernel
theorem d_md_findFar_65 : decode b_md_findFar 65 = .ok (.iaload, 1) := by decide +kernel
theorem d_md_findFar_66 : decode b_md_findFar 66 = .ok (.iload_n 2, 1) := by decide +kernel
theorem d_md_findFar_67 : decode b_md_findFar 67 = .ok (.if_icmp .ne 60, 3) := by decide +kernel
theorem d_md_findFar_70 : decode b_md_findFar 70 = .ok (.aload_n 0, 1) := by decide +kernel
theorem d_md_findFar_71 : decode b_md_findFar 71 = .ok (.getfield 76, 3) := by decide +kernel
theorem d_md_findFar_74 : decode b_md_findFar 74 = .ok (.iload 4, 2) := by decide +kernel
theorem d_md_findFar_76 : decode b_md_findFar 76 = .ok (.aload_n 0, 1) := by decide +kernel
theorem d_md_findFar_77 : decode b_md_findFar 77 = .ok (.getfield 76, 3) := by decide +kernel
theorem d_md_findFar_80 : decode b_md_findFar 80 = .ok (.iload 4, 2) := by decide +kernel
theorem d_md_findFar_82 : decode b_md_findFar 82 = .ok (.iaload, 1) := by decide +kernel
theorem d_md_findFar_83 : decode b_md_findFar 83 = .ok (.iconst (-1), 1) := by decide +kernel
theorem d_md_findFar_84 : decode b_md_findFar 84 = .ok (.if_icmp .ne 29, 3) := by decide +kernel
theorem d_md_findFar_87 : decode b_md_findFar 87 = .ok (.aload_n 0, 1) := by decide +kernel
theorem d_md_findFar_88 : decode b_md_findFar 88 = .ok (.getfield 16, 3) := by decide +kernel
theorem d_md_findFar_91 : decode b_md_findFar 91 = .ok (.iload 4, 2) := by decide +kernel
theorem d_md_findFar_93 : decode b_md_findFar 93 = .ok (.baload, 1) := by decide +kernel
theorem d_md_findFar_94 : decode b_md_findFar 94 = .ok (.ifCond .ne 19, 3) := by decide +kernel
theorem d_md_findFar_97 : decode b_md_findFar 97 = .ok (.aload_n 0, 1) := by decide +kernel
theorem d_md_findFar_98 : decode b_md_findFar 98 = .ok (.iload 4, 2) := by decide +kernel
theorem d_md_findFar_100 : decode b_md_findFar 100 = .ok (.iload_n 3, 1) := by decide +kernel
theorem d_md_findFar_101 : decode b_md_findFar 101 = .ok (.invokevirtual 107, 3) := by decide +kernel
theorem d_md_findFar_104 : decode b_md_findFar 104 = .ok (.ifCond .eq 9, 3) := by decide +kernel
theorem d_md_findFar_107 : decode b_md_findFar 107 = .ok (.iload_n 2, 1) := by decide +kernel
theorem d_md_findFar_108 : decode b_md_findFar 108 = .ok (.iconst 1, 1) := by decide +kernel
theorem d_md_findFar_109 : decode b_md_findFar 109 = .ok (.iadd, 1) := by decide +kernel
theorem d_md_findFar_110 : decode b_md_findFar 110 = .ok (.goto 10, 3) := by decide +kernel
theorem d_md_findFar_113 : decode b_md_findFar 113 = .ok (.aload_n 0, 1) := by decide +kernel
theorem d_md_findFar_114 : decode b_md_findFar 114 = .ok (.getfield 76, 3) := by decide +kernel
theorem d_md_findFar_117 : decode b_md_findFar 117 = .ok (.iload 4, 2) := by decide +kernel
theorem d_md_findFar_119 : decode b_md_findFar 119 = .ok (.iaload, 1) := by decide +kernel
theorem d_md_findFar_120 : decode b_md_findFar 120 = .ok (.iastore, 1) := by decide +kernel
theorem d_md_findFar_121 : decode b_md_findFar 121 = .ok (.iinc 4 1, 3) := by decide +kernel
theorem d_md_findFar_124 : decode b_md_findFar 124 = .ok (.goto (-73), 3) := by decide +kernel
theorem d_md_findFar_127 : decode b_md_findFar 127 = .ok (.iinc 3 1, 3) := by decide +kernel
theorem d_md_findFar_130 : decode b_md_findFar 130 = .ok (.goto (-90), 3) := by decide +kernel
theorem d_md_findFar_133 : decode b_md_findFar 133 = .ok (.iinc 2 1, 3) := by decide +kernel
theorem d_md_findFar_136 : decode b_md_findFar 136 = .ok (.goto (-104), 3) := by decide +kernel
theorem d_md_findFar_139 : decode b_md_findFar 139 = .ok (.return_, 1) := by decide +kernel
theorem d_md_number_0 : decode b_md_number 0 = .ok (.aload_n 0, 1) := by decide +kernel
theorem d_md_number_1 : decode b_md_number 1 = .ok (.iconst 0, 1) := by decide +kernel
theorem d_md_number_2 : decode b_md_number 2 = .ok (.putfield 120, 3) := by decide +kernel
theorem d_md_number_5 : decode b_md_number 5 = .ok (.iconst 0, 1) := by decide +kernel
theorem d_md_number_6 : decode b_md_number 6 = .ok (.istore_n 1, 1) := by decide +kernel
theorem d_md_number_7 : decode b_md_number 7 = .ok (.iload_n 1, 1) := by decide +kernel
theorem d_md_number_8 : decode b_md_number 8 = .ok (.aload_n 0, 1) := by decide +kernel
theorem d_md_number_9 : decode b_md_number 9 = .ok (.invokevirtual 93, 3) := by decide +kernel
theorem d_md_number_12 : decode b_md_number 12 = .ok (.if_icmp .ge 48, 3) := by decide +kernel
theorem d_md_number_15 : decode b_md_number 15 = .ok (.aload_n 0, 1) := by decide +kernel
theorem d_md_number_16 : decode b_md_number 16 = .ok (.getfield 16, 3) := by decide +kernel
theorem d_md_number_19 : decode b_md_number 19 = .ok (.iload_n 1, 1) := by decide +kernel
theorem d_md_number_20 : decode b_md_number 20 = .ok (.baload, 1) := by decide +kernel
theorem d_md_number_21 : decode b_md_number 21 = .ok (.ifCond .ne 33, 3) := by decide +kernel
theorem d_md_number_24 : decode b_md_number 24 = .ok (.aload_n 0, 1) := by decide +kernel
theorem d_md_number_25 : decode b_md_number 25 = .ok (.getfield 33, 3) := by decide +kernel
theorem d_md_number_28 : decode b_md_number 28 = .ok (.aload_n 0, 1) := by decide +kernel
theorem d_md_number_29 : decode b_md_number 29 = .ok (.getfield 120, 3) := by decide +kernel
theorem d_md_number_32 : decode b_md_number 32 = .ok (.iload_n 1, 1) := by decide +kernel
theorem d_md_number_33 : decode b_md_number 33 = .ok (.iastore, 1) := by decide +kernel
theorem d_md_number_34 : decode b_md_number 34 = .ok (.aload_n 0, 1) := by decide +kernel
theorem d_md_number_35 : decode b_md_number 35 = .ok (.getfield 36, 3) := by decide +kernel
theorem d_md_number_38 : decode b_md_number 38 = .ok (.iload_n 1, 1) := by decide +kernel
theorem d_md_number_39 : decode b_md_number 39 = .ok (.aload_n 0, 1) := by decide +kernel
theorem d_md_number_40 : decode b_md_number 40 = .ok (.getfield 120, 3) := by decide +kernel
theorem d_md_number_43 : decode b_md_number 43 = .ok (.iastore, 1) := by decide +kernel
theorem d_md_number_44 : decode b_md_number 44 = .ok (.aload_n 0, 1) := by decide +kernel
theorem d_md_number_45 : decode b_md_number 45 = .ok (.dup, 1) := by decide +kernel
theorem d_md_number_46 : decode b_md_number 46 = .ok (.getfield 120, 3) := by decide +kernel
theorem d_md_number_49 : decode b_md_number 49 = .ok (.iconst 1, 1) := by decide +kernel
theorem d_md_number_50 : decode b_md_number 50 = .ok (.iadd, 1) := by decide +kernel
theorem d_md_number_51 : decode b_md_number 51 = .ok (.putfield 120, 3) := by decide +kernel
theorem d_md_number_54 : decode b_md_number 54 = .ok (.iinc 1 1, 3) := by decide +kernel
theorem d_md_number_57 : decode b_md_number 57 = .ok (.goto (-50), 3) := by decide +kernel
theorem d_md_number_60 : decode b_md_number 60 = .ok (.iconst 0, 1) := by decide +kernel
theorem d_md_number_61 : decode b_md_number 61 = .ok (.istore_n 1, 1) := by decide +kernel
theorem d_md_number_62 : decode b_md_number 62 = .ok (.iload_n 1, 1) := by decide +kernel
theorem d_md_number_63 : decode b_md_number 63 = .ok (.aload_n 0, 1) := by decide +kernel
theorem d_md_number_64 : decode b_md_number 64 = .ok (.getfield 120, 3) := by decide +kernel
theorem d_md_number_67 : decode b_md_number 67 = .ok (.if_icmp .ge 82, 3) := by decide +kernel
theorem d_md_number_70 : decode b_md_number 70 = .ok (.aload_n 0, 1) := by decide +kernel
theorem d_md_number_71 : decode b_md_number 71 = .ok (.getfield 42, 3) := by decide +kernel
theorem d_md_number_74 : decode b_md_number 74 = .ok (.iload_n 1, 1) := by decide +kernel
theorem d_md_number_75 : decode b_md_number 75 = .ok (.iconst 0, 1) := by decide +kernel
theorem d_md_number_76 : decode b_md_number 76 = .ok (.iastore, 1) := by decide +kernel
theorem d_md_number_77 : decode b_md_number 77 = .ok (.iconst 0, 1) := by decide +kernel
theorem d_md_number_78 : decode b_md_number 78 = .ok (.istore_n 2, 1) := by decide +kernel
theorem d_md_number_79 : decode b_md_number 79 = .ok (.iload_n 2, 1) := by decide +kernel
theorem d_md_number_80 : decode b_md_number 80 = .ok (.aload_n 0, 1) := by decide +kernel
theorem d_md_number_81 : decode b_md_number 81 = .ok (.getfield 120, 3) := by decide +kernel
theorem d_md_number_84 : decode b_md_number 84 = .ok (.if_icmp .ge 59, 3) := by decide +kernel
theorem d_md_number_87 : decode b_md_number 87 = .ok (.iload_n 2, 1) := by decide +kernel
theorem d_md_number_88 : decode b_md_number 88 = .ok (.iload_n 1, 1) := by decide +kernel
theorem d_md_number_89 : decode b_md_number 89 = .ok (.if_icmp .eq 22, 3) := by decide +kernel
theorem d_md_number_92 : decode b_md_number 92 = .ok (.aload_n 0, 1) := by decide +kernel
theorem d_md_number_93 : decode b_md_number 93 = .ok (.aload_n 0, 1) := by decide +kernel
theorem d_md_number_94 : decode b_md_number 94 = .ok (.getfield 33, 3) := by decide +kernel
theorem d_md_number_97 : decode b_md_number 97 = .ok (.iload_n 2, 1) := by decide +kernel
theorem d_md_number_98 : decode b_md_number 98 = .ok (.iaload, 1) := by decide +kernel
theorem d_md_number_99 : decode b_md_number 99 = .ok (.aload_n 0, 1) := by decide +kernel
theorem d_md_number_100 : decode b_md_number 100 = .ok (.getfield 33, 3) := by decide +kernel
theorem d_md_number_103 : decode b_md_number 103 = .ok (.iload_n 1, 1) := by decide +kernel
theorem d_md_number_104 : decode b_md_number 104 = .ok (.iaload, 1) := by decide +kernel
theorem d_md_number_105 : decode b_md_number 105 = .ok (.invokevirtual 107, 3) := by decide +kernel
theorem d_md_number_108 : decode b_md_number 108 = .ok (.ifCond .eq 29, 3) := by decide +kernel
theorem d_md_number_111 : decode b_md_number 111 = .ok (.aload_n 0, 1) := by decide +kernel
theorem d_md_number_112 : decode b_md_number 112 = .ok (.getfield 39, 3) := by decide +kernel
theorem d_md_number_115 : decode b_md_number 115 = .ok (.iconst 5, 1) := by decide +kernel
theorem d_md_number_116 : decode b_md_number 116 = .ok (.iload_n 1, 1) := by decide +kernel
theorem d_md_number_117 : decode b_md_number 117 = .ok (.imul, 1) := by decide +kernel
theorem d_md_number_118 : decode b_md_number 118 = .ok (.aload_n 0, 1) := by decide +kernel
theorem d_md_number_119 : decode b_md_number 119 = .ok (.getfield 42, 3) := by decide +kernel
theorem d_md_number_122 : decode b_md_number 122 = .ok (.iload_n 1, 1) := by decide +kernel
theorem d_md_number_123 : decode b_md_number 123 = .ok (.iaload, 1) := by decide +kernel
theorem d_md_number_124 : decode b_md_number 124 = .ok (.iadd, 1) := by decide +kernel
theorem d_md_number_125 : decode b_md_number 125 = .ok (.iload_n 2, 1) := by decide +kernel
theorem d_md_number_126 : decode b_md_number 126 = .ok (.iastore, 1) := by decide +kernel
theorem d_md_number_127 : decode b_md_number 127 = .ok (.aload_n 0, 1) := by decide +kernel
theorem d_md_number_128 : decode b_md_number 128 = .ok (.getfield 42, 3) := by decide +kernel
theorem d_md_number_131 : decode b_md_number 131 = .ok (.iload_n 1, 1) := by decide +kernel
theorem d_md_number_132 : decode b_md_number 132 = .ok (.dup2, 1) := by decide +kernel
theorem d_md_number_133 : decode b_md_number 133 = .ok (.iaload, 1) := by decide +kernel
theorem d_md_number_134 : decode b_md_number 134 = .ok (.iconst 1, 1) := by decide +kernel
theorem d_md_number_135 : decode b_md_number 135 = .ok (.iadd, 1) := by decide +kernel
theorem d_md_number_136 : decode b_md_number 136 = .ok (.iastore, 1) := by decide +kernel
theorem d_md_number_137 : decode b_md_number 137 = .ok (.iinc 2 1, 3) := by decide +kernel
theorem d_md_number_140 : decode b_md_number 140 = .ok (.goto (-61), 3) := by decide +kernel
theorem d_md_number_143 : decode b_md_number 143 = .ok (.iinc 1 1, 3) := by decide +kernel
theorem d_md_number_146 : decode b_md_number 146 = .ok (.goto (-84), 3) := by decide +kernel
theorem d_md_number_149 : decode b_md_number 149 = .ok (.return_, 1) := by decide +kernel
theorem d_md_placesOf_0 : decode b_md_placesOf 0 = .ok (.iconst 0, 1) := by decide +kernel
theorem d_md_placesOf_1 : decode b_md_placesOf 1 = .ok (.istore_n 2, 1) := by decide +kernel
theorem d_md_placesOf_2 : decode b_md_placesOf 2 = .ok (.aload_n 0, 1) := by decide +kernel
theorem d_md_placesOf_3 : decode b_md_placesOf 3 = .ok (.getfield 86, 3) := by decide +kernel
theorem d_md_placesOf_6 : decode b_md_placesOf 6 = .ok (.iconst 1, 1) := by decide +kernel
theorem d_md_placesOf_7 : decode b_md_placesOf 7 = .ok (.isub, 1) := by decide +kernel
theorem d_md_placesOf_8 : decode b_md_placesOf 8 = .ok (.istore_n 3, 1) := by decide +kernel
theorem d_md_placesOf_9 : decode b_md_placesOf 9 = .ok (.iload_n 3, 1) := by decide +kernel
theorem d_md_placesOf_10 : decode b_md_placesOf 10 = .ok (.ifCond .lt 20, 3) := by decide +kernel
theorem d_md_placesOf_13 : decode b_md_placesOf 13 = .ok (.iload_n 2, 1) := by decide +kernel
theorem d_md_placesOf_14 : decode b_md_placesOf 14 = .ok (.aload_n 0, 1) := by decide +kernel
theorem d_md_placesOf_15 : decode b_md_placesOf 15 = .ok (.getfield 120, 3) := by decide +kernel
theorem d_md_placesOf_18 : decode b_md_placesOf 18 = .ok (.imul, 1) := by decide +kernel
theorem d_md_placesOf_19 : decode b_md_placesOf 19 = .ok (.aload_n 1, 1) := by decide +kernel
theorem d_md_placesOf_20 : decode b_md_placesOf 20 = .ok (.iload_n 3, 1) := by decide +kernel
theorem d_md_placesOf_21 : decode b_md_placesOf 21 = .ok (.iaload, 1) := by decide +kernel
theorem d_md_placesOf_22 : decode b_md_placesOf 22 = .ok (.iadd, 1) := by decide +kernel
theorem d_md_placesOf_23 : decode b_md_placesOf 23 = .ok (.istore_n 2, 1) := by decide +kernel
theorem d_md_placesOf_24 : decode b_md_placesOf 24 = .ok (.iinc 3 (-1), 3) := by decide +kernel
theorem d_md_placesOf_27 : decode b_md_placesOf 27 = .ok (.goto (-18), 3) := by decide +kernel
theorem d_md_placesOf_30 : decode b_md_placesOf 30 = .ok (.iload_n 2, 1) := by decide +kernel
theorem d_md_placesOf_31 : decode b_md_placesOf 31 = .ok (.ireturn, 1) := by decide +kernel
theorem d_md_open_0 : decode b_md_open 0 = .ok (.iload_n 1, 1) := by decide +kernel
theorem d_md_open_1 : decode b_md_open 1 = .ok (.aload_n 0, 1) := by decide +kernel
theorem d_md_open_2 : decode b_md_open 2 = .ok (.getfield 86, 3) := by decide +kernel
theorem d_md_open_5 : decode b_md_open 5 = .ok (.ishr, 1) := by decide +kernel
theorem d_md_open_6 : decode b_md_open 6 = .ok (.istore_n 2, 1) := by decide +kernel
theorem d_md_open_7 : decode b_md_open 7 = .ok (.iconst 0, 1) := by decide +kernel
theorem d_md_open_8 : decode b_md_open 8 = .ok (.istore_n 3, 1) := by decide +kernel
theorem d_md_open_9 : decode b_md_open 9 = .ok (.iload_n 3, 1) := by decide +kernel
theorem d_md_open_10 : decode b_md_open 10 = .ok (.aload_n 0, 1) := by decide +kernel
theorem d_md_open_11 : decode b_md_open 11 = .ok (.getfield 86, 3) := by decide +kernel
theorem d_md_open_14 : decode b_md_open 14 = .ok (.if_icmp .ge 28, 3) := by decide +kernel
theorem d_md_open_17 : decode b_md_open 17 = .ok (.aload_n 0, 1) := by decide +kernel
theorem d_md_open_18 : decode b_md_open 18 = .ok (.getfield 55, 3) := by decide +kernel
theorem d_md_open_21 : decode b_md_open 21 = .ok (.iload_n 3, 1) := by decide +kernel
theorem d_md_open_22 : decode b_md_open 22 = .ok (.iload_n 2, 1) := by decide +kernel
theorem d_md_open_23 : decode b_md_open 23 = .ok (.aload_n 0, 1) := by decide +kernel
theorem d_md_open_24 : decode b_md_open 24 = .ok (.getfield 120, 3) := by decide +kernel
theorem d_md_open_27 : decode b_md_open 27 = .ok (.irem, 1) := by decide +kernel
theorem d_md_open_28 : decode b_md_open 28 = .ok (.iastore, 1) := by decide +kernel
theorem d_md_open_29 : decode b_md_open 29 = .ok (.iload_n 2, 1) := by decide +kernel
theorem d_md_open_30 : decode b_md_open 30 = .ok (.aload_n 0, 1) := by decide +kernel
theorem d_md_open_31 : decode b_md_open 31 = .ok (.getfield 120, 3) := by decide +kernel
theorem d_md_open_34 : decode b_md_open 34 = .ok (.idiv, 1) := by decide +kernel
theorem d_md_open_35 : decode b_md_open 35 = .ok (.istore_n 2, 1) := by decide +kernel
theorem d_md_open_36 : decode b_md_open 36 = .ok (.iinc 3 1, 3) := by decide +kernel
theorem d_md_open_39 : decode b_md_open 39 = .ok (.goto (-30), 3) := by decide +kernel
theorem d_md_open_42 : decode b_md_open 42 = .ok (.return_, 1) := by decide +kernel
theorem d_md_rests_0 : decode b_md_rests 0 = .ok (.iload_n 0, 1) := by decide +kernel
theorem d_md_rests_1 : decode b_md_rests 1 = .ok (.iload_n 1, 1) := by decide +kernel
theorem d_md_rests_2 : decode b_md_rests 2 = .ok (.ishr, 1) := by decide +kernel
theorem d_md_rests_3 : decode b_md_rests 3 = .ok (.iconst 1, 1) := by decide +kernel
theorem d_md_rests_4 : decode b_md_rests 4 = .ok (.iand, 1) := by decide +kernel
theorem d_md_rests_5 : decode b_md_rests 5 = .ok (.iconst 1, 1) := by decide +kernel
theorem d_md_rests_6 : decode b_md_rests 6 = .ok (.if_icmp .ne 7, 3) := by decide +kernel
theorem d_md_rests_9 : decode b_md_rests 9 = .ok (.iconst 1, 1) := by decide +kernel
theorem d_md_rests_10 : decode b_md_rests 10 = .ok (.goto 4, 3) := by decide +kernel
theorem d_md_rests_13 : decode b_md_rests 13 = .ok (.iconst 0, 1) := by decide +kernel
theorem d_md_rests_14 : decode b_md_rests 14 = .ok (.ireturn, 1) := by decide +kernel
theorem d_md_firstChoice_0 : decode b_md_firstChoice 0 = .ok (.iconst 0, 1) := by decide +kernel
theorem d_md_firstChoice_1 : decode b_md_firstChoice 1 = .ok (.istore_n 1, 1) := by decide +kernel
theorem d_md_firstChoice_2 : decode b_md_firstChoice 2 = .ok (.iload_n 1, 1) := by decide +kernel
theorem d_md_firstChoice_3 : decode b_md_firstChoice 3 = .ok (.aload_n 0, 1) := by decide +kernel
theorem d_md_firstChoice_4 : decode b_md_firstChoice 4 = .ok (.getfield 86, 3) := by decide +kernel
theorem d_md_firstChoice_7 : decode b_md_firstChoice 7 = .ok (.if_icmp .ge 16, 3) := by decide +kernel
theorem d_md_firstChoice_10 : decode b_md_firstChoice 10 = .ok (.aload_n 0, 1) := by decide +kernel
theorem d_md_firstChoice_11 : decode b_md_firstChoice 11 = .ok (.getfield 61, 3) := by decide +kernel
theorem d_md_firstChoice_14 : decode b_md_firstChoice 14 = .ok (.iload_n 1, 1) := by decide +kernel
theorem d_md_firstChoice_15 : decode b_md_firstChoice 15 = .ok (.iconst 0, 1) := by decide +kernel
theorem d_md_firstChoice_16 : decode b_md_firstChoice 16 = .ok (.iastore, 1) := by decide +kernel
theorem d_md_firstChoice_17 : decode b_md_firstChoice 17 = .ok (.iinc 1 1, 3) := by decide +kernel
theorem d_md_firstChoice_20 : decode b_md_firstChoice 20 = .ok (.goto (-18), 3) := by decide +kernel
theorem d_md_firstChoice_23 : decode b_md_firstChoice 23 = .ok (.return_, 1) := by decide +kernel
theorem d_md_choices_0 : decode b_md_choices 0 = .ok (.iload_n 1, 1) := by decide +kernel
theorem d_md_choices_1 : decode b_md_choices 1 = .ok (.iload_n 2, 1) := by decide +kernel
theorem d_md_choices_2 : decode b_md_choices 2 = .ok (.invokestatic 123, 3) := by decide +kernel
theorem d_md_choices_5 : decode b_md_choices 5 = .ok (.ifCond .eq 7, 3) := by decide +kernel
theorem d_md_choices_8 : decode b_md_choices 8 = .ok (.iconst 1, 1) := by decide +kernel
end
section
theorem d_md_choices_9 : decode b_md_choices 9 = .ok (.goto 14, 3) := by decide +kernel
theorem d_md_choices_12 : decode b_md_choices 12 = .ok (.aload_n 0, 1) := by decide +kernel
theorem d_md_choices_13 : decode b_md_choices 13 = .ok (.getfield 42, 3) := by decide +kernel
theorem d_md_choices_16 : decode b_md_choices 16 = .ok (.aload_n 0, 1) := by decide +kernel
theorem d_md_choices_17 : decode b_md_choices 17 = .ok (.getfield 55, 3) := by decide +kernel
theorem d_md_choices_20 : decode b_md_choices 20 = .ok (.iload_n 2, 1) := by decide +kernel
theorem d_md_choices_21 : decode b_md_choices 21 = .ok (.iaload, 1) := by decide +kernel
theorem d_md_choices_22 : decode b_md_choices 22 = .ok (.iaload, 1) := by decide +kernel
theorem d_md_choices_23 : decode b_md_choices 23 = .ok (.ireturn, 1) := by decide +kernel
theorem d_md_choose_0 : decode b_md_choose 0 = .ok (.iconst 0, 1) := by decide +kernel
theorem d_md_choose_1 : decode b_md_choose 1 = .ok (.istore_n 2, 1) := by decide +kernel
theorem d_md_choose_2 : decode b_md_choose 2 = .ok (.iload_n 2, 1) := by decide +kernel
theorem d_md_choose_3 : decode b_md_choose 3 = .ok (.aload_n 0, 1) := by decide +kernel
theorem d_md_choose_4 : decode b_md_choose 4 = .ok (.getfield 86, 3) := by decide +kernel
theorem d_md_choose_7 : decode b_md_choose 7 = .ok (.if_icmp .ge 52, 3) := by decide +kernel
theorem d_md_choose_10 : decode b_md_choose 10 = .ok (.aload_n 0, 1) := by decide +kernel
theorem d_md_choose_11 : decode b_md_choose 11 = .ok (.getfield 58, 3) := by decide +kernel
theorem d_md_choose_14 : decode b_md_choose 14 = .ok (.iload_n 2, 1) := by decide +kernel
theorem d_md_choose_15 : decode b_md_choose 15 = .ok (.iload_n 1, 1) := by decide +kernel
theorem d_md_choose_16 : decode b_md_choose 16 = .ok (.iload_n 2, 1) := by decide +kernel
theorem d_md_choose_17 : decode b_md_choose 17 = .ok (.invokestatic 123, 3) := by decide +kernel
theorem d_md_choose_20 : decode b_md_choose 20 = .ok (.ifCond .eq 12, 3) := by decide +kernel
theorem d_md_choose_23 : decode b_md_choose 23 = .ok (.aload_n 0, 1) := by decide +kernel
theorem d_md_choose_24 : decode b_md_choose 24 = .ok (.getfield 55, 3) := by decide +kernel
theorem d_md_choose_27 : decode b_md_choose 27 = .ok (.iload_n 2, 1) := by decide +kernel
theorem d_md_choose_28 : decode b_md_choose 28 = .ok (.iaload, 1) := by decide +kernel
theorem d_md_choose_29 : decode b_md_choose 29 = .ok (.goto 23, 3) := by decide +kernel
theorem d_md_choose_32 : decode b_md_choose 32 = .ok (.aload_n 0, 1) := by decide +kernel
theorem d_md_choose_33 : decode b_md_choose 33 = .ok (.getfield 39, 3) := by decide +kernel
theorem d_md_choose_36 : decode b_md_choose 36 = .ok (.iconst 5, 1) := by decide +kernel
theorem d_md_choose_37 : decode b_md_choose 37 = .ok (.aload_n 0, 1) := by decide +kernel
theorem d_md_choose_38 : decode b_md_choose 38 = .ok (.getfield 55, 3) := by decide +kernel
theorem d_md_choose_41 : decode b_md_choose 41 = .ok (.iload_n 2, 1) := by decide +kernel
theorem d_md_choose_42 : decode b_md_choose 42 = .ok (.iaload, 1) := by decide +kernel
theorem d_md_choose_43 : decode b_md_choose 43 = .ok (.imul, 1) := by decide +kernel
theorem d_md_choose_44 : decode b_md_choose 44 = .ok (.aload_n 0, 1) := by decide +kernel
theorem d_md_choose_45 : decode b_md_choose 45 = .ok (.getfield 61, 3) := by decide +kernel
theorem d_md_choose_48 : decode b_md_choose 48 = .ok (.iload_n 2, 1) := by decide +kernel
theorem d_md_choose_49 : decode b_md_choose 49 = .ok (.iaload, 1) := by decide +kernel
theorem d_md_choose_50 : decode b_md_choose 50 = .ok (.iadd, 1) := by decide +kernel
theorem d_md_choose_51 : decode b_md_choose 51 = .ok (.iaload, 1) := by decide +kernel
theorem d_md_choose_52 : decode b_md_choose 52 = .ok (.iastore, 1) := by decide +kernel
theorem d_md_choose_53 : decode b_md_choose 53 = .ok (.iinc 2 1, 3) := by decide +kernel
theorem d_md_choose_56 : decode b_md_choose 56 = .ok (.goto (-54), 3) := by decide +kernel
theorem d_md_choose_59 : decode b_md_choose 59 = .ok (.return_, 1) := by decide +kernel
theorem d_md_nextChoice_0 : decode b_md_nextChoice 0 = .ok (.aload_n 0, 1) := by decide +kernel
theorem d_md_nextChoice_1 : decode b_md_nextChoice 1 = .ok (.getfield 86, 3) := by decide +kernel
theorem d_md_nextChoice_4 : decode b_md_nextChoice 4 = .ok (.iconst 1, 1) := by decide +kernel
theorem d_md_nextChoice_5 : decode b_md_nextChoice 5 = .ok (.isub, 1) := by decide +kernel
theorem d_md_nextChoice_6 : decode b_md_nextChoice 6 = .ok (.istore_n 2, 1) := by decide +kernel
theorem d_md_nextChoice_7 : decode b_md_nextChoice 7 = .ok (.iload_n 2, 1) := by decide +kernel
theorem d_md_nextChoice_8 : decode b_md_nextChoice 8 = .ok (.ifCond .lt 33, 3) := by decide +kernel
theorem d_md_nextChoice_11 : decode b_md_nextChoice 11 = .ok (.aload_n 0, 1) := by decide +kernel
theorem d_md_nextChoice_12 : decode b_md_nextChoice 12 = .ok (.getfield 61, 3) := by decide +kernel
theorem d_md_nextChoice_15 : decode b_md_nextChoice 15 = .ok (.iload_n 2, 1) := by decide +kernel
theorem d_md_nextChoice_16 : decode b_md_nextChoice 16 = .ok (.iaload, 1) := by decide +kernel
theorem d_md_nextChoice_17 : decode b_md_nextChoice 17 = .ok (.iconst 1, 1) := by decide +kernel
theorem d_md_nextChoice_18 : decode b_md_nextChoice 18 = .ok (.iadd, 1) := by decide +kernel
theorem d_md_nextChoice_19 : decode b_md_nextChoice 19 = .ok (.aload_n 0, 1) := by decide +kernel
theorem d_md_nextChoice_20 : decode b_md_nextChoice 20 = .ok (.iload_n 1, 1) := by decide +kernel
theorem d_md_nextChoice_21 : decode b_md_nextChoice 21 = .ok (.iload_n 2, 1) := by decide +kernel
theorem d_md_nextChoice_22 : decode b_md_nextChoice 22 = .ok (.invokevirtual 126, 3) := by decide +kernel
theorem d_md_nextChoice_25 : decode b_md_nextChoice 25 = .ok (.if_icmp .ne 16, 3) := by decide +kernel
theorem d_md_nextChoice_28 : decode b_md_nextChoice 28 = .ok (.aload_n 0, 1) := by decide +kernel
theorem d_md_nextChoice_29 : decode b_md_nextChoice 29 = .ok (.getfield 61, 3) := by decide +kernel
theorem d_md_nextChoice_32 : decode b_md_nextChoice 32 = .ok (.iload_n 2, 1) := by decide +kernel
theorem d_md_nextChoice_33 : decode b_md_nextChoice 33 = .ok (.iconst 0, 1) := by decide +kernel
theorem d_md_nextChoice_34 : decode b_md_nextChoice 34 = .ok (.iastore, 1) := by decide +kernel
theorem d_md_nextChoice_35 : decode b_md_nextChoice 35 = .ok (.iinc 2 (-1), 3) := by decide +kernel
theorem d_md_nextChoice_38 : decode b_md_nextChoice 38 = .ok (.goto (-31), 3) := by decide +kernel
theorem d_md_nextChoice_41 : decode b_md_nextChoice 41 = .ok (.iload_n 2, 1) := by decide +kernel
theorem d_md_nextChoice_42 : decode b_md_nextChoice 42 = .ok (.ifCond .ge 5, 3) := by decide +kernel
theorem d_md_nextChoice_45 : decode b_md_nextChoice 45 = .ok (.iconst 0, 1) := by decide +kernel
theorem d_md_nextChoice_46 : decode b_md_nextChoice 46 = .ok (.ireturn, 1) := by decide +kernel
theorem d_md_nextChoice_47 : decode b_md_nextChoice 47 = .ok (.aload_n 0, 1) := by decide +kernel
theorem d_md_nextChoice_48 : decode b_md_nextChoice 48 = .ok (.getfield 61, 3) := by decide +kernel
theorem d_md_nextChoice_51 : decode b_md_nextChoice 51 = .ok (.iload_n 2, 1) := by decide +kernel
theorem d_md_nextChoice_52 : decode b_md_nextChoice 52 = .ok (.dup2, 1) := by decide +kernel
theorem d_md_nextChoice_53 : decode b_md_nextChoice 53 = .ok (.iaload, 1) := by decide +kernel
theorem d_md_nextChoice_54 : decode b_md_nextChoice 54 = .ok (.iconst 1, 1) := by decide +kernel
theorem d_md_nextChoice_55 : decode b_md_nextChoice 55 = .ok (.iadd, 1) := by decide +kernel
theorem d_md_nextChoice_56 : decode b_md_nextChoice 56 = .ok (.iastore, 1) := by decide +kernel
theorem d_md_nextChoice_57 : decode b_md_nextChoice 57 = .ok (.iconst 1, 1) := by decide +kernel
theorem d_md_nextChoice_58 : decode b_md_nextChoice 58 = .ok (.ireturn, 1) := by decide +kernel
theorem d_md_meet_0 : decode b_md_meet 0 = .ok (.iconst 0, 1) := by decide +kernel
theorem d_md_meet_1 : decode b_md_meet 1 = .ok (.istore_n 1, 1) := by decide +kernel
theorem d_md_meet_2 : decode b_md_meet 2 = .ok (.iconst 0, 1) := by decide +kernel
theorem d_md_meet_3 : decode b_md_meet 3 = .ok (.istore_n 2, 1) := by decide +kernel
theorem d_md_meet_4 : decode b_md_meet 4 = .ok (.iload_n 2, 1) := by decide +kernel
theorem d_md_meet_5 : decode b_md_meet 5 = .ok (.aload_n 0, 1) := by decide +kernel
theorem d_md_meet_6 : decode b_md_meet 6 = .ok (.getfield 86, 3) := by decide +kernel
theorem d_md_meet_9 : decode b_md_meet 9 = .ok (.if_icmp .ge 77, 3) := by decide +kernel
theorem d_md_meet_12 : decode b_md_meet 12 = .ok (.iconst 0, 1) := by decide +kernel
theorem d_md_meet_13 : decode b_md_meet 13 = .ok (.istore_n 3, 1) := by decide +kernel
theorem d_md_meet_14 : decode b_md_meet 14 = .ok (.iload_n 3, 1) := by decide +kernel
theorem d_md_meet_15 : decode b_md_meet 15 = .ok (.iload_n 2, 1) := by decide +kernel
theorem d_md_meet_16 : decode b_md_meet 16 = .ok (.if_icmp .ge 64, 3) := by decide +kernel
theorem d_md_meet_19 : decode b_md_meet 19 = .ok (.iload_n 1, 1) := by decide +kernel
theorem d_md_meet_20 : decode b_md_meet 20 = .ok (.ifCond .ne 48, 3) := by decide +kernel
theorem d_md_meet_23 : decode b_md_meet 23 = .ok (.aload_n 0, 1) := by decide +kernel
theorem d_md_meet_24 : decode b_md_meet 24 = .ok (.getfield 58, 3) := by decide +kernel
theorem d_md_meet_27 : decode b_md_meet 27 = .ok (.iload_n 2, 1) := by decide +kernel
theorem d_md_meet_28 : decode b_md_meet 28 = .ok (.iaload, 1) := by decide +kernel
theorem d_md_meet_29 : decode b_md_meet 29 = .ok (.aload_n 0, 1) := by decide +kernel
theorem d_md_meet_30 : decode b_md_meet 30 = .ok (.getfield 58, 3) := by decide +kernel
theorem d_md_meet_33 : decode b_md_meet 33 = .ok (.iload_n 3, 1) := by decide +kernel
theorem d_md_meet_34 : decode b_md_meet 34 = .ok (.iaload, 1) := by decide +kernel
theorem d_md_meet_35 : decode b_md_meet 35 = .ok (.if_icmp .eq 33, 3) := by decide +kernel
theorem d_md_meet_38 : decode b_md_meet 38 = .ok (.aload_n 0, 1) := by decide +kernel
theorem d_md_meet_39 : decode b_md_meet 39 = .ok (.getfield 58, 3) := by decide +kernel
theorem d_md_meet_42 : decode b_md_meet 42 = .ok (.iload_n 2, 1) := by decide +kernel
theorem d_md_meet_43 : decode b_md_meet 43 = .ok (.iaload, 1) := by decide +kernel
theorem d_md_meet_44 : decode b_md_meet 44 = .ok (.aload_n 0, 1) := by decide +kernel
theorem d_md_meet_45 : decode b_md_meet 45 = .ok (.getfield 55, 3) := by decide +kernel
theorem d_md_meet_48 : decode b_md_meet 48 = .ok (.iload_n 3, 1) := by decide +kernel
theorem d_md_meet_49 : decode b_md_meet 49 = .ok (.iaload, 1) := by decide +kernel
theorem d_md_meet_50 : decode b_md_meet 50 = .ok (.if_icmp .ne 22, 3) := by decide +kernel
theorem d_md_meet_53 : decode b_md_meet 53 = .ok (.aload_n 0, 1) := by decide +kernel
theorem d_md_meet_54 : decode b_md_meet 54 = .ok (.getfield 58, 3) := by decide +kernel
theorem d_md_meet_57 : decode b_md_meet 57 = .ok (.iload_n 3, 1) := by decide +kernel
theorem d_md_meet_58 : decode b_md_meet 58 = .ok (.iaload, 1) := by decide +kernel
theorem d_md_meet_59 : decode b_md_meet 59 = .ok (.aload_n 0, 1) := by decide +kernel
theorem d_md_meet_60 : decode b_md_meet 60 = .ok (.getfield 55, 3) := by decide +kernel
theorem d_md_meet_63 : decode b_md_meet 63 = .ok (.iload_n 2, 1) := by decide +kernel
theorem d_md_meet_64 : decode b_md_meet 64 = .ok (.iaload, 1) := by decide +kernel
theorem d_md_meet_65 : decode b_md_meet 65 = .ok (.if_icmp .ne 7, 3) := by decide +kernel
theorem d_md_meet_68 : decode b_md_meet 68 = .ok (.iconst 1, 1) := by decide +kernel
theorem d_md_meet_69 : decode b_md_meet 69 = .ok (.goto 4, 3) := by decide +kernel
theorem d_md_meet_72 : decode b_md_meet 72 = .ok (.iconst 0, 1) := by decide +kernel
theorem d_md_meet_73 : decode b_md_meet 73 = .ok (.istore_n 1, 1) := by decide +kernel
theorem d_md_meet_74 : decode b_md_meet 74 = .ok (.iinc 3 1, 3) := by decide +kernel
theorem d_md_meet_77 : decode b_md_meet 77 = .ok (.goto (-63), 3) := by decide +kernel
theorem d_md_meet_80 : decode b_md_meet 80 = .ok (.iinc 2 1, 3) := by decide +kernel
theorem d_md_meet_83 : decode b_md_meet 83 = .ok (.goto (-79), 3) := by decide +kernel
theorem d_md_meet_86 : decode b_md_meet 86 = .ok (.iload_n 1, 1) := by decide +kernel
theorem d_md_meet_87 : decode b_md_meet 87 = .ok (.ireturn, 1) := by decide +kernel
theorem d_md_bits_0 : decode b_md_bits 0 = .ok (.iload_n 0, 1) := by decide +kernel
theorem d_md_bits_1 : decode b_md_bits 1 = .ok (.iload_n 0, 1) := by decide +kernel
theorem d_md_bits_2 : decode b_md_bits 2 = .ok (.iconst 1, 1) := by decide +kernel
theorem d_md_bits_3 : decode b_md_bits 3 = .ok (.ishr, 1) := by decide +kernel
theorem d_md_bits_4 : decode b_md_bits 4 = .ok (.sipush 21845, 3) := by decide +kernel
theorem d_md_bits_7 : decode b_md_bits 7 = .ok (.iand, 1) := by decide +kernel
theorem d_md_bits_8 : decode b_md_bits 8 = .ok (.isub, 1) := by decide +kernel
theorem d_md_bits_9 : decode b_md_bits 9 = .ok (.istore_n 1, 1) := by decide +kernel
theorem d_md_bits_10 : decode b_md_bits 10 = .ok (.iload_n 1, 1) := by decide +kernel
theorem d_md_bits_11 : decode b_md_bits 11 = .ok (.sipush 13107, 3) := by decide +kernel
theorem d_md_bits_14 : decode b_md_bits 14 = .ok (.iand, 1) := by decide +kernel
theorem d_md_bits_15 : decode b_md_bits 15 = .ok (.iload_n 1, 1) := by decide +kernel
theorem d_md_bits_16 : decode b_md_bits 16 = .ok (.iconst 2, 1) := by decide +kernel
theorem d_md_bits_17 : decode b_md_bits 17 = .ok (.ishr, 1) := by decide +kernel
theorem d_md_bits_18 : decode b_md_bits 18 = .ok (.sipush 13107, 3) := by decide +kernel
theorem d_md_bits_21 : decode b_md_bits 21 = .ok (.iand, 1) := by decide +kernel
theorem d_md_bits_22 : decode b_md_bits 22 = .ok (.iadd, 1) := by decide +kernel
theorem d_md_bits_23 : decode b_md_bits 23 = .ok (.istore_n 1, 1) := by decide +kernel
theorem d_md_bits_24 : decode b_md_bits 24 = .ok (.iload_n 1, 1) := by decide +kernel
theorem d_md_bits_25 : decode b_md_bits 25 = .ok (.iload_n 1, 1) := by decide +kernel
theorem d_md_bits_26 : decode b_md_bits 26 = .ok (.iconst 4, 1) := by decide +kernel
theorem d_md_bits_27 : decode b_md_bits 27 = .ok (.ishr, 1) := by decide +kernel
theorem d_md_bits_28 : decode b_md_bits 28 = .ok (.iadd, 1) := by decide +kernel
theorem d_md_bits_29 : decode b_md_bits 29 = .ok (.sipush 3855, 3) := by decide +kernel
theorem d_md_bits_32 : decode b_md_bits 32 = .ok (.iand, 1) := by decide +kernel
theorem d_md_bits_33 : decode b_md_bits 33 = .ok (.istore_n 1, 1) := by decide +kernel
theorem d_md_bits_34 : decode b_md_bits 34 = .ok (.iload_n 1, 1) := by decide +kernel
theorem d_md_bits_35 : decode b_md_bits 35 = .ok (.iload_n 1, 1) := by decide +kernel
theorem d_md_bits_36 : decode b_md_bits 36 = .ok (.bipush 8, 2) := by decide +kernel
theorem d_md_bits_38 : decode b_md_bits 38 = .ok (.ishr, 1) := by decide +kernel
theorem d_md_bits_39 : decode b_md_bits 39 = .ok (.iadd, 1) := by decide +kernel
theorem d_md_bits_40 : decode b_md_bits 40 = .ok (.bipush 31, 2) := by decide +kernel
theorem d_md_bits_42 : decode b_md_bits 42 = .ok (.iand, 1) := by decide +kernel
theorem d_md_bits_43 : decode b_md_bits 43 = .ok (.ireturn, 1) := by decide +kernel
theorem d_md_lower_0 : decode b_md_lower 0 = .ok (.aload_n 0, 1) := by decide +kernel
theorem d_md_lower_1 : decode b_md_lower 1 = .ok (.getfield 49, 3) := by decide +kernel
theorem d_md_lower_4 : decode b_md_lower 4 = .ok (.iload_n 1, 1) := by decide +kernel
theorem d_md_lower_5 : decode b_md_lower 5 = .ok (.baload, 1) := by decide +kernel
theorem d_md_lower_6 : decode b_md_lower 6 = .ok (.ifCond .ne 45, 3) := by decide +kernel
theorem d_md_lower_9 : decode b_md_lower 9 = .ok (.iload_n 2, 1) := by decide +kernel
theorem d_md_lower_10 : decode b_md_lower 10 = .ok (.aload_n 0, 1) := by decide +kernel
theorem d_md_lower_11 : decode b_md_lower 11 = .ok (.getfield 46, 3) := by decide +kernel
theorem d_md_lower_14 : decode b_md_lower 14 = .ok (.iload_n 1, 1) := by decide +kernel
theorem d_md_lower_15 : decode b_md_lower 15 = .ok (.iaload, 1) := by decide +kernel
theorem d_md_lower_16 : decode b_md_lower 16 = .ok (.if_icmp .ge 35, 3) := by decide +kernel
theorem d_md_lower_19 : decode b_md_lower 19 = .ok (.aload_n 0, 1) := by decide +kernel
theorem d_md_lower_20 : decode b_md_lower 20 = .ok (.getfield 46, 3) := by decide +kernel
theorem d_md_lower_23 : decode b_md_lower 23 = .ok (.iload_n 1, 1) := by decide +kernel
theorem d_md_lower_24 : decode b_md_lower 24 = .ok (.iload_n 2, 1) := by decide +kernel
theorem d_md_lower_25 : decode b_md_lower 25 = .ok (.iastore, 1) := by decide +kernel
theorem d_md_lower_26 : decode b_md_lower 26 = .ok (.iload_n 2, 1) := by decide +kernel
theorem d_md_lower_27 : decode b_md_lower 27 = .ok (.iload_n 3, 1) := by decide +kernel
theorem d_md_lower_28 : decode b_md_lower 28 = .ok (.if_icmp .ne 23, 3) := by decide +kernel
theorem d_md_lower_31 : decode b_md_lower 31 = .ok (.aload_n 0, 1) := by decide +kernel
theorem d_md_lower_32 : decode b_md_lower 32 = .ok (.getfield 52, 3) := by decide +kernel
theorem d_md_lower_35 : decode b_md_lower 35 = .ok (.aload_n 0, 1) := by decide +kernel
theorem d_md_lower_36 : decode b_md_lower 36 = .ok (.getfield 130, 3) := by decide +kernel
theorem d_md_lower_39 : decode b_md_lower 39 = .ok (.iload_n 1, 1) := by decide +kernel
theorem d_md_lower_40 : decode b_md_lower 40 = .ok (.iastore, 1) := by decide +kernel
theorem d_md_lower_41 : decode b_md_lower 41 = .ok (.aload_n 0, 1) := by decide +kernel
theorem d_md_lower_42 : decode b_md_lower 42 = .ok (.dup, 1) := by decide +kernel
theorem d_md_lower_43 : decode b_md_lower 43 = .ok (.getfield 130, 3) := by decide +kernel
theorem d_md_lower_46 : decode b_md_lower 46 = .ok (.iconst 1, 1) := by decide +kernel
theorem d_md_lower_47 : decode b_md_lower 47 = .ok (.iadd, 1) := by decide +kernel
theorem d_md_lower_48 : decode b_md_lower 48 = .ok (.putfield 130, 3) := by decide +kernel
theorem d_md_lower_51 : decode b_md_lower 51 = .ok (.return_, 1) := by decide +kernel
theorem d_md_relax_0 : decode b_md_relax 0 = .ok (.iconst 1, 1) := by decide +kernel
theorem d_md_relax_1 : decode b_md_relax 1 = .ok (.aload_n 0, 1) := by decide +kernel
theorem d_md_relax_2 : decode b_md_relax 2 = .ok (.getfield 86, 3) := by decide +kernel
theorem d_md_relax_5 : decode b_md_relax 5 = .ok (.ishl, 1) := by decide +kernel
theorem d_md_relax_6 : decode b_md_relax 6 = .ok (.iconst 1, 1) := by decide +kernel
theorem d_md_relax_7 : decode b_md_relax 7 = .ok (.isub, 1) := by decide +kernel
theorem d_md_relax_8 : decode b_md_relax 8 = .ok (.istore_n 3, 1) := by decide +kernel
theorem d_md_relax_9 : decode b_md_relax 9 = .ok (.iload_n 1, 1) := by decide +kernel
theorem d_md_relax_10 : decode b_md_relax 10 = .ok (.iload_n 3, 1) := by decide +kernel
theorem d_md_relax_11 : decode b_md_relax 11 = .ok (.iand, 1) := by decide +kernel
theorem d_md_relax_12 : decode b_md_relax 12 = .ok (.istore 4, 2) := by decide +kernel
theorem d_md_relax_14 : decode b_md_relax 14 = .ok (.iconst 0, 1) := by decide +kernel
theorem d_md_relax_15 : decode b_md_relax 15 = .ok (.istore 5, 2) := by decide +kernel
theorem d_md_relax_17 : decode b_md_relax 17 = .ok (.iload 5, 2) := by decide +kernel
theorem d_md_relax_19 : decode b_md_relax 19 = .ok (.aload_n 0, 1) := by decide +kernel
theorem d_md_relax_20 : decode b_md_relax 20 = .ok (.getfield 86, 3) := by decide +kernel
theorem d_md_relax_23 : decode b_md_relax 23 = .ok (.if_icmp .ge 33, 3) := by decide +kernel
theorem d_md_relax_26 : decode b_md_relax 26 = .ok (.iload 4, 2) := by decide +kernel
theorem d_md_relax_28 : decode b_md_relax 28 = .ok (.iload 5, 2) := by decide +kernel
theorem d_md_relax_30 : decode b_md_relax 30 = .ok (.invokestatic 123, 3) := by decide +kernel
theorem d_md_relax_33 : decode b_md_relax 33 = .ok (.ifCond .eq 17, 3) := by decide +kernel
theorem d_md_relax_36 : decode b_md_relax 36 = .ok (.aload_n 0, 1) := by decide +kernel
theorem d_md_relax_37 : decode b_md_relax 37 = .ok (.iload_n 1, 1) := by decide +kernel
theorem d_md_relax_38 : decode b_md_relax 38 = .ok (.iconst 1, 1) := by decide +kernel
theorem d_md_relax_39 : decode b_md_relax 39 = .ok (.iload 5, 2) := by decide +kernel
theorem d_md_relax_41 : decode b_md_relax 41 = .ok (.ishl, 1) := by decide +kernel
theorem d_md_relax_42 : decode b_md_relax 42 = .ok (.iconst (-1), 1) := by decide +kernel
theorem d_md_relax_43 : decode b_md_relax 43 = .ok (.ixor, 1) := by decide +kernel
theorem d_md_relax_44 : decode b_md_relax 44 = .ok (.iand, 1) := by decide +kernel
theorem d_md_relax_45 : decode b_md_relax 45 = .ok (.iload_n 2, 1) := by decide +kernel
theorem d_md_relax_46 : decode b_md_relax 46 = .ok (.iload_n 2, 1) := by decide +kernel
theorem d_md_relax_47 : decode b_md_relax 47 = .ok (.invokevirtual 133, 3) := by decide +kernel
theorem d_md_relax_50 : decode b_md_relax 50 = .ok (.iinc 5 1, 3) := by decide +kernel
theorem d_md_relax_53 : decode b_md_relax 53 = .ok (.goto (-36), 3) := by decide +kernel
theorem d_md_relax_56 : decode b_md_relax 56 = .ok (.iload 4, 2) := by decide +kernel
theorem d_md_relax_58 : decode b_md_relax 58 = .ok (.iload_n 3, 1) := by decide +kernel
theorem d_md_relax_59 : decode b_md_relax 59 = .ok (.if_icmp .ne 4, 3) := by decide +kernel
theorem d_md_relax_62 : decode b_md_relax 62 = .ok (.return_, 1) := by decide +kernel
theorem d_md_relax_63 : decode b_md_relax 63 = .ok (.aload_n 0, 1) := by decide +kernel
theorem d_md_relax_64 : decode b_md_relax 64 = .ok (.iload_n 1, 1) := by decide +kernel
theorem d_md_relax_65 : decode b_md_relax 65 = .ok (.invokevirtual 137, 3) := by decide +kernel
theorem d_md_relax_68 : decode b_md_relax 68 = .ok (.aload_n 0, 1) := by decide +kernel
theorem d_md_relax_69 : decode b_md_relax 69 = .ok (.invokevirtual 140, 3) := by decide +kernel
theorem d_md_relax_72 : decode b_md_relax 72 = .ok (.iconst 1, 1) := by decide +kernel
theorem d_md_relax_73 : decode b_md_relax 73 = .ok (.istore 5, 2) := by decide +kernel
theorem d_md_relax_75 : decode b_md_relax 75 = .ok (.iload 5, 2) := by decide +kernel
theorem d_md_relax_77 : decode b_md_relax 77 = .ok (.ifCond .eq 60, 3) := by decide +kernel
theorem d_md_relax_80 : decode b_md_relax 80 = .ok (.aload_n 0, 1) := by decide +kernel
theorem d_md_relax_81 : decode b_md_relax 81 = .ok (.iload 4, 2) := by decide +kernel
theorem d_md_relax_83 : decode b_md_relax 83 = .ok (.invokevirtual 143, 3) := by decide +kernel
theorem d_md_relax_86 : decode b_md_relax 86 = .ok (.aload_n 0, 1) := by decide +kernel
theorem d_md_relax_87 : decode b_md_relax 87 = .ok (.invokevirtual 146, 3) := by decide +kernel
theorem d_md_relax_90 : decode b_md_relax 90 = .ok (.ifCond .ne 36, 3) := by decide +kernel
theorem d_md_relax_93 : decode b_md_relax 93 = .ok (.aload_n 0, 1) := by decide +kernel
theorem d_md_relax_94 : decode b_md_relax 94 = .ok (.aload_n 0, 1) := by decide +kernel
theorem d_md_relax_95 : decode b_md_relax 95 = .ok (.aload_n 0, 1) := by decide +kernel
theorem d_md_relax_96 : decode b_md_relax 96 = .ok (.getfield 58, 3) := by decide +kernel
theorem d_md_relax_99 : decode b_md_relax 99 = .ok (.invokevirtual 150, 3) := by decide +kernel
theorem d_md_relax_102 : decode b_md_relax 102 = .ok (.aload_n 0, 1) := by decide +kernel
theorem d_md_relax_103 : decode b_md_relax 103 = .ok (.getfield 86, 3) := by decide +kernel
theorem d_md_relax_106 : decode b_md_relax 106 = .ok (.ishl, 1) := by decide +kernel
theorem d_md_relax_107 : decode b_md_relax 107 = .ok (.iload 4, 2) := by decide +kernel
theorem d_md_relax_109 : decode b_md_relax 109 = .ok (.ior, 1) := by decide +kernel
theorem d_md_relax_110 : decode b_md_relax 110 = .ok (.iload_n 2, 1) := by decide +kernel
theorem d_md_relax_111 : decode b_md_relax 111 = .ok (.aload_n 0, 1) := by decide +kernel
theorem d_md_relax_112 : decode b_md_relax 112 = .ok (.getfield 86, 3) := by decide +kernel
theorem d_md_relax_115 : decode b_md_relax 115 = .ok (.iadd, 1) := by decide +kernel
theorem d_md_relax_116 : decode b_md_relax 116 = .ok (.iload 4, 2) := by decide +kernel
theorem d_md_relax_118 : decode b_md_relax 118 = .ok (.invokestatic 154, 3) := by decide +kernel
theorem d_md_relax_121 : decode b_md_relax 121 = .ok (.isub, 1) := by decide +kernel
theorem d_md_relax_122 : decode b_md_relax 122 = .ok (.iload_n 2, 1) := by decide +kernel
theorem d_md_relax_123 : decode b_md_relax 123 = .ok (.invokevirtual 133, 3) := by decide +kernel
theorem d_md_relax_126 : decode b_md_relax 126 = .ok (.aload_n 0, 1) := by decide +kernel
theorem d_md_relax_127 : decode b_md_relax 127 = .ok (.iload 4, 2) := by decide +kernel
theorem d_md_relax_129 : decode b_md_relax 129 = .ok (.invokevirtual 157, 3) := by decide +kernel
theorem d_md_relax_132 : decode b_md_relax 132 = .ok (.istore 5, 2) := by decide +kernel
theorem d_md_relax_134 : decode b_md_relax 134 = .ok (.goto (-59), 3) := by decide +kernel
theorem d_md_relax_137 : decode b_md_relax 137 = .ok (.return_, 1) := by decide +kernel
theorem d_md_findPays_0 : decode b_md_findPays 0 = .ok (.iconst 1, 1) := by decide +kernel
theorem d_md_findPays_1 : decode b_md_findPays 1 = .ok (.aload_n 0, 1) := by decide +kernel
theorem d_md_findPays_2 : decode b_md_findPays 2 = .ok (.getfield 86, 3) := by decide +kernel
theorem d_md_findPays_5 : decode b_md_findPays 5 = .ok (.ishl, 1) := by decide +kernel
theorem d_md_findPays_6 : decode b_md_findPays 6 = .ok (.istore_n 2, 1) := by decide +kernel
theorem d_md_findPays_7 : decode b_md_findPays 7 = .ok (.iconst 0, 1) := by decide +kernel
theorem d_md_findPays_8 : decode b_md_findPays 8 = .ok (.istore_n 3, 1) := by decide +kernel
theorem d_md_findPays_9 : decode b_md_findPays 9 = .ok (.iload_n 3, 1) := by decide +kernel
theorem d_md_findPays_10 : decode b_md_findPays 10 = .ok (.aload_n 0, 1) := by decide +kernel
theorem d_md_findPays_11 : decode b_md_findPays 11 = .ok (.getfield 86, 3) := by decide +kernel
theorem d_md_findPays_14 : decode b_md_findPays 14 = .ok (.if_icmp .ge 16, 3) := by decide +kernel
theorem d_md_findPays_17 : decode b_md_findPays 17 = .ok (.iload_n 2, 1) := by decide +kernel
theorem d_md_findPays_18 : decode b_md_findPays 18 = .ok (.aload_n 0, 1) := by decide +kernel
theorem d_md_findPays_19 : decode b_md_findPays 19 = .ok (.getfield 120, 3) := by decide +kernel
theorem d_md_findPays_22 : decode b_md_findPays 22 = .ok (.imul, 1) := by decide +kernel
theorem d_md_findPays_23 : decode b_md_findPays 23 = .ok (.istore_n 2, 1) := by decide +kernel
theorem d_md_findPays_24 : decode b_md_findPays 24 = .ok (.iinc 3 1, 3) := by decide +kernel
theorem d_md_findPays_27 : decode b_md_findPays 27 = .ok (.goto (-18), 3) := by decide +kernel
theorem d_md_findPays_30 : decode b_md_findPays 30 = .ok (.iconst 0, 1) := by decide +kernel
theorem d_md_findPays_31 : decode b_md_findPays 31 = .ok (.istore_n 3, 1) := by decide +kernel
theorem d_md_findPays_32 : decode b_md_findPays 32 = .ok (.iload_n 3, 1) := by decide +kernel
theorem d_md_findPays_33 : decode b_md_findPays 33 = .ok (.iload_n 2, 1) := by decide +kernel
theorem d_md_findPays_34 : decode b_md_findPays 34 = .ok (.if_icmp .ge 25, 3) := by decide +kernel
theorem d_md_findPays_37 : decode b_md_findPays 37 = .ok (.aload_n 0, 1) := by decide +kernel
theorem d_md_findPays_38 : decode b_md_findPays 38 = .ok (.getfield 46, 3) := by decide +kernel
theorem d_md_findPays_41 : decode b_md_findPays 41 = .ok (.iload_n 3, 1) := by decide +kernel
theorem d_md_findPays_42 : decode b_md_findPays 42 = .ok (.sipush 200, 3) := by decide +kernel
theorem d_md_findPays_45 : decode b_md_findPays 45 = .ok (.iastore, 1) := by decide +kernel
theorem d_md_findPays_46 : decode b_md_findPays 46 = .ok (.aload_n 0, 1) := by decide +kernel
theorem d_md_findPays_47 : decode b_md_findPays 47 = .ok (.getfield 49, 3) := by decide +kernel
theorem d_md_findPays_50 : decode b_md_findPays 50 = .ok (.iload_n 3, 1) := by decide +kernel
theorem d_md_findPays_51 : decode b_md_findPays 51 = .ok (.iconst 0, 1) := by decide +kernel
theorem d_md_findPays_52 : decode b_md_findPays 52 = .ok (.bastore, 1) := by decide +kernel
theorem d_md_findPays_53 : decode b_md_findPays 53 = .ok (.iinc 3 1, 3) := by decide +kernel
theorem d_md_findPays_56 : decode b_md_findPays 56 = .ok (.goto (-24), 3) := by decide +kernel
theorem d_md_findPays_59 : decode b_md_findPays 59 = .ok (.iconst 0, 1) := by decide +kernel
theorem d_md_findPays_60 : decode b_md_findPays 60 = .ok (.istore_n 3, 1) := by decide +kernel
theorem d_md_findPays_61 : decode b_md_findPays 61 = .ok (.iload_n 3, 1) := by decide +kernel
theorem d_md_findPays_62 : decode b_md_findPays 62 = .ok (.aload_n 0, 1) := by decide +kernel
theorem d_md_findPays_63 : decode b_md_findPays 63 = .ok (.getfield 86, 3) := by decide +kernel
theorem d_md_findPays_66 : decode b_md_findPays 66 = .ok (.if_icmp .ge 26, 3) := by decide +kernel
theorem d_md_findPays_69 : decode b_md_findPays 69 = .ok (.aload_n 0, 1) := by decide +kernel
theorem d_md_findPays_70 : decode b_md_findPays 70 = .ok (.getfield 58, 3) := by decide +kernel
theorem d_md_findPays_73 : decode b_md_findPays 73 = .ok (.iload_n 3, 1) := by decide +kernel
theorem d_md_findPays_74 : decode b_md_findPays 74 = .ok (.aload_n 0, 1) := by decide +kernel
theorem d_md_findPays_75 : decode b_md_findPays 75 = .ok (.getfield 36, 3) := by decide +kernel
theorem d_md_findPays_78 : decode b_md_findPays 78 = .ok (.aload_n 0, 1) := by decide +kernel
theorem d_md_findPays_79 : decode b_md_findPays 79 = .ok (.getfield 24, 3) := by decide +kernel
theorem d_md_findPays_82 : decode b_md_findPays 82 = .ok (.iload_n 3, 1) := by decide +kernel
theorem d_md_findPays_83 : decode b_md_findPays 83 = .ok (.iaload, 1) := by decide +kernel
theorem d_md_findPays_84 : decode b_md_findPays 84 = .ok (.iaload, 1) := by decide +kernel
theorem d_md_findPays_85 : decode b_md_findPays 85 = .ok (.iastore, 1) := by decide +kernel
theorem d_md_findPays_86 : decode b_md_findPays 86 = .ok (.iinc 3 1, 3) := by decide +kernel
theorem d_md_findPays_89 : decode b_md_findPays 89 = .ok (.goto (-28), 3) := by decide +kernel
theorem d_md_findPays_92 : decode b_md_findPays 92 = .ok (.aload_n 0, 1) := by decide +kernel
theorem d_md_findPays_93 : decode b_md_findPays 93 = .ok (.getfield 46, 3) := by decide +kernel
theorem d_md_findPays_96 : decode b_md_findPays 96 = .ok (.aload_n 0, 1) := by decide +kernel
theorem d_md_findPays_97 : decode b_md_findPays 97 = .ok (.aload_n 0, 1) := by decide +kernel
theorem d_md_findPays_98 : decode b_md_findPays 98 = .ok (.getfield 58, 3) := by decide +kernel
theorem d_md_findPays_101 : decode b_md_findPays 101 = .ok (.invokevirtual 150, 3) := by decide +kernel
theorem d_md_findPays_104 : decode b_md_findPays 104 = .ok (.aload_n 0, 1) := by decide +kernel
theorem d_md_findPays_105 : decode b_md_findPays 105 = .ok (.getfield 86, 3) := by decide +kernel
theorem d_md_findPays_108 : decode b_md_findPays 108 = .ok (.ishl, 1) := by decide +kernel
theorem d_md_findPays_109 : decode b_md_findPays 109 = .ok (.iconst 1, 1) := by decide +kernel
theorem d_md_findPays_110 : decode b_md_findPays 110 = .ok (.aload_n 0, 1) := by decide +kernel
theorem d_md_findPays_111 : decode b_md_findPays 111 = .ok (.getfield 86, 3) := by decide +kernel
theorem d_md_findPays_114 : decode b_md_findPays 114 = .ok (.ishl, 1) := by decide +kernel
theorem d_md_findPays_115 : decode b_md_findPays 115 = .ok (.iconst 1, 1) := by decide +kernel
theorem d_md_findPays_116 : decode b_md_findPays 116 = .ok (.isub, 1) := by decide +kernel
theorem d_md_findPays_117 : decode b_md_findPays 117 = .ok (.ior, 1) := by decide +kernel
theorem d_md_findPays_118 : decode b_md_findPays 118 = .ok (.iconst 0, 1) := by decide +kernel
theorem d_md_findPays_119 : decode b_md_findPays 119 = .ok (.iastore, 1) := by decide +kernel
theorem d_md_findPays_120 : decode b_md_findPays 120 = .ok (.iconst 0, 1) := by decide +kernel
theorem d_md_findPays_121 : decode b_md_findPays 121 = .ok (.istore_n 3, 1) := by decide +kernel
theorem d_md_findPays_122 : decode b_md_findPays 122 = .ok (.iload_n 3, 1) := by decide +kernel
theorem d_md_findPays_123 : decode b_md_findPays 123 = .ok (.iload_n 1, 1) := by decide +kernel
theorem d_md_findPays_124 : decode b_md_findPays 124 = .ok (.if_icmp .gt 119, 3) := by decide +kernel
theorem d_md_findPays_127 : decode b_md_findPays 127 = .ok (.iconst 0, 1) := by decide +kernel
theorem d_md_findPays_128 : decode b_md_findPays 128 = .ok (.istore 4, 2) := by decide +kernel
theorem d_md_findPays_130 : decode b_md_findPays 130 = .ok (.iload 4, 2) := by decide +kernel
theorem d_md_findPays_132 : decode b_md_findPays 132 = .ok (.iload_n 2, 1) := by decide +kernel
theorem d_md_findPays_133 : decode b_md_findPays 133 = .ok (.if_icmp .ge 104, 3) := by decide +kernel
theorem d_md_findPays_136 : decode b_md_findPays 136 = .ok (.aload_n 0, 1) := by decide +kernel
theorem d_md_findPays_137 : decode b_md_findPays 137 = .ok (.iconst 0, 1) := by decide +kernel
theorem d_md_findPays_138 : decode b_md_findPays 138 = .ok (.putfield 130, 3) := by decide +kernel
theorem d_md_findPays_141 : decode b_md_findPays 141 = .ok (.aload_n 0, 1) := by decide +kernel
theorem d_md_findPays_142 : decode b_md_findPays 142 = .ok (.getfield 46, 3) := by decide +kernel
theorem d_md_findPays_145 : decode b_md_findPays 145 = .ok (.iload 4, 2) := by decide +kernel
theorem d_md_findPays_147 : decode b_md_findPays 147 = .ok (.iaload, 1) := by decide +kernel
theorem d_md_findPays_148 : decode b_md_findPays 148 = .ok (.iload_n 3, 1) := by decide +kernel
theorem d_md_findPays_149 : decode b_md_findPays 149 = .ok (.if_icmp .ne 26, 3) := by decide +kernel
theorem d_md_findPays_152 : decode b_md_findPays 152 = .ok (.aload_n 0, 1) := by decide +kernel
theorem d_md_findPays_153 : decode b_md_findPays 153 = .ok (.getfield 49, 3) := by decide +kernel
theorem d_md_findPays_156 : decode b_md_findPays 156 = .ok (.iload 4, 2) := by decide +kernel
theorem d_md_findPays_158 : decode b_md_findPays 158 = .ok (.baload, 1) := by decide +kernel
theorem d_md_findPays_159 : decode b_md_findPays 159 = .ok (.ifCond .ne 16, 3) := by decide +kernel
theorem d_md_findPays_162 : decode b_md_findPays 162 = .ok (.aload_n 0, 1) := by decide +kernel
theorem d_md_findPays_163 : decode b_md_findPays 163 = .ok (.getfield 52, 3) := by decide +kernel
theorem d_md_findPays_166 : decode b_md_findPays 166 = .ok (.iconst 0, 1) := by decide +kernel
theorem d_md_findPays_167 : decode b_md_findPays 167 = .ok (.iload 4, 2) := by decide +kernel
theorem d_md_findPays_169 : decode b_md_findPays 169 = .ok (.iastore, 1) := by decide +kernel
theorem d_md_findPays_170 : decode b_md_findPays 170 = .ok (.aload_n 0, 1) := by decide +kernel
theorem d_md_findPays_171 : decode b_md_findPays 171 = .ok (.iconst 1, 1) := by decide +kernel
theorem d_md_findPays_172 : decode b_md_findPays 172 = .ok (.putfield 130, 3) := by decide +kernel
theorem d_md_findPays_175 : decode b_md_findPays 175 = .ok (.aload_n 0, 1) := by decide +kernel
theorem d_md_findPays_176 : decode b_md_findPays 176 = .ok (.getfield 130, 3) := by decide +kernel
theorem d_md_findPays_179 : decode b_md_findPays 179 = .ok (.ifCond .le 52, 3) := by decide +kernel
theorem d_md_findPays_182 : decode b_md_findPays 182 = .ok (.aload_n 0, 1) := by decide +kernel
theorem d_md_findPays_183 : decode b_md_findPays 183 = .ok (.dup, 1) := by decide +kernel
theorem d_md_findPays_184 : decode b_md_findPays 184 = .ok (.getfield 130, 3) := by decide +kernel
theorem d_md_findPays_187 : decode b_md_findPays 187 = .ok (.iconst 1, 1) := by decide +kernel
theorem d_md_findPays_188 : decode b_md_findPays 188 = .ok (.isub, 1) := by decide +kernel
theorem d_md_findPays_189 : decode b_md_findPays 189 = .ok (.putfield 130, 3) := by decide +kernel
theorem d_md_findPays_192 : decode b_md_findPays 192 = .ok (.aload_n 0, 1) := by decide +kernel
theorem d_md_findPays_193 : decode b_md_findPays 193 = .ok (.getfield 52, 3) := by decide +kernel
theorem d_md_findPays_196 : decode b_md_findPays 196 = .ok (.aload_n 0, 1) := by decide +kernel
theorem d_md_findPays_197 : decode b_md_findPays 197 = .ok (.getfield 130, 3) := by decide +kernel
theorem d_md_findPays_200 : decode b_md_findPays 200 = .ok (.iaload, 1) := by decide +kernel
theorem d_md_findPays_201 : decode b_md_findPays 201 = .ok (.istore 5, 2) := by decide +kernel
theorem d_md_findPays_203 : decode b_md_findPays 203 = .ok (.aload_n 0, 1) := by decide +kernel
end
section
theorem d_md_findPays_204 : decode b_md_findPays 204 = .ok (.getfield 49, 3) := by decide +kernel
theorem d_md_findPays_207 : decode b_md_findPays 207 = .ok (.iload 5, 2) := by decide +kernel
theorem d_md_findPays_209 : decode b_md_findPays 209 = .ok (.baload, 1) := by decide +kernel
theorem d_md_findPays_210 : decode b_md_findPays 210 = .ok (.ifCond .ne 18, 3) := by decide +kernel
theorem d_md_findPays_213 : decode b_md_findPays 213 = .ok (.aload_n 0, 1) := by decide +kernel
theorem d_md_findPays_214 : decode b_md_findPays 214 = .ok (.getfield 49, 3) := by decide +kernel
theorem d_md_findPays_217 : decode b_md_findPays 217 = .ok (.iload 5, 2) := by decide +kernel
theorem d_md_findPays_219 : decode b_md_findPays 219 = .ok (.iconst 1, 1) := by decide +kernel
theorem d_md_findPays_220 : decode b_md_findPays 220 = .ok (.bastore, 1) := by decide +kernel
theorem d_md_findPays_221 : decode b_md_findPays 221 = .ok (.aload_n 0, 1) := by decide +kernel
theorem d_md_findPays_222 : decode b_md_findPays 222 = .ok (.iload 5, 2) := by decide +kernel
theorem d_md_findPays_224 : decode b_md_findPays 224 = .ok (.iload_n 3, 1) := by decide +kernel
theorem d_md_findPays_225 : decode b_md_findPays 225 = .ok (.invokevirtual 160, 3) := by decide +kernel
theorem d_md_findPays_228 : decode b_md_findPays 228 = .ok (.goto (-53), 3) := by decide +kernel
theorem d_md_findPays_231 : decode b_md_findPays 231 = .ok (.iinc 4 1, 3) := by decide +kernel
theorem d_md_findPays_234 : decode b_md_findPays 234 = .ok (.goto (-104), 3) := by decide +kernel
theorem d_md_findPays_237 : decode b_md_findPays 237 = .ok (.iinc 3 1, 3) := by decide +kernel
theorem d_md_findPays_240 : decode b_md_findPays 240 = .ok (.goto (-118), 3) := by decide +kernel
theorem d_md_findPays_243 : decode b_md_findPays 243 = .ok (.return_, 1) := by decide +kernel
theorem d_md_mayRest_0 : decode b_md_mayRest 0 = .ok (.iconst 1, 1) := by decide +kernel
theorem d_md_mayRest_1 : decode b_md_mayRest 1 = .ok (.istore_n 3, 1) := by decide +kernel
theorem d_md_mayRest_2 : decode b_md_mayRest 2 = .ok (.iconst 0, 1) := by decide +kernel
theorem d_md_mayRest_3 : decode b_md_mayRest 3 = .ok (.istore 4, 2) := by decide +kernel
theorem d_md_mayRest_5 : decode b_md_mayRest 5 = .ok (.iload 4, 2) := by decide +kernel
theorem d_md_mayRest_7 : decode b_md_mayRest 7 = .ok (.aload_n 0, 1) := by decide +kernel
theorem d_md_mayRest_8 : decode b_md_mayRest 8 = .ok (.getfield 86, 3) := by decide +kernel
theorem d_md_mayRest_11 : decode b_md_mayRest 11 = .ok (.if_icmp .ge 47, 3) := by decide +kernel
theorem d_md_mayRest_14 : decode b_md_mayRest 14 = .ok (.iload_n 3, 1) := by decide +kernel
theorem d_md_mayRest_15 : decode b_md_mayRest 15 = .ok (.ifCond .eq 35, 3) := by decide +kernel
theorem d_md_mayRest_18 : decode b_md_mayRest 18 = .ok (.iload_n 1, 1) := by decide +kernel
theorem d_md_mayRest_19 : decode b_md_mayRest 19 = .ok (.iload 4, 2) := by decide +kernel
theorem d_md_mayRest_21 : decode b_md_mayRest 21 = .ok (.invokestatic 123, 3) := by decide +kernel
theorem d_md_mayRest_24 : decode b_md_mayRest 24 = .ok (.ifCond .eq 22, 3) := by decide +kernel
theorem d_md_mayRest_27 : decode b_md_mayRest 27 = .ok (.aload_n 2, 1) := by decide +kernel
theorem d_md_mayRest_28 : decode b_md_mayRest 28 = .ok (.iload 4, 2) := by decide +kernel
theorem d_md_mayRest_30 : decode b_md_mayRest 30 = .ok (.iaload, 1) := by decide +kernel
theorem d_md_mayRest_31 : decode b_md_mayRest 31 = .ok (.aload_n 0, 1) := by decide +kernel
theorem d_md_mayRest_32 : decode b_md_mayRest 32 = .ok (.getfield 36, 3) := by decide +kernel
theorem d_md_mayRest_35 : decode b_md_mayRest 35 = .ok (.aload_n 0, 1) := by decide +kernel
theorem d_md_mayRest_36 : decode b_md_mayRest 36 = .ok (.getfield 24, 3) := by decide +kernel
theorem d_md_mayRest_39 : decode b_md_mayRest 39 = .ok (.iload 4, 2) := by decide +kernel
theorem d_md_mayRest_41 : decode b_md_mayRest 41 = .ok (.iaload, 1) := by decide +kernel
theorem d_md_mayRest_42 : decode b_md_mayRest 42 = .ok (.iaload, 1) := by decide +kernel
theorem d_md_mayRest_43 : decode b_md_mayRest 43 = .ok (.if_icmp .ne 7, 3) := by decide +kernel
theorem d_md_mayRest_46 : decode b_md_mayRest 46 = .ok (.iconst 1, 1) := by decide +kernel
theorem d_md_mayRest_47 : decode b_md_mayRest 47 = .ok (.goto 4, 3) := by decide +kernel
theorem d_md_mayRest_50 : decode b_md_mayRest 50 = .ok (.iconst 0, 1) := by decide +kernel
theorem d_md_mayRest_51 : decode b_md_mayRest 51 = .ok (.istore_n 3, 1) := by decide +kernel
theorem d_md_mayRest_52 : decode b_md_mayRest 52 = .ok (.iinc 4 1, 3) := by decide +kernel
theorem d_md_mayRest_55 : decode b_md_mayRest 55 = .ok (.goto (-50), 3) := by decide +kernel
theorem d_md_mayRest_58 : decode b_md_mayRest 58 = .ok (.iload_n 3, 1) := by decide +kernel
theorem d_md_mayRest_59 : decode b_md_mayRest 59 = .ok (.ireturn, 1) := by decide +kernel
theorem d_md_write_0 : decode b_md_write 0 = .ok (.iconst 0, 1) := by decide +kernel
theorem d_md_write_1 : decode b_md_write 1 = .ok (.istore_n 3, 1) := by decide +kernel
theorem d_md_write_2 : decode b_md_write 2 = .ok (.iload_n 3, 1) := by decide +kernel
theorem d_md_write_3 : decode b_md_write 3 = .ok (.aload_n 0, 1) := by decide +kernel
theorem d_md_write_4 : decode b_md_write 4 = .ok (.getfield 86, 3) := by decide +kernel
theorem d_md_write_7 : decode b_md_write 7 = .ok (.if_icmp .ge 28, 3) := by decide +kernel
theorem d_md_write_10 : decode b_md_write 10 = .ok (.aload_n 0, 1) := by decide +kernel
theorem d_md_write_11 : decode b_md_write 11 = .ok (.getfield 64, 3) := by decide +kernel
theorem d_md_write_14 : decode b_md_write 14 = .ok (.bipush 6, 2) := by decide +kernel
theorem d_md_write_16 : decode b_md_write 16 = .ok (.iload_n 1, 1) := by decide +kernel
theorem d_md_write_17 : decode b_md_write 17 = .ok (.imul, 1) := by decide +kernel
theorem d_md_write_18 : decode b_md_write 18 = .ok (.iload_n 3, 1) := by decide +kernel
theorem d_md_write_19 : decode b_md_write 19 = .ok (.iadd, 1) := by decide +kernel
theorem d_md_write_20 : decode b_md_write 20 = .ok (.aload_n 0, 1) := by decide +kernel
theorem d_md_write_21 : decode b_md_write 21 = .ok (.getfield 33, 3) := by decide +kernel
theorem d_md_write_24 : decode b_md_write 24 = .ok (.aload_n 2, 1) := by decide +kernel
theorem d_md_write_25 : decode b_md_write 25 = .ok (.iload_n 3, 1) := by decide +kernel
theorem d_md_write_26 : decode b_md_write 26 = .ok (.iaload, 1) := by decide +kernel
theorem d_md_write_27 : decode b_md_write 27 = .ok (.iaload, 1) := by decide +kernel
theorem d_md_write_28 : decode b_md_write 28 = .ok (.iastore, 1) := by decide +kernel
theorem d_md_write_29 : decode b_md_write 29 = .ok (.iinc 3 1, 3) := by decide +kernel
theorem d_md_write_32 : decode b_md_write 32 = .ok (.goto (-30), 3) := by decide +kernel
theorem d_md_write_35 : decode b_md_write 35 = .ok (.return_, 1) := by decide +kernel
theorem d_md_walk_0 : decode b_md_walk 0 = .ok (.iconst 1, 1) := by decide +kernel
theorem d_md_walk_1 : decode b_md_walk 1 = .ok (.aload_n 0, 1) := by decide +kernel
theorem d_md_walk_2 : decode b_md_walk 2 = .ok (.getfield 86, 3) := by decide +kernel
theorem d_md_walk_5 : decode b_md_walk 5 = .ok (.ishl, 1) := by decide +kernel
theorem d_md_walk_6 : decode b_md_walk 6 = .ok (.iconst 1, 1) := by decide +kernel
theorem d_md_walk_7 : decode b_md_walk 7 = .ok (.isub, 1) := by decide +kernel
theorem d_md_walk_8 : decode b_md_walk 8 = .ok (.istore_n 2, 1) := by decide +kernel
theorem d_md_walk_9 : decode b_md_walk 9 = .ok (.iconst 0, 1) := by decide +kernel
theorem d_md_walk_10 : decode b_md_walk 10 = .ok (.istore_n 3, 1) := by decide +kernel
theorem d_md_walk_11 : decode b_md_walk 11 = .ok (.iload_n 3, 1) := by decide +kernel
theorem d_md_walk_12 : decode b_md_walk 12 = .ok (.iload_n 2, 1) := by decide +kernel
theorem d_md_walk_13 : decode b_md_walk 13 = .ok (.if_icmp .gt 32, 3) := by decide +kernel
theorem d_md_walk_16 : decode b_md_walk 16 = .ok (.aload_n 0, 1) := by decide +kernel
theorem d_md_walk_17 : decode b_md_walk 17 = .ok (.getfield 70, 3) := by decide +kernel
theorem d_md_walk_20 : decode b_md_walk 20 = .ok (.iload_n 3, 1) := by decide +kernel
theorem d_md_walk_21 : decode b_md_walk 21 = .ok (.aload_n 0, 1) := by decide +kernel
theorem d_md_walk_22 : decode b_md_walk 22 = .ok (.iload_n 3, 1) := by decide +kernel
theorem d_md_walk_23 : decode b_md_walk 23 = .ok (.aload_n 0, 1) := by decide +kernel
theorem d_md_walk_24 : decode b_md_walk 24 = .ok (.getfield 55, 3) := by decide +kernel
theorem d_md_walk_27 : decode b_md_walk 27 = .ok (.invokevirtual 179, 3) := by decide +kernel
theorem d_md_walk_30 : decode b_md_walk 30 = .ok (.ifCond .eq 7, 3) := by decide +kernel
theorem d_md_walk_33 : decode b_md_walk 33 = .ok (.iconst 0, 1) := by decide +kernel
theorem d_md_walk_34 : decode b_md_walk 34 = .ok (.goto 4, 3) := by decide +kernel
theorem d_md_walk_37 : decode b_md_walk 37 = .ok (.iconst (-1), 1) := by decide +kernel
theorem d_md_walk_38 : decode b_md_walk 38 = .ok (.iastore, 1) := by decide +kernel
theorem d_md_walk_39 : decode b_md_walk 39 = .ok (.iinc 3 1, 3) := by decide +kernel
theorem d_md_walk_42 : decode b_md_walk 42 = .ok (.goto (-31), 3) := by decide +kernel
theorem d_md_walk_45 : decode b_md_walk 45 = .ok (.aload_n 0, 1) := by decide +kernel
theorem d_md_walk_46 : decode b_md_walk 46 = .ok (.iconst 0, 1) := by decide +kernel
theorem d_md_walk_47 : decode b_md_walk 47 = .ok (.putfield 167, 3) := by decide +kernel
theorem d_md_walk_50 : decode b_md_walk 50 = .ok (.aload_n 0, 1) := by decide +kernel
theorem d_md_walk_51 : decode b_md_walk 51 = .ok (.iconst 0, 1) := by decide +kernel
theorem d_md_walk_52 : decode b_md_walk 52 = .ok (.aload_n 0, 1) := by decide +kernel
theorem d_md_walk_53 : decode b_md_walk 53 = .ok (.getfield 55, 3) := by decide +kernel
theorem d_md_walk_56 : decode b_md_walk 56 = .ok (.invokevirtual 183, 3) := by decide +kernel
theorem d_md_walk_59 : decode b_md_walk 59 = .ok (.aload_n 0, 1) := by decide +kernel
theorem d_md_walk_60 : decode b_md_walk 60 = .ok (.getfield 70, 3) := by decide +kernel
theorem d_md_walk_63 : decode b_md_walk 63 = .ok (.iload_n 2, 1) := by decide +kernel
theorem d_md_walk_64 : decode b_md_walk 64 = .ok (.iaload, 1) := by decide +kernel
theorem d_md_walk_65 : decode b_md_walk 65 = .ok (.iload_n 1, 1) := by decide +kernel
theorem d_md_walk_66 : decode b_md_walk 66 = .ok (.if_icmp .eq 119, 3) := by decide +kernel
theorem d_md_walk_69 : decode b_md_walk 69 = .ok (.aload_n 0, 1) := by decide +kernel
theorem d_md_walk_70 : decode b_md_walk 70 = .ok (.invokevirtual 140, 3) := by decide +kernel
theorem d_md_walk_73 : decode b_md_walk 73 = .ok (.aload_n 0, 1) := by decide +kernel
theorem d_md_walk_74 : decode b_md_walk 74 = .ok (.iconst 0, 1) := by decide +kernel
theorem d_md_walk_75 : decode b_md_walk 75 = .ok (.invokevirtual 143, 3) := by decide +kernel
theorem d_md_walk_78 : decode b_md_walk 78 = .ok (.aload_n 0, 1) := by decide +kernel
theorem d_md_walk_79 : decode b_md_walk 79 = .ok (.invokevirtual 146, 3) := by decide +kernel
theorem d_md_walk_82 : decode b_md_walk 82 = .ok (.ifCond .ne 11, 3) := by decide +kernel
theorem d_md_walk_85 : decode b_md_walk 85 = .ok (.aload_n 0, 1) := by decide +kernel
theorem d_md_walk_86 : decode b_md_walk 86 = .ok (.iload_n 1, 1) := by decide +kernel
theorem d_md_walk_87 : decode b_md_walk 87 = .ok (.invokevirtual 187, 3) := by decide +kernel
theorem d_md_walk_90 : decode b_md_walk 90 = .ok (.ifCond .ne 17, 3) := by decide +kernel
theorem d_md_walk_93 : decode b_md_walk 93 = .ok (.aload_n 0, 1) := by decide +kernel
theorem d_md_walk_94 : decode b_md_walk 94 = .ok (.iconst 0, 1) := by decide +kernel
theorem d_md_walk_95 : decode b_md_walk 95 = .ok (.invokevirtual 157, 3) := by decide +kernel
theorem d_md_walk_98 : decode b_md_walk 98 = .ok (.istore_n 3, 1) := by decide +kernel
theorem d_md_walk_99 : decode b_md_walk 99 = .ok (.aload_n 0, 1) := by decide +kernel
theorem d_md_walk_100 : decode b_md_walk 100 = .ok (.iconst 0, 1) := by decide +kernel
theorem d_md_walk_101 : decode b_md_walk 101 = .ok (.invokevirtual 143, 3) := by decide +kernel
theorem d_md_walk_104 : decode b_md_walk 104 = .ok (.goto (-26), 3) := by decide +kernel
theorem d_md_walk_107 : decode b_md_walk 107 = .ok (.iconst 0, 1) := by decide +kernel
theorem d_md_walk_108 : decode b_md_walk 108 = .ok (.istore_n 3, 1) := by decide +kernel
theorem d_md_walk_109 : decode b_md_walk 109 = .ok (.iload_n 3, 1) := by decide +kernel
theorem d_md_walk_110 : decode b_md_walk 110 = .ok (.iload_n 2, 1) := by decide +kernel
theorem d_md_walk_111 : decode b_md_walk 111 = .ok (.if_icmp .gt 21, 3) := by decide +kernel
theorem d_md_walk_114 : decode b_md_walk 114 = .ok (.aload_n 0, 1) := by decide +kernel
theorem d_md_walk_115 : decode b_md_walk 115 = .ok (.getfield 70, 3) := by decide +kernel
theorem d_md_walk_118 : decode b_md_walk 118 = .ok (.iload_n 3, 1) := by decide +kernel
theorem d_md_walk_119 : decode b_md_walk 119 = .ok (.aload_n 0, 1) := by decide +kernel
theorem d_md_walk_120 : decode b_md_walk 120 = .ok (.getfield 73, 3) := by decide +kernel
theorem d_md_walk_123 : decode b_md_walk 123 = .ok (.iload_n 3, 1) := by decide +kernel
theorem d_md_walk_124 : decode b_md_walk 124 = .ok (.iaload, 1) := by decide +kernel
theorem d_md_walk_125 : decode b_md_walk 125 = .ok (.iastore, 1) := by decide +kernel
theorem d_md_walk_126 : decode b_md_walk 126 = .ok (.iinc 3 1, 3) := by decide +kernel
theorem d_md_walk_129 : decode b_md_walk 129 = .ok (.goto (-20), 3) := by decide +kernel
theorem d_md_walk_132 : decode b_md_walk 132 = .ok (.iconst 0, 1) := by decide +kernel
theorem d_md_walk_133 : decode b_md_walk 133 = .ok (.istore_n 3, 1) := by decide +kernel
theorem d_md_walk_134 : decode b_md_walk 134 = .ok (.iload_n 3, 1) := by decide +kernel
theorem d_md_walk_135 : decode b_md_walk 135 = .ok (.aload_n 0, 1) := by decide +kernel
theorem d_md_walk_136 : decode b_md_walk 136 = .ok (.getfield 86, 3) := by decide +kernel
theorem d_md_walk_139 : decode b_md_walk 139 = .ok (.if_icmp .ge 21, 3) := by decide +kernel
theorem d_md_walk_142 : decode b_md_walk 142 = .ok (.aload_n 0, 1) := by decide +kernel
theorem d_md_walk_143 : decode b_md_walk 143 = .ok (.getfield 55, 3) := by decide +kernel
theorem d_md_walk_146 : decode b_md_walk 146 = .ok (.iload_n 3, 1) := by decide +kernel
theorem d_md_walk_147 : decode b_md_walk 147 = .ok (.aload_n 0, 1) := by decide +kernel
theorem d_md_walk_148 : decode b_md_walk 148 = .ok (.getfield 58, 3) := by decide +kernel
theorem d_md_walk_151 : decode b_md_walk 151 = .ok (.iload_n 3, 1) := by decide +kernel
theorem d_md_walk_152 : decode b_md_walk 152 = .ok (.iaload, 1) := by decide +kernel
theorem d_md_walk_153 : decode b_md_walk 153 = .ok (.iastore, 1) := by decide +kernel
theorem d_md_walk_154 : decode b_md_walk 154 = .ok (.iinc 3 1, 3) := by decide +kernel
theorem d_md_walk_157 : decode b_md_walk 157 = .ok (.goto (-23), 3) := by decide +kernel
theorem d_md_walk_160 : decode b_md_walk 160 = .ok (.aload_n 0, 1) := by decide +kernel
theorem d_md_walk_161 : decode b_md_walk 161 = .ok (.dup, 1) := by decide +kernel
theorem d_md_walk_162 : decode b_md_walk 162 = .ok (.getfield 167, 3) := by decide +kernel
theorem d_md_walk_165 : decode b_md_walk 165 = .ok (.iconst 1, 1) := by decide +kernel
theorem d_md_walk_166 : decode b_md_walk 166 = .ok (.iadd, 1) := by decide +kernel
theorem d_md_walk_167 : decode b_md_walk 167 = .ok (.putfield 167, 3) := by decide +kernel
theorem d_md_walk_170 : decode b_md_walk 170 = .ok (.aload_n 0, 1) := by decide +kernel
theorem d_md_walk_171 : decode b_md_walk 171 = .ok (.aload_n 0, 1) := by decide +kernel
theorem d_md_walk_172 : decode b_md_walk 172 = .ok (.getfield 167, 3) := by decide +kernel
theorem d_md_walk_175 : decode b_md_walk 175 = .ok (.aload_n 0, 1) := by decide +kernel
theorem d_md_walk_176 : decode b_md_walk 176 = .ok (.getfield 55, 3) := by decide +kernel
theorem d_md_walk_179 : decode b_md_walk 179 = .ok (.invokevirtual 183, 3) := by decide +kernel
theorem d_md_walk_182 : decode b_md_walk 182 = .ok (.goto (-123), 3) := by decide +kernel
theorem d_md_walk_185 : decode b_md_walk 185 = .ok (.iconst 0, 1) := by decide +kernel
theorem d_md_walk_186 : decode b_md_walk 186 = .ok (.istore_n 3, 1) := by decide +kernel
theorem d_md_walk_187 : decode b_md_walk 187 = .ok (.iload_n 3, 1) := by decide +kernel
theorem d_md_walk_188 : decode b_md_walk 188 = .ok (.aload_n 0, 1) := by decide +kernel
theorem d_md_walk_189 : decode b_md_walk 189 = .ok (.getfield 86, 3) := by decide +kernel
theorem d_md_walk_192 : decode b_md_walk 192 = .ok (.if_icmp .ge 57, 3) := by decide +kernel
theorem d_md_walk_195 : decode b_md_walk 195 = .ok (.aload_n 0, 1) := by decide +kernel
theorem d_md_walk_196 : decode b_md_walk 196 = .ok (.getfield 167, 3) := by decide +kernel
theorem d_md_walk_199 : decode b_md_walk 199 = .ok (.istore 4, 2) := by decide +kernel
theorem d_md_walk_201 : decode b_md_walk 201 = .ok (.iload 4, 2) := by decide +kernel
theorem d_md_walk_203 : decode b_md_walk 203 = .ok (.ifCond .le 32, 3) := by decide +kernel
theorem d_md_walk_206 : decode b_md_walk 206 = .ok (.aload_n 0, 1) := by decide +kernel
theorem d_md_walk_207 : decode b_md_walk 207 = .ok (.getfield 64, 3) := by decide +kernel
theorem d_md_walk_210 : decode b_md_walk 210 = .ok (.bipush 6, 2) := by decide +kernel
theorem d_md_walk_212 : decode b_md_walk 212 = .ok (.iload 4, 2) := by decide +kernel
theorem d_md_walk_214 : decode b_md_walk 214 = .ok (.iconst 1, 1) := by decide +kernel
theorem d_md_walk_215 : decode b_md_walk 215 = .ok (.isub, 1) := by decide +kernel
theorem d_md_walk_216 : decode b_md_walk 216 = .ok (.imul, 1) := by decide +kernel
theorem d_md_walk_217 : decode b_md_walk 217 = .ok (.iload_n 3, 1) := by decide +kernel
theorem d_md_walk_218 : decode b_md_walk 218 = .ok (.iadd, 1) := by decide +kernel
theorem d_md_walk_219 : decode b_md_walk 219 = .ok (.iaload, 1) := by decide +kernel
theorem d_md_walk_220 : decode b_md_walk 220 = .ok (.aload_n 0, 1) := by decide +kernel
theorem d_md_walk_221 : decode b_md_walk 221 = .ok (.getfield 24, 3) := by decide +kernel
theorem d_md_walk_224 : decode b_md_walk 224 = .ok (.iload_n 3, 1) := by decide +kernel
theorem d_md_walk_225 : decode b_md_walk 225 = .ok (.iaload, 1) := by decide +kernel
theorem d_md_walk_226 : decode b_md_walk 226 = .ok (.if_icmp .ne 9, 3) := by decide +kernel
theorem d_md_walk_229 : decode b_md_walk 229 = .ok (.iinc 4 (-1), 3) := by decide +kernel
theorem d_md_walk_232 : decode b_md_walk 232 = .ok (.goto (-31), 3) := by decide +kernel
theorem d_md_walk_235 : decode b_md_walk 235 = .ok (.aload_n 0, 1) := by decide +kernel
theorem d_md_walk_236 : decode b_md_walk 236 = .ok (.getfield 67, 3) := by decide +kernel
theorem d_md_walk_239 : decode b_md_walk 239 = .ok (.iload_n 3, 1) := by decide +kernel
theorem d_md_walk_240 : decode b_md_walk 240 = .ok (.iload 4, 2) := by decide +kernel
theorem d_md_walk_242 : decode b_md_walk 242 = .ok (.iastore, 1) := by decide +kernel
theorem d_md_walk_243 : decode b_md_walk 243 = .ok (.iinc 3 1, 3) := by decide +kernel
theorem d_md_walk_246 : decode b_md_walk 246 = .ok (.goto (-59), 3) := by decide +kernel
theorem d_md_walk_249 : decode b_md_walk 249 = .ok (.return_, 1) := by decide +kernel
theorem d_md_goesOn_0 : decode b_md_goesOn 0 = .ok (.iconst 1, 1) := by decide +kernel
theorem d_md_goesOn_1 : decode b_md_goesOn 1 = .ok (.aload_n 0, 1) := by decide +kernel
theorem d_md_goesOn_2 : decode b_md_goesOn 2 = .ok (.getfield 86, 3) := by decide +kernel
theorem d_md_goesOn_5 : decode b_md_goesOn 5 = .ok (.ishl, 1) := by decide +kernel
theorem d_md_goesOn_6 : decode b_md_goesOn 6 = .ok (.iconst 1, 1) := by decide +kernel
theorem d_md_goesOn_7 : decode b_md_goesOn 7 = .ok (.isub, 1) := by decide +kernel
theorem d_md_goesOn_8 : decode b_md_goesOn 8 = .ok (.istore_n 2, 1) := by decide +kernel
theorem d_md_goesOn_9 : decode b_md_goesOn 9 = .ok (.iconst 0, 1) := by decide +kernel
theorem d_md_goesOn_10 : decode b_md_goesOn 10 = .ok (.istore_n 3, 1) := by decide +kernel
theorem d_md_goesOn_11 : decode b_md_goesOn 11 = .ok (.aload_n 0, 1) := by decide +kernel
theorem d_md_goesOn_12 : decode b_md_goesOn 12 = .ok (.aload_n 0, 1) := by decide +kernel
theorem d_md_goesOn_13 : decode b_md_goesOn 13 = .ok (.getfield 58, 3) := by decide +kernel
theorem d_md_goesOn_16 : decode b_md_goesOn 16 = .ok (.invokevirtual 150, 3) := by decide +kernel
theorem d_md_goesOn_19 : decode b_md_goesOn 19 = .ok (.istore 4, 2) := by decide +kernel
theorem d_md_goesOn_21 : decode b_md_goesOn 21 = .ok (.iconst 0, 1) := by decide +kernel
theorem d_md_goesOn_22 : decode b_md_goesOn 22 = .ok (.istore 5, 2) := by decide +kernel
theorem d_md_goesOn_24 : decode b_md_goesOn 24 = .ok (.iload 5, 2) := by decide +kernel
theorem d_md_goesOn_26 : decode b_md_goesOn 26 = .ok (.iload_n 2, 1) := by decide +kernel
theorem d_md_goesOn_27 : decode b_md_goesOn 27 = .ok (.if_icmp .gt 186, 3) := by decide +kernel
theorem d_md_goesOn_30 : decode b_md_goesOn 30 = .ok (.aload_n 0, 1) := by decide +kernel
theorem d_md_goesOn_31 : decode b_md_goesOn 31 = .ok (.getfield 73, 3) := by decide +kernel
theorem d_md_goesOn_34 : decode b_md_goesOn 34 = .ok (.iload 5, 2) := by decide +kernel
theorem d_md_goesOn_36 : decode b_md_goesOn 36 = .ok (.iconst (-1), 1) := by decide +kernel
theorem d_md_goesOn_37 : decode b_md_goesOn 37 = .ok (.iastore, 1) := by decide +kernel
theorem d_md_goesOn_38 : decode b_md_goesOn 38 = .ok (.iconst 0, 1) := by decide +kernel
theorem d_md_goesOn_39 : decode b_md_goesOn 39 = .ok (.istore 6, 2) := by decide +kernel
theorem d_md_goesOn_41 : decode b_md_goesOn 41 = .ok (.iload 6, 2) := by decide +kernel
theorem d_md_goesOn_43 : decode b_md_goesOn 43 = .ok (.iload 5, 2) := by decide +kernel
theorem d_md_goesOn_45 : decode b_md_goesOn 45 = .ok (.if_icmp .gt 114, 3) := by decide +kernel
theorem d_md_goesOn_48 : decode b_md_goesOn 48 = .ok (.aload_n 0, 1) := by decide +kernel
theorem d_md_goesOn_49 : decode b_md_goesOn 49 = .ok (.iload 5, 2) := by decide +kernel
theorem d_md_goesOn_51 : decode b_md_goesOn 51 = .ok (.aload_n 0, 1) := by decide +kernel
theorem d_md_goesOn_52 : decode b_md_goesOn 52 = .ok (.getfield 58, 3) := by decide +kernel
theorem d_md_goesOn_55 : decode b_md_goesOn 55 = .ok (.invokevirtual 179, 3) := by decide +kernel
theorem d_md_goesOn_58 : decode b_md_goesOn 58 = .ok (.ifCond .eq 101, 3) := by decide +kernel
theorem d_md_goesOn_61 : decode b_md_goesOn 61 = .ok (.iload 6, 2) := by decide +kernel
theorem d_md_goesOn_63 : decode b_md_goesOn 63 = .ok (.iload 5, 2) := by decide +kernel
theorem d_md_goesOn_65 : decode b_md_goesOn 65 = .ok (.iconst (-1), 1) := by decide +kernel
theorem d_md_goesOn_66 : decode b_md_goesOn 66 = .ok (.ixor, 1) := by decide +kernel
theorem d_md_goesOn_67 : decode b_md_goesOn 67 = .ok (.iand, 1) := by decide +kernel
theorem d_md_goesOn_68 : decode b_md_goesOn 68 = .ok (.ifCond .ne 85, 3) := by decide +kernel
theorem d_md_goesOn_71 : decode b_md_goesOn 71 = .ok (.aload_n 0, 1) := by decide +kernel
theorem d_md_goesOn_72 : decode b_md_goesOn 72 = .ok (.getfield 70, 3) := by decide +kernel
theorem d_md_goesOn_75 : decode b_md_goesOn 75 = .ok (.iload 6, 2) := by decide +kernel
theorem d_md_goesOn_77 : decode b_md_goesOn 77 = .ok (.iaload, 1) := by decide +kernel
theorem d_md_goesOn_78 : decode b_md_goesOn 78 = .ok (.iconst (-1), 1) := by decide +kernel
theorem d_md_goesOn_79 : decode b_md_goesOn 79 = .ok (.if_icmp .eq 74, 3) := by decide +kernel
theorem d_md_goesOn_82 : decode b_md_goesOn 82 = .ok (.aload_n 0, 1) := by decide +kernel
theorem d_md_goesOn_83 : decode b_md_goesOn 83 = .ok (.iload 6, 2) := by decide +kernel
theorem d_md_goesOn_85 : decode b_md_goesOn 85 = .ok (.invokevirtual 190, 3) := by decide +kernel
theorem d_md_goesOn_88 : decode b_md_goesOn 88 = .ok (.ifCond .eq 65, 3) := by decide +kernel
theorem d_md_goesOn_91 : decode b_md_goesOn 91 = .ok (.aload_n 0, 1) := by decide +kernel
theorem d_md_goesOn_92 : decode b_md_goesOn 92 = .ok (.getfield 70, 3) := by decide +kernel
theorem d_md_goesOn_95 : decode b_md_goesOn 95 = .ok (.iload 6, 2) := by decide +kernel
theorem d_md_goesOn_97 : decode b_md_goesOn 97 = .ok (.iaload, 1) := by decide +kernel
theorem d_md_goesOn_98 : decode b_md_goesOn 98 = .ok (.aload_n 0, 1) := by decide +kernel
theorem d_md_goesOn_99 : decode b_md_goesOn 99 = .ok (.getfield 86, 3) := by decide +kernel
theorem d_md_goesOn_102 : decode b_md_goesOn 102 = .ok (.iadd, 1) := by decide +kernel
theorem d_md_goesOn_103 : decode b_md_goesOn 103 = .ok (.iload 6, 2) := by decide +kernel
theorem d_md_goesOn_105 : decode b_md_goesOn 105 = .ok (.invokestatic 154, 3) := by decide +kernel
theorem d_md_goesOn_108 : decode b_md_goesOn 108 = .ok (.isub, 1) := by decide +kernel
theorem d_md_goesOn_109 : decode b_md_goesOn 109 = .ok (.istore 7, 2) := by decide +kernel
theorem d_md_goesOn_111 : decode b_md_goesOn 111 = .ok (.aload_n 0, 1) := by decide +kernel
theorem d_md_goesOn_112 : decode b_md_goesOn 112 = .ok (.getfield 73, 3) := by decide +kernel
theorem d_md_goesOn_115 : decode b_md_goesOn 115 = .ok (.iload 5, 2) := by decide +kernel
theorem d_md_goesOn_117 : decode b_md_goesOn 117 = .ok (.aload_n 0, 1) := by decide +kernel
theorem d_md_goesOn_118 : decode b_md_goesOn 118 = .ok (.getfield 73, 3) := by decide +kernel
theorem d_md_goesOn_121 : decode b_md_goesOn 121 = .ok (.iload 5, 2) := by decide +kernel
theorem d_md_goesOn_123 : decode b_md_goesOn 123 = .ok (.iaload, 1) := by decide +kernel
theorem d_md_goesOn_124 : decode b_md_goesOn 124 = .ok (.iconst (-1), 1) := by decide +kernel
theorem d_md_goesOn_125 : decode b_md_goesOn 125 = .ok (.if_icmp .eq 15, 3) := by decide +kernel
theorem d_md_goesOn_128 : decode b_md_goesOn 128 = .ok (.iload 7, 2) := by decide +kernel
theorem d_md_goesOn_130 : decode b_md_goesOn 130 = .ok (.aload_n 0, 1) := by decide +kernel
theorem d_md_goesOn_131 : decode b_md_goesOn 131 = .ok (.getfield 73, 3) := by decide +kernel
theorem d_md_goesOn_134 : decode b_md_goesOn 134 = .ok (.iload 5, 2) := by decide +kernel
theorem d_md_goesOn_136 : decode b_md_goesOn 136 = .ok (.iaload, 1) := by decide +kernel
theorem d_md_goesOn_137 : decode b_md_goesOn 137 = .ok (.if_icmp .ge 8, 3) := by decide +kernel
theorem d_md_goesOn_140 : decode b_md_goesOn 140 = .ok (.iload 7, 2) := by decide +kernel
theorem d_md_goesOn_142 : decode b_md_goesOn 142 = .ok (.goto 10, 3) := by decide +kernel
theorem d_md_goesOn_145 : decode b_md_goesOn 145 = .ok (.aload_n 0, 1) := by decide +kernel
theorem d_md_goesOn_146 : decode b_md_goesOn 146 = .ok (.getfield 73, 3) := by decide +kernel
theorem d_md_goesOn_149 : decode b_md_goesOn 149 = .ok (.iload 5, 2) := by decide +kernel
theorem d_md_goesOn_151 : decode b_md_goesOn 151 = .ok (.iaload, 1) := by decide +kernel
theorem d_md_goesOn_152 : decode b_md_goesOn 152 = .ok (.iastore, 1) := by decide +kernel
theorem d_md_goesOn_153 : decode b_md_goesOn 153 = .ok (.iinc 6 1, 3) := by decide +kernel
theorem d_md_goesOn_156 : decode b_md_goesOn 156 = .ok (.goto (-115), 3) := by decide +kernel
theorem d_md_goesOn_159 : decode b_md_goesOn 159 = .ok (.iload_n 3, 1) := by decide +kernel
theorem d_md_goesOn_160 : decode b_md_goesOn 160 = .ok (.ifCond .ne 41, 3) := by decide +kernel
theorem d_md_goesOn_163 : decode b_md_goesOn 163 = .ok (.aload_n 0, 1) := by decide +kernel
theorem d_md_goesOn_164 : decode b_md_goesOn 164 = .ok (.getfield 73, 3) := by decide +kernel
theorem d_md_goesOn_167 : decode b_md_goesOn 167 = .ok (.iload 5, 2) := by decide +kernel
theorem d_md_goesOn_169 : decode b_md_goesOn 169 = .ok (.iaload, 1) := by decide +kernel
theorem d_md_goesOn_170 : decode b_md_goesOn 170 = .ok (.iconst (-1), 1) := by decide +kernel
theorem d_md_goesOn_171 : decode b_md_goesOn 171 = .ok (.if_icmp .eq 34, 3) := by decide +kernel
theorem d_md_goesOn_174 : decode b_md_goesOn 174 = .ok (.aload_n 0, 1) := by decide +kernel
theorem d_md_goesOn_175 : decode b_md_goesOn 175 = .ok (.getfield 73, 3) := by decide +kernel
theorem d_md_goesOn_178 : decode b_md_goesOn 178 = .ok (.iload 5, 2) := by decide +kernel
theorem d_md_goesOn_180 : decode b_md_goesOn 180 = .ok (.iaload, 1) := by decide +kernel
theorem d_md_goesOn_181 : decode b_md_goesOn 181 = .ok (.aload_n 0, 1) := by decide +kernel
theorem d_md_goesOn_182 : decode b_md_goesOn 182 = .ok (.getfield 46, 3) := by decide +kernel
theorem d_md_goesOn_185 : decode b_md_goesOn 185 = .ok (.iload 4, 2) := by decide +kernel
theorem d_md_goesOn_187 : decode b_md_goesOn 187 = .ok (.aload_n 0, 1) := by decide +kernel
theorem d_md_goesOn_188 : decode b_md_goesOn 188 = .ok (.getfield 86, 3) := by decide +kernel
theorem d_md_goesOn_191 : decode b_md_goesOn 191 = .ok (.ishl, 1) := by decide +kernel
theorem d_md_goesOn_192 : decode b_md_goesOn 192 = .ok (.iload 5, 2) := by decide +kernel
theorem d_md_goesOn_194 : decode b_md_goesOn 194 = .ok (.ior, 1) := by decide +kernel
theorem d_md_goesOn_195 : decode b_md_goesOn 195 = .ok (.iaload, 1) := by decide +kernel
theorem d_md_goesOn_196 : decode b_md_goesOn 196 = .ok (.iadd, 1) := by decide +kernel
theorem d_md_goesOn_197 : decode b_md_goesOn 197 = .ok (.iload_n 1, 1) := by decide +kernel
theorem d_md_goesOn_198 : decode b_md_goesOn 198 = .ok (.if_icmp .ne 7, 3) := by decide +kernel
theorem d_md_goesOn_201 : decode b_md_goesOn 201 = .ok (.iconst 1, 1) := by decide +kernel
theorem d_md_goesOn_202 : decode b_md_goesOn 202 = .ok (.goto 4, 3) := by decide +kernel
theorem d_md_goesOn_205 : decode b_md_goesOn 205 = .ok (.iconst 0, 1) := by decide +kernel
theorem d_md_goesOn_206 : decode b_md_goesOn 206 = .ok (.istore_n 3, 1) := by decide +kernel
theorem d_md_goesOn_207 : decode b_md_goesOn 207 = .ok (.iinc 5 1, 3) := by decide +kernel
theorem d_md_goesOn_210 : decode b_md_goesOn 210 = .ok (.goto (-186), 3) := by decide +kernel
theorem d_md_goesOn_213 : decode b_md_goesOn 213 = .ok (.iload_n 3, 1) := by decide +kernel
theorem d_md_goesOn_214 : decode b_md_goesOn 214 = .ok (.ireturn, 1) := by decide +kernel
theorem d_md_stays_0 : decode b_md_stays 0 = .ok (.iconst 1, 1) := by decide +kernel
theorem d_md_stays_1 : decode b_md_stays 1 = .ok (.istore_n 2, 1) := by decide +kernel
theorem d_md_stays_2 : decode b_md_stays 2 = .ok (.iconst 0, 1) := by decide +kernel
theorem d_md_stays_3 : decode b_md_stays 3 = .ok (.istore_n 3, 1) := by decide +kernel
theorem d_md_stays_4 : decode b_md_stays 4 = .ok (.iload_n 3, 1) := by decide +kernel
theorem d_md_stays_5 : decode b_md_stays 5 = .ok (.aload_n 0, 1) := by decide +kernel
theorem d_md_stays_6 : decode b_md_stays 6 = .ok (.getfield 86, 3) := by decide +kernel
theorem d_md_stays_9 : decode b_md_stays 9 = .ok (.if_icmp .ge 42, 3) := by decide +kernel
theorem d_md_stays_12 : decode b_md_stays 12 = .ok (.iload_n 2, 1) := by decide +kernel
theorem d_md_stays_13 : decode b_md_stays 13 = .ok (.ifCond .eq 30, 3) := by decide +kernel
theorem d_md_stays_16 : decode b_md_stays 16 = .ok (.iload_n 1, 1) := by decide +kernel
theorem d_md_stays_17 : decode b_md_stays 17 = .ok (.iload_n 3, 1) := by decide +kernel
theorem d_md_stays_18 : decode b_md_stays 18 = .ok (.invokestatic 123, 3) := by decide +kernel
theorem d_md_stays_21 : decode b_md_stays 21 = .ok (.ifCond .eq 18, 3) := by decide +kernel
theorem d_md_stays_24 : decode b_md_stays 24 = .ok (.aload_n 0, 1) := by decide +kernel
theorem d_md_stays_25 : decode b_md_stays 25 = .ok (.getfield 58, 3) := by decide +kernel
theorem d_md_stays_28 : decode b_md_stays 28 = .ok (.iload_n 3, 1) := by decide +kernel
theorem d_md_stays_29 : decode b_md_stays 29 = .ok (.iaload, 1) := by decide +kernel
theorem d_md_stays_30 : decode b_md_stays 30 = .ok (.aload_n 0, 1) := by decide +kernel
theorem d_md_stays_31 : decode b_md_stays 31 = .ok (.getfield 55, 3) := by decide +kernel
theorem d_md_stays_34 : decode b_md_stays 34 = .ok (.iload_n 3, 1) := by decide +kernel
theorem d_md_stays_35 : decode b_md_stays 35 = .ok (.iaload, 1) := by decide +kernel
theorem d_md_stays_36 : decode b_md_stays 36 = .ok (.if_icmp .ne 7, 3) := by decide +kernel
theorem d_md_stays_39 : decode b_md_stays 39 = .ok (.iconst 1, 1) := by decide +kernel
theorem d_md_stays_40 : decode b_md_stays 40 = .ok (.goto 4, 3) := by decide +kernel
theorem d_md_stays_43 : decode b_md_stays 43 = .ok (.iconst 0, 1) := by decide +kernel
theorem d_md_stays_44 : decode b_md_stays 44 = .ok (.istore_n 2, 1) := by decide +kernel
theorem d_md_stays_45 : decode b_md_stays 45 = .ok (.iinc 3 1, 3) := by decide +kernel
theorem d_md_stays_48 : decode b_md_stays 48 = .ok (.goto (-44), 3) := by decide +kernel
theorem d_md_stays_51 : decode b_md_stays 51 = .ok (.iload_n 2, 1) := by decide +kernel
theorem d_md_stays_52 : decode b_md_stays 52 = .ok (.ireturn, 1) := by decide +kernel
theorem d_md_place_0 : decode b_md_place 0 = .ok (.iconst (-1), 1) := by decide +kernel
theorem d_md_place_1 : decode b_md_place 1 = .ok (.istore_n 3, 1) := by decide +kernel
theorem d_md_place_2 : decode b_md_place 2 = .ok (.iconst 0, 1) := by decide +kernel
theorem d_md_place_3 : decode b_md_place 3 = .ok (.istore 4, 2) := by decide +kernel
theorem d_md_place_5 : decode b_md_place 5 = .ok (.iload 4, 2) := by decide +kernel
theorem d_md_place_7 : decode b_md_place 7 = .ok (.iload_n 2, 1) := by decide +kernel
theorem d_md_place_8 : decode b_md_place 8 = .ok (.if_icmp .gt 39, 3) := by decide +kernel
theorem d_md_place_11 : decode b_md_place 11 = .ok (.aload_n 0, 1) := by decide +kernel
theorem d_md_place_12 : decode b_md_place 12 = .ok (.getfield 30, 3) := by decide +kernel
theorem d_md_place_15 : decode b_md_place 15 = .ok (.bipush 30, 2) := by decide +kernel
theorem d_md_place_17 : decode b_md_place 17 = .ok (.iload_n 1, 1) := by decide +kernel
theorem d_md_place_18 : decode b_md_place 18 = .ok (.imul, 1) := by decide +kernel
theorem d_md_place_19 : decode b_md_place 19 = .ok (.iload 4, 2) := by decide +kernel
theorem d_md_place_21 : decode b_md_place 21 = .ok (.iadd, 1) := by decide +kernel
theorem d_md_place_22 : decode b_md_place 22 = .ok (.baload, 1) := by decide +kernel
theorem d_md_place_23 : decode b_md_place 23 = .ok (.ifCond .ne 5, 3) := by decide +kernel
theorem d_md_place_26 : decode b_md_place 26 = .ok (.iload_n 3, 1) := by decide +kernel
theorem d_md_place_27 : decode b_md_place 27 = .ok (.ireturn, 1) := by decide +kernel
theorem d_md_place_28 : decode b_md_place 28 = .ok (.aload_n 0, 1) := by decide +kernel
theorem d_md_place_29 : decode b_md_place 29 = .ok (.getfield 27, 3) := by decide +kernel
theorem d_md_place_32 : decode b_md_place 32 = .ok (.bipush 30, 2) := by decide +kernel
theorem d_md_place_34 : decode b_md_place 34 = .ok (.iload_n 1, 1) := by decide +kernel
theorem d_md_place_35 : decode b_md_place 35 = .ok (.imul, 1) := by decide +kernel
theorem d_md_place_36 : decode b_md_place 36 = .ok (.iload 4, 2) := by decide +kernel
theorem d_md_place_38 : decode b_md_place 38 = .ok (.iadd, 1) := by decide +kernel
theorem d_md_place_39 : decode b_md_place 39 = .ok (.iaload, 1) := by decide +kernel
theorem d_md_place_40 : decode b_md_place 40 = .ok (.istore_n 3, 1) := by decide +kernel
theorem d_md_place_41 : decode b_md_place 41 = .ok (.iinc 4 1, 3) := by decide +kernel
theorem d_md_place_44 : decode b_md_place 44 = .ok (.goto (-39), 3) := by decide +kernel
theorem d_md_place_47 : decode b_md_place 47 = .ok (.iload_n 3, 1) := by decide +kernel
theorem d_md_place_48 : decode b_md_place 48 = .ok (.ireturn, 1) := by decide +kernel
theorem d_md_isWrong_0 : decode b_md_isWrong 0 = .ok (.aload_n 0, 1) := by decide +kernel
theorem d_md_isWrong_1 : decode b_md_isWrong 1 = .ok (.iload_n 1, 1) := by decide +kernel
theorem d_md_isWrong_2 : decode b_md_isWrong 2 = .ok (.iload_n 2, 1) := by decide +kernel
theorem d_md_isWrong_3 : decode b_md_isWrong 3 = .ok (.invokevirtual 193, 3) := by decide +kernel
end
section
theorem d_md_isWrong_6 : decode b_md_isWrong 6 = .ok (.istore_n 3, 1) := by decide +kernel
theorem d_md_isWrong_7 : decode b_md_isWrong 7 = .ok (.aload_n 0, 1) := by decide +kernel
theorem d_md_isWrong_8 : decode b_md_isWrong 8 = .ok (.getfield 30, 3) := by decide +kernel
theorem d_md_isWrong_11 : decode b_md_isWrong 11 = .ok (.bipush 30, 2) := by decide +kernel
theorem d_md_isWrong_13 : decode b_md_isWrong 13 = .ok (.iload_n 1, 1) := by decide +kernel
theorem d_md_isWrong_14 : decode b_md_isWrong 14 = .ok (.imul, 1) := by decide +kernel
theorem d_md_isWrong_15 : decode b_md_isWrong 15 = .ok (.baload, 1) := by decide +kernel
theorem d_md_isWrong_16 : decode b_md_isWrong 16 = .ok (.ifCond .eq 11, 3) := by decide +kernel
theorem d_md_isWrong_19 : decode b_md_isWrong 19 = .ok (.aload_n 0, 1) := by decide +kernel
theorem d_md_isWrong_20 : decode b_md_isWrong 20 = .ok (.iload_n 3, 1) := by decide +kernel
theorem d_md_isWrong_21 : decode b_md_isWrong 21 = .ok (.invokevirtual 101, 3) := by decide +kernel
theorem d_md_isWrong_24 : decode b_md_isWrong 24 = .ok (.ifCond .ne 5, 3) := by decide +kernel
theorem d_md_isWrong_27 : decode b_md_isWrong 27 = .ok (.iconst 1, 1) := by decide +kernel
theorem d_md_isWrong_28 : decode b_md_isWrong 28 = .ok (.ireturn, 1) := by decide +kernel
theorem d_md_isWrong_29 : decode b_md_isWrong 29 = .ok (.iload_n 2, 1) := by decide +kernel
theorem d_md_isWrong_30 : decode b_md_isWrong 30 = .ok (.ifCond .ne 19, 3) := by decide +kernel
theorem d_md_isWrong_33 : decode b_md_isWrong 33 = .ok (.iload_n 3, 1) := by decide +kernel
theorem d_md_isWrong_34 : decode b_md_isWrong 34 = .ok (.aload_n 0, 1) := by decide +kernel
theorem d_md_isWrong_35 : decode b_md_isWrong 35 = .ok (.getfield 20, 3) := by decide +kernel
theorem d_md_isWrong_38 : decode b_md_isWrong 38 = .ok (.iload_n 1, 1) := by decide +kernel
theorem d_md_isWrong_39 : decode b_md_isWrong 39 = .ok (.iaload, 1) := by decide +kernel
theorem d_md_isWrong_40 : decode b_md_isWrong 40 = .ok (.if_icmp .eq 7, 3) := by decide +kernel
theorem d_md_isWrong_43 : decode b_md_isWrong 43 = .ok (.iconst 1, 1) := by decide +kernel
theorem d_md_isWrong_44 : decode b_md_isWrong 44 = .ok (.goto 4, 3) := by decide +kernel
theorem d_md_isWrong_47 : decode b_md_isWrong 47 = .ok (.iconst 0, 1) := by decide +kernel
theorem d_md_isWrong_48 : decode b_md_isWrong 48 = .ok (.ireturn, 1) := by decide +kernel
theorem d_md_isWrong_49 : decode b_md_isWrong 49 = .ok (.aload_n 0, 1) := by decide +kernel
theorem d_md_isWrong_50 : decode b_md_isWrong 50 = .ok (.iload_n 1, 1) := by decide +kernel
theorem d_md_isWrong_51 : decode b_md_isWrong 51 = .ok (.iload_n 2, 1) := by decide +kernel
theorem d_md_isWrong_52 : decode b_md_isWrong 52 = .ok (.iconst 1, 1) := by decide +kernel
theorem d_md_isWrong_53 : decode b_md_isWrong 53 = .ok (.isub, 1) := by decide +kernel
theorem d_md_isWrong_54 : decode b_md_isWrong 54 = .ok (.invokevirtual 193, 3) := by decide +kernel
theorem d_md_isWrong_57 : decode b_md_isWrong 57 = .ok (.istore 4, 2) := by decide +kernel
theorem d_md_isWrong_59 : decode b_md_isWrong 59 = .ok (.iload_n 3, 1) := by decide +kernel
theorem d_md_isWrong_60 : decode b_md_isWrong 60 = .ok (.iload 4, 2) := by decide +kernel
theorem d_md_isWrong_62 : decode b_md_isWrong 62 = .ok (.if_icmp .eq 13, 3) := by decide +kernel
theorem d_md_isWrong_65 : decode b_md_isWrong 65 = .ok (.aload_n 0, 1) := by decide +kernel
theorem d_md_isWrong_66 : decode b_md_isWrong 66 = .ok (.iload_n 3, 1) := by decide +kernel
theorem d_md_isWrong_67 : decode b_md_isWrong 67 = .ok (.iload 4, 2) := by decide +kernel
theorem d_md_isWrong_69 : decode b_md_isWrong 69 = .ok (.invokevirtual 107, 3) := by decide +kernel
theorem d_md_isWrong_72 : decode b_md_isWrong 72 = .ok (.ifCond .eq 19, 3) := by decide +kernel
theorem d_md_isWrong_75 : decode b_md_isWrong 75 = .ok (.iload_n 2, 1) := by decide +kernel
theorem d_md_isWrong_76 : decode b_md_isWrong 76 = .ok (.bipush 29, 2) := by decide +kernel
theorem d_md_isWrong_78 : decode b_md_isWrong 78 = .ok (.if_icmp .ne 17, 3) := by decide +kernel
theorem d_md_isWrong_81 : decode b_md_isWrong 81 = .ok (.iload_n 3, 1) := by decide +kernel
theorem d_md_isWrong_82 : decode b_md_isWrong 82 = .ok (.aload_n 0, 1) := by decide +kernel
theorem d_md_isWrong_83 : decode b_md_isWrong 83 = .ok (.getfield 24, 3) := by decide +kernel
theorem d_md_isWrong_86 : decode b_md_isWrong 86 = .ok (.iload_n 1, 1) := by decide +kernel
theorem d_md_isWrong_87 : decode b_md_isWrong 87 = .ok (.iaload, 1) := by decide +kernel
theorem d_md_isWrong_88 : decode b_md_isWrong 88 = .ok (.if_icmp .eq 7, 3) := by decide +kernel
theorem d_md_isWrong_91 : decode b_md_isWrong 91 = .ok (.iconst 1, 1) := by decide +kernel
theorem d_md_isWrong_92 : decode b_md_isWrong 92 = .ok (.goto 4, 3) := by decide +kernel
theorem d_md_isWrong_95 : decode b_md_isWrong 95 = .ok (.iconst 0, 1) := by decide +kernel
theorem d_md_isWrong_96 : decode b_md_isWrong 96 = .ok (.ireturn, 1) := by decide +kernel
theorem d_md_wrong_0 : decode b_md_wrong 0 = .ok (.aload_n 0, 1) := by decide +kernel
theorem d_md_wrong_1 : decode b_md_wrong 1 = .ok (.getfield 196, 3) := by decide +kernel
theorem d_md_wrong_4 : decode b_md_wrong 4 = .ok (.ifCond .ne 24, 3) := by decide +kernel
theorem d_md_wrong_7 : decode b_md_wrong 7 = .ok (.aload_n 0, 1) := by decide +kernel
theorem d_md_wrong_8 : decode b_md_wrong 8 = .ok (.iload_n 1, 1) := by decide +kernel
theorem d_md_wrong_9 : decode b_md_wrong 9 = .ok (.putfield 196, 3) := by decide +kernel
theorem d_md_wrong_12 : decode b_md_wrong 12 = .ok (.aload_n 0, 1) := by decide +kernel
theorem d_md_wrong_13 : decode b_md_wrong 13 = .ok (.iload_n 2, 1) := by decide +kernel
theorem d_md_wrong_14 : decode b_md_wrong 14 = .ok (.putfield 199, 3) := by decide +kernel
theorem d_md_wrong_17 : decode b_md_wrong 17 = .ok (.aload_n 0, 1) := by decide +kernel
theorem d_md_wrong_18 : decode b_md_wrong 18 = .ok (.iload_n 3, 1) := by decide +kernel
theorem d_md_wrong_19 : decode b_md_wrong 19 = .ok (.putfield 202, 3) := by decide +kernel
theorem d_md_wrong_22 : decode b_md_wrong 22 = .ok (.aload_n 0, 1) := by decide +kernel
theorem d_md_wrong_23 : decode b_md_wrong 23 = .ok (.iload 4, 2) := by decide +kernel
theorem d_md_wrong_25 : decode b_md_wrong 25 = .ok (.putfield 205, 3) := by decide +kernel
theorem d_md_wrong_28 : decode b_md_wrong 28 = .ok (.return_, 1) := by decide +kernel
theorem d_cr_wayFromStart_0 : decode b_cr_wayFromStart 0 = .ok (.aload_n 0, 1) := by decide +kernel
theorem d_cr_wayFromStart_1 : decode b_cr_wayFromStart 1 = .ok (.getfield 20, 3) := by decide +kernel
theorem d_cr_wayFromStart_4 : decode b_cr_wayFromStart 4 = .ok (.iload_n 1, 1) := by decide +kernel
theorem d_cr_wayFromStart_5 : decode b_cr_wayFromStart 5 = .ok (.aaload, 1) := by decide +kernel
theorem d_cr_wayFromStart_6 : decode b_cr_wayFromStart 6 = .ok (.aload_n 0, 1) := by decide +kernel
theorem d_cr_wayFromStart_7 : decode b_cr_wayFromStart 7 = .ok (.getfield 9, 3) := by decide +kernel
theorem d_cr_wayFromStart_10 : decode b_cr_wayFromStart 10 = .ok (.iload_n 1, 1) := by decide +kernel
theorem d_cr_wayFromStart_11 : decode b_cr_wayFromStart 11 = .ok (.iaload, 1) := by decide +kernel
theorem d_cr_wayFromStart_12 : decode b_cr_wayFromStart 12 = .ok (.iaload, 1) := by decide +kernel
theorem d_cr_wayFromStart_13 : decode b_cr_wayFromStart 13 = .ok (.ireturn, 1) := by decide +kernel
theorem d_cr_countWays_0 : decode b_cr_countWays 0 = .ok (.aload_n 0, 1) := by decide +kernel
theorem d_cr_countWays_1 : decode b_cr_countWays 1 = .ok (.getfield 9, 3) := by decide +kernel
theorem d_cr_countWays_4 : decode b_cr_countWays 4 = .ok (.iload_n 1, 1) := by decide +kernel
theorem d_cr_countWays_5 : decode b_cr_countWays 5 = .ok (.iaload, 1) := by decide +kernel
theorem d_cr_countWays_6 : decode b_cr_countWays 6 = .ok (.istore_n 3, 1) := by decide +kernel
theorem d_cr_countWays_7 : decode b_cr_countWays 7 = .ok (.aload_n 0, 1) := by decide +kernel
theorem d_cr_countWays_8 : decode b_cr_countWays 8 = .ok (.getfield 15, 3) := by decide +kernel
theorem d_cr_countWays_11 : decode b_cr_countWays 11 = .ok (.iload_n 1, 1) := by decide +kernel
theorem d_cr_countWays_12 : decode b_cr_countWays 12 = .ok (.iaload, 1) := by decide +kernel
theorem d_cr_countWays_13 : decode b_cr_countWays 13 = .ok (.istore 4, 2) := by decide +kernel
theorem d_cr_countWays_15 : decode b_cr_countWays 15 = .ok (.iload_n 2, 1) := by decide +kernel
theorem d_cr_countWays_16 : decode b_cr_countWays 16 = .ok (.ifCond .ne 15, 3) := by decide +kernel
theorem d_cr_countWays_19 : decode b_cr_countWays 19 = .ok (.iload_n 3, 1) := by decide +kernel
theorem d_cr_countWays_20 : decode b_cr_countWays 20 = .ok (.iload 4, 2) := by decide +kernel
theorem d_cr_countWays_22 : decode b_cr_countWays 22 = .ok (.if_icmp .ne 7, 3) := by decide +kernel
theorem d_cr_countWays_25 : decode b_cr_countWays 25 = .ok (.lconst 1, 1) := by decide +kernel
theorem d_cr_countWays_26 : decode b_cr_countWays 26 = .ok (.goto 4, 3) := by decide +kernel
theorem d_cr_countWays_29 : decode b_cr_countWays 29 = .ok (.lconst 0, 1) := by decide +kernel
theorem d_cr_countWays_30 : decode b_cr_countWays 30 = .ok (.lreturn, 1) := by decide +kernel
theorem d_cr_countWays_31 : decode b_cr_countWays 31 = .ok (.aload_n 0, 1) := by decide +kernel
theorem d_cr_countWays_32 : decode b_cr_countWays 32 = .ok (.getfield 26, 3) := by decide +kernel
theorem d_cr_countWays_35 : decode b_cr_countWays 35 = .ok (.lconst 0, 1) := by decide +kernel
theorem d_cr_countWays_36 : decode b_cr_countWays 36 = .ok (.invokestatic 54, 3) := by decide +kernel
theorem d_cr_countWays_39 : decode b_cr_countWays 39 = .ok (.aload_n 0, 1) := by decide +kernel
theorem d_cr_countWays_40 : decode b_cr_countWays 40 = .ok (.getfield 26, 3) := by decide +kernel
theorem d_cr_countWays_43 : decode b_cr_countWays 43 = .ok (.iload_n 3, 1) := by decide +kernel
theorem d_cr_countWays_44 : decode b_cr_countWays 44 = .ok (.lconst 1, 1) := by decide +kernel
theorem d_cr_countWays_45 : decode b_cr_countWays 45 = .ok (.lastore, 1) := by decide +kernel
theorem d_cr_countWays_46 : decode b_cr_countWays 46 = .ok (.iconst 1, 1) := by decide +kernel
theorem d_cr_countWays_47 : decode b_cr_countWays 47 = .ok (.istore 5, 2) := by decide +kernel
theorem d_cr_countWays_49 : decode b_cr_countWays 49 = .ok (.iload 5, 2) := by decide +kernel
theorem d_cr_countWays_51 : decode b_cr_countWays 51 = .ok (.iload_n 2, 1) := by decide +kernel
theorem d_cr_countWays_52 : decode b_cr_countWays 52 = .ok (.if_icmp .ge 13, 3) := by decide +kernel
theorem d_cr_countWays_55 : decode b_cr_countWays 55 = .ok (.aload_n 0, 1) := by decide +kernel
theorem d_cr_countWays_56 : decode b_cr_countWays 56 = .ok (.invokevirtual 60, 3) := by decide +kernel
theorem d_cr_countWays_59 : decode b_cr_countWays 59 = .ok (.iinc 5 1, 3) := by decide +kernel
theorem d_cr_countWays_62 : decode b_cr_countWays 62 = .ok (.goto (-13), 3) := by decide +kernel
theorem d_cr_countWays_65 : decode b_cr_countWays 65 = .ok (.aload_n 0, 1) := by decide +kernel
theorem d_cr_countWays_66 : decode b_cr_countWays 66 = .ok (.iload 4, 2) := by decide +kernel
theorem d_cr_countWays_68 : decode b_cr_countWays 68 = .ok (.invokevirtual 63, 3) := by decide +kernel
theorem d_cr_countWays_71 : decode b_cr_countWays 71 = .ok (.aload_n 0, 1) := by decide +kernel
theorem d_cr_countWays_72 : decode b_cr_countWays 72 = .ok (.getfield 26, 3) := by decide +kernel
theorem d_cr_countWays_75 : decode b_cr_countWays 75 = .ok (.iload 4, 2) := by decide +kernel
theorem d_cr_countWays_77 : decode b_cr_countWays 77 = .ok (.laload, 1) := by decide +kernel
theorem d_cr_countWays_78 : decode b_cr_countWays 78 = .ok (.lsub, 1) := by decide +kernel
theorem d_cr_countWays_79 : decode b_cr_countWays 79 = .ok (.lreturn, 1) := by decide +kernel
theorem d_cr_spreadCounts_0 : decode b_cr_spreadCounts 0 = .ok (.iconst 0, 1) := by decide +kernel
theorem d_cr_spreadCounts_1 : decode b_cr_spreadCounts 1 = .ok (.istore_n 1, 1) := by decide +kernel
theorem d_cr_spreadCounts_2 : decode b_cr_spreadCounts 2 = .ok (.iload_n 1, 1) := by decide +kernel
theorem d_cr_spreadCounts_3 : decode b_cr_spreadCounts 3 = .ok (.bipush 25, 2) := by decide +kernel
theorem d_cr_spreadCounts_5 : decode b_cr_spreadCounts 5 = .ok (.if_icmp .ge 35, 3) := by decide +kernel
theorem d_cr_spreadCounts_8 : decode b_cr_spreadCounts 8 = .ok (.aload_n 0, 1) := by decide +kernel
theorem d_cr_spreadCounts_9 : decode b_cr_spreadCounts 9 = .ok (.getfield 30, 3) := by decide +kernel
theorem d_cr_spreadCounts_12 : decode b_cr_spreadCounts 12 = .ok (.iload_n 1, 1) := by decide +kernel
theorem d_cr_spreadCounts_13 : decode b_cr_spreadCounts 13 = .ok (.aload_n 0, 1) := by decide +kernel
theorem d_cr_spreadCounts_14 : decode b_cr_spreadCounts 14 = .ok (.getfield 33, 3) := by decide +kernel
theorem d_cr_spreadCounts_17 : decode b_cr_spreadCounts 17 = .ok (.iload_n 1, 1) := by decide +kernel
theorem d_cr_spreadCounts_18 : decode b_cr_spreadCounts 18 = .ok (.invokevirtual 67, 3) := by decide +kernel
theorem d_cr_spreadCounts_21 : decode b_cr_spreadCounts 21 = .ok (.ifCond .eq 11, 3) := by decide +kernel
theorem d_cr_spreadCounts_24 : decode b_cr_spreadCounts 24 = .ok (.aload_n 0, 1) := by decide +kernel
theorem d_cr_spreadCounts_25 : decode b_cr_spreadCounts 25 = .ok (.iload_n 1, 1) := by decide +kernel
theorem d_cr_spreadCounts_26 : decode b_cr_spreadCounts 26 = .ok (.invokevirtual 63, 3) := by decide +kernel
theorem d_cr_spreadCounts_29 : decode b_cr_spreadCounts 29 = .ok (.goto 4, 3) := by decide +kernel
theorem d_cr_spreadCounts_32 : decode b_cr_spreadCounts 32 = .ok (.lconst 0, 1) := by decide +kernel
theorem d_cr_spreadCounts_33 : decode b_cr_spreadCounts 33 = .ok (.lastore, 1) := by decide +kernel
theorem d_cr_spreadCounts_34 : decode b_cr_spreadCounts 34 = .ok (.iinc 1 1, 3) := by decide +kernel
theorem d_cr_spreadCounts_37 : decode b_cr_spreadCounts 37 = .ok (.goto (-35), 3) := by decide +kernel
theorem d_cr_spreadCounts_40 : decode b_cr_spreadCounts 40 = .ok (.aload_n 0, 1) := by decide +kernel
theorem d_cr_spreadCounts_41 : decode b_cr_spreadCounts 41 = .ok (.getfield 26, 3) := by decide +kernel
theorem d_cr_spreadCounts_44 : decode b_cr_spreadCounts 44 = .ok (.astore_n 1, 1) := by decide +kernel
theorem d_cr_spreadCounts_45 : decode b_cr_spreadCounts 45 = .ok (.aload_n 0, 1) := by decide +kernel
theorem d_cr_spreadCounts_46 : decode b_cr_spreadCounts 46 = .ok (.aload_n 0, 1) := by decide +kernel
theorem d_cr_spreadCounts_47 : decode b_cr_spreadCounts 47 = .ok (.getfield 30, 3) := by decide +kernel
theorem d_cr_spreadCounts_50 : decode b_cr_spreadCounts 50 = .ok (.putfield 26, 3) := by decide +kernel
theorem d_cr_spreadCounts_53 : decode b_cr_spreadCounts 53 = .ok (.aload_n 0, 1) := by decide +kernel
theorem d_cr_spreadCounts_54 : decode b_cr_spreadCounts 54 = .ok (.aload_n 1, 1) := by decide +kernel
theorem d_cr_spreadCounts_55 : decode b_cr_spreadCounts 55 = .ok (.putfield 30, 3) := by decide +kernel
theorem d_cr_spreadCounts_58 : decode b_cr_spreadCounts 58 = .ok (.return_, 1) := by decide +kernel
theorem d_cr_countsBeside_0 : decode b_cr_countsBeside 0 = .ok (.lconst 0, 1) := by decide +kernel
theorem d_cr_countsBeside_1 : decode b_cr_countsBeside 1 = .ok (.lstore_n 2, 1) := by decide +kernel
theorem d_cr_countsBeside_2 : decode b_cr_countsBeside 2 = .ok (.iconst 0, 1) := by decide +kernel
theorem d_cr_countsBeside_3 : decode b_cr_countsBeside 3 = .ok (.istore 4, 2) := by decide +kernel
theorem d_cr_countsBeside_5 : decode b_cr_countsBeside 5 = .ok (.iload 4, 2) := by decide +kernel
theorem d_cr_countsBeside_7 : decode b_cr_countsBeside 7 = .ok (.aload_n 0, 1) := by decide +kernel
theorem d_cr_countsBeside_8 : decode b_cr_countsBeside 8 = .ok (.getfield 33, 3) := by decide +kernel
theorem d_cr_countsBeside_11 : decode b_cr_countsBeside 11 = .ok (.getfield 71, 3) := by decide +kernel
theorem d_cr_countsBeside_14 : decode b_cr_countsBeside 14 = .ok (.iload_n 1, 1) := by decide +kernel
theorem d_cr_countsBeside_15 : decode b_cr_countsBeside 15 = .ok (.iaload, 1) := by decide +kernel
theorem d_cr_countsBeside_16 : decode b_cr_countsBeside 16 = .ok (.if_icmp .ge 29, 3) := by decide +kernel
theorem d_cr_countsBeside_19 : decode b_cr_countsBeside 19 = .ok (.lload_n 2, 1) := by decide +kernel
theorem d_cr_countsBeside_20 : decode b_cr_countsBeside 20 = .ok (.aload_n 0, 1) := by decide +kernel
theorem d_cr_countsBeside_21 : decode b_cr_countsBeside 21 = .ok (.getfield 26, 3) := by decide +kernel
theorem d_cr_countsBeside_24 : decode b_cr_countsBeside 24 = .ok (.aload_n 0, 1) := by decide +kernel
theorem d_cr_countsBeside_25 : decode b_cr_countsBeside 25 = .ok (.getfield 33, 3) := by decide +kernel
theorem d_cr_countsBeside_28 : decode b_cr_countsBeside 28 = .ok (.getfield 74, 3) := by decide +kernel
theorem d_cr_countsBeside_31 : decode b_cr_countsBeside 31 = .ok (.iload_n 1, 1) := by decide +kernel
theorem d_cr_countsBeside_32 : decode b_cr_countsBeside 32 = .ok (.aaload, 1) := by decide +kernel
theorem d_cr_countsBeside_33 : decode b_cr_countsBeside 33 = .ok (.iload 4, 2) := by decide +kernel
theorem d_cr_countsBeside_35 : decode b_cr_countsBeside 35 = .ok (.iaload, 1) := by decide +kernel
theorem d_cr_countsBeside_36 : decode b_cr_countsBeside 36 = .ok (.laload, 1) := by decide +kernel
theorem d_cr_countsBeside_37 : decode b_cr_countsBeside 37 = .ok (.ladd, 1) := by decide +kernel
theorem d_cr_countsBeside_38 : decode b_cr_countsBeside 38 = .ok (.lstore_n 2, 1) := by decide +kernel
theorem d_cr_countsBeside_39 : decode b_cr_countsBeside 39 = .ok (.iinc 4 1, 3) := by decide +kernel
theorem d_cr_countsBeside_42 : decode b_cr_countsBeside 42 = .ok (.goto (-37), 3) := by decide +kernel
theorem d_cr_countsBeside_45 : decode b_cr_countsBeside 45 = .ok (.lload_n 2, 1) := by decide +kernel
theorem d_cr_countsBeside_46 : decode b_cr_countsBeside 46 = .ok (.lreturn, 1) := by decide +kernel
theorem d_fl_leads_0 : decode b_fl_leads 0 = .ok (.aload_n 0, 1) := by decide +kernel
theorem d_fl_leads_1 : decode b_fl_leads 1 = .ok (.iload_n 1, 1) := by decide +kernel
theorem d_fl_leads_2 : decode b_fl_leads 2 = .ok (.invokevirtual 45, 3) := by decide +kernel
theorem d_fl_leads_5 : decode b_fl_leads 5 = .ok (.ifCond .ne 5, 3) := by decide +kernel
theorem d_fl_leads_8 : decode b_fl_leads 8 = .ok (.iconst 0, 1) := by decide +kernel
theorem d_fl_leads_9 : decode b_fl_leads 9 = .ok (.ireturn, 1) := by decide +kernel
theorem d_fl_leads_10 : decode b_fl_leads 10 = .ok (.iconst 0, 1) := by decide +kernel
theorem d_fl_leads_11 : decode b_fl_leads 11 = .ok (.istore_n 3, 1) := by decide +kernel
theorem d_fl_leads_12 : decode b_fl_leads 12 = .ok (.iload_n 3, 1) := by decide +kernel
theorem d_fl_leads_13 : decode b_fl_leads 13 = .ok (.aload_n 0, 1) := by decide +kernel
theorem d_fl_leads_14 : decode b_fl_leads 14 = .ok (.getfield 19, 3) := by decide +kernel
theorem d_fl_leads_17 : decode b_fl_leads 17 = .ok (.iload_n 1, 1) := by decide +kernel
theorem d_fl_leads_18 : decode b_fl_leads 18 = .ok (.iaload, 1) := by decide +kernel
theorem d_fl_leads_19 : decode b_fl_leads 19 = .ok (.if_icmp .ge 23, 3) := by decide +kernel
theorem d_fl_leads_22 : decode b_fl_leads 22 = .ok (.aload_n 0, 1) := by decide +kernel
theorem d_fl_leads_23 : decode b_fl_leads 23 = .ok (.getfield 24, 3) := by decide +kernel
theorem d_fl_leads_26 : decode b_fl_leads 26 = .ok (.iload_n 1, 1) := by decide +kernel
theorem d_fl_leads_27 : decode b_fl_leads 27 = .ok (.aaload, 1) := by decide +kernel
theorem d_fl_leads_28 : decode b_fl_leads 28 = .ok (.iload_n 3, 1) := by decide +kernel
theorem d_fl_leads_29 : decode b_fl_leads 29 = .ok (.iaload, 1) := by decide +kernel
theorem d_fl_leads_30 : decode b_fl_leads 30 = .ok (.iload_n 2, 1) := by decide +kernel
theorem d_fl_leads_31 : decode b_fl_leads 31 = .ok (.if_icmp .ne 5, 3) := by decide +kernel
theorem d_fl_leads_34 : decode b_fl_leads 34 = .ok (.iconst 1, 1) := by decide +kernel
theorem d_fl_leads_35 : decode b_fl_leads 35 = .ok (.ireturn, 1) := by decide +kernel
theorem d_fl_leads_36 : decode b_fl_leads 36 = .ok (.iinc 3 1, 3) := by decide +kernel
theorem d_fl_leads_39 : decode b_fl_leads 39 = .ok (.goto (-27), 3) := by decide +kernel
theorem d_fl_leads_42 : decode b_fl_leads 42 = .ok (.iconst 0, 1) := by decide +kernel
theorem d_fl_leads_43 : decode b_fl_leads 43 = .ok (.ireturn, 1) := by decide +kernel
theorem d_ld_isNowhere_0 : decode b_ld_isNowhere 0 = .ok (.aload_n 0, 1) := by decide +kernel
theorem d_ld_isNowhere_1 : decode b_ld_isNowhere 1 = .ok (.getfield 20, 3) := by decide +kernel
theorem d_ld_isNowhere_4 : decode b_ld_isNowhere 4 = .ok (.iload_n 1, 1) := by decide +kernel
theorem d_ld_isNowhere_5 : decode b_ld_isNowhere 5 = .ok (.iaload, 1) := by decide +kernel
theorem d_ld_isNowhere_6 : decode b_ld_isNowhere 6 = .ok (.ifCond .ne 7, 3) := by decide +kernel
theorem d_ld_isNowhere_9 : decode b_ld_isNowhere 9 = .ok (.iconst 1, 1) := by decide +kernel
theorem d_ld_isNowhere_10 : decode b_ld_isNowhere 10 = .ok (.goto 4, 3) := by decide +kernel
theorem d_ld_isNowhere_13 : decode b_ld_isNowhere 13 = .ok (.iconst 0, 1) := by decide +kernel
theorem d_ld_isNowhere_14 : decode b_ld_isNowhere 14 = .ok (.ireturn, 1) := by decide +kernel
theorem d_ld_placeOf_0 : decode b_ld_placeOf 0 = .ok (.aload_n 0, 1) := by decide +kernel
theorem d_ld_placeOf_1 : decode b_ld_placeOf 1 = .ok (.getfield 11, 3) := by decide +kernel
theorem d_ld_placeOf_4 : decode b_ld_placeOf 4 = .ok (.iload_n 1, 1) := by decide +kernel
theorem d_ld_placeOf_5 : decode b_ld_placeOf 5 = .ok (.aaload, 1) := by decide +kernel
theorem d_ld_placeOf_6 : decode b_ld_placeOf 6 = .ok (.iload_n 2, 1) := by decide +kernel
theorem d_ld_placeOf_7 : decode b_ld_placeOf 7 = .ok (.aload_n 0, 1) := by decide +kernel
theorem d_ld_placeOf_8 : decode b_ld_placeOf 8 = .ok (.getfield 20, 3) := by decide +kernel
theorem d_ld_placeOf_11 : decode b_ld_placeOf 11 = .ok (.iload_n 1, 1) := by decide +kernel
theorem d_ld_placeOf_12 : decode b_ld_placeOf 12 = .ok (.iaload, 1) := by decide +kernel
theorem d_ld_placeOf_13 : decode b_ld_placeOf 13 = .ok (.iconst 1, 1) := by decide +kernel
theorem d_ld_placeOf_14 : decode b_ld_placeOf 14 = .ok (.isub, 1) := by decide +kernel
theorem d_ld_placeOf_15 : decode b_ld_placeOf 15 = .ok (.invokestatic 33, 3) := by decide +kernel
theorem d_ld_placeOf_18 : decode b_ld_placeOf 18 = .ok (.iaload, 1) := by decide +kernel
theorem d_ld_placeOf_19 : decode b_ld_placeOf 19 = .ok (.ireturn, 1) := by decide +kernel
theorem d_le_get_0 : decode b_le_get 0 = .ok (.aload_n 0, 1) := by decide +kernel
theorem d_le_get_1 : decode b_le_get 1 = .ok (.getfield 9, 3) := by decide +kernel
theorem d_le_get_4 : decode b_le_get 4 = .ok (.iload_n 1, 1) := by decide +kernel
theorem d_le_get_5 : decode b_le_get 5 = .ok (.iconst 4, 1) := by decide +kernel
theorem d_le_get_6 : decode b_le_get 6 = .ok (.ishr, 1) := by decide +kernel
theorem d_le_get_7 : decode b_le_get 7 = .ok (.laload, 1) := by decide +kernel
theorem d_le_get_8 : decode b_le_get 8 = .ok (.aload_n 0, 1) := by decide +kernel
theorem d_le_get_9 : decode b_le_get 9 = .ok (.iload_n 1, 1) := by decide +kernel
theorem d_le_get_10 : decode b_le_get 10 = .ok (.invokevirtual 21, 3) := by decide +kernel
theorem d_le_get_13 : decode b_le_get 13 = .ok (.lushr, 1) := by decide +kernel
theorem d_le_get_14 : decode b_le_get 14 = .ok (.l2i, 1) := by decide +kernel
theorem d_le_get_15 : decode b_le_get 15 = .ok (.bipush 15, 2) := by decide +kernel
theorem d_le_get_17 : decode b_le_get 17 = .ok (.iand, 1) := by decide +kernel
theorem d_le_get_18 : decode b_le_get 18 = .ok (.ireturn, 1) := by decide +kernel
theorem d_le_put_0 : decode b_le_put 0 = .ok (.aload_n 0, 1) := by decide +kernel
theorem d_le_put_1 : decode b_le_put 1 = .ok (.iload_n 1, 1) := by decide +kernel
theorem d_le_put_2 : decode b_le_put 2 = .ok (.invokevirtual 21, 3) := by decide +kernel
theorem d_le_put_5 : decode b_le_put 5 = .ok (.istore_n 3, 1) := by decide +kernel
theorem d_le_put_6 : decode b_le_put 6 = .ok (.aload_n 0, 1) := by decide +kernel
theorem d_le_put_7 : decode b_le_put 7 = .ok (.getfield 9, 3) := by decide +kernel
theorem d_le_put_10 : decode b_le_put 10 = .ok (.iload_n 1, 1) := by decide +kernel
theorem d_le_put_11 : decode b_le_put 11 = .ok (.iconst 4, 1) := by decide +kernel
theorem d_le_put_12 : decode b_le_put 12 = .ok (.ishr, 1) := by decide +kernel
theorem d_le_put_13 : decode b_le_put 13 = .ok (.aload_n 0, 1) := by decide +kernel
theorem d_le_put_14 : decode b_le_put 14 = .ok (.getfield 9, 3) := by decide +kernel
theorem d_le_put_17 : decode b_le_put 17 = .ok (.iload_n 1, 1) := by decide +kernel
theorem d_le_put_18 : decode b_le_put 18 = .ok (.iconst 4, 1) := by decide +kernel
theorem d_le_put_19 : decode b_le_put 19 = .ok (.ishr, 1) := by decide +kernel
theorem d_le_put_20 : decode b_le_put 20 = .ok (.laload, 1) := by decide +kernel
theorem d_le_put_21 : decode b_le_put 21 = .ok (.ldc2_w 25, 3) := by decide +kernel
theorem d_le_put_24 : decode b_le_put 24 = .ok (.iload_n 3, 1) := by decide +kernel
theorem d_le_put_25 : decode b_le_put 25 = .ok (.lshl, 1) := by decide +kernel
theorem d_le_put_26 : decode b_le_put 26 = .ok (.ldc2_w 27, 3) := by decide +kernel
theorem d_le_put_29 : decode b_le_put 29 = .ok (.lxor, 1) := by decide +kernel
theorem d_le_put_30 : decode b_le_put 30 = .ok (.land, 1) := by decide +kernel
theorem d_le_put_31 : decode b_le_put 31 = .ok (.iload_n 2, 1) := by decide +kernel
theorem d_le_put_32 : decode b_le_put 32 = .ok (.i2l, 1) := by decide +kernel
theorem d_le_put_33 : decode b_le_put 33 = .ok (.iload_n 3, 1) := by decide +kernel
theorem d_le_put_34 : decode b_le_put 34 = .ok (.lshl, 1) := by decide +kernel
theorem d_le_put_35 : decode b_le_put 35 = .ok (.lor, 1) := by decide +kernel
theorem d_le_put_36 : decode b_le_put 36 = .ok (.lastore, 1) := by decide +kernel
theorem d_le_put_37 : decode b_le_put 37 = .ok (.return_, 1) := by decide +kernel
theorem d_le_shiftOf_0 : decode b_le_shiftOf 0 = .ok (.iload_n 1, 1) := by decide +kernel
theorem d_le_shiftOf_1 : decode b_le_shiftOf 1 = .ok (.bipush 15, 2) := by decide +kernel
theorem d_le_shiftOf_3 : decode b_le_shiftOf 3 = .ok (.iand, 1) := by decide +kernel
theorem d_le_shiftOf_4 : decode b_le_shiftOf 4 = .ok (.iconst 4, 1) := by decide +kernel
theorem d_le_shiftOf_5 : decode b_le_shiftOf 5 = .ok (.imul, 1) := by decide +kernel
theorem d_le_shiftOf_6 : decode b_le_shiftOf 6 = .ok (.ireturn, 1) := by decide +kernel
theorem d_pn_costOf_0 : decode b_pn_costOf 0 = .ok (.aload_n 0, 1) := by decide +kernel
theorem d_pn_costOf_1 : decode b_pn_costOf 1 = .ok (.iload_n 1, 1) := by decide +kernel
theorem d_pn_costOf_2 : decode b_pn_costOf 2 = .ok (.aload_n 0, 1) := by decide +kernel
theorem d_pn_costOf_3 : decode b_pn_costOf 3 = .ok (.getfield 68, 3) := by decide +kernel
theorem d_pn_costOf_6 : decode b_pn_costOf 6 = .ok (.invokevirtual 71, 3) := by decide +kernel
theorem d_pn_costOf_9 : decode b_pn_costOf 9 = .ok (.ireturn, 1) := by decide +kernel
theorem d_pn_placeOf_0 : decode b_pn_placeOf 0 = .ok (.aload_n 0, 1) := by decide +kernel
theorem d_pn_placeOf_1 : decode b_pn_placeOf 1 = .ok (.getfield 27, 3) := by decide +kernel
theorem d_pn_placeOf_4 : decode b_pn_placeOf 4 = .ok (.iload_n 2, 1) := by decide +kernel
theorem d_pn_placeOf_5 : decode b_pn_placeOf 5 = .ok (.aload_n 0, 1) := by decide +kernel
theorem d_pn_placeOf_6 : decode b_pn_placeOf 6 = .ok (.getfield 68, 3) := by decide +kernel
theorem d_pn_placeOf_9 : decode b_pn_placeOf 9 = .ok (.invokestatic 75, 3) := by decide +kernel
theorem d_pn_placeOf_12 : decode b_pn_placeOf 12 = .ok (.aaload, 1) := by decide +kernel
theorem d_pn_placeOf_13 : decode b_pn_placeOf 13 = .ok (.iload_n 1, 1) := by decide +kernel
theorem d_pn_placeOf_14 : decode b_pn_placeOf 14 = .ok (.iaload, 1) := by decide +kernel
theorem d_pn_placeOf_15 : decode b_pn_placeOf 15 = .ok (.ireturn, 1) := by decide +kernel
theorem d_pn_chooseNext_0 : decode b_pn_chooseNext 0 = .ok (.iload_n 2, 1) := by decide +kernel
theorem d_pn_chooseNext_1 : decode b_pn_chooseNext 1 = .ok (.aload_n 0, 1) := by decide +kernel
theorem d_pn_chooseNext_2 : decode b_pn_chooseNext 2 = .ok (.getfield 34, 3) := by decide +kernel
theorem d_pn_chooseNext_5 : decode b_pn_chooseNext 5 = .ok (.getfield 83, 3) := by decide +kernel
theorem d_pn_chooseNext_8 : decode b_pn_chooseNext 8 = .ok (.if_icmp .lt 15, 3) := by decide +kernel
theorem d_pn_chooseNext_11 : decode b_pn_chooseNext 11 = .ok (.aload_n 0, 1) := by decide +kernel
theorem d_pn_chooseNext_12 : decode b_pn_chooseNext 12 = .ok (.iload_n 1, 1) := by decide +kernel
theorem d_pn_chooseNext_13 : decode b_pn_chooseNext 13 = .ok (.iconst 1, 1) := by decide +kernel
theorem d_pn_chooseNext_14 : decode b_pn_chooseNext 14 = .ok (.iadd, 1) := by decide +kernel
theorem d_pn_chooseNext_15 : decode b_pn_chooseNext 15 = .ok (.aload_n 0, 1) := by decide +kernel
theorem d_pn_chooseNext_16 : decode b_pn_chooseNext 16 = .ok (.getfield 62, 3) := by decide +kernel
theorem d_pn_chooseNext_19 : decode b_pn_chooseNext 19 = .ok (.invokevirtual 58, 3) := by decide +kernel
theorem d_pn_chooseNext_22 : decode b_pn_chooseNext 22 = .ok (.ireturn, 1) := by decide +kernel
theorem d_pn_chooseNext_23 : decode b_pn_chooseNext 23 = .ok (.aload_n 0, 1) := by decide +kernel
theorem d_pn_chooseNext_24 : decode b_pn_chooseNext 24 = .ok (.getfield 27, 3) := by decide +kernel
theorem d_pn_chooseNext_27 : decode b_pn_chooseNext 27 = .ok (.iload_n 1, 1) := by decide +kernel
theorem d_pn_chooseNext_28 : decode b_pn_chooseNext 28 = .ok (.aaload, 1) := by decide +kernel
theorem d_pn_chooseNext_29 : decode b_pn_chooseNext 29 = .ok (.iload_n 2, 1) := by decide +kernel
theorem d_pn_chooseNext_30 : decode b_pn_chooseNext 30 = .ok (.iaload, 1) := by decide +kernel
theorem d_pn_chooseNext_31 : decode b_pn_chooseNext 31 = .ok (.istore_n 3, 1) := by decide +kernel
theorem d_pn_chooseNext_32 : decode b_pn_chooseNext 32 = .ok (.iconst 0, 1) := by decide +kernel
theorem d_pn_chooseNext_33 : decode b_pn_chooseNext 33 = .ok (.istore 4, 2) := by decide +kernel
theorem d_pn_chooseNext_35 : decode b_pn_chooseNext 35 = .ok (.iload 4, 2) := by decide +kernel
theorem d_pn_chooseNext_37 : decode b_pn_chooseNext 37 = .ok (.aload_n 0, 1) := by decide +kernel
theorem d_pn_chooseNext_38 : decode b_pn_chooseNext 38 = .ok (.getfield 30, 3) := by decide +kernel
theorem d_pn_chooseNext_41 : decode b_pn_chooseNext 41 = .ok (.getfield 99, 3) := by decide +kernel
theorem d_pn_chooseNext_44 : decode b_pn_chooseNext 44 = .ok (.iload_n 3, 1) := by decide +kernel
theorem d_pn_chooseNext_45 : decode b_pn_chooseNext 45 = .ok (.iaload, 1) := by decide +kernel
theorem d_pn_chooseNext_46 : decode b_pn_chooseNext 46 = .ok (.if_icmp .ge 55, 3) := by decide +kernel
theorem d_pn_chooseNext_49 : decode b_pn_chooseNext 49 = .ok (.aload_n 0, 1) := by decide +kernel
theorem d_pn_chooseNext_50 : decode b_pn_chooseNext 50 = .ok (.getfield 27, 3) := by decide +kernel
theorem d_pn_chooseNext_53 : decode b_pn_chooseNext 53 = .ok (.iload_n 1, 1) := by decide +kernel
theorem d_pn_chooseNext_54 : decode b_pn_chooseNext 54 = .ok (.aaload, 1) := by decide +kernel
theorem d_pn_chooseNext_55 : decode b_pn_chooseNext 55 = .ok (.aload_n 0, 1) := by decide +kernel
theorem d_pn_chooseNext_56 : decode b_pn_chooseNext 56 = .ok (.getfield 27, 3) := by decide +kernel
theorem d_pn_chooseNext_59 : decode b_pn_chooseNext 59 = .ok (.iload_n 1, 1) := by decide +kernel
theorem d_pn_chooseNext_60 : decode b_pn_chooseNext 60 = .ok (.iconst 1, 1) := by decide +kernel
theorem d_pn_chooseNext_61 : decode b_pn_chooseNext 61 = .ok (.iadd, 1) := by decide +kernel
theorem d_pn_chooseNext_62 : decode b_pn_chooseNext 62 = .ok (.aaload, 1) := by decide +kernel
theorem d_pn_chooseNext_63 : decode b_pn_chooseNext 63 = .ok (.iload_n 2, 1) := by decide +kernel
theorem d_pn_chooseNext_64 : decode b_pn_chooseNext 64 = .ok (.aload_n 0, 1) := by decide +kernel
theorem d_pn_chooseNext_65 : decode b_pn_chooseNext 65 = .ok (.getfield 30, 3) := by decide +kernel
theorem d_pn_chooseNext_68 : decode b_pn_chooseNext 68 = .ok (.getfield 104, 3) := by decide +kernel
theorem d_pn_chooseNext_71 : decode b_pn_chooseNext 71 = .ok (.iload_n 3, 1) := by decide +kernel
theorem d_pn_chooseNext_72 : decode b_pn_chooseNext 72 = .ok (.aaload, 1) := by decide +kernel
theorem d_pn_chooseNext_73 : decode b_pn_chooseNext 73 = .ok (.iload 4, 2) := by decide +kernel
theorem d_pn_chooseNext_75 : decode b_pn_chooseNext 75 = .ok (.iaload, 1) := by decide +kernel
theorem d_pn_chooseNext_76 : decode b_pn_chooseNext 76 = .ok (.invokestatic 107, 3) := by decide +kernel
theorem d_pn_chooseNext_79 : decode b_pn_chooseNext 79 = .ok (.ifCond .eq 16, 3) := by decide +kernel
theorem d_pn_chooseNext_82 : decode b_pn_chooseNext 82 = .ok (.aload_n 0, 1) := by decide +kernel
theorem d_pn_chooseNext_83 : decode b_pn_chooseNext 83 = .ok (.iload_n 1, 1) := by decide +kernel
theorem d_pn_chooseNext_84 : decode b_pn_chooseNext 84 = .ok (.iload_n 2, 1) := by decide +kernel
theorem d_pn_chooseNext_85 : decode b_pn_chooseNext 85 = .ok (.iconst 1, 1) := by decide +kernel
theorem d_pn_chooseNext_86 : decode b_pn_chooseNext 86 = .ok (.iadd, 1) := by decide +kernel
theorem d_pn_chooseNext_87 : decode b_pn_chooseNext 87 = .ok (.invokevirtual 93, 3) := by decide +kernel
theorem d_pn_chooseNext_90 : decode b_pn_chooseNext 90 = .ok (.ifCond .eq 5, 3) := by decide +kernel
theorem d_pn_chooseNext_93 : decode b_pn_chooseNext 93 = .ok (.iconst 1, 1) := by decide +kernel
theorem d_pn_chooseNext_94 : decode b_pn_chooseNext 94 = .ok (.ireturn, 1) := by decide +kernel
theorem d_pn_chooseNext_95 : decode b_pn_chooseNext 95 = .ok (.iinc 4 1, 3) := by decide +kernel
theorem d_pn_chooseNext_98 : decode b_pn_chooseNext 98 = .ok (.goto (-63), 3) := by decide +kernel
theorem d_pn_chooseNext_101 : decode b_pn_chooseNext 101 = .ok (.iconst 0, 1) := by decide +kernel
theorem d_pn_chooseNext_102 : decode b_pn_chooseNext 102 = .ok (.ireturn, 1) := by decide +kernel
theorem d_pn_homeSince_0 : decode b_pn_homeSince 0 = .ok (.iload_n 2, 1) := by decide +kernel
theorem d_pn_homeSince_1 : decode b_pn_homeSince 1 = .ok (.istore_n 3, 1) := by decide +kernel
theorem d_pn_homeSince_2 : decode b_pn_homeSince 2 = .ok (.iload_n 3, 1) := by decide +kernel
theorem d_pn_homeSince_3 : decode b_pn_homeSince 3 = .ok (.ifCond .le 31, 3) := by decide +kernel
theorem d_pn_homeSince_6 : decode b_pn_homeSince 6 = .ok (.aload_n 0, 1) := by decide +kernel
theorem d_pn_homeSince_7 : decode b_pn_homeSince 7 = .ok (.getfield 27, 3) := by decide +kernel
theorem d_pn_homeSince_10 : decode b_pn_homeSince 10 = .ok (.iload_n 3, 1) := by decide +kernel
theorem d_pn_homeSince_11 : decode b_pn_homeSince 11 = .ok (.iconst 1, 1) := by decide +kernel
theorem d_pn_homeSince_12 : decode b_pn_homeSince 12 = .ok (.isub, 1) := by decide +kernel
theorem d_pn_homeSince_13 : decode b_pn_homeSince 13 = .ok (.aaload, 1) := by decide +kernel
theorem d_pn_homeSince_14 : decode b_pn_homeSince 14 = .ok (.iload_n 1, 1) := by decide +kernel
theorem d_pn_homeSince_15 : decode b_pn_homeSince 15 = .ok (.iaload, 1) := by decide +kernel
theorem d_pn_homeSince_16 : decode b_pn_homeSince 16 = .ok (.aload_n 0, 1) := by decide +kernel
theorem d_pn_homeSince_17 : decode b_pn_homeSince 17 = .ok (.getfield 34, 3) := by decide +kernel
theorem d_pn_homeSince_20 : decode b_pn_homeSince 20 = .ok (.getfield 96, 3) := by decide +kernel
theorem d_pn_homeSince_23 : decode b_pn_homeSince 23 = .ok (.iload_n 1, 1) := by decide +kernel
theorem d_pn_homeSince_24 : decode b_pn_homeSince 24 = .ok (.iaload, 1) := by decide +kernel
theorem d_pn_homeSince_25 : decode b_pn_homeSince 25 = .ok (.if_icmp .ne 9, 3) := by decide +kernel
theorem d_pn_homeSince_28 : decode b_pn_homeSince 28 = .ok (.iinc 3 (-1), 3) := by decide +kernel
theorem d_pn_homeSince_31 : decode b_pn_homeSince 31 = .ok (.goto (-29), 3) := by decide +kernel
theorem d_pn_homeSince_34 : decode b_pn_homeSince 34 = .ok (.iload_n 3, 1) := by decide +kernel
theorem d_pn_homeSince_35 : decode b_pn_homeSince 35 = .ok (.ireturn, 1) := by decide +kernel
theorem d_pn_wayLeft_0 : decode b_pn_wayLeft 0 = .ok (.iload_n 2, 1) := by decide +kernel
theorem d_pn_wayLeft_1 : decode b_pn_wayLeft 1 = .ok (.aload_n 0, 1) := by decide +kernel
theorem d_pn_wayLeft_2 : decode b_pn_wayLeft 2 = .ok (.getfield 34, 3) := by decide +kernel
theorem d_pn_wayLeft_5 : decode b_pn_wayLeft 5 = .ok (.getfield 96, 3) := by decide +kernel
theorem d_pn_wayLeft_8 : decode b_pn_wayLeft 8 = .ok (.iload_n 1, 1) := by decide +kernel
theorem d_pn_wayLeft_9 : decode b_pn_wayLeft 9 = .ok (.iaload, 1) := by decide +kernel
theorem d_pn_wayLeft_10 : decode b_pn_wayLeft 10 = .ok (.if_icmp .ne 7, 3) := by decide +kernel
theorem d_pn_wayLeft_13 : decode b_pn_wayLeft 13 = .ok (.iconst 2, 1) := by decide +kernel
theorem d_pn_wayLeft_14 : decode b_pn_wayLeft 14 = .ok (.goto 14, 3) := by decide +kernel
theorem d_pn_wayLeft_17 : decode b_pn_wayLeft 17 = .ok (.aload_n 0, 1) := by decide +kernel
theorem d_pn_wayLeft_18 : decode b_pn_wayLeft 18 = .ok (.getfield 34, 3) := by decide +kernel
theorem d_pn_wayLeft_21 : decode b_pn_wayLeft 21 = .ok (.getfield 124, 3) := by decide +kernel
theorem d_pn_wayLeft_24 : decode b_pn_wayLeft 24 = .ok (.iload_n 1, 1) := by decide +kernel
theorem d_pn_wayLeft_25 : decode b_pn_wayLeft 25 = .ok (.aaload, 1) := by decide +kernel
theorem d_pn_wayLeft_26 : decode b_pn_wayLeft 26 = .ok (.iload_n 2, 1) := by decide +kernel
end
section
theorem d_pn_wayLeft_27 : decode b_pn_wayLeft 27 = .ok (.iaload, 1) := by decide +kernel
theorem d_pn_wayLeft_28 : decode b_pn_wayLeft 28 = .ok (.ireturn, 1) := by decide +kernel
theorem d_pn_reachesEndMoving_0 : decode b_pn_reachesEndMoving 0 = .ok (.iload_n 2, 1) := by decide +kernel
theorem d_pn_reachesEndMoving_1 : decode b_pn_reachesEndMoving 1 = .ok (.aload_n 0, 1) := by decide +kernel
theorem d_pn_reachesEndMoving_2 : decode b_pn_reachesEndMoving 2 = .ok (.getfield 34, 3) := by decide +kernel
theorem d_pn_reachesEndMoving_5 : decode b_pn_reachesEndMoving 5 = .ok (.getfield 83, 3) := by decide +kernel
theorem d_pn_reachesEndMoving_8 : decode b_pn_reachesEndMoving 8 = .ok (.if_icmp .lt 22, 3) := by decide +kernel
theorem d_pn_reachesEndMoving_11 : decode b_pn_reachesEndMoving 11 = .ok (.aload_n 0, 1) := by decide +kernel
theorem d_pn_reachesEndMoving_12 : decode b_pn_reachesEndMoving 12 = .ok (.getfield 23, 3) := by decide +kernel
theorem d_pn_reachesEndMoving_15 : decode b_pn_reachesEndMoving 15 = .ok (.iload_n 1, 1) := by decide +kernel
theorem d_pn_reachesEndMoving_16 : decode b_pn_reachesEndMoving 16 = .ok (.iconst 1, 1) := by decide +kernel
theorem d_pn_reachesEndMoving_17 : decode b_pn_reachesEndMoving 17 = .ok (.iadd, 1) := by decide +kernel
theorem d_pn_reachesEndMoving_18 : decode b_pn_reachesEndMoving 18 = .ok (.iload_n 3, 1) := by decide +kernel
theorem d_pn_reachesEndMoving_19 : decode b_pn_reachesEndMoving 19 = .ok (.iastore, 1) := by decide +kernel
theorem d_pn_reachesEndMoving_20 : decode b_pn_reachesEndMoving 20 = .ok (.aload_n 0, 1) := by decide +kernel
theorem d_pn_reachesEndMoving_21 : decode b_pn_reachesEndMoving 21 = .ok (.iload_n 1, 1) := by decide +kernel
theorem d_pn_reachesEndMoving_22 : decode b_pn_reachesEndMoving 22 = .ok (.iconst 1, 1) := by decide +kernel
theorem d_pn_reachesEndMoving_23 : decode b_pn_reachesEndMoving 23 = .ok (.iadd, 1) := by decide +kernel
theorem d_pn_reachesEndMoving_24 : decode b_pn_reachesEndMoving 24 = .ok (.iload 4, 2) := by decide +kernel
theorem d_pn_reachesEndMoving_26 : decode b_pn_reachesEndMoving 26 = .ok (.invokevirtual 115, 3) := by decide +kernel
theorem d_pn_reachesEndMoving_29 : decode b_pn_reachesEndMoving 29 = .ok (.ireturn, 1) := by decide +kernel
theorem d_pn_reachesEndMoving_30 : decode b_pn_reachesEndMoving 30 = .ok (.aload_n 0, 1) := by decide +kernel
theorem d_pn_reachesEndMoving_31 : decode b_pn_reachesEndMoving 31 = .ok (.getfield 20, 3) := by decide +kernel
theorem d_pn_reachesEndMoving_34 : decode b_pn_reachesEndMoving 34 = .ok (.iload_n 1, 1) := by decide +kernel
theorem d_pn_reachesEndMoving_35 : decode b_pn_reachesEndMoving 35 = .ok (.aaload, 1) := by decide +kernel
theorem d_pn_reachesEndMoving_36 : decode b_pn_reachesEndMoving 36 = .ok (.astore 5, 2) := by decide +kernel
theorem d_pn_reachesEndMoving_38 : decode b_pn_reachesEndMoving 38 = .ok (.aload_n 0, 1) := by decide +kernel
theorem d_pn_reachesEndMoving_39 : decode b_pn_reachesEndMoving 39 = .ok (.getfield 20, 3) := by decide +kernel
theorem d_pn_reachesEndMoving_42 : decode b_pn_reachesEndMoving 42 = .ok (.iload_n 1, 1) := by decide +kernel
theorem d_pn_reachesEndMoving_43 : decode b_pn_reachesEndMoving 43 = .ok (.iconst 1, 1) := by decide +kernel
theorem d_pn_reachesEndMoving_44 : decode b_pn_reachesEndMoving 44 = .ok (.iadd, 1) := by decide +kernel
theorem d_pn_reachesEndMoving_45 : decode b_pn_reachesEndMoving 45 = .ok (.aaload, 1) := by decide +kernel
theorem d_pn_reachesEndMoving_46 : decode b_pn_reachesEndMoving 46 = .ok (.astore 6, 2) := by decide +kernel
theorem d_pn_reachesEndMoving_48 : decode b_pn_reachesEndMoving 48 = .ok (.aload 5, 2) := by decide +kernel
theorem d_pn_reachesEndMoving_50 : decode b_pn_reachesEndMoving 50 = .ok (.iload_n 2, 1) := by decide +kernel
theorem d_pn_reachesEndMoving_51 : decode b_pn_reachesEndMoving 51 = .ok (.iaload, 1) := by decide +kernel
theorem d_pn_reachesEndMoving_52 : decode b_pn_reachesEndMoving 52 = .ok (.istore 7, 2) := by decide +kernel
theorem d_pn_reachesEndMoving_54 : decode b_pn_reachesEndMoving 54 = .ok (.iload_n 3, 1) := by decide +kernel
theorem d_pn_reachesEndMoving_55 : decode b_pn_reachesEndMoving 55 = .ok (.iconst 1, 1) := by decide +kernel
theorem d_pn_reachesEndMoving_56 : decode b_pn_reachesEndMoving 56 = .ok (.iload_n 2, 1) := by decide +kernel
theorem d_pn_reachesEndMoving_57 : decode b_pn_reachesEndMoving 57 = .ok (.ishl, 1) := by decide +kernel
theorem d_pn_reachesEndMoving_58 : decode b_pn_reachesEndMoving 58 = .ok (.ior, 1) := by decide +kernel
theorem d_pn_reachesEndMoving_59 : decode b_pn_reachesEndMoving 59 = .ok (.istore 8, 2) := by decide +kernel
theorem d_pn_reachesEndMoving_61 : decode b_pn_reachesEndMoving 61 = .ok (.aload_n 0, 1) := by decide +kernel
theorem d_pn_reachesEndMoving_62 : decode b_pn_reachesEndMoving 62 = .ok (.getfield 23, 3) := by decide +kernel
theorem d_pn_reachesEndMoving_65 : decode b_pn_reachesEndMoving 65 = .ok (.iload_n 1, 1) := by decide +kernel
theorem d_pn_reachesEndMoving_66 : decode b_pn_reachesEndMoving 66 = .ok (.iaload, 1) := by decide +kernel
theorem d_pn_reachesEndMoving_67 : decode b_pn_reachesEndMoving 67 = .ok (.iload_n 2, 1) := by decide +kernel
theorem d_pn_reachesEndMoving_68 : decode b_pn_reachesEndMoving 68 = .ok (.invokestatic 118, 3) := by decide +kernel
theorem d_pn_reachesEndMoving_71 : decode b_pn_reachesEndMoving 71 = .ok (.ifCond .eq 37, 3) := by decide +kernel
theorem d_pn_reachesEndMoving_74 : decode b_pn_reachesEndMoving 74 = .ok (.aload 5, 2) := by decide +kernel
theorem d_pn_reachesEndMoving_76 : decode b_pn_reachesEndMoving 76 = .ok (.aload 6, 2) := by decide +kernel
theorem d_pn_reachesEndMoving_78 : decode b_pn_reachesEndMoving 78 = .ok (.iload_n 2, 1) := by decide +kernel
theorem d_pn_reachesEndMoving_79 : decode b_pn_reachesEndMoving 79 = .ok (.iload 7, 2) := by decide +kernel
theorem d_pn_reachesEndMoving_81 : decode b_pn_reachesEndMoving 81 = .ok (.invokestatic 107, 3) := by decide +kernel
theorem d_pn_reachesEndMoving_84 : decode b_pn_reachesEndMoving 84 = .ok (.ifCond .eq 22, 3) := by decide +kernel
theorem d_pn_reachesEndMoving_87 : decode b_pn_reachesEndMoving 87 = .ok (.aload_n 0, 1) := by decide +kernel
theorem d_pn_reachesEndMoving_88 : decode b_pn_reachesEndMoving 88 = .ok (.iload_n 1, 1) := by decide +kernel
theorem d_pn_reachesEndMoving_89 : decode b_pn_reachesEndMoving 89 = .ok (.iload_n 2, 1) := by decide +kernel
theorem d_pn_reachesEndMoving_90 : decode b_pn_reachesEndMoving 90 = .ok (.iconst 1, 1) := by decide +kernel
theorem d_pn_reachesEndMoving_91 : decode b_pn_reachesEndMoving 91 = .ok (.iadd, 1) := by decide +kernel
theorem d_pn_reachesEndMoving_92 : decode b_pn_reachesEndMoving 92 = .ok (.iload 8, 2) := by decide +kernel
theorem d_pn_reachesEndMoving_94 : decode b_pn_reachesEndMoving 94 = .ok (.iload 4, 2) := by decide +kernel
theorem d_pn_reachesEndMoving_96 : decode b_pn_reachesEndMoving 96 = .ok (.invokevirtual 134, 3) := by decide +kernel
theorem d_pn_reachesEndMoving_99 : decode b_pn_reachesEndMoving 99 = .ok (.ifCond .eq 7, 3) := by decide +kernel
theorem d_pn_reachesEndMoving_102 : decode b_pn_reachesEndMoving 102 = .ok (.iconst 1, 1) := by decide +kernel
theorem d_pn_reachesEndMoving_103 : decode b_pn_reachesEndMoving 103 = .ok (.goto 4, 3) := by decide +kernel
theorem d_pn_reachesEndMoving_106 : decode b_pn_reachesEndMoving 106 = .ok (.iconst 0, 1) := by decide +kernel
theorem d_pn_reachesEndMoving_107 : decode b_pn_reachesEndMoving 107 = .ok (.ireturn, 1) := by decide +kernel
theorem d_pn_reachesEndMoving_108 : decode b_pn_reachesEndMoving 108 = .ok (.iload 4, 2) := by decide +kernel
theorem d_pn_reachesEndMoving_110 : decode b_pn_reachesEndMoving 110 = .ok (.aload_n 0, 1) := by decide +kernel
theorem d_pn_reachesEndMoving_111 : decode b_pn_reachesEndMoving 111 = .ok (.iload_n 2, 1) := by decide +kernel
theorem d_pn_reachesEndMoving_112 : decode b_pn_reachesEndMoving 112 = .ok (.iload 7, 2) := by decide +kernel
theorem d_pn_reachesEndMoving_114 : decode b_pn_reachesEndMoving 114 = .ok (.invokevirtual 121, 3) := by decide +kernel
theorem d_pn_reachesEndMoving_117 : decode b_pn_reachesEndMoving 117 = .ok (.iadd, 1) := by decide +kernel
theorem d_pn_reachesEndMoving_118 : decode b_pn_reachesEndMoving 118 = .ok (.iconst 1, 1) := by decide +kernel
theorem d_pn_reachesEndMoving_119 : decode b_pn_reachesEndMoving 119 = .ok (.isub, 1) := by decide +kernel
theorem d_pn_reachesEndMoving_120 : decode b_pn_reachesEndMoving 120 = .ok (.istore 9, 2) := by decide +kernel
theorem d_pn_reachesEndMoving_122 : decode b_pn_reachesEndMoving 122 = .ok (.aload_n 0, 1) := by decide +kernel
theorem d_pn_reachesEndMoving_123 : decode b_pn_reachesEndMoving 123 = .ok (.getfield 34, 3) := by decide +kernel
theorem d_pn_reachesEndMoving_126 : decode b_pn_reachesEndMoving 126 = .ok (.getfield 124, 3) := by decide +kernel
theorem d_pn_reachesEndMoving_129 : decode b_pn_reachesEndMoving 129 = .ok (.iload_n 2, 1) := by decide +kernel
theorem d_pn_reachesEndMoving_130 : decode b_pn_reachesEndMoving 130 = .ok (.aaload, 1) := by decide +kernel
theorem d_pn_reachesEndMoving_131 : decode b_pn_reachesEndMoving 131 = .ok (.iload 7, 2) := by decide +kernel
theorem d_pn_reachesEndMoving_133 : decode b_pn_reachesEndMoving 133 = .ok (.iaload, 1) := by decide +kernel
theorem d_pn_reachesEndMoving_134 : decode b_pn_reachesEndMoving 134 = .ok (.iconst 1, 1) := by decide +kernel
theorem d_pn_reachesEndMoving_135 : decode b_pn_reachesEndMoving 135 = .ok (.if_icmp .ne 40, 3) := by decide +kernel
theorem d_pn_reachesEndMoving_138 : decode b_pn_reachesEndMoving 138 = .ok (.aload 5, 2) := by decide +kernel
theorem d_pn_reachesEndMoving_140 : decode b_pn_reachesEndMoving 140 = .ok (.aload 6, 2) := by decide +kernel
theorem d_pn_reachesEndMoving_142 : decode b_pn_reachesEndMoving 142 = .ok (.iload_n 2, 1) := by decide +kernel
theorem d_pn_reachesEndMoving_143 : decode b_pn_reachesEndMoving 143 = .ok (.aload_n 0, 1) := by decide +kernel
theorem d_pn_reachesEndMoving_144 : decode b_pn_reachesEndMoving 144 = .ok (.getfield 34, 3) := by decide +kernel
theorem d_pn_reachesEndMoving_147 : decode b_pn_reachesEndMoving 147 = .ok (.getfield 96, 3) := by decide +kernel
theorem d_pn_reachesEndMoving_150 : decode b_pn_reachesEndMoving 150 = .ok (.iload_n 2, 1) := by decide +kernel
theorem d_pn_reachesEndMoving_151 : decode b_pn_reachesEndMoving 151 = .ok (.iaload, 1) := by decide +kernel
theorem d_pn_reachesEndMoving_152 : decode b_pn_reachesEndMoving 152 = .ok (.invokestatic 107, 3) := by decide +kernel
theorem d_pn_reachesEndMoving_155 : decode b_pn_reachesEndMoving 155 = .ok (.ifCond .eq 20, 3) := by decide +kernel
theorem d_pn_reachesEndMoving_158 : decode b_pn_reachesEndMoving 158 = .ok (.aload_n 0, 1) := by decide +kernel
theorem d_pn_reachesEndMoving_159 : decode b_pn_reachesEndMoving 159 = .ok (.iload_n 1, 1) := by decide +kernel
theorem d_pn_reachesEndMoving_160 : decode b_pn_reachesEndMoving 160 = .ok (.iload_n 2, 1) := by decide +kernel
theorem d_pn_reachesEndMoving_161 : decode b_pn_reachesEndMoving 161 = .ok (.iconst 1, 1) := by decide +kernel
theorem d_pn_reachesEndMoving_162 : decode b_pn_reachesEndMoving 162 = .ok (.iadd, 1) := by decide +kernel
theorem d_pn_reachesEndMoving_163 : decode b_pn_reachesEndMoving 163 = .ok (.iload 8, 2) := by decide +kernel
theorem d_pn_reachesEndMoving_165 : decode b_pn_reachesEndMoving 165 = .ok (.iload 9, 2) := by decide +kernel
theorem d_pn_reachesEndMoving_167 : decode b_pn_reachesEndMoving 167 = .ok (.invokevirtual 134, 3) := by decide +kernel
theorem d_pn_reachesEndMoving_170 : decode b_pn_reachesEndMoving 170 = .ok (.ifCond .eq 5, 3) := by decide +kernel
theorem d_pn_reachesEndMoving_173 : decode b_pn_reachesEndMoving 173 = .ok (.iconst 1, 1) := by decide +kernel
theorem d_pn_reachesEndMoving_174 : decode b_pn_reachesEndMoving 174 = .ok (.ireturn, 1) := by decide +kernel
theorem d_pn_reachesEndMoving_175 : decode b_pn_reachesEndMoving 175 = .ok (.iconst 0, 1) := by decide +kernel
theorem d_pn_reachesEndMoving_176 : decode b_pn_reachesEndMoving 176 = .ok (.istore 10, 2) := by decide +kernel
theorem d_pn_reachesEndMoving_178 : decode b_pn_reachesEndMoving 178 = .ok (.iload 10, 2) := by decide +kernel
theorem d_pn_reachesEndMoving_180 : decode b_pn_reachesEndMoving 180 = .ok (.aload_n 0, 1) := by decide +kernel
theorem d_pn_reachesEndMoving_181 : decode b_pn_reachesEndMoving 181 = .ok (.getfield 30, 3) := by decide +kernel
theorem d_pn_reachesEndMoving_184 : decode b_pn_reachesEndMoving 184 = .ok (.getfield 99, 3) := by decide +kernel
theorem d_pn_reachesEndMoving_187 : decode b_pn_reachesEndMoving 187 = .ok (.iload 7, 2) := by decide +kernel
theorem d_pn_reachesEndMoving_189 : decode b_pn_reachesEndMoving 189 = .ok (.iaload, 1) := by decide +kernel
theorem d_pn_reachesEndMoving_190 : decode b_pn_reachesEndMoving 190 = .ok (.if_icmp .ge 70, 3) := by decide +kernel
theorem d_pn_reachesEndMoving_193 : decode b_pn_reachesEndMoving 193 = .ok (.aload_n 0, 1) := by decide +kernel
theorem d_pn_reachesEndMoving_194 : decode b_pn_reachesEndMoving 194 = .ok (.getfield 30, 3) := by decide +kernel
theorem d_pn_reachesEndMoving_197 : decode b_pn_reachesEndMoving 197 = .ok (.getfield 104, 3) := by decide +kernel
theorem d_pn_reachesEndMoving_200 : decode b_pn_reachesEndMoving 200 = .ok (.iload 7, 2) := by decide +kernel
theorem d_pn_reachesEndMoving_202 : decode b_pn_reachesEndMoving 202 = .ok (.aaload, 1) := by decide +kernel
theorem d_pn_reachesEndMoving_203 : decode b_pn_reachesEndMoving 203 = .ok (.iload 10, 2) := by decide +kernel
theorem d_pn_reachesEndMoving_205 : decode b_pn_reachesEndMoving 205 = .ok (.iaload, 1) := by decide +kernel
theorem d_pn_reachesEndMoving_206 : decode b_pn_reachesEndMoving 206 = .ok (.istore 11, 2) := by decide +kernel
theorem d_pn_reachesEndMoving_208 : decode b_pn_reachesEndMoving 208 = .ok (.iload 9, 2) := by decide +kernel
theorem d_pn_reachesEndMoving_210 : decode b_pn_reachesEndMoving 210 = .ok (.aload_n 0, 1) := by decide +kernel
theorem d_pn_reachesEndMoving_211 : decode b_pn_reachesEndMoving 211 = .ok (.iload_n 2, 1) := by decide +kernel
theorem d_pn_reachesEndMoving_212 : decode b_pn_reachesEndMoving 212 = .ok (.iload 11, 2) := by decide +kernel
theorem d_pn_reachesEndMoving_214 : decode b_pn_reachesEndMoving 214 = .ok (.invokevirtual 121, 3) := by decide +kernel
theorem d_pn_reachesEndMoving_217 : decode b_pn_reachesEndMoving 217 = .ok (.isub, 1) := by decide +kernel
theorem d_pn_reachesEndMoving_218 : decode b_pn_reachesEndMoving 218 = .ok (.istore 12, 2) := by decide +kernel
theorem d_pn_reachesEndMoving_220 : decode b_pn_reachesEndMoving 220 = .ok (.iload 12, 2) := by decide +kernel
theorem d_pn_reachesEndMoving_222 : decode b_pn_reachesEndMoving 222 = .ok (.ifCond .lt 32, 3) := by decide +kernel
theorem d_pn_reachesEndMoving_225 : decode b_pn_reachesEndMoving 225 = .ok (.aload 5, 2) := by decide +kernel
theorem d_pn_reachesEndMoving_227 : decode b_pn_reachesEndMoving 227 = .ok (.aload 6, 2) := by decide +kernel
theorem d_pn_reachesEndMoving_229 : decode b_pn_reachesEndMoving 229 = .ok (.iload_n 2, 1) := by decide +kernel
theorem d_pn_reachesEndMoving_230 : decode b_pn_reachesEndMoving 230 = .ok (.iload 11, 2) := by decide +kernel
theorem d_pn_reachesEndMoving_232 : decode b_pn_reachesEndMoving 232 = .ok (.invokestatic 107, 3) := by decide +kernel
theorem d_pn_reachesEndMoving_235 : decode b_pn_reachesEndMoving 235 = .ok (.ifCond .eq 19, 3) := by decide +kernel
theorem d_pn_reachesEndMoving_238 : decode b_pn_reachesEndMoving 238 = .ok (.aload_n 0, 1) := by decide +kernel
theorem d_pn_reachesEndMoving_239 : decode b_pn_reachesEndMoving 239 = .ok (.iload_n 1, 1) := by decide +kernel
theorem d_pn_reachesEndMoving_240 : decode b_pn_reachesEndMoving 240 = .ok (.iload_n 2, 1) := by decide +kernel
theorem d_pn_reachesEndMoving_241 : decode b_pn_reachesEndMoving 241 = .ok (.iconst 1, 1) := by decide +kernel
theorem d_pn_reachesEndMoving_242 : decode b_pn_reachesEndMoving 242 = .ok (.iadd, 1) := by decide +kernel
theorem d_pn_reachesEndMoving_243 : decode b_pn_reachesEndMoving 243 = .ok (.iload_n 3, 1) := by decide +kernel
theorem d_pn_reachesEndMoving_244 : decode b_pn_reachesEndMoving 244 = .ok (.iload 12, 2) := by decide +kernel
theorem d_pn_reachesEndMoving_246 : decode b_pn_reachesEndMoving 246 = .ok (.invokevirtual 134, 3) := by decide +kernel
theorem d_pn_reachesEndMoving_249 : decode b_pn_reachesEndMoving 249 = .ok (.ifCond .eq 5, 3) := by decide +kernel
theorem d_pn_reachesEndMoving_252 : decode b_pn_reachesEndMoving 252 = .ok (.iconst 1, 1) := by decide +kernel
theorem d_pn_reachesEndMoving_253 : decode b_pn_reachesEndMoving 253 = .ok (.ireturn, 1) := by decide +kernel
theorem d_pn_reachesEndMoving_254 : decode b_pn_reachesEndMoving 254 = .ok (.iinc 10 1, 3) := by decide +kernel
theorem d_pn_reachesEndMoving_257 : decode b_pn_reachesEndMoving 257 = .ok (.goto (-79), 3) := by decide +kernel
theorem d_pn_reachesEndMoving_260 : decode b_pn_reachesEndMoving 260 = .ok (.iconst 0, 1) := by decide +kernel
theorem d_pn_reachesEndMoving_261 : decode b_pn_reachesEndMoving 261 = .ok (.ireturn, 1) := by decide +kernel
theorem d_pn_stateAt_0 : decode b_pn_stateAt 0 = .ok (.iconst 0, 1) := by decide +kernel
theorem d_pn_stateAt_1 : decode b_pn_stateAt 1 = .ok (.istore_n 2, 1) := by decide +kernel
theorem d_pn_stateAt_2 : decode b_pn_stateAt 2 = .ok (.iconst 0, 1) := by decide +kernel
theorem d_pn_stateAt_3 : decode b_pn_stateAt 3 = .ok (.istore_n 3, 1) := by decide +kernel
theorem d_pn_stateAt_4 : decode b_pn_stateAt 4 = .ok (.iload_n 3, 1) := by decide +kernel
theorem d_pn_stateAt_5 : decode b_pn_stateAt 5 = .ok (.aload_n 0, 1) := by decide +kernel
theorem d_pn_stateAt_6 : decode b_pn_stateAt 6 = .ok (.getfield 34, 3) := by decide +kernel
theorem d_pn_stateAt_9 : decode b_pn_stateAt 9 = .ok (.getfield 83, 3) := by decide +kernel
theorem d_pn_stateAt_12 : decode b_pn_stateAt 12 = .ok (.if_icmp .ge 69, 3) := by decide +kernel
theorem d_pn_stateAt_15 : decode b_pn_stateAt 15 = .ok (.aload_n 0, 1) := by decide +kernel
theorem d_pn_stateAt_16 : decode b_pn_stateAt 16 = .ok (.getfield 23, 3) := by decide +kernel
theorem d_pn_stateAt_19 : decode b_pn_stateAt 19 = .ok (.iload_n 1, 1) := by decide +kernel
theorem d_pn_stateAt_20 : decode b_pn_stateAt 20 = .ok (.iaload, 1) := by decide +kernel
theorem d_pn_stateAt_21 : decode b_pn_stateAt 21 = .ok (.iload_n 3, 1) := by decide +kernel
theorem d_pn_stateAt_22 : decode b_pn_stateAt 22 = .ok (.invokestatic 118, 3) := by decide +kernel
theorem d_pn_stateAt_25 : decode b_pn_stateAt 25 = .ok (.istore 4, 2) := by decide +kernel
theorem d_pn_stateAt_27 : decode b_pn_stateAt 27 = .ok (.iload 4, 2) := by decide +kernel
theorem d_pn_stateAt_29 : decode b_pn_stateAt 29 = .ok (.ifCond .eq 13, 3) := by decide +kernel
theorem d_pn_stateAt_32 : decode b_pn_stateAt 32 = .ok (.aload_n 0, 1) := by decide +kernel
theorem d_pn_stateAt_33 : decode b_pn_stateAt 33 = .ok (.getfield 30, 3) := by decide +kernel
theorem d_pn_stateAt_36 : decode b_pn_stateAt 36 = .ok (.getfield 142, 3) := by decide +kernel
theorem d_pn_stateAt_39 : decode b_pn_stateAt 39 = .ok (.goto 19, 3) := by decide +kernel
theorem d_pn_stateAt_42 : decode b_pn_stateAt 42 = .ok (.aload_n 0, 1) := by decide +kernel
theorem d_pn_stateAt_43 : decode b_pn_stateAt 43 = .ok (.getfield 30, 3) := by decide +kernel
theorem d_pn_stateAt_46 : decode b_pn_stateAt 46 = .ok (.getfield 145, 3) := by decide +kernel
theorem d_pn_stateAt_49 : decode b_pn_stateAt 49 = .ok (.aload_n 0, 1) := by decide +kernel
theorem d_pn_stateAt_50 : decode b_pn_stateAt 50 = .ok (.getfield 20, 3) := by decide +kernel
theorem d_pn_stateAt_53 : decode b_pn_stateAt 53 = .ok (.iload_n 1, 1) := by decide +kernel
theorem d_pn_stateAt_54 : decode b_pn_stateAt 54 = .ok (.aaload, 1) := by decide +kernel
theorem d_pn_stateAt_55 : decode b_pn_stateAt 55 = .ok (.iload_n 3, 1) := by decide +kernel
theorem d_pn_stateAt_56 : decode b_pn_stateAt 56 = .ok (.iaload, 1) := by decide +kernel
theorem d_pn_stateAt_57 : decode b_pn_stateAt 57 = .ok (.iaload, 1) := by decide +kernel
theorem d_pn_stateAt_58 : decode b_pn_stateAt 58 = .ok (.istore 5, 2) := by decide +kernel
theorem d_pn_stateAt_60 : decode b_pn_stateAt 60 = .ok (.iload_n 2, 1) := by decide +kernel
theorem d_pn_stateAt_61 : decode b_pn_stateAt 61 = .ok (.aload_n 0, 1) := by decide +kernel
theorem d_pn_stateAt_62 : decode b_pn_stateAt 62 = .ok (.getfield 30, 3) := by decide +kernel
theorem d_pn_stateAt_65 : decode b_pn_stateAt 65 = .ok (.getfield 142, 3) := by decide +kernel
theorem d_pn_stateAt_68 : decode b_pn_stateAt 68 = .ok (.iconst 1, 1) := by decide +kernel
theorem d_pn_stateAt_69 : decode b_pn_stateAt 69 = .ok (.iadd, 1) := by decide +kernel
theorem d_pn_stateAt_70 : decode b_pn_stateAt 70 = .ok (.imul, 1) := by decide +kernel
theorem d_pn_stateAt_71 : decode b_pn_stateAt 71 = .ok (.iload 5, 2) := by decide +kernel
theorem d_pn_stateAt_73 : decode b_pn_stateAt 73 = .ok (.iadd, 1) := by decide +kernel
theorem d_pn_stateAt_74 : decode b_pn_stateAt 74 = .ok (.istore_n 2, 1) := by decide +kernel
theorem d_pn_stateAt_75 : decode b_pn_stateAt 75 = .ok (.iinc 3 1, 3) := by decide +kernel
theorem d_pn_stateAt_78 : decode b_pn_stateAt 78 = .ok (.goto (-74), 3) := by decide +kernel
theorem d_pn_stateAt_81 : decode b_pn_stateAt 81 = .ok (.iload_n 2, 1) := by decide +kernel
theorem d_pn_stateAt_82 : decode b_pn_stateAt 82 = .ok (.ireturn, 1) := by decide +kernel
theorem d_pn_goes_0 : decode b_pn_goes 0 = .ok (.iconst 0, 1) := by decide +kernel
theorem d_pn_goes_1 : decode b_pn_goes 1 = .ok (.istore 4, 2) := by decide +kernel
theorem d_pn_goes_3 : decode b_pn_goes 3 = .ok (.iload 4, 2) := by decide +kernel
theorem d_pn_goes_5 : decode b_pn_goes 5 = .ok (.iload_n 2, 1) := by decide +kernel
theorem d_pn_goes_6 : decode b_pn_goes 6 = .ok (.if_icmp .ge 37, 3) := by decide +kernel
theorem d_pn_goes_9 : decode b_pn_goes 9 = .ok (.aload_n 1, 1) := by decide +kernel
theorem d_pn_goes_10 : decode b_pn_goes 10 = .ok (.iload 4, 2) := by decide +kernel
theorem d_pn_goes_12 : decode b_pn_goes 12 = .ok (.iaload, 1) := by decide +kernel
theorem d_pn_goes_13 : decode b_pn_goes 13 = .ok (.iload_n 3, 1) := by decide +kernel
theorem d_pn_goes_14 : decode b_pn_goes 14 = .ok (.if_icmp .eq 21, 3) := by decide +kernel
theorem d_pn_goes_17 : decode b_pn_goes 17 = .ok (.aload_n 1, 1) := by decide +kernel
theorem d_pn_goes_18 : decode b_pn_goes 18 = .ok (.iload 4, 2) := by decide +kernel
theorem d_pn_goes_20 : decode b_pn_goes 20 = .ok (.iaload, 1) := by decide +kernel
theorem d_pn_goes_21 : decode b_pn_goes 21 = .ok (.aload_n 0, 1) := by decide +kernel
theorem d_pn_goes_22 : decode b_pn_goes 22 = .ok (.iload_n 2, 1) := by decide +kernel
theorem d_pn_goes_23 : decode b_pn_goes 23 = .ok (.iaload, 1) := by decide +kernel
theorem d_pn_goes_24 : decode b_pn_goes 24 = .ok (.if_icmp .ne 13, 3) := by decide +kernel
theorem d_pn_goes_27 : decode b_pn_goes 27 = .ok (.aload_n 0, 1) := by decide +kernel
theorem d_pn_goes_28 : decode b_pn_goes 28 = .ok (.iload 4, 2) := by decide +kernel
theorem d_pn_goes_30 : decode b_pn_goes 30 = .ok (.iaload, 1) := by decide +kernel
theorem d_pn_goes_31 : decode b_pn_goes 31 = .ok (.iload_n 3, 1) := by decide +kernel
theorem d_pn_goes_32 : decode b_pn_goes 32 = .ok (.if_icmp .ne 5, 3) := by decide +kernel
theorem d_pn_goes_35 : decode b_pn_goes 35 = .ok (.iconst 0, 1) := by decide +kernel
theorem d_pn_goes_36 : decode b_pn_goes 36 = .ok (.ireturn, 1) := by decide +kernel
theorem d_pn_goes_37 : decode b_pn_goes 37 = .ok (.iinc 4 1, 3) := by decide +kernel
theorem d_pn_goes_40 : decode b_pn_goes 40 = .ok (.goto (-37), 3) := by decide +kernel
theorem d_pn_goes_43 : decode b_pn_goes 43 = .ok (.aload_n 1, 1) := by decide +kernel
theorem d_pn_goes_44 : decode b_pn_goes 44 = .ok (.iload_n 2, 1) := by decide +kernel
theorem d_pn_goes_45 : decode b_pn_goes 45 = .ok (.iload_n 3, 1) := by decide +kernel
theorem d_pn_goes_46 : decode b_pn_goes 46 = .ok (.iastore, 1) := by decide +kernel
theorem d_pn_goes_47 : decode b_pn_goes 47 = .ok (.iconst 1, 1) := by decide +kernel
theorem d_pn_goes_48 : decode b_pn_goes 48 = .ok (.ireturn, 1) := by decide +kernel
theorem d_pn_isIn_0 : decode b_pn_isIn 0 = .ok (.iload_n 0, 1) := by decide +kernel
theorem d_pn_isIn_1 : decode b_pn_isIn 1 = .ok (.iload_n 1, 1) := by decide +kernel
theorem d_pn_isIn_2 : decode b_pn_isIn 2 = .ok (.ishr, 1) := by decide +kernel
theorem d_pn_isIn_3 : decode b_pn_isIn 3 = .ok (.iconst 1, 1) := by decide +kernel
theorem d_pn_isIn_4 : decode b_pn_isIn 4 = .ok (.iand, 1) := by decide +kernel
theorem d_pn_isIn_5 : decode b_pn_isIn 5 = .ok (.iconst 1, 1) := by decide +kernel
theorem d_pn_isIn_6 : decode b_pn_isIn 6 = .ok (.if_icmp .ne 7, 3) := by decide +kernel
theorem d_pn_isIn_9 : decode b_pn_isIn 9 = .ok (.iconst 1, 1) := by decide +kernel
theorem d_pn_isIn_10 : decode b_pn_isIn 10 = .ok (.goto 4, 3) := by decide +kernel
theorem d_pn_isIn_13 : decode b_pn_isIn 13 = .ok (.iconst 0, 1) := by decide +kernel
theorem d_pn_isIn_14 : decode b_pn_isIn 14 = .ok (.ireturn, 1) := by decide +kernel
theorem d_vd_strays_0 : decode b_vd_strays 0 = .ok (.aload_n 0, 1) := by decide +kernel
theorem d_vd_strays_1 : decode b_vd_strays 1 = .ok (.getfield 19, 3) := by decide +kernel
theorem d_vd_strays_4 : decode b_vd_strays 4 = .ok (.iload_n 1, 1) := by decide +kernel
theorem d_vd_strays_5 : decode b_vd_strays 5 = .ok (.invokevirtual 57, 3) := by decide +kernel
theorem d_vd_strays_8 : decode b_vd_strays 8 = .ok (.ifCond .eq 5, 3) := by decide +kernel
theorem d_vd_strays_11 : decode b_vd_strays 11 = .ok (.iconst 1, 1) := by decide +kernel
theorem d_vd_strays_12 : decode b_vd_strays 12 = .ok (.ireturn, 1) := by decide +kernel
theorem d_vd_strays_13 : decode b_vd_strays 13 = .ok (.aload_n 0, 1) := by decide +kernel
theorem d_vd_strays_14 : decode b_vd_strays 14 = .ok (.getfield 19, 3) := by decide +kernel
theorem d_vd_strays_17 : decode b_vd_strays 17 = .ok (.iload_n 1, 1) := by decide +kernel
theorem d_vd_strays_18 : decode b_vd_strays 18 = .ok (.iload_n 2, 1) := by decide +kernel
theorem d_vd_strays_19 : decode b_vd_strays 19 = .ok (.invokevirtual 63, 3) := by decide +kernel
theorem d_vd_strays_22 : decode b_vd_strays 22 = .ok (.istore_n 3, 1) := by decide +kernel
theorem d_vd_strays_23 : decode b_vd_strays 23 = .ok (.iload_n 2, 1) := by decide +kernel
theorem d_vd_strays_24 : decode b_vd_strays 24 = .ok (.ifCond .ne 22, 3) := by decide +kernel
theorem d_vd_strays_27 : decode b_vd_strays 27 = .ok (.iload_n 3, 1) := by decide +kernel
theorem d_vd_strays_28 : decode b_vd_strays 28 = .ok (.aload_n 0, 1) := by decide +kernel
theorem d_vd_strays_29 : decode b_vd_strays 29 = .ok (.getfield 15, 3) := by decide +kernel
theorem d_vd_strays_32 : decode b_vd_strays 32 = .ok (.getfield 67, 3) := by decide +kernel
theorem d_vd_strays_35 : decode b_vd_strays 35 = .ok (.iload_n 1, 1) := by decide +kernel
theorem d_vd_strays_36 : decode b_vd_strays 36 = .ok (.iaload, 1) := by decide +kernel
theorem d_vd_strays_37 : decode b_vd_strays 37 = .ok (.if_icmp .eq 7, 3) := by decide +kernel
theorem d_vd_strays_40 : decode b_vd_strays 40 = .ok (.iconst 1, 1) := by decide +kernel
theorem d_vd_strays_41 : decode b_vd_strays 41 = .ok (.goto 4, 3) := by decide +kernel
theorem d_vd_strays_44 : decode b_vd_strays 44 = .ok (.iconst 0, 1) := by decide +kernel
theorem d_vd_strays_45 : decode b_vd_strays 45 = .ok (.ireturn, 1) := by decide +kernel
theorem d_vd_strays_46 : decode b_vd_strays 46 = .ok (.aload_n 0, 1) := by decide +kernel
theorem d_vd_strays_47 : decode b_vd_strays 47 = .ok (.getfield 9, 3) := by decide +kernel
theorem d_vd_strays_50 : decode b_vd_strays 50 = .ok (.aload_n 0, 1) := by decide +kernel
theorem d_vd_strays_51 : decode b_vd_strays 51 = .ok (.getfield 19, 3) := by decide +kernel
theorem d_vd_strays_54 : decode b_vd_strays 54 = .ok (.iload_n 1, 1) := by decide +kernel
theorem d_vd_strays_55 : decode b_vd_strays 55 = .ok (.iload_n 2, 1) := by decide +kernel
theorem d_vd_strays_56 : decode b_vd_strays 56 = .ok (.iconst 1, 1) := by decide +kernel
theorem d_vd_strays_57 : decode b_vd_strays 57 = .ok (.isub, 1) := by decide +kernel
theorem d_vd_strays_58 : decode b_vd_strays 58 = .ok (.invokevirtual 63, 3) := by decide +kernel
theorem d_vd_strays_61 : decode b_vd_strays 61 = .ok (.iload_n 3, 1) := by decide +kernel
theorem d_vd_strays_62 : decode b_vd_strays 62 = .ok (.invokevirtual 71, 3) := by decide +kernel
theorem d_vd_strays_65 : decode b_vd_strays 65 = .ok (.ifCond .ne 5, 3) := by decide +kernel
theorem d_vd_strays_68 : decode b_vd_strays 68 = .ok (.iconst 1, 1) := by decide +kernel
theorem d_vd_strays_69 : decode b_vd_strays 69 = .ok (.ireturn, 1) := by decide +kernel
theorem d_vd_strays_70 : decode b_vd_strays 70 = .ok (.iload_n 2, 1) := by decide +kernel
theorem d_vd_strays_71 : decode b_vd_strays 71 = .ok (.bipush 29, 2) := by decide +kernel
theorem d_vd_strays_73 : decode b_vd_strays 73 = .ok (.if_icmp .ne 20, 3) := by decide +kernel
theorem d_vd_strays_76 : decode b_vd_strays 76 = .ok (.iload_n 3, 1) := by decide +kernel
theorem d_vd_strays_77 : decode b_vd_strays 77 = .ok (.aload_n 0, 1) := by decide +kernel
theorem d_vd_strays_78 : decode b_vd_strays 78 = .ok (.getfield 15, 3) := by decide +kernel
theorem d_vd_strays_81 : decode b_vd_strays 81 = .ok (.getfield 76, 3) := by decide +kernel
theorem d_vd_strays_84 : decode b_vd_strays 84 = .ok (.iload_n 1, 1) := by decide +kernel
theorem d_vd_strays_85 : decode b_vd_strays 85 = .ok (.iaload, 1) := by decide +kernel
theorem d_vd_strays_86 : decode b_vd_strays 86 = .ok (.if_icmp .eq 7, 3) := by decide +kernel
theorem d_vd_strays_89 : decode b_vd_strays 89 = .ok (.iconst 1, 1) := by decide +kernel
theorem d_vd_strays_90 : decode b_vd_strays 90 = .ok (.goto 4, 3) := by decide +kernel
theorem d_vd_strays_93 : decode b_vd_strays 93 = .ok (.iconst 0, 1) := by decide +kernel
theorem d_vd_strays_94 : decode b_vd_strays 94 = .ok (.ireturn, 1) := by decide +kernel
theorem d_vd_share_0 : decode b_vd_share 0 = .ok (.aload_n 0, 1) := by decide +kernel
theorem d_vd_share_1 : decode b_vd_share 1 = .ok (.getfield 19, 3) := by decide +kernel
theorem d_vd_share_4 : decode b_vd_share 4 = .ok (.iload_n 1, 1) := by decide +kernel
theorem d_vd_share_5 : decode b_vd_share 5 = .ok (.iload_n 3, 1) := by decide +kernel
theorem d_vd_share_6 : decode b_vd_share 6 = .ok (.invokevirtual 63, 3) := by decide +kernel
theorem d_vd_share_9 : decode b_vd_share 9 = .ok (.aload_n 0, 1) := by decide +kernel
theorem d_vd_share_10 : decode b_vd_share 10 = .ok (.getfield 19, 3) := by decide +kernel
theorem d_vd_share_13 : decode b_vd_share 13 = .ok (.iload_n 2, 1) := by decide +kernel
theorem d_vd_share_14 : decode b_vd_share 14 = .ok (.iload_n 3, 1) := by decide +kernel
theorem d_vd_share_15 : decode b_vd_share 15 = .ok (.invokevirtual 63, 3) := by decide +kernel
theorem d_vd_share_18 : decode b_vd_share 18 = .ok (.if_icmp .ne 7, 3) := by decide +kernel
theorem d_vd_share_21 : decode b_vd_share 21 = .ok (.iconst 1, 1) := by decide +kernel
theorem d_vd_share_22 : decode b_vd_share 22 = .ok (.goto 4, 3) := by decide +kernel
theorem d_vd_share_25 : decode b_vd_share 25 = .ok (.iconst 0, 1) := by decide +kernel
theorem d_vd_share_26 : decode b_vd_share 26 = .ok (.ireturn, 1) := by decide +kernel
theorem d_vd_exchange_0 : decode b_vd_exchange 0 = .ok (.aload_n 0, 1) := by decide +kernel
theorem d_vd_exchange_1 : decode b_vd_exchange 1 = .ok (.getfield 19, 3) := by decide +kernel
theorem d_vd_exchange_4 : decode b_vd_exchange 4 = .ok (.iload_n 1, 1) := by decide +kernel
theorem d_vd_exchange_5 : decode b_vd_exchange 5 = .ok (.iload_n 3, 1) := by decide +kernel
theorem d_vd_exchange_6 : decode b_vd_exchange 6 = .ok (.invokevirtual 63, 3) := by decide +kernel
theorem d_vd_exchange_9 : decode b_vd_exchange 9 = .ok (.aload_n 0, 1) := by decide +kernel
theorem d_vd_exchange_10 : decode b_vd_exchange 10 = .ok (.getfield 19, 3) := by decide +kernel
theorem d_vd_exchange_13 : decode b_vd_exchange 13 = .ok (.iload_n 2, 1) := by decide +kernel
theorem d_vd_exchange_14 : decode b_vd_exchange 14 = .ok (.iload_n 3, 1) := by decide +kernel
theorem d_vd_exchange_15 : decode b_vd_exchange 15 = .ok (.iconst 1, 1) := by decide +kernel
theorem d_vd_exchange_16 : decode b_vd_exchange 16 = .ok (.isub, 1) := by decide +kernel
theorem d_vd_exchange_17 : decode b_vd_exchange 17 = .ok (.invokevirtual 63, 3) := by decide +kernel
theorem d_vd_exchange_20 : decode b_vd_exchange 20 = .ok (.if_icmp .ne 30, 3) := by decide +kernel
theorem d_vd_exchange_23 : decode b_vd_exchange 23 = .ok (.aload_n 0, 1) := by decide +kernel
theorem d_vd_exchange_24 : decode b_vd_exchange 24 = .ok (.getfield 19, 3) := by decide +kernel
theorem d_vd_exchange_27 : decode b_vd_exchange 27 = .ok (.iload_n 2, 1) := by decide +kernel
theorem d_vd_exchange_28 : decode b_vd_exchange 28 = .ok (.iload_n 3, 1) := by decide +kernel
theorem d_vd_exchange_29 : decode b_vd_exchange 29 = .ok (.invokevirtual 63, 3) := by decide +kernel
theorem d_vd_exchange_32 : decode b_vd_exchange 32 = .ok (.aload_n 0, 1) := by decide +kernel
theorem d_vd_exchange_33 : decode b_vd_exchange 33 = .ok (.getfield 19, 3) := by decide +kernel
theorem d_vd_exchange_36 : decode b_vd_exchange 36 = .ok (.iload_n 1, 1) := by decide +kernel
theorem d_vd_exchange_37 : decode b_vd_exchange 37 = .ok (.iload_n 3, 1) := by decide +kernel
theorem d_vd_exchange_38 : decode b_vd_exchange 38 = .ok (.iconst 1, 1) := by decide +kernel
theorem d_vd_exchange_39 : decode b_vd_exchange 39 = .ok (.isub, 1) := by decide +kernel
theorem d_vd_exchange_40 : decode b_vd_exchange 40 = .ok (.invokevirtual 63, 3) := by decide +kernel
theorem d_vd_exchange_43 : decode b_vd_exchange 43 = .ok (.if_icmp .ne 7, 3) := by decide +kernel
theorem d_vd_exchange_46 : decode b_vd_exchange 46 = .ok (.iconst 1, 1) := by decide +kernel
theorem d_vd_exchange_47 : decode b_vd_exchange 47 = .ok (.goto 4, 3) := by decide +kernel
theorem d_vd_exchange_50 : decode b_vd_exchange 50 = .ok (.iconst 0, 1) := by decide +kernel
theorem d_vd_exchange_51 : decode b_vd_exchange 51 = .ok (.ireturn, 1) := by decide +kernel
theorem d_ma_min_0 : decode b_ma_min 0 = .ok (.iload_n 0, 1) := by decide +kernel
theorem d_ma_min_1 : decode b_ma_min 1 = .ok (.iload_n 1, 1) := by decide +kernel
theorem d_ma_min_2 : decode b_ma_min 2 = .ok (.if_icmp .gt 7, 3) := by decide +kernel
theorem d_ma_min_5 : decode b_ma_min 5 = .ok (.iload_n 0, 1) := by decide +kernel
theorem d_ma_min_6 : decode b_ma_min 6 = .ok (.goto 4, 3) := by decide +kernel
theorem d_ma_min_9 : decode b_ma_min 9 = .ok (.iload_n 1, 1) := by decide +kernel
theorem d_ma_min_10 : decode b_ma_min 10 = .ok (.ireturn, 1) := by decide +kernel
end
section
/-! arrays of arrays over the tables: the word of the tables, as a predicate of a state -/
def va_AOA (t : FieldType) (U : State) : Prop := (Cond.arrayOver (.array t)).before #[] U = true
theorem va_AOA.of {t : FieldType} {A : Array Value} {U : State} (h : (Cond.arrayOver (.array t)).before A U = true) : va_AOA t U := h
theorem va_AOA.use {t : FieldType} {A : Array Value} {U : State} (h : va_AOA t U) : (Cond.arrayOver (.array t)).before A U = true := h
theorem va_AOA.moved {t : FieldType} {u U : State} (hvm : u.vm.Alike U.vm) (h : va_AOA t u) : va_AOA t U := (Cond.arrayOver_setVmC (args := #[]) (s := u) hvm (.array t)).trans h
/-! ===== BEGIN new T[n][m]: the outer array a place, the inner ones among the pooled ===== -/
/-- f, but v at every address of l -/
def vr_up {α : Type} (f : Nat → α) (l : List Nat) (v : α) : Nat → α := fun a => if a ∈ l then v else f a
theorem vr_up_in {α : Type} {f : Nat → α} {l : List Nat} {v : α} {a : Nat} (h : a ∈ l) : vr_up f l v a = v := if_pos h
theorem vr_up_ne {α : Type} {f : Nat → α} {l : List Nat} {v : α} {a : Nat} (h : a ∉ l) : vr_up f l v a = f a := if_neg h
theorem vr_rows {L l : List Nat} {f : Nat → va_E} {e : va_E} (h : ∀ a, a ∈ l → a ∉ L) : va_pl L f ++ l.map (fun a => (a, e)) = va_pl (L ++ l) (vr_up f l e) := by
  unfold va_pl
  rw [List.map_append]
  congr 1
  · apply List.map_congr_left
    intro a ha
    rw [vr_up_ne (fun q => h a q ha)]
  · apply List.map_congr_left
    intro a ha
    rw [vr_up_in ha]
theorem vr_lay {X rows : va_W} {x : Nat × va_E} {pl : va_W} {D : va_G} {cl : List vw_C} {H : Heap} (hP : va_P D cl (((X ++ pl) ++ [x]) ++ rows) H) : va_P D cl ((X ++ [x]) ++ (pl ++ rows)) H := by
  rw [List.append_assoc (X ++ pl)] at hP
  have h := va_P.swap hP
  rw [← List.append_assoc X] at h
  have h2 := va_P.swap h
  rw [List.append_assoc (X ++ [x])] at h2
  exact h2
theorem vr_layD {X rows : va_W} {x : Nat × va_E} {pl : va_W} {A : Nat → Prop} (hD : va_D A (((X ++ pl) ++ [x]) ++ rows)) : va_D A ((X ++ [x]) ++ (pl ++ rows)) := by
  rw [List.append_assoc (X ++ pl)] at hD
  have h := va_D.swap hD
  rw [← List.append_assoc X] at h
  have h2 := va_D.swap h
  rw [List.append_assoc (X ++ [x])] at h2
  exact h2
theorem vr_outer (c : ClassId) (N h0 : Nat) : ∀ i : Nat, Jvm.Free.Multi.outerC c N h0 i = arrV c N (fun j => va_rf (if j < i then some (h0 + 1 + j) else none))
  | 0 => by
    show ({ cls := c, slots := Array.replicate N .null, vm := .none } : Cell) = _
    rw [arrV_new]
    refine congrArg (arrV c N) (funext fun j => ?_)
    simp [va_rf]
  | i + 1 => by
    show (Jvm.Free.Multi.outerC c N h0 i).setSlot i (.ref (h0 + 1 + i)) = _
    rw [vr_outer c N h0 i, arrV_store]
    refine congrArg (arrV c N) (funext fun j => ?_)
    by_cases e : j = i
    · subst e
      simp [updV, va_rf]
    · by_cases h : j < i
      · simp [updV, e, h, Nat.lt_succ_of_lt h]
      · simp [updV, e, h, show ¬ j < i + 1 by omega]
section VGM
variable {p : Program} {l : Launch} {e : Env} {R : Room} {s : State} {m : MethodId} {args : Array Value} {below : List Frame} {meth : Method} {c : Code} {H : Heap} {locs : List Loc} {cells slots : Nat} {Q : State → Prop}
variable {cc : ByteArray} {pc : Nat} {ls : Array Slot} {rest : List Value} {D : va_G} {cl : List vw_C} {A : Nat → Prop} {a : Nat} {tys : List (ClassId × FieldType)} {ws : va_W} {H0 : Heap}
theorem va_mna {X : va_W} {L : List Nat} {f : Nat → va_E} {cc : ByteArray} (hexec : p.tables.exec = Jvm.exec) (hb : c.code = cc) {own : String} {index : Nat} {ty : FieldType} {cy : ClassId} (hown : s.vm.findClass own = some m.cls) (hclink : (Cond.classLink own index ("[" ++ (FieldType.array ty).toString)).before args s = true) (hover : va_AOA ty s) (harr : (Cond.arrayClass ty).before args s = true) (hcy : s.vm.findClass (FieldType.array ty).toString = some cy)
    (hK : va_K D cl tys s) (hP : va_P D cl (X ++ va_pl L f) H) (hD : va_D A (X ++ va_pl L f)) (hS : va_S A H0 H locs) (hA : ∀ q, H0.size ≤ q → A q) {n k : Int32} {N' K' : Nat} {z : vp_A} (hn : ¬ n < 0) (hk : ¬ k < 0) (hN : n.toNatClampNeg = N') (hM : k.toNatClampNeg = K')
    (hb1 : N' * 4 ≤ 536870912) (hb2 : K' * componentBytes ty ≤ 536870912) (hb3 : K' ≤ 536870912) (hdf : fits ty (defaultValue ty) = true) (hdd : (defaultValue ty).isDefault = true) (hcells : cells + (1 + N') ≤ R.cells) (hslots : slots + (N' + N' * K') ≤ R.slots) (hz : ∀ c : ClassId, Jvm.Free.Multi.innerC c K' (defaultValue ty) = vp_cell c z) (hdg : decode cc pc = .ok (.multianewarray index 2, 4))
    (kk : ∀ (q : Nat) (r : Nat → Nat) (cA : ClassId) (H1 : Heap), (∀ i j : Nat, i < N' → j < N' → r i = r j → i = j) → (∀ i : Nat, i < N' → r i ∉ L) → va_K D cl (tys ++ [(cA, .array ty)]) s →
      va_P D cl ((X ++ [(q, .inl (cA, N', .inr (.inr (.inr (.inr (fun i => if i < N' then some (r i) else none))))))]) ++ va_pl (L ++ (List.range N').map r) (vr_up f ((List.range N').map r) (.inl (cy, z)))) H1 → va_D A ((X ++ [(q, .inl (cA, N', .inr (.inr (.inr (.inr (fun i => if i < N' then some (r i) else none))))))]) ++ va_pl (L ++ (List.range N').map r) (vr_up f ((List.range N').map r) (.inl (cy, z)))) → va_S A H0 H1 locs →
      W p l e R s m args below meth c H1 locs (cells + 1 + N') (slots + N' + N' * K') Q (F0 m (pc + 4) ls (.ref q :: rest))) : W p l e R s m args below meth c H locs cells slots Q (F0 m pc ls (.int k :: .int n :: rest)) := by
  subst hN
  subst hM
  intro T hT Xs
  obtain ⟨vm₁, cA, comp, -, fA, fC, hO, -, X', step⟩ := Xs.multianewarray2F hexec hown hclink (va_AOA.use hover) harr (g := F0 m pc ls (.int k :: .int n :: rest)) rfl (by rw [hb]; exact hdg) rfl hn hk hb1 hb2 hb3 hdf hdd hcells hslots
  have ec : some cy = some comp := hcy.symm.trans fC
  cases ec
  generalize hF : Jvm.Free.Multi.fill (T.setVm vm₁) cA cy n.toNatClampNeg k.toNatClampNeg (defaultValue ty) n.toNatClampNeg = F at X' step
  have hTh : (T.setVm vm₁).heap = H := hT
  obtain ⟨f1, f2, -, -⟩ := Jvm.Free.Multi.fill_facts (T.setVm vm₁) cA cy n.toNatClampNeg k.toNatClampNeg (defaultValue ty) n.toNatClampNeg
  rw [hF, hTh] at f1 f2
  have hold : ∀ x : Nat, x < H.size → F.heap[x]? = H[x]? := fun x hx => by
    have := Jvm.Free.Multi.fill_old (T.setVm vm₁) cA cy n.toNatClampNeg k.toNatClampNeg (defaultValue ty) (a := x) (by rw [hTh]; exact hx) n.toNatClampNeg
    rw [hF, hTh] at this
    exact this
  have hrow : ∀ j : Nat, j < n.toNatClampNeg → F.heap[H.size + 1 + j]? = some (vp_cell cy z) := fun j hj => by
    have := Jvm.Free.Multi.fill_inner (T.setVm vm₁) cA cy n.toNatClampNeg k.toNatClampNeg (defaultValue ty) n.toNatClampNeg j hj
    rw [hF, hTh, hz] at this
    exact this
  have hout : Jvm.Free.Multi.outerC cA n.toNatClampNeg H.size n.toNatClampNeg = vp_cell cA (n.toNatClampNeg, .inr (.inr (.inr (.inr (fun i => if i < n.toNatClampNeg then some (H.size + 1 + i) else none))))) := by
    rw [vp_cell_q]
    exact vr_outer cA n.toNatClampNeg H.size n.toNatClampNeg
  rw [hout] at f2
  have hlt : ∀ a, a ∈ L → a < H.size := fun a ha => by
    obtain ⟨k9, hk9⟩ := va_pl_get (X := X) (f := f) ha
    exact (hP k9 _ hk9).lt
  have hnl : ∀ i : Nat, i < n.toNatClampNeg → H.size + 1 + i ∉ L := fun i _ h => by
    have := hlt _ h
    omega
  have hnm : ∀ a, a ∈ (List.range n.toNatClampNeg).map (fun i => H.size + 1 + i) → a ∉ L := fun a ha h => by
    obtain ⟨i, -, rfl⟩ := List.mem_map.mp ha
    have := hlt _ h
    omega
  have hP0 : va_P D cl (X ++ va_pl L f) F.heap := hP.kept (fun k9 x hx => hold x.1 ((hP k9 x hx).lt))
  have hP1 : va_P D cl ((X ++ va_pl L f) ++ [(H.size, .inl (cA, n.toNatClampNeg, .inr (.inr (.inr (.inr (fun i => if i < n.toNatClampNeg then some (H.size + 1 + i) else none))))))]) F.heap := hP0.app (fun k9 x hx => by
    have h0 : k9 < 1 := (List.getElem?_eq_some_iff.mp hx).1
    rw [show k9 = 0 by omega] at hx
    cases hx
    exact f2)
  have hP2 : va_P D cl (((X ++ va_pl L f) ++ [(H.size, .inl (cA, n.toNatClampNeg, .inr (.inr (.inr (.inr (fun i => if i < n.toNatClampNeg then some (H.size + 1 + i) else none))))))]) ++ ((List.range n.toNatClampNeg).map (fun i => H.size + 1 + i)).map (fun a => (a, .inl (cy, z)))) F.heap := hP1.app (fun k9 x hx => by
    obtain ⟨a, ha, rfl⟩ := List.mem_map.mp (List.mem_of_getElem? hx)
    obtain ⟨i, hi, rfl⟩ := List.mem_map.mp ha
    exact hrow i (List.mem_range.mp hi))
  have hD2 : va_D A (((X ++ va_pl L f) ++ [(H.size, .inl (cA, n.toNatClampNeg, .inr (.inr (.inr (.inr (fun i => if i < n.toNatClampNeg then some (H.size + 1 + i) else none))))))]) ++ ((List.range n.toNatClampNeg).map (fun i => H.size + 1 + i)).map (fun a => (a, .inl (cy, z)))) := by
    have hD1 := hD.push (e := .inl (cA, n.toNatClampNeg, .inr (.inr (.inr (.inr (fun i => if i < n.toNatClampNeg then some (H.size + 1 + i) else none)))))) hP rfl (hA _ hS.1)
    generalize hW1 : (X ++ va_pl L f) ++ [(H.size, .inl (cA, n.toNatClampNeg, .inr (.inr (.inr (.inr (fun i => if i < n.toNatClampNeg then some (H.size + 1 + i) else none))))))] = W1 at hD1 hP1 ⊢
    have hle : ∀ (k9 : Nat) (x : Nat × va_E), W1[k9]? = some x → x.1 ≤ H.size := fun k9 x hx => by
      rw [← hW1] at hx
      by_cases hl : k9 < (X ++ va_pl L f).length
      · rw [List.getElem?_append_left hl] at hx
        exact Nat.le_of_lt ((hP k9 x hx).lt)
      · rw [List.getElem?_append_right (by omega)] at hx
        have h0 : k9 - (X ++ va_pl L f).length < 1 := (List.getElem?_eq_some_iff.mp hx).1
        rw [show k9 - (X ++ va_pl L f).length = 0 by omega] at hx
        cases hx
        exact Nat.le_refl _
    have hr : ∀ (k9 : Nat) (x : Nat × va_E), (((List.range n.toNatClampNeg).map (fun i => H.size + 1 + i)).map (fun a => ((a, .inl (cy, z)) : Nat × va_E)))[k9]? = some x → x.1 = H.size + 1 + k9 := fun k9 x hx => by
      rw [List.getElem?_map, List.getElem?_map] at hx
      by_cases h9 : k9 < n.toNatClampNeg
      · rw [List.getElem?_range h9] at hx
        cases hx
        rfl
      · have hn0 : (List.range n.toNatClampNeg)[k9]? = none := List.getElem?_eq_none (by rw [List.length_range]; omega)
        rw [hn0] at hx
        cases hx
    refine ⟨fun i j x y hi hj hxy => ?_, fun k9 x hx => ?_⟩
    · by_cases h1 : i < W1.length <;> by_cases h2 : j < W1.length
      · rw [List.getElem?_append_left h1] at hi
        rw [List.getElem?_append_left h2] at hj
        exact hD1.1 i j x y hi hj hxy
      · rw [List.getElem?_append_left h1] at hi
        rw [List.getElem?_append_right (by omega)] at hj
        have := hle _ _ hi
        have := hr _ _ hj
        omega
      · rw [List.getElem?_append_right (by omega)] at hi
        rw [List.getElem?_append_left h2] at hj
        have := hle _ _ hj
        have := hr _ _ hi
        omega
      · rw [List.getElem?_append_right (by omega)] at hi hj
        have := hr _ _ hi
        have := hr _ _ hj
        omega
    · by_cases h1 : k9 < W1.length
      · rw [List.getElem?_append_left h1] at hx
        exact hD1.2 k9 x hx
      · rw [List.getElem?_append_right (by omega)] at hx
        have := hr _ _ hx
        exact hA _ (by have := hS.1; omega)
  have hAr : ArrOfT s cA (.array ty) := fun N9 z9 => by
    obtain ⟨-, k9, hk9, cm9, hkk9⟩ := (hO 0 0 0).1
    exact ⟨(fun q hq => by cases hq), k9, hk9, cm9, hkk9⟩
  have hK2 : va_K D cl (tys ++ [(cA, .array ty)]) s := ⟨hK.1, fun k9 x hx => by
    by_cases hl : k9 < tys.length
    · rw [List.getElem?_append_left hl] at hx
      exact hK.2 k9 x hx
    · rw [List.getElem?_append_right (by omega)] at hx
      have h0 : k9 - tys.length < 1 := (List.getElem?_eq_some_iff.mp hx).1
      rw [show k9 - tys.length = 0 by omega] at hx
      cases hx
      exact ⟨hAr, fA⟩⟩
  obtain ⟨t, a1, b1⟩ := kk H.size (fun i => H.size + 1 + i) cA F.heap (fun i j _ _ h => by have h9 : H.size + 1 + i = H.size + 1 + j := h; omega) hnl hK2 (by rw [← vr_rows hnm]; exact vr_lay hP2) (by rw [← vr_rows hnm]; exact vr_layD hD2) ⟨by rw [f1]; have := hS.1; omega, fun x h1 h2 => (hold x (Nat.lt_of_lt_of_le h1 hS.1)).trans (hS.2.1 x h1 h2), hS.2.2⟩ F rfl X'
  refine ⟨t, step t ?_, b1⟩
  have e : T.heap.size = H.size := by rw [hT]
  rw [e]
  exact a1
end VGM
/-! ===== END ===== -/
/-- the words that no list keeps, carried by every contract -/
def mt_X (U : State) : Prop := va_AOA .int U ∧ va_Nw (.methodLinkNest R_pn 11 y_le_init "MoverRoom") U ∧ va_Nw (.methodLinkNest R_mr 36 y_ld_init "MoverRoom") U
theorem mt_X.warm {s U : State} (hW : s.WarmedH U.vm) (h : mt_X s) : mt_X U := ⟨va_AOA.moved hW.alike h.1, va_Nw.warmM hW h.2.1, va_Nw.warmM hW h.2.2⟩
theorem mt_X.same {s U : State} (hW : s.vm = U.vm) (h : mt_X s) : mt_X U := ⟨va_AOA.moved (by rw [hW]; exact Vm.Alike.refl _) h.1, va_Nw.same rfl hW h.2.1, va_Nw.same rfl hW h.2.2⟩
/-- the start of every contract -/
def mt_B (D : va_G) (tys : List (ClassId × FieldType)) (ws : va_W) (sz : Nat) (U : State) : Prop := U.heap.size = sz ∧ va_P D kls ws U.heap ∧ va_K D kls tys U ∧ va_D (fun _ => True) ws ∧ mt_X U
theorem mt_bl {av : List Value} {D : va_G} {tys : List (ClassId × FieldType)} {ws : va_W} {sz : Nat} : FrameBlind (va_Pc av (mt_B D tys ws sz)) := fun a U g mk q => by
  obtain ⟨q0, q1, qP, qK, qD, qX⟩ := q
  exact ⟨q0, q1, qP, va_K.moved (u := U) (U := U.calling g mk a) (Vm.Alike.refl U.vm) qK, qD, mt_X.same rfl qX⟩
theorem mt_pr {s : State} {H : Heap} {A : Nat → Prop} {av : List Value} {D : va_G} {tys : List (ClassId × FieldType)} {ws : va_W} (hX : mt_X s) (hP : va_P D kls ws H) (hK : va_K D kls tys s) (hD : va_D A ws) : ∀ U : State, U.heap = H → s.WarmedH U.vm → va_Pc av (mt_B D tys ws H.size) av.toArray U := fun U hU hW => ⟨rfl, by rw [hU], by rw [hU]; exact hP, va_K.moved hW.alike hK, hD.weaken (fun _ _ _ _ => trivial), mt_X.warm hW hX⟩
/-- the end of a contract: the world behind it -/
def mt_O (D : va_G) (A : Nat → Prop) (ws : va_W) (t : State) : Prop := va_P D kls ws t.heap ∧ va_D A ws
theorem mt_of {l : Launch} {y : MethodName} {b : ByteArray} {n : Nat} {r : Option FieldType} {rm : Room} {D : va_G} {tys : List (ClassId × FieldType)} {ws : va_W} {sz : Nat} {av : List Value} {QF : (Nat → Prop) → Array Value → State → Outcome → State → Prop} {mc ms : Nat} (hy : plainName y.cls = true) (hlen : (lg_sl av).length ≤ n)
    (body : ∀ (p : Program) (e : Env) (s : State) (m : MethodId) (below : List Frame) (meth : Method) (c : Code) (ls : Array Slot) (A : Nat → Prop), p.tables.exec = Jvm.exec → c.code = b → meth.sig.returnType = r → meth.locks = false → c.maxLocals = n → s.vm.findClass y.cls = some m.cls → meth.name = y.name → (∀ w ∈ gw, w.before av.toArray s = true) → lv_has ls n (lv_args 0 av) → mt_X s → va_P D kls ws s.heap → va_K D kls tys s → va_D A ws → (∀ q, s.heap.size ≤ q → A q) → va_S A s.heap s.heap [] →
      W p l e rm s m av.toArray below meth c s.heap [] 0 0 (MQ below (QF A) av.toArray s mc ms A) (F0 m 0 ls [])) : Met l y (Cond.code y b n r :: gw) rm (va_Pc av (mt_B D tys ws sz)) (QF (va_A ws sz)) mc ms (va_A ws sz) := by
  refine Met.ofW (cc := b) (maxL := n) (ret := r) hy rfl ?_
  intro p e s m args below meth c s₁ B hml hv
  obtain ⟨rfl, hsz, hP, hK, hD0, hX⟩ := hv
  have hts := atoms_spec (ws := Cond.code y b n r :: gw) B.pre
  have hown : s.vm.findClass y.cls = some m.cls := findClass_of_methodNamed B.named
  have hnm : meth.name = y.name := (name_of_methodNamed B.named B.method).1
  subst hsz
  have hD := hD0.self (sz := s.heap.size)
  have hl := lv_entry av (n := n) hlen
  rw [lg_entry_eq]
  exact body p e s m below meth c _ _ B.exec B.bytes B.returns B.notSynchronized hml hown hnm (fun w h => hts w (List.mem_cons_of_mem _ h)) hl hX hP hK hD (fun q h => Or.inr h) va_S.rf
/-- a contract that only reads -/
theorem mt_ofR {l : Launch} {y : MethodName} {b : ByteArray} {n : Nat} {r : Option FieldType} {rm : Room} {D : va_G} {tys : List (ClassId × FieldType)} {ws : va_W} {sz : Nat} {av : List Value} {Qc : Array Value → State → Outcome → State → Prop} (hy : plainName y.cls = true) (hlen : (lg_sl av).length ≤ n)
    (body : ∀ (p : Program) (e : Env) (s : State) (m : MethodId) (below : List Frame) (meth : Method) (c : Code) (ls : Array Slot), p.tables.exec = Jvm.exec → c.code = b → meth.sig.returnType = r → meth.locks = false → c.maxLocals = n → s.vm.findClass y.cls = some m.cls → (∀ w ∈ gw, w.before av.toArray s = true) → lv_has ls n (lv_args 0 av) → mt_X s → va_P D kls ws s.heap → va_K D kls tys s → va_D (fun _ => True) ws →
      W p l e rm s m av.toArray below meth c s.heap [] 0 0 (MQ below Qc av.toArray s 0 0 (fun _ => False)) (F0 m 0 ls [])) : Met l y (Cond.code y b n r :: gw) rm (va_Pc av (mt_B D tys ws sz)) Qc 0 0 (fun _ => False) := by
  refine Met.ofW (cc := b) (maxL := n) (ret := r) hy rfl ?_
  intro p e s m args below meth c s₁ B hml hv
  obtain ⟨rfl, hsz, hP, hK, hD0, hX⟩ := hv
  have hts := atoms_spec (ws := Cond.code y b n r :: gw) B.pre
  have hown : s.vm.findClass y.cls = some m.cls := findClass_of_methodNamed B.named
  have hl := lv_entry av (n := n) hlen
  rw [lg_entry_eq]
  exact body p e s m below meth c _ B.exec B.bytes B.returns B.notSynchronized hml hown (fun w h => hts w (List.mem_cons_of_mem _ h)) hl hX hP hK hD0
section MTW
variable {p : Program} {l : Launch} {e : Env} {R : Room} {s : State} {m : MethodId} {args : Array Value} {below : List Frame} {meth : Method} {c : Code} {H : Heap} {locs : List Loc} {cells slots : Nat} {Q : State → Prop}
variable {cc : ByteArray} {pc : Nat} {ls : Array Slot} {rest : List Value} {D : va_G} {cl : List vw_C} {A : Nat → Prop} {a : Nat} {tys : List (ClassId × FieldType)} {ws : va_W} {H0 : Heap}
/-- a loop: by a measure that falls -/
theorem mt_loop {ι : Type} (I : ι → Array Slot → Heap → List Loc → Prop) (μ : ι → Nat)
    (step : ∀ (i : ι) (ls : Array Slot) (H : Heap) (locs : List Loc), I i ls H locs → (∀ (j : ι) (ls' : Array Slot) (H' : Heap) (locs' : List Loc), μ j < μ i → I j ls' H' locs' → W p l e R s m args below meth c H' locs' cells slots Q (F0 m pc ls' rest)) → W p l e R s m args below meth c H locs cells slots Q (F0 m pc ls rest)) :
    ∀ (i : ι) (ls : Array Slot) (H : Heap) (locs : List Loc), I i ls H locs → W p l e R s m args below meth c H locs cells slots Q (F0 m pc ls rest) := by
  have key : ∀ (n : Nat) (i : ι), μ i < n → ∀ (ls : Array Slot) (H : Heap) (locs : List Loc), I i ls H locs → W p l e R s m args below meth c H locs cells slots Q (F0 m pc ls rest) := by
    intro n
    induction n with
    | zero => intro i h; exact absurd h (Nat.not_lt_zero _)
    | succ n ih => intro i h ls H locs hI; exact step i ls H locs hI (fun j ls' H' locs' hj hIj => ih j (by omega) ls' H' locs' hIj)
  exact fun i ls H locs hI => key (μ i + 1) i (Nat.lt_succ_self _) ls H locs hI
/-- a row out of an array of int arrays -/
theorem mt_aald (hexec : p.tables.exec = Jvm.exec) (hb : c.code = cc) (hK : va_K D cl tys s) (hP : va_P D cl ws H) (q0 t0 : Nat) {cA : ClassId} {n : Nat} {f : Nat → Option Nat} (ha : ws[q0]? = some (a, .inl (cA, n, .inr (.inr (.inr (.inr f)))))) (ht : tys[t0]? = some (cA, .array .int)) {i : Int32} (hin : vp_in i n) {x : Nat} (hx : f i.toNatClampNeg = some x) (hdg : decode cc pc = .ok (.aaload, 1))
    (kk : W p l e R s m args below meth c H locs cells slots Q (F0 m (pc + 1) ls (.ref x :: rest))) : W p l e R s m args below meth c H locs cells slots Q (F0 m pc ls (.int i :: .ref a :: rest)) := by
  have hlt : i.toNatClampNeg < n := Nat.not_le.mp fun q => hin (Or.inr q)
  refine W.aald (v := va_rf (f i.toNatClampNeg)) (ty := .array .int) hexec hb (hP q0 _ ha) ((hK.2 t0 _ ht).1 n (fun j => va_rf (f j))) rfl (fun q => by cases q) (by show ¬ (i < 0 ∨ (arrV _ _ _).slots.size ≤ _); rw [arrV_size]; exact hin) (by show (arrV _ _ _).slots[_]? = _; rw [arrV_read _ _ hlt]) rfl rfl hdg ?_
  rw [hx]
  exact kk
/-- a new array whose class is known -/
theorem mt_newa (hexec : p.tables.exec = Jvm.exec) (hb : c.code = cc) {atype : ArrayType} (harr : (Cond.arrayClass (newarray.typeOf atype)).before args s = true) {ty : FieldType} (hty : newarray.typeOf atype = ty) (hK : va_K D cl tys s) (hP : va_P D cl ws H) (hD : va_D A ws) (hS : va_S A H0 H locs) (hA : ∀ q, H0.size ≤ q → A q) (t0 : Nat) {cA : ClassId} (ht : tys[t0]? = some (cA, ty)) (hRA : ∀ c1 c2 : ClassId, va_RA s c1 ty → va_RA s c2 ty → c1 = c2)
    {n : Int32} {N' : Nat} {a0 : vp_A} (ha : ∀ cA : ClassId, vp_cell cA a0 = arrV cA N' (fun _ => defaultValue ty)) (hn : ¬ n < 0) (hN : n.toNatClampNeg = N') (hbytes : N' * componentBytes ty ≤ 536870912) (hcells : cells + 1 ≤ R.cells) (hslots : slots + N' ≤ R.slots) (hdg : decode cc pc = .ok (.newarray atype, 2))
    (kk : ∀ (q : Nat) (H1 : Heap), va_P D cl (ws ++ [(q, .inl (cA, a0))]) H1 → va_D A (ws ++ [(q, .inl (cA, a0))]) → va_S A H0 H1 locs →
      W p l e R s m args below meth c H1 locs (cells + 1) (slots + N') Q (F0 m (pc + 2) ls (.ref q :: rest))) : W p l e R s m args below meth c H locs cells slots Q (F0 m pc ls (.int n :: rest)) := by
  refine va_newa hexec hb harr hty hK hP hD hS hA ha hn hN hbytes hcells hslots hdg (fun q cB H1 hK1 hP1 hD1 hS1 => ?_)
  have e1 : (tys ++ [(cB, ty)])[tys.length]? = some (cB, ty) := by simp
  have e : cB = cA := hRA _ _ (hK1.2 _ _ e1).2 (hK.2 t0 _ ht).2
  subst e
  exact kk q H1 hP1 hD1 hS1
theorem mt_ra {s : State} {ty : FieldType} (h : ∀ c : ClassId, va_RA s c ty → s.vm.findClass ("[" ++ ty.toString) = some c) : ∀ c1 c2 : ClassId, va_RA s c1 ty → va_RA s c2 ty → c1 = c2 := fun c1 c2 h1 h2 => Option.some.inj ((h c1 h1).symm.trans (h c2 h2))
/-- rows of an array of arrays, in a world -/
def mt_rw (n : Nat) (r : Nat → Nat) (e : Nat → va_E) : va_W := (List.range n).map (fun i => (r i, e i))
theorem mt_mna {own : String} {index : Nat} (hexec : p.tables.exec = Jvm.exec) (hb : c.code = cc) (hown : s.vm.findClass own = some m.cls) (hclink : (Cond.classLink own index "[[I").before args s = true) (hX : mt_X s) (harr : (Cond.arrayClass .int).before args s = true)
    (hK : va_K D cl tys s) (hP : va_P D cl ws H) (hD : va_D A ws) (hS : va_S A H0 H locs) (hA : ∀ q, H0.size ≤ q → A q) (t0 t1 : Nat) {cI cII : ClassId} (h0 : tys[t0]? = some (cI, .int)) (h1 : tys[t1]? = some (cII, .array .int)) {n k : Int32} {N' K' : Nat} (hn : ¬ n < 0) (hk : ¬ k < 0) (hN : n.toNatClampNeg = N') (hM : k.toNatClampNeg = K')
    (hb1 : N' * 4 ≤ 536870912) (hb2 : K' * 4 ≤ 536870912) (hb3 : K' ≤ 536870912) (hcells : cells + (1 + N') ≤ R.cells) (hslots : slots + (N' + N' * K') ≤ R.slots) (hdg : decode cc pc = .ok (.multianewarray index 2, 4))
    (kk : ∀ (q : Nat) (r : Nat → Nat) (H1 : Heap),
      va_P D cl ((ws ++ [(q, .inl (cII, N', .inr (.inr (.inr (.inr (fun i => if i < N' then some (r i) else none))))))]) ++ mt_rw N' r (fun _ => .inl (cI, K', .inl (fun _ => 0)))) H1 → va_D A ((ws ++ [(q, .inl (cII, N', .inr (.inr (.inr (.inr (fun i => if i < N' then some (r i) else none))))))]) ++ mt_rw N' r (fun _ => .inl (cI, K', .inl (fun _ => 0)))) → va_S A H0 H1 locs →
      W p l e R s m args below meth c H1 locs (cells + 1 + N') (slots + N' + N' * K') Q (F0 m (pc + 4) ls (.ref q :: rest))) : W p l e R s m args below meth c H locs cells slots Q (F0 m pc ls (.int k :: .int n :: rest)) := by
  have hP' : va_P D cl (ws ++ va_pl [] (fun _ => .inr (0, []))) H := by show va_P D cl (ws ++ []) H; rw [List.append_nil]; exact hP
  have hD' : va_D A (ws ++ va_pl [] (fun _ => .inr (0, []))) := by show va_D A (ws ++ []); rw [List.append_nil]; exact hD
  refine va_mna (cy := cI) (ty := .int) (z := (K', .inl (fun _ => 0))) hexec hb hown hclink hX.1 harr ((hK.2 t0 _ h0).2) hK hP' hD' hS hA hn hk hN hM hb1 hb2 hb3 rfl rfl hcells hslots (fun c => ?_) hdg (fun q r cA H1 _ _ hK1 hP1 hD1 hS1 => ?_)
  · show ({ cls := c, slots := Array.replicate K' (.int 0), vm := .none } : Cell) = _
    rw [arrV_new]; rfl
  · have e1 : (tys ++ [(cA, (FieldType.array FieldType.int))])[tys.length]? = some (cA, .array .int) := by simp
    have e : cA = cII := Option.some.inj (((hK1.2 _ _ e1).2).symm.trans ((hK.2 t1 _ h1).2))
    subst e
    have ew : va_pl ([] ++ (List.range N').map r) (vr_up (fun _ => .inr (0, [])) ((List.range N').map r) (.inl (cI, (K', .inl (fun _ => 0))))) = mt_rw N' r (fun _ => .inl (cI, K', .inl (fun _ => 0))) := by
      rw [List.nil_append]
      unfold va_pl mt_rw
      rw [List.map_map]
      apply List.map_congr_left
      intro i hi
      show (r i, vr_up _ _ _ (r i)) = _
      rw [vr_up_in (List.mem_map.mpr ⟨i, hi, rfl⟩)]
    rw [ew] at hP1 hD1
    exact kk q r H1 hP1 hD1 hS1
end MTW
theorem mt_whole {A : Nat → Prop} {ws : va_W} {H0 H : Heap} {locs : List Loc} (hD : va_D A ws) (hS : va_S A H0 H locs) (hA : ∀ q, H0.size ≤ q → A q) : ∀ q, va_A ws H.size q → A q := fun q h => h.elim (fun ⟨k, e, hk⟩ => hD.2 k _ hk) (fun h => hA q (Nat.le_trans hS.1 h))
theorem mt_rw_at {X : va_W} {n k x : Nat} {r : Nat → Nat} {e : Nat → va_E} (hX : X.length = x) (hk : k < n) : (X ++ mt_rw n r e)[x + k]? = some (r k, e k) := by
  subst hX
  rw [List.getElem?_append_right (by omega), show X.length + k - X.length = k by omega]
  simp [mt_rw, hk]
theorem mt_rw_set {X : va_W} {n k x : Nat} {r : Nat → Nat} {e : Nat → va_E} {v : va_E} (hX : X.length = x) : (X ++ mt_rw n r e).set (x + k) (r k, v) = X ++ mt_rw n r (va_up e k v) := by
  subst hX
  apply List.ext_getElem?
  intro i
  rw [List.getElem?_set]
  by_cases h : X.length + k = i
  · subst h
    rw [if_pos rfl]
    by_cases hk : k < n
    · rw [mt_rw_at rfl hk, if_pos (by simp [mt_rw, hk])]
      simp [va_up]
    · rw [if_neg (by simp [mt_rw]; omega)]
      exact (List.getElem?_eq_none (by simp [mt_rw]; omega)).symm
  · rw [if_neg h]
    by_cases hl : i < X.length
    · rw [List.getElem?_append_left hl, List.getElem?_append_left hl]
    · rw [List.getElem?_append_right (by omega), List.getElem?_append_right (by omega)]
      simp only [mt_rw, List.getElem?_map]
      by_cases hi : i - X.length < n
      · rw [List.getElem?_range hi]
        have hne : i - X.length ≠ k := by omega
        simp [va_up, hne]
      · rw [List.getElem?_eq_none (by simp; omega)]
        rfl
theorem mt_b25 {w h : Nat} (hw : w * h ≤ 25) : ∀ x : Int32, ¬ x < 0 → ¬ nI w * nI h ≤ x → vp_in x 25 := by
  intro x h0 h1
  obtain ⟨j, hj, rfl⟩ := nI_of h0
  rw [pk_mul] at h1
  have : j < w * h := by
    rcases Nat.lt_or_ge j (w * h) with g | g
    · exact g
    · exact absurd (nI_le g hj) h1
  exact vp_in_nI (by omega) (by decide)
/-- every row is an int array of five -/
def mt_r5 (cI : ClassId) (e : Nat → va_E) : Prop := ∀ i, i < 25 → ∃ f : Nat → Int32, e i = .inl (cI, 5, .inl f)
theorem mt_r5_up {cI : ClassId} {e : Nat → va_E} {k : Nat} {f : Nat → Int32} (h : mt_r5 cI e) : mt_r5 cI (va_up e k (.inl (cI, 5, .inl f))) := by
  intro i hi
  by_cases g : i = k
  · exact ⟨f, by simp [va_up, g]⟩
  · obtain ⟨f', hf⟩ := h i hi
    exact ⟨f', by simp [va_up, g, hf]⟩
theorem mt_st {cI : ClassId} {sf sf1 : Nat → Int32} {re re1 : Nat → va_E} {k j : Nat} {y : Int32} {P Q : Prop} (h : (P ∧ sf1 = upd sf k (nI (j + 1)) ∧ ∃ f : Nat → Int32, re k = .inl (cI, 5, .inl f) ∧ re1 = va_up re k (.inl (cI, 5, .inl (upd f j y)))) ∨ (Q ∧ sf1 = sf ∧ re1 = re)) (hs : sf k = nI j) (hre : mt_r5 cI re) : (∃ j1, j1 ≤ j + 1 ∧ sf1 k = nI j1) ∧ mt_r5 cI re1 := by
  rcases h with ⟨-, rfl, f, -, rfl⟩ | ⟨-, rfl, rfl⟩
  · exact ⟨⟨j + 1, Nat.le_refl _, pk_us⟩, mt_r5_up hre⟩
  · exact ⟨⟨j, by omega, hs⟩, hre⟩
theorem mt_up0 {g : Nat → Int32} {i : Nat} {v : Int32} (hz : ∀ j, j < i → g j = v) : ∀ j, j < i + 1 → upd g i v j = v := by
  intro j hj
  by_cases e : j = i
  · subst e; exact pk_us
  · rw [pk_un e]; exact hz j (by omega)
end
section
set_option maxHeartbeats 4000000 in
set_option maxRecDepth 100000 in
theorem c_fl_has (l : Launch) (D : va_G) (cZ cI cJ cII : ClassId) (fa : Nat) (fw : Int32) (fh : Int32) (wa : Nat) (fc : Int32) (ra : Nat) (sa : Nat) (ta : Nat) (x : Int32) (sz : Nat)  : Met l y_fl_has w_fl_has ({ frames := 0, cells := 0, slots := 0, locals := 0 }) (va_Pc [.ref fa, .int x] (mt_B D [(cZ, .boolean), (cI, .int), (cJ, .long), (cII, .array .int)] [(fa, .inr (1, [.int fw, .int fh, .ref wa, .int fc, .ref ra, .ref sa, .ref ta]))] sz)) (vp_Si (fun r : Int32 => (r = 1 ∧ ¬ x < 0 ∧ ¬ fw * fh ≤ x) ∨ (r = 0 ∧ (x < 0 ∨ fw * fh ≤ x)))) 0 0 (fun _ => False) := by
  refine mt_ofR (by decide) (Nat.le_of_ble_eq_true rfl) ?_
  intro p e s m below meth c ls hx hb hr hlk hml hown hg hl hX hP hK hD
  have hown : s.vm.findClass R_fl = some m.cls := hown
  obtain ⟨H, hH⟩ : ∃ H : Heap, H = s.heap := ⟨_, rfl⟩
  rw [← hH] at hP ⊢
  have hl : lv_has ls 2 [(0, .ref fa), (1, .int x)] := hl
  refine lv_iload_n hx hb d_fl_has_0 rfl (lv_at hl 1 rfl) ?_
  refine lv_if_lt hx hb d_fl_has_1 rfl (fun g1 => ?_) (fun g1 => ?_)
  ·
    refine lv_iconst (v := 0) hx hb d_fl_has_21 (by decide) ?_
    exact W.zret hx hb hr rfl (fun t ht _ => ⟨0, rfl, Or.inr ⟨rfl, Or.inl g1⟩, ht.trans hH⟩) (fun _ h => absurd h List.not_mem_nil) d_fl_has_22
  ·
    refine lv_iload_n hx hb d_fl_has_4 rfl (lv_at hl 1 rfl) ?_
    refine lv_aload_n hx hb d_fl_has_5 rfl (lv_at hl 0 rfl) ?_
    refine gf_fl_31 hx hb hg hown hK hP 0 rfl rfl d_fl_has_6 ?_
    refine lv_aload_n hx hb d_fl_has_9 rfl (lv_at hl 0 rfl) ?_
    refine gf_fl_35 hx hb hg hown hK hP 0 rfl rfl d_fl_has_10 ?_
    refine lv_imul hx hb d_fl_has_13 ?_
    refine lv_icmp_ge hx hb d_fl_has_14 rfl (fun g2 => ?_) (fun g2 => ?_)
    ·
      refine lv_iconst (v := 0) hx hb d_fl_has_21 (by decide) ?_
      exact W.zret hx hb hr rfl (fun t ht _ => ⟨0, rfl, Or.inr ⟨rfl, Or.inr g2⟩, ht.trans hH⟩) (fun _ h => absurd h List.not_mem_nil) d_fl_has_22
    ·
      refine lv_iconst (v := 1) hx hb d_fl_has_17 (by decide) ?_
      refine lv_goto hx hb d_fl_has_18 rfl ?_
      exact W.zret hx hb hr rfl (fun t ht _ => ⟨1, rfl, Or.inl ⟨rfl, g1, g2⟩, ht.trans hH⟩) (fun _ h => absurd h List.not_mem_nil) d_fl_has_22

set_option maxHeartbeats 4000000 in
set_option maxRecDepth 100000 in
theorem c_fl_isFree (l : Launch) (D : va_G) (cZ cI cJ cII : ClassId) (fa : Nat) (fw : Int32) (fh : Int32) (wa : Nat) (fc : Int32) (ra : Nat) (sa : Nat) (ta : Nat) (wf : Nat → Int32) (x : Int32) (sz : Nat) (hb25 : ∀ x : Int32, ¬ x < 0 → ¬ fw * fh ≤ x → vp_in x 25) : Met l y_fl_isFree w_fl_isFree ({ frames := 1, cells := 0, slots := 0, locals := 40 }) (va_Pc [.ref fa, .int x] (mt_B D [(cZ, .boolean), (cI, .int), (cJ, .long), (cII, .array .int)] [(fa, .inr (1, [.int fw, .int fh, .ref wa, .int fc, .ref ra, .ref sa, .ref ta])), (wa, .inl (cZ, 25, .inl wf))] sz)) (vp_Si (fun r : Int32 => (r = 1 ∧ ¬ x < 0 ∧ ¬ fw * fh ≤ x ∧ wf x.toNatClampNeg = 0) ∨ (r = 0 ∧ (x < 0 ∨ fw * fh ≤ x ∨ ¬ wf x.toNatClampNeg = 0)))) 0 0 (fun _ => False) := by
  refine mt_ofR (by decide) (Nat.le_of_ble_eq_true rfl) ?_
  intro p e s m below meth c ls hx hb hr hlk hml hown hg hl hX hP hK hD
  have hown : s.vm.findClass R_fl = some m.cls := hown
  obtain ⟨H, hH⟩ : ∃ H : Heap, H = s.heap := ⟨_, rfl⟩
  rw [← hH] at hP ⊢
  have hl : lv_has ls 2 [(0, .ref fa), (1, .int x)] := hl
  refine lv_aload_n hx hb d_fl_isFree_0 rfl (lv_at hl 0 rfl) ?_
  refine lv_iload_n hx hb d_fl_isFree_1 rfl (lv_at hl 1 rfl) ?_
  have hPc := hP.sub (ws' := [(fa, .inr (1, [.int fw, .int fh, .ref wa, .int fc, .ref ra, .ref sa, .ref ta]))]) [0] rfl
  have hDc := hD.sub (ws' := [(fa, .inr (1, [.int fw, .int fh, .ref wa, .int fc, .ref ra, .ref sa, .ref ta]))]) [0] (by decide) rfl
  refine vp_callSi (W.runV (As := [.int x]) (rest := []) ⟨hx, hb, hml, hown, hg⟩ (c_fl_has l D cZ cI cJ cII fa fw fh wa fc ra sa ta x H.size ) (cwV 1 hg gv_fl_41 rfl rfl rfl (by decide +kernel) ⟨Nat.le_of_ble_eq_true rfl, Nat.le_of_ble_eq_true rfl⟩) ⟨mt_bl, va_recv (q0 := 0) (ci := 1) hK hP rfl rfl, mt_pr hX hPc hK hDc⟩ rfl rfl hl.1 rfl (lv_room (Nat.le_of_ble_eq_true rfl)) d_fl_isFree_2 ⟨Nat.le_of_ble_eq_true rfl, Nat.le_of_ble_eq_true rfl⟩) (fun r1 hr1 => ?_)
  have hr1 : (r1 = 1 ∧ ¬ x < 0 ∧ ¬ fw * fh ≤ x) ∨ (r1 = 0 ∧ (x < 0 ∨ fw * fh ≤ x)) := hr1
  refine lv_if_eq hx hb d_fl_isFree_5 rfl (fun g1 => ?_) (fun g1 => ?_)
  ·
    refine lv_iconst (v := 0) hx hb d_fl_isFree_21 (by decide) ?_
    exact W.zret hx hb hr rfl (fun t ht _ => ⟨0, rfl, Or.inr ⟨rfl, hr1.elim (fun q => absurd (q.1.symm.trans g1) (by decide)) (fun q => q.2.elim Or.inl (fun z => Or.inr (Or.inl z)))⟩, ht.trans hH⟩) (fun _ h => absurd h List.not_mem_nil) d_fl_isFree_22
  ·
    have g3 : ¬ x < 0 ∧ ¬ fw * fh ≤ x := hr1.elim (fun q => q.2) (fun q => absurd q.1 g1)
    refine lv_aload_n hx hb d_fl_isFree_8 rfl (lv_at hl 0 rfl) ?_
    refine gf_fl_9 hx hb hg hown hK hP 0 rfl rfl d_fl_isFree_9 ?_
    refine lv_iload_n hx hb d_fl_isFree_12 rfl (lv_at hl 1 rfl) ?_
    refine va_zald hx hb hK hP 1 0 rfl rfl (hb25 x g3.1 g3.2) d_fl_isFree_13 ?_
    refine lv_if_ne hx hb d_fl_isFree_14 rfl (fun g2 => ?_) (fun g2 => ?_)
    ·
      refine lv_iconst (v := 0) hx hb d_fl_isFree_21 (by decide) ?_
      exact W.zret hx hb hr rfl (fun t ht _ => ⟨0, rfl, Or.inr ⟨rfl, Or.inr (Or.inr g2)⟩, ht.trans hH⟩) (fun _ h => absurd h List.not_mem_nil) d_fl_isFree_22
    ·
      refine lv_iconst (v := 1) hx hb d_fl_isFree_17 (by decide) ?_
      refine lv_goto hx hb d_fl_isFree_18 rfl ?_
      exact W.zret hx hb hr rfl (fun t ht _ => ⟨1, rfl, Or.inl ⟨rfl, g3.1, g3.2, g2⟩, ht.trans hH⟩) (fun _ h => absurd h List.not_mem_nil) d_fl_isFree_22

set_option maxHeartbeats 4000000 in
set_option maxRecDepth 100000 in
theorem c_cr_has (l : Launch) (D : va_G) (cZ cI cJ cII : ClassId) (ca : Nat) (cfl : Nat) (cn : Int32) (cs : Nat) (cg : Nat) (cto : Nat) (cq : Nat) (cco : Nat) (cnx : Nat) (x : Int32) (sz : Nat)  : Met l y_cr_has w_cr_has ({ frames := 0, cells := 0, slots := 0, locals := 0 }) (va_Pc [.ref ca, .int x] (mt_B D [(cZ, .boolean), (cI, .int), (cJ, .long), (cII, .array .int)] [(ca, .inr (0, [.ref cfl, .int cn, .ref cs, .ref cg, .ref cto, .ref cq, .ref cco, .ref cnx]))] sz)) (vp_Si (fun r : Int32 => (r = 1 ∧ ¬ x < 0 ∧ ¬ cn ≤ x) ∨ (r = 0 ∧ (x < 0 ∨ cn ≤ x)))) 0 0 (fun _ => False) := by
  refine mt_ofR (by decide) (Nat.le_of_ble_eq_true rfl) ?_
  intro p e s m below meth c ls hx hb hr hlk hml hown hg hl hX hP hK hD
  have hown : s.vm.findClass R_cr = some m.cls := hown
  obtain ⟨H, hH⟩ : ∃ H : Heap, H = s.heap := ⟨_, rfl⟩
  rw [← hH] at hP ⊢
  have hl : lv_has ls 2 [(0, .ref ca), (1, .int x)] := hl
  refine lv_iload_n hx hb d_cr_has_0 rfl (lv_at hl 1 rfl) ?_
  refine lv_if_lt hx hb d_cr_has_1 rfl (fun g1 => ?_) (fun g1 => ?_)
  ·
    refine lv_iconst (v := 0) hx hb d_cr_has_16 (by decide) ?_
    exact W.zret hx hb hr rfl (fun t ht _ => ⟨0, rfl, Or.inr ⟨rfl, Or.inl g1⟩, ht.trans hH⟩) (fun _ h => absurd h List.not_mem_nil) d_cr_has_17
  ·
    refine lv_iload_n hx hb d_cr_has_4 rfl (lv_at hl 1 rfl) ?_
    refine lv_aload_n hx hb d_cr_has_5 rfl (lv_at hl 0 rfl) ?_
    refine gf_cr_37 hx hb hg hown hK hP 0 rfl rfl d_cr_has_6 ?_
    refine lv_icmp_ge hx hb d_cr_has_9 rfl (fun g2 => ?_) (fun g2 => ?_)
    ·
      refine lv_iconst (v := 0) hx hb d_cr_has_16 (by decide) ?_
      exact W.zret hx hb hr rfl (fun t ht _ => ⟨0, rfl, Or.inr ⟨rfl, Or.inr g2⟩, ht.trans hH⟩) (fun _ h => absurd h List.not_mem_nil) d_cr_has_17
    ·
      refine lv_iconst (v := 1) hx hb d_cr_has_12 (by decide) ?_
      refine lv_goto hx hb d_cr_has_13 rfl ?_
      exact W.zret hx hb hr rfl (fun t ht _ => ⟨1, rfl, Or.inl ⟨rfl, g1, g2⟩, ht.trans hH⟩) (fun _ h => absurd h List.not_mem_nil) d_cr_has_17

set_option maxHeartbeats 4000000 in
set_option maxRecDepth 100000 in
theorem c_cr_dismiss (l : Launch) (D : va_G) (cZ cI cJ cII : ClassId) (ca : Nat) (cfl : Nat) (cn : Int32) (cs : Nat) (cg : Nat) (cto : Nat) (cq : Nat) (cco : Nat) (cnx : Nat) (sz : Nat)  : Met l y_cr_dismiss w_cr_dismiss ({ frames := 0, cells := 0, slots := 0, locals := 0 }) (va_Pc [.ref ca] (mt_B D [(cZ, .boolean), (cI, .int), (cJ, .long), (cII, .array .int)] [(ca, .inr (0, [.ref cfl, .int cn, .ref cs, .ref cg, .ref cto, .ref cq, .ref cco, .ref cnx]))] sz)) ((fun A => va_Qv (fun (u : Unit) => True) (fun (u : Unit) (t : State) => mt_O D A [(ca, .inr (0, [.ref cfl, .int 0, .ref cs, .ref cg, .ref cto, .ref cq, .ref cco, .ref cnx]))] t) A) (va_A [(ca, .inr (0, [.ref cfl, .int cn, .ref cs, .ref cg, .ref cto, .ref cq, .ref cco, .ref cnx]))] sz)) 0 0 (va_A [(ca, .inr (0, [.ref cfl, .int cn, .ref cs, .ref cg, .ref cto, .ref cq, .ref cco, .ref cnx]))] sz) := by
  refine mt_of (y := y_cr_dismiss) (n := 1) (av := [.ref ca]) (QF := (fun A => va_Qv (fun (u : Unit) => True) (fun (u : Unit) (t : State) => mt_O D A [(ca, .inr (0, [.ref cfl, .int 0, .ref cs, .ref cg, .ref cto, .ref cq, .ref cco, .ref cnx]))] t) A)) (by decide) (Nat.le_of_ble_eq_true rfl) ?_
  intro p e s m below meth c ls A hx hb hr hlk hml hown hnm hg hl hX hP hK hD hA hS
  obtain ⟨H, hH⟩ : ∃ H : Heap, H = s.heap := ⟨_, rfl⟩
  have hS : va_S A s.heap H [] := by rw [hH]; exact va_S.rf
  rw [← hH] at hP ⊢
  have hown : s.vm.findClass R_cr = some m.cls := hown
  have hl : lv_has ls 1 [(0, .ref ca)] := hl
  refine lv_aload_n hx hb d_cr_dismiss_0 rfl (lv_at hl 0 rfl) ?_
  refine lv_iconst (v := 0) hx hb d_cr_dismiss_1 (by decide) ?_
  refine pf_cr_37 hx hb hg hown hK hP hD hS 0 rfl rfl rfl (Nat.le_of_ble_eq_true rfl) d_cr_dismiss_2 (fun H locs hP hD hS => ?_)
  have hP : va_P D kls [(ca, .inr (0, [.ref cfl, .int 0, .ref cs, .ref cg, .ref cto, .ref cq, .ref cco, .ref cnx]))] H := hP
  have hD : va_D A [(ca, .inr (0, [.ref cfl, .int 0, .ref cs, .ref cg, .ref cto, .ref cq, .ref cco, .ref cnx]))] := hD
  have hP9 := hP
  have hD9 := hD
  exact W.vret hx hb hr (fun t ht hW => ⟨⟨(), rfl, trivial, by rw [ht]; exact hP9, hD9⟩, hS.F ht⟩) hS.2.2 d_cr_dismiss_5

set_option maxHeartbeats 4000000 in
set_option maxRecDepth 100000 in
theorem c_pn_forget (l : Launch) (D : va_G) (cZ cI cJ cII : ClassId) (pa : Nat) (pfl : Nat) (pcr : Nat) (pho : Nat) (pce : Nat) (pse : Nat) (ppl : Nat) (pen : Int32) (psu : Int32) (pnm : Int32) (pkn : Int32) (pfo : Int32) (sz : Nat)  : Met l y_pn_forget w_pn_forget ({ frames := 0, cells := 0, slots := 0, locals := 0 }) (va_Pc [.ref pa] (mt_B D [(cZ, .boolean), (cI, .int), (cJ, .long), (cII, .array .int)] [(pa, .inr (4, [.ref pfl, .ref pcr, .ref pho, .ref pce, .ref pse, .ref ppl, .int pen, .int psu, .int pnm, .int pkn, .int pfo]))] sz)) ((fun A => va_Qv (fun (u : Unit) => True) (fun (u : Unit) (t : State) => mt_O D A [(pa, .inr (4, [.ref pfl, .ref pcr, .ref pho, .ref pce, .ref pse, .ref ppl, .int pen, .int psu, .int 0, .int 0, .int 0]))] t) A) (va_A [(pa, .inr (4, [.ref pfl, .ref pcr, .ref pho, .ref pce, .ref pse, .ref ppl, .int pen, .int psu, .int pnm, .int pkn, .int pfo]))] sz)) 0 0 (va_A [(pa, .inr (4, [.ref pfl, .ref pcr, .ref pho, .ref pce, .ref pse, .ref ppl, .int pen, .int psu, .int pnm, .int pkn, .int pfo]))] sz) := by
  refine mt_of (y := y_pn_forget) (n := 1) (av := [.ref pa]) (QF := (fun A => va_Qv (fun (u : Unit) => True) (fun (u : Unit) (t : State) => mt_O D A [(pa, .inr (4, [.ref pfl, .ref pcr, .ref pho, .ref pce, .ref pse, .ref ppl, .int pen, .int psu, .int 0, .int 0, .int 0]))] t) A)) (by decide) (Nat.le_of_ble_eq_true rfl) ?_
  intro p e s m below meth c ls A hx hb hr hlk hml hown hnm hg hl hX hP hK hD hA hS
  obtain ⟨H, hH⟩ : ∃ H : Heap, H = s.heap := ⟨_, rfl⟩
  have hS : va_S A s.heap H [] := by rw [hH]; exact va_S.rf
  rw [← hH] at hP ⊢
  have hown : s.vm.findClass R_pn = some m.cls := hown
  have hl : lv_has ls 1 [(0, .ref pa)] := hl
  refine lv_aload_n hx hb d_pn_forget_0 rfl (lv_at hl 0 rfl) ?_
  refine lv_iconst (v := 0) hx hb d_pn_forget_1 (by decide) ?_
  refine pf_pn_38 hx hb hg hown hK hP hD hS 0 rfl rfl rfl (Nat.le_of_ble_eq_true rfl) d_pn_forget_2 (fun H locs hP hD hS => ?_)
  have hP : va_P D kls [(pa, .inr (4, [.ref pfl, .ref pcr, .ref pho, .ref pce, .ref pse, .ref ppl, .int pen, .int psu, .int pnm, .int pkn, .int 0]))] H := hP
  have hD : va_D A [(pa, .inr (4, [.ref pfl, .ref pcr, .ref pho, .ref pce, .ref pse, .ref ppl, .int pen, .int psu, .int pnm, .int pkn, .int 0]))] := hD
  refine lv_aload_n hx hb d_pn_forget_5 rfl (lv_at hl 0 rfl) ?_
  refine lv_iconst (v := 0) hx hb d_pn_forget_6 (by decide) ?_
  refine pf_pn_42 hx hb hg hown hK hP hD hS 0 rfl rfl rfl (Nat.le_of_ble_eq_true rfl) d_pn_forget_7 (fun H locs hP hD hS => ?_)
  have hP : va_P D kls [(pa, .inr (4, [.ref pfl, .ref pcr, .ref pho, .ref pce, .ref pse, .ref ppl, .int pen, .int psu, .int pnm, .int 0, .int 0]))] H := hP
  have hD : va_D A [(pa, .inr (4, [.ref pfl, .ref pcr, .ref pho, .ref pce, .ref pse, .ref ppl, .int pen, .int psu, .int pnm, .int 0, .int 0]))] := hD
  refine lv_aload_n hx hb d_pn_forget_10 rfl (lv_at hl 0 rfl) ?_
  refine lv_iconst (v := 0) hx hb d_pn_forget_11 (by decide) ?_
  refine pf_pn_45 hx hb hg hown hK hP hD hS 0 rfl rfl rfl (Nat.le_of_ble_eq_true rfl) d_pn_forget_12 (fun H locs hP hD hS => ?_)
  have hP : va_P D kls [(pa, .inr (4, [.ref pfl, .ref pcr, .ref pho, .ref pce, .ref pse, .ref ppl, .int pen, .int psu, .int 0, .int 0, .int 0]))] H := hP
  have hD : va_D A [(pa, .inr (4, [.ref pfl, .ref pcr, .ref pho, .ref pce, .ref pse, .ref ppl, .int pen, .int psu, .int 0, .int 0, .int 0]))] := hD
  have hP9 := hP
  have hD9 := hD
  exact W.vret hx hb hr (fun t ht hW => ⟨⟨(), rfl, trivial, by rw [ht]; exact hP9, hD9⟩, hS.F ht⟩) hS.2.2 d_pn_forget_15

set_option maxHeartbeats 4000000 in
set_option maxRecDepth 100000 in
theorem c_ar_fillI (l : Launch) (D : va_G) (cZ cI cJ cII : ClassId) (a0 : Nat) (n0 : Nat) (f0 : Nat → Int32) (v : Int32) (sz : Nat) (hn0 : n0 < 2 ^ 31) : Met l y_ar_fillI w_ar_fillI ({ frames := 0, cells := 0, slots := 0, locals := 0 }) (va_Pc [.ref a0, .int v] (mt_B D [(cZ, .boolean), (cI, .int), (cJ, .long), (cII, .array .int)] [(a0, .inl (cI, n0, .inl f0))] sz)) ((fun A => va_Qv (fun (u : (Nat → Int32)) => ∀ j, j < n0 → u j = v) (fun (u : (Nat → Int32)) (t : State) => mt_O D A [(a0, .inl (cI, n0, .inl u))] t) A) (va_A [(a0, .inl (cI, n0, .inl f0))] sz)) 0 0 (va_A [(a0, .inl (cI, n0, .inl f0))] sz) := by
  refine mt_of (y := y_ar_fillI) (n := 4) (av := [.ref a0, .int v]) (QF := (fun A => va_Qv (fun (u : (Nat → Int32)) => ∀ j, j < n0 → u j = v) (fun (u : (Nat → Int32)) (t : State) => mt_O D A [(a0, .inl (cI, n0, .inl u))] t) A)) (by decide) (Nat.le_of_ble_eq_true rfl) ?_
  intro p e s m below meth c ls A hx hb hr hlk hml hown hnm hg hl hX hP hK hD hA hS
  obtain ⟨H, hH⟩ : ∃ H : Heap, H = s.heap := ⟨_, rfl⟩
  have hS : va_S A s.heap H [] := by rw [hH]; exact va_S.rf
  rw [← hH] at hP ⊢
  have hown : s.vm.findClass R_ar = some m.cls := hown
  have hl : lv_has ls 4 [(0, .ref a0), (1, .int v)] := hl
  refine lv_iconst (v := 0) hx hb d_ar_fillI_0 (by decide) ?_
  refine lv_istore_n hx hb d_ar_fillI_1 rfl hl (by decide) rfl (fun ls hl => ?_)
  have hl : lv_has ls 4 [(2, .int 0), (0, .ref a0), (1, .int v)] := hl
  refine lv_aload_n hx hb d_ar_fillI_2 rfl (lv_at hl 1 rfl) ?_
  refine va_alen (v := nI n0) hx hb hK hP 0 1 rfl rfl rfl d_ar_fillI_3 ?_
  refine lv_istore_n hx hb d_ar_fillI_4 rfl hl (by decide) rfl (fun ls hl => ?_)
  have hl : lv_has ls 4 [(3, .int (nI n0)), (2, .int 0), (0, .ref a0), (1, .int v)] := hl
  have hl := lv_sub hl [1, 0, 2, 3] (l' := [(2, .int (nI 0)), (3, .int (nI n0)), (0, .ref a0), (1, .int v)]) (by rw [nI_0]; rfl)
  refine mt_loop (ι := Nat × (Nat → Int32)) (I := fun i ls H locs => i.1 ≤ n0 ∧ (∀ j, j < i.1 → i.2 j = v) ∧ lv_has ls 4 [(2, .int (nI i.1)), (3, .int (nI n0)), (0, .ref a0), (1, .int v)] ∧ va_P D kls [(a0, .inl (cI, n0, .inl (i.2)))] H ∧ va_D A [(a0, .inl (cI, n0, .inl (i.2)))] ∧ va_S A s.heap H locs) (μ := fun i => n0 - i.1) ?_ (0, f0) ls H _ ⟨Nat.zero_le _, fun j h => absurd h (Nat.not_lt_zero _), hl, hP, hD, hS⟩
  clear hl hP hD hS
  intro i ls H locs ⟨hi, hv, hl, hP, hD, hS⟩ ih
  obtain ⟨i, g⟩ := i
  try dsimp only at hi hv hl hP hD ih
  have hl : lv_has ls 4 [(2, .int (nI i)), (3, .int (nI n0)), (0, .ref a0), (1, .int v)] := hl
  have hP : va_P D kls [(a0, .inl (cI, n0, .inl g))] H := hP
  have hD : va_D A [(a0, .inl (cI, n0, .inl g))] := hD
  refine lv_iload_n hx hb d_ar_fillI_5 rfl (lv_at hl 0 rfl) ?_
  refine lv_iload_n hx hb d_ar_fillI_6 rfl (lv_at hl 1 rfl) ?_
  refine lv_icmp_ge hx hb d_ar_fillI_7 rfl (fun g1 => ?_) (fun g1 => ?_)
  ·
    have g2 : i = n0 := by rcases Nat.lt_or_ge i n0 with h | h; exact absurd g1 (nI_ge h hn0); omega
    have hP9 := hP
    have hD9 := hD
    exact W.vret hx hb hr (fun t ht hW => ⟨⟨g, rfl, fun j hj => hv j (by have : j < n0 := hj; omega), by rw [ht]; exact hP9, hD9⟩, hS.F ht⟩) hS.2.2 d_ar_fillI_20
  ·
    have g2 : i < n0 := by rcases Nat.lt_or_ge i n0 with h | h; exact h; exact absurd (nI_le h (by omega)) g1
    refine lv_aload_n hx hb d_ar_fillI_10 rfl (lv_at hl 2 rfl) ?_
    refine lv_iload_n hx hb d_ar_fillI_11 rfl (lv_at hl 0 rfl) ?_
    refine lv_iload_n hx hb d_ar_fillI_12 rfl (lv_at hl 3 rfl) ?_
    refine va_iast hx hb hK hP hD hS 0 1 rfl rfl (vp_in_nI g2 hn0) d_ar_fillI_13 (fun H locs hP hD hS => ?_)
    rw [nI_clamp (show i < 2 ^ 31 by omega)] at hP hD
    have hP : va_P D kls [(a0, .inl (cI, n0, .inl (upd g i v)))] H := hP
    have hD : va_D A [(a0, .inl (cI, n0, .inl (upd g i v)))] := hD
    refine lv_iinc (k := 0) (v := nI (i + 1)) hx hb d_ar_fillI_14 hl rfl ((nI_succ i).symm) (by decide) rfl (fun ls hl => ?_)
    have hl : lv_has ls 4 [(2, .int (nI (i + 1))), (3, .int (nI n0)), (0, .ref a0), (1, .int v)] := hl
    refine lv_goto hx hb d_ar_fillI_17 rfl ?_
    refine ih (i + 1, upd g i v) ls H locs (by show n0 - (i + 1) < n0 - i; omega) ⟨by show i + 1 ≤ n0; omega, ?_, hl, hP, hD, hS⟩
    intro j hj
    show upd g i v j = v
    by_cases e : j = i
    · subst e; exact pk_us
    · rw [pk_un e]; exact hv j (by have : j < i + 1 := hj; omega)

set_option maxHeartbeats 4000000 in
set_option maxRecDepth 100000 in
theorem c_ar_fillJ (l : Launch) (D : va_G) (cZ cI cJ cII : ClassId) (a0 : Nat) (n0 : Nat) (f0 : Nat → Int64) (v : Int64) (sz : Nat) (hn0 : n0 < 2 ^ 31) : Met l y_ar_fillJ w_ar_fillJ ({ frames := 0, cells := 0, slots := 0, locals := 0 }) (va_Pc [.ref a0, .long v] (mt_B D [(cZ, .boolean), (cI, .int), (cJ, .long), (cII, .array .int)] [(a0, .inl (cJ, n0, .inr (.inl f0)))] sz)) ((fun A => va_Qv (fun (u : (Nat → Int64)) => ∀ j, j < n0 → u j = v) (fun (u : (Nat → Int64)) (t : State) => mt_O D A [(a0, .inl (cJ, n0, .inr (.inl u)))] t) A) (va_A [(a0, .inl (cJ, n0, .inr (.inl f0)))] sz)) 0 0 (va_A [(a0, .inl (cJ, n0, .inr (.inl f0)))] sz) := by
  refine mt_of (y := y_ar_fillJ) (n := 5) (av := [.ref a0, .long v]) (QF := (fun A => va_Qv (fun (u : (Nat → Int64)) => ∀ j, j < n0 → u j = v) (fun (u : (Nat → Int64)) (t : State) => mt_O D A [(a0, .inl (cJ, n0, .inr (.inl u)))] t) A)) (by decide) (Nat.le_of_ble_eq_true rfl) ?_
  intro p e s m below meth c ls A hx hb hr hlk hml hown hnm hg hl hX hP hK hD hA hS
  obtain ⟨H, hH⟩ : ∃ H : Heap, H = s.heap := ⟨_, rfl⟩
  have hS : va_S A s.heap H [] := by rw [hH]; exact va_S.rf
  rw [← hH] at hP ⊢
  have hown : s.vm.findClass R_ar = some m.cls := hown
  have hl : lv_has ls 5 [(0, .ref a0), (1, .long v)] := hl
  refine lv_iconst (v := 0) hx hb d_ar_fillJ_0 (by decide) ?_
  refine lv_istore_n hx hb d_ar_fillJ_1 rfl hl (by decide) rfl (fun ls hl => ?_)
  have hl : lv_has ls 5 [(3, .int 0), (0, .ref a0), (1, .long v)] := hl
  refine lv_aload_n hx hb d_ar_fillJ_2 rfl (lv_at hl 1 rfl) ?_
  refine va_alen (v := nI n0) hx hb hK hP 0 2 rfl rfl rfl d_ar_fillJ_3 ?_
  refine lv_istore hx hb d_ar_fillJ_4 hl (by decide) rfl (fun ls hl => ?_)
  have hl : lv_has ls 5 [(4, .int (nI n0)), (3, .int 0), (0, .ref a0), (1, .long v)] := hl
  have hl := lv_sub hl [1, 0, 2, 3] (l' := [(3, .int (nI 0)), (4, .int (nI n0)), (0, .ref a0), (1, .long v)]) (by rw [nI_0]; rfl)
  refine mt_loop (ι := Nat × (Nat → Int64)) (I := fun i ls H locs => i.1 ≤ n0 ∧ (∀ j, j < i.1 → i.2 j = v) ∧ lv_has ls 5 [(3, .int (nI i.1)), (4, .int (nI n0)), (0, .ref a0), (1, .long v)] ∧ va_P D kls [(a0, .inl (cJ, n0, .inr (.inl (i.2))))] H ∧ va_D A [(a0, .inl (cJ, n0, .inr (.inl (i.2))))] ∧ va_S A s.heap H locs) (μ := fun i => n0 - i.1) ?_ (0, f0) ls H _ ⟨Nat.zero_le _, fun j h => absurd h (Nat.not_lt_zero _), hl, hP, hD, hS⟩
  clear hl hP hD hS
  intro i ls H locs ⟨hi, hv, hl, hP, hD, hS⟩ ih
  obtain ⟨i, g⟩ := i
  try dsimp only at hi hv hl hP hD ih
  have hl : lv_has ls 5 [(3, .int (nI i)), (4, .int (nI n0)), (0, .ref a0), (1, .long v)] := hl
  have hP : va_P D kls [(a0, .inl (cJ, n0, .inr (.inl g)))] H := hP
  have hD : va_D A [(a0, .inl (cJ, n0, .inr (.inl g)))] := hD
  refine lv_iload_n hx hb d_ar_fillJ_6 rfl (lv_at hl 0 rfl) ?_
  refine lv_iload hx hb d_ar_fillJ_7 (lv_at hl 1 rfl) ?_
  refine lv_icmp_ge hx hb d_ar_fillJ_9 rfl (fun g1 => ?_) (fun g1 => ?_)
  ·
    have g2 : i = n0 := by rcases Nat.lt_or_ge i n0 with h | h; exact absurd g1 (nI_ge h hn0); omega
    have hP9 := hP
    have hD9 := hD
    exact W.vret hx hb hr (fun t ht hW => ⟨⟨g, rfl, fun j hj => hv j (by have : j < n0 := hj; omega), by rw [ht]; exact hP9, hD9⟩, hS.F ht⟩) hS.2.2 d_ar_fillJ_22
  ·
    have g2 : i < n0 := by rcases Nat.lt_or_ge i n0 with h | h; exact h; exact absurd (nI_le h (by omega)) g1
    refine lv_aload_n hx hb d_ar_fillJ_12 rfl (lv_at hl 2 rfl) ?_
    refine lv_iload_n hx hb d_ar_fillJ_13 rfl (lv_at hl 0 rfl) ?_
    refine lv_lload_n hx hb d_ar_fillJ_14 rfl (lv_at hl 3 rfl) ?_
    refine va_last hx hb hK hP hD hS 0 2 rfl rfl (vp_in_nI g2 hn0) d_ar_fillJ_15 (fun H locs hP hD hS => ?_)
    rw [nI_clamp (show i < 2 ^ 31 by omega)] at hP hD
    have hP : va_P D kls [(a0, .inl (cJ, n0, .inr (.inl (vp_updL g i v))))] H := hP
    have hD : va_D A [(a0, .inl (cJ, n0, .inr (.inl (vp_updL g i v))))] := hD
    refine lv_iinc (k := 0) (v := nI (i + 1)) hx hb d_ar_fillJ_16 hl rfl ((nI_succ i).symm) (by decide) rfl (fun ls hl => ?_)
    have hl : lv_has ls 5 [(3, .int (nI (i + 1))), (4, .int (nI n0)), (0, .ref a0), (1, .long v)] := hl
    refine lv_goto hx hb d_ar_fillJ_19 rfl ?_
    refine ih (i + 1, vp_updL g i v) ls H locs (by show n0 - (i + 1) < n0 - i; omega) ⟨by show i + 1 ≤ n0; omega, ?_, hl, hP, hD, hS⟩
    intro j hj
    show vp_updL g i v j = v
    by_cases e : j = i
    · subst e; exact pk_uLs
    · rw [pk_uLn e]; exact hv j (by have : j < i + 1 := hj; omega)
end
section
set_option maxHeartbeats 4000000 in
set_option maxRecDepth 100000 in
theorem c_fl_addStep (l : Launch) (D : va_G) (cZ cI cJ cII : ClassId) (fa : Nat) (fw : Int32) (fh : Int32) (wa : Nat) (fc : Int32) (ra : Nat) (sa : Nat) (ta : Nat) (wf : Nat → Int32) (rf : Nat → Int32) (sf : Nat → Int32) (rr : Nat → Nat) (re : Nat → va_E) (k : Nat) (j : Nat) (y : Int32) (sz : Nat) (hb25 : ∀ x : Int32, ¬ x < 0 → ¬ fw * fh ≤ x → vp_in x 25) (hk : k < 25) (hsj : sf k = nI j) (hj : j < 5) (hre : mt_r5 cI re) : Met l y_fl_addStep w_fl_addStep ({ frames := 2, cells := 0, slots := 0, locals := 80 }) (va_Pc [.ref fa, .int (nI k), .int y] (mt_B D [(cZ, .boolean), (cI, .int), (cJ, .long), (cII, .array .int)] ([(fa, .inr (1, [.int fw, .int fh, .ref wa, .int fc, .ref ra, .ref sa, .ref ta])), (wa, .inl (cZ, 25, .inl wf)), (ra, .inl (cI, 25, .inl rf)), (sa, .inl (cI, 25, .inl sf)), (ta, .inl (cII, 25, .inr (.inr (.inr (.inr (fun i => if i < 25 then some (rr i) else none))))))] ++ mt_rw 25 rr re) sz)) ((fun A => va_Qv (fun (u : (Nat → Int32) × (Nat → va_E)) => ((¬ y < 0 ∧ ¬ fw * fh ≤ y ∧ wf y.toNatClampNeg = 0) ∧ (u.1) = upd sf k (nI (j + 1)) ∧ ∃ f : Nat → Int32, re k = .inl (cI, 5, .inl f) ∧ (u.2) = va_up re k (.inl (cI, 5, .inl (upd f j y)))) ∨ ((y < 0 ∨ fw * fh ≤ y ∨ ¬ wf y.toNatClampNeg = 0) ∧ (u.1) = sf ∧ (u.2) = re)) (fun (u : (Nat → Int32) × (Nat → va_E)) (t : State) => mt_O D A ([(fa, .inr (1, [.int fw, .int fh, .ref wa, .int fc, .ref ra, .ref sa, .ref ta])), (wa, .inl (cZ, 25, .inl wf)), (ra, .inl (cI, 25, .inl rf)), (sa, .inl (cI, 25, .inl (u.1))), (ta, .inl (cII, 25, .inr (.inr (.inr (.inr (fun i => if i < 25 then some (rr i) else none))))))] ++ mt_rw 25 rr (u.2)) t) A) (va_A ([(fa, .inr (1, [.int fw, .int fh, .ref wa, .int fc, .ref ra, .ref sa, .ref ta])), (wa, .inl (cZ, 25, .inl wf)), (ra, .inl (cI, 25, .inl rf)), (sa, .inl (cI, 25, .inl sf)), (ta, .inl (cII, 25, .inr (.inr (.inr (.inr (fun i => if i < 25 then some (rr i) else none))))))] ++ mt_rw 25 rr re) sz)) 0 0 (va_A ([(fa, .inr (1, [.int fw, .int fh, .ref wa, .int fc, .ref ra, .ref sa, .ref ta])), (wa, .inl (cZ, 25, .inl wf)), (ra, .inl (cI, 25, .inl rf)), (sa, .inl (cI, 25, .inl sf)), (ta, .inl (cII, 25, .inr (.inr (.inr (.inr (fun i => if i < 25 then some (rr i) else none))))))] ++ mt_rw 25 rr re) sz) := by
  refine mt_of (y := y_fl_addStep) (n := 3) (av := [.ref fa, .int (nI k), .int y]) (QF := (fun A => va_Qv (fun (u : (Nat → Int32) × (Nat → va_E)) => ((¬ y < 0 ∧ ¬ fw * fh ≤ y ∧ wf y.toNatClampNeg = 0) ∧ (u.1) = upd sf k (nI (j + 1)) ∧ ∃ f : Nat → Int32, re k = .inl (cI, 5, .inl f) ∧ (u.2) = va_up re k (.inl (cI, 5, .inl (upd f j y)))) ∨ ((y < 0 ∨ fw * fh ≤ y ∨ ¬ wf y.toNatClampNeg = 0) ∧ (u.1) = sf ∧ (u.2) = re)) (fun (u : (Nat → Int32) × (Nat → va_E)) (t : State) => mt_O D A ([(fa, .inr (1, [.int fw, .int fh, .ref wa, .int fc, .ref ra, .ref sa, .ref ta])), (wa, .inl (cZ, 25, .inl wf)), (ra, .inl (cI, 25, .inl rf)), (sa, .inl (cI, 25, .inl (u.1))), (ta, .inl (cII, 25, .inr (.inr (.inr (.inr (fun i => if i < 25 then some (rr i) else none))))))] ++ mt_rw 25 rr (u.2)) t) A)) (by decide) (Nat.le_of_ble_eq_true rfl) ?_
  intro p e s m below meth c ls A hx hb hr hlk hml hown hnm hg hl hX hP hK hD hA hS
  obtain ⟨H, hH⟩ : ∃ H : Heap, H = s.heap := ⟨_, rfl⟩
  have hS : va_S A s.heap H [] := by rw [hH]; exact va_S.rf
  rw [← hH] at hP ⊢
  have hown : s.vm.findClass R_fl = some m.cls := hown
  have hl : lv_has ls 3 [(0, .ref fa), (1, .int (nI k)), (2, .int y)] := hl
  refine lv_aload_n hx hb d_fl_addStep_0 rfl (lv_at hl 0 rfl) ?_
  refine lv_iload_n hx hb d_fl_addStep_1 rfl (lv_at hl 2 rfl) ?_
  have hPc := hP.sub (ws' := [(fa, .inr (1, [.int fw, .int fh, .ref wa, .int fc, .ref ra, .ref sa, .ref ta])), (wa, .inl (cZ, 25, .inl wf))]) [0, 1] rfl
  have hDc := hD.sub (ws' := [(fa, .inr (1, [.int fw, .int fh, .ref wa, .int fc, .ref ra, .ref sa, .ref ta])), (wa, .inl (cZ, 25, .inl wf))]) [0, 1] (by decide) rfl
  refine vp_callSi (W.runV (As := [.int y]) (rest := []) ⟨hx, hb, hml, hown, hg⟩ (c_fl_isFree l D cZ cI cJ cII fa fw fh wa fc ra sa ta wf y H.size hb25) (cwV 1 hg gv_fl_45 rfl rfl rfl (by decide +kernel) ⟨Nat.le_of_ble_eq_true rfl, Nat.le_of_ble_eq_true rfl⟩) ⟨mt_bl, va_recv (q0 := 0) (ci := 1) hK hP rfl rfl, mt_pr hX hPc hK hDc⟩ rfl rfl hl.1 rfl (lv_room (Nat.le_of_ble_eq_true rfl)) d_fl_addStep_2 ⟨Nat.le_of_ble_eq_true rfl, Nat.le_of_ble_eq_true rfl⟩) (fun r1 hr1 => ?_)
  have hr1 : (r1 = 1 ∧ ¬ y < 0 ∧ ¬ fw * fh ≤ y ∧ wf y.toNatClampNeg = 0) ∨ (r1 = 0 ∧ (y < 0 ∨ fw * fh ≤ y ∨ ¬ wf y.toNatClampNeg = 0)) := hr1
  refine lv_if_eq hx hb d_fl_addStep_5 rfl (fun g1 => ?_) (fun g1 => ?_)
  ·
    have hP9 := hP
    have hD9 := hD
    exact W.vret hx hb hr (fun t ht hW => ⟨⟨(sf, re), rfl, Or.inr ⟨hr1.elim (fun q => absurd (q.1.symm.trans g1) (by decide)) (fun q => q.2), rfl, rfl⟩, by rw [ht]; exact hP9, hD9⟩, hS.F ht⟩) hS.2.2 d_fl_addStep_32
  ·
    refine lv_aload_n hx hb d_fl_addStep_8 rfl (lv_at hl 0 rfl) ?_
    refine gf_fl_24 hx hb hg hown hK hP 0 rfl rfl d_fl_addStep_9 ?_
    refine lv_iload_n hx hb d_fl_addStep_12 rfl (lv_at hl 1 rfl) ?_
    refine mt_aald hx hb hK hP 4 3 rfl rfl (vp_in_nI hk (by decide)) (by show (if (nI k).toNatClampNeg < 25 then some (rr (nI k).toNatClampNeg) else none) = some (rr k); rw [nI_clamp (show k < 2 ^ 31 by omega), if_pos hk]) d_fl_addStep_13 ?_
    refine lv_aload_n hx hb d_fl_addStep_14 rfl (lv_at hl 0 rfl) ?_
    refine gf_fl_19 hx hb hg hown hK hP 0 rfl rfl d_fl_addStep_15 ?_
    refine lv_iload_n hx hb d_fl_addStep_18 rfl (lv_at hl 1 rfl) ?_
    refine va_iald hx hb hK hP 3 1 rfl rfl (vp_in_nI hk (by decide)) d_fl_addStep_19 ?_
    refine lv_topi (fun y2 ey2 => ?_)
    have ey2 : y2 = nI j := ey2.trans (by rw [nI_clamp (show k < 2 ^ 31 by omega)]; exact hsj)
    subst ey2
    refine lv_iload_n hx hb d_fl_addStep_20 rfl (lv_at hl 2 rfl) ?_
    obtain ⟨f9, hf9⟩ := hre k hk
    refine va_iast hx hb hK hP hD hS (5 + k) 1 ((mt_rw_at rfl hk).trans (by rw [hf9])) rfl (vp_in_nI hj (by decide)) d_fl_addStep_21 (fun H locs hP hD hS => ?_)
    rw [mt_rw_set (x := 5) rfl, nI_clamp (show j < 2 ^ 31 by omega)] at hP hD
    have hP : va_P D kls ([(fa, .inr (1, [.int fw, .int fh, .ref wa, .int fc, .ref ra, .ref sa, .ref ta])), (wa, .inl (cZ, 25, .inl wf)), (ra, .inl (cI, 25, .inl rf)), (sa, .inl (cI, 25, .inl sf)), (ta, .inl (cII, 25, .inr (.inr (.inr (.inr (fun i => if i < 25 then some (rr i) else none))))))] ++ mt_rw 25 rr (va_up re k (.inl (cI, 5, .inl (upd f9 j y))))) H := hP
    have hD : va_D A ([(fa, .inr (1, [.int fw, .int fh, .ref wa, .int fc, .ref ra, .ref sa, .ref ta])), (wa, .inl (cZ, 25, .inl wf)), (ra, .inl (cI, 25, .inl rf)), (sa, .inl (cI, 25, .inl sf)), (ta, .inl (cII, 25, .inr (.inr (.inr (.inr (fun i => if i < 25 then some (rr i) else none))))))] ++ mt_rw 25 rr (va_up re k (.inl (cI, 5, .inl (upd f9 j y))))) := hD
    refine lv_aload_n hx hb d_fl_addStep_22 rfl (lv_at hl 0 rfl) ?_
    refine gf_fl_19 hx hb hg hown hK hP 0 rfl rfl d_fl_addStep_23 ?_
    refine lv_iload_n hx hb d_fl_addStep_26 rfl (lv_at hl 1 rfl) ?_
    refine lv_dup2_11 hx hb d_fl_addStep_27 rfl rfl ?_
    refine va_iald hx hb hK hP 3 1 rfl rfl (vp_in_nI hk (by decide)) d_fl_addStep_28 ?_
    refine lv_topi (fun y3 ey3 => ?_)
    have ey3 : y3 = nI j := ey3.trans (by rw [nI_clamp (show k < 2 ^ 31 by omega)]; exact hsj)
    subst ey3
    refine lv_iconst (v := 1) hx hb d_fl_addStep_29 (by decide) ?_
    refine lv_iadd hx hb d_fl_addStep_30 ?_
    refine lv_topi (fun y4 ey4 => ?_)
    have ey4 : y4 = nI (j + 1) := ey4.trans ((nI_succ j).symm)
    subst ey4
    refine va_iast hx hb hK hP hD hS 3 1 rfl rfl (vp_in_nI hk (by decide)) d_fl_addStep_31 (fun H locs hP hD hS => ?_)
    rw [nI_clamp (show k < 2 ^ 31 by omega)] at hP hD
    have hP : va_P D kls ([(fa, .inr (1, [.int fw, .int fh, .ref wa, .int fc, .ref ra, .ref sa, .ref ta])), (wa, .inl (cZ, 25, .inl wf)), (ra, .inl (cI, 25, .inl rf)), (sa, .inl (cI, 25, .inl (upd sf k (nI (j + 1))))), (ta, .inl (cII, 25, .inr (.inr (.inr (.inr (fun i => if i < 25 then some (rr i) else none))))))] ++ mt_rw 25 rr (va_up re k (.inl (cI, 5, .inl (upd f9 j y))))) H := hP
    have hD : va_D A ([(fa, .inr (1, [.int fw, .int fh, .ref wa, .int fc, .ref ra, .ref sa, .ref ta])), (wa, .inl (cZ, 25, .inl wf)), (ra, .inl (cI, 25, .inl rf)), (sa, .inl (cI, 25, .inl (upd sf k (nI (j + 1))))), (ta, .inl (cII, 25, .inr (.inr (.inr (.inr (fun i => if i < 25 then some (rr i) else none))))))] ++ mt_rw 25 rr (va_up re k (.inl (cI, 5, .inl (upd f9 j y))))) := hD
    have hP9 := hP
    have hD9 := hD
    exact W.vret hx hb hr (fun t ht hW => ⟨⟨(upd sf k (nI (j + 1)), va_up re k (.inl (cI, 5, .inl (upd f9 j y)))), rfl, Or.inl ⟨hr1.elim (fun q => q.2) (fun q => absurd q.1 g1), rfl, f9, hf9, rfl⟩, by rw [ht]; exact hP9, hD9⟩, hS.F ht⟩) hS.2.2 d_fl_addStep_32

set_option maxHeartbeats 4000000 in
set_option maxRecDepth 100000 in
theorem c_fl_chartCell (l : Launch) (D : va_G) (cZ cI cJ cII : ClassId) (fa : Nat) (fw : Int32) (fh : Int32) (wa : Nat) (fc : Int32) (ra : Nat) (sa : Nat) (ta : Nat) (wf : Nat → Int32) (rf : Nat → Int32) (sf : Nat → Int32) (rr : Nat → Nat) (re : Nat → va_E) (x : Int32) (k : Nat) (sz : Nat) (hb25 : ∀ x : Int32, ¬ x < 0 → ¬ fw * fh ≤ x → vp_in x 25) (hk : k < 25) (hre : mt_r5 cI re) : Met l y_fl_chartCell w_fl_chartCell ({ frames := 3, cells := 0, slots := 0, locals := 120 }) (va_Pc [.ref fa, .int x, .int (nI k)] (mt_B D [(cZ, .boolean), (cI, .int), (cJ, .long), (cII, .array .int)] ([(fa, .inr (1, [.int fw, .int fh, .ref wa, .int fc, .ref ra, .ref sa, .ref ta])), (wa, .inl (cZ, 25, .inl wf)), (ra, .inl (cI, 25, .inl rf)), (sa, .inl (cI, 25, .inl sf)), (ta, .inl (cII, 25, .inr (.inr (.inr (.inr (fun i => if i < 25 then some (rr i) else none))))))] ++ mt_rw 25 rr re) sz)) ((fun A => va_Qv (fun (u : Int32 × (Nat → Int32) × (Nat → Int32) × (Nat → va_E)) => mt_r5 cI (u.2.2.2)) (fun (u : Int32 × (Nat → Int32) × (Nat → Int32) × (Nat → va_E)) (t : State) => mt_O D A ([(fa, .inr (1, [.int fw, .int fh, .ref wa, .int (u.1), .ref ra, .ref sa, .ref ta])), (wa, .inl (cZ, 25, .inl wf)), (ra, .inl (cI, 25, .inl (u.2.1))), (sa, .inl (cI, 25, .inl (u.2.2.1))), (ta, .inl (cII, 25, .inr (.inr (.inr (.inr (fun i => if i < 25 then some (rr i) else none))))))] ++ mt_rw 25 rr (u.2.2.2)) t) A) (va_A ([(fa, .inr (1, [.int fw, .int fh, .ref wa, .int fc, .ref ra, .ref sa, .ref ta])), (wa, .inl (cZ, 25, .inl wf)), (ra, .inl (cI, 25, .inl rf)), (sa, .inl (cI, 25, .inl sf)), (ta, .inl (cII, 25, .inr (.inr (.inr (.inr (fun i => if i < 25 then some (rr i) else none))))))] ++ mt_rw 25 rr re) sz)) 0 0 (va_A ([(fa, .inr (1, [.int fw, .int fh, .ref wa, .int fc, .ref ra, .ref sa, .ref ta])), (wa, .inl (cZ, 25, .inl wf)), (ra, .inl (cI, 25, .inl rf)), (sa, .inl (cI, 25, .inl sf)), (ta, .inl (cII, 25, .inr (.inr (.inr (.inr (fun i => if i < 25 then some (rr i) else none))))))] ++ mt_rw 25 rr re) sz) := by
  refine mt_of (y := y_fl_chartCell) (n := 3) (av := [.ref fa, .int x, .int (nI k)]) (QF := (fun A => va_Qv (fun (u : Int32 × (Nat → Int32) × (Nat → Int32) × (Nat → va_E)) => mt_r5 cI (u.2.2.2)) (fun (u : Int32 × (Nat → Int32) × (Nat → Int32) × (Nat → va_E)) (t : State) => mt_O D A ([(fa, .inr (1, [.int fw, .int fh, .ref wa, .int (u.1), .ref ra, .ref sa, .ref ta])), (wa, .inl (cZ, 25, .inl wf)), (ra, .inl (cI, 25, .inl (u.2.1))), (sa, .inl (cI, 25, .inl (u.2.2.1))), (ta, .inl (cII, 25, .inr (.inr (.inr (.inr (fun i => if i < 25 then some (rr i) else none))))))] ++ mt_rw 25 rr (u.2.2.2)) t) A)) (by decide) (Nat.le_of_ble_eq_true rfl) ?_
  intro p e s m below meth c ls A hx hb hr hlk hml hown hnm hg hl hX hP hK hD hA hS
  obtain ⟨H, hH⟩ : ∃ H : Heap, H = s.heap := ⟨_, rfl⟩
  have hS : va_S A s.heap H [] := by rw [hH]; exact va_S.rf
  rw [← hH] at hP ⊢
  have hown : s.vm.findClass R_fl = some m.cls := hown
  have hl : lv_has ls 3 [(0, .ref fa), (1, .int x), (2, .int (nI k))] := hl
  refine lv_aload_n hx hb d_fl_chartCell_0 rfl (lv_at hl 0 rfl) ?_
  refine gf_fl_15 hx hb hg hown hK hP 0 rfl rfl d_fl_chartCell_1 ?_
  refine lv_iload_n hx hb d_fl_chartCell_4 rfl (lv_at hl 2 rfl) ?_
  refine lv_aload_n hx hb d_fl_chartCell_5 rfl (lv_at hl 0 rfl) ?_
  refine gf_fl_48 hx hb hg hown hK hP 0 rfl rfl d_fl_chartCell_6 ?_
  refine va_iast hx hb hK hP hD hS 2 1 rfl rfl (vp_in_nI hk (by decide)) d_fl_chartCell_9 (fun H locs hP hD hS => ?_)
  rw [nI_clamp (show k < 2 ^ 31 by omega)] at hP hD
  have hP : va_P D kls ([(fa, .inr (1, [.int fw, .int fh, .ref wa, .int fc, .ref ra, .ref sa, .ref ta])), (wa, .inl (cZ, 25, .inl wf)), (ra, .inl (cI, 25, .inl (upd rf k fc))), (sa, .inl (cI, 25, .inl sf)), (ta, .inl (cII, 25, .inr (.inr (.inr (.inr (fun i => if i < 25 then some (rr i) else none))))))] ++ mt_rw 25 rr re) H := hP
  have hD : va_D A ([(fa, .inr (1, [.int fw, .int fh, .ref wa, .int fc, .ref ra, .ref sa, .ref ta])), (wa, .inl (cZ, 25, .inl wf)), (ra, .inl (cI, 25, .inl (upd rf k fc))), (sa, .inl (cI, 25, .inl sf)), (ta, .inl (cII, 25, .inr (.inr (.inr (.inr (fun i => if i < 25 then some (rr i) else none))))))] ++ mt_rw 25 rr re) := hD
  refine lv_aload_n hx hb d_fl_chartCell_10 rfl (lv_at hl 0 rfl) ?_
  refine gf_fl_19 hx hb hg hown hK hP 0 rfl rfl d_fl_chartCell_11 ?_
  refine lv_iload_n hx hb d_fl_chartCell_14 rfl (lv_at hl 2 rfl) ?_
  refine lv_iconst (v := 0) hx hb d_fl_chartCell_15 (by decide) ?_
  refine va_iast hx hb hK hP hD hS 3 1 rfl rfl (vp_in_nI hk (by decide)) d_fl_chartCell_16 (fun H locs hP hD hS => ?_)
  rw [nI_clamp (show k < 2 ^ 31 by omega)] at hP hD
  have hP : va_P D kls ([(fa, .inr (1, [.int fw, .int fh, .ref wa, .int fc, .ref ra, .ref sa, .ref ta])), (wa, .inl (cZ, 25, .inl wf)), (ra, .inl (cI, 25, .inl (upd rf k fc))), (sa, .inl (cI, 25, .inl (upd sf k 0))), (ta, .inl (cII, 25, .inr (.inr (.inr (.inr (fun i => if i < 25 then some (rr i) else none))))))] ++ mt_rw 25 rr re) H := hP
  have hD : va_D A ([(fa, .inr (1, [.int fw, .int fh, .ref wa, .int fc, .ref ra, .ref sa, .ref ta])), (wa, .inl (cZ, 25, .inl wf)), (ra, .inl (cI, 25, .inl (upd rf k fc))), (sa, .inl (cI, 25, .inl (upd sf k 0))), (ta, .inl (cII, 25, .inr (.inr (.inr (.inr (fun i => if i < 25 then some (rr i) else none))))))] ++ mt_rw 25 rr re) := hD
  refine lv_aload_n hx hb d_fl_chartCell_17 rfl (lv_at hl 0 rfl) ?_
  refine gf_fl_9 hx hb hg hown hK hP 0 rfl rfl d_fl_chartCell_18 ?_
  refine lv_iload_n hx hb d_fl_chartCell_21 rfl (lv_at hl 2 rfl) ?_
  refine va_zald hx hb hK hP 1 0 rfl rfl (vp_in_nI hk (by decide)) d_fl_chartCell_22 ?_
  refine lv_if_eq hx hb d_fl_chartCell_23 rfl (fun g1 => ?_) (fun g1 => ?_)
  ·
    refine lv_aload_n hx hb d_fl_chartCell_27 rfl (lv_at hl 0 rfl) ?_
    refine lv_dup hx hb d_fl_chartCell_28 rfl ?_
    refine gf_fl_48 hx hb hg hown hK hP 0 rfl rfl d_fl_chartCell_29 ?_
    refine lv_iconst (v := 1) hx hb d_fl_chartCell_32 (by decide) ?_
    refine lv_iadd hx hb d_fl_chartCell_33 ?_
    refine lv_topi (fun x1 ex1 => ?_)
    refine pf_fl_48 hx hb hg hown hK hP hD hS 0 rfl rfl rfl (Nat.le_of_ble_eq_true rfl) d_fl_chartCell_34 (fun H locs hP hD hS => ?_)
    have hP : va_P D kls ([(fa, .inr (1, [.int fw, .int fh, .ref wa, .int x1, .ref ra, .ref sa, .ref ta])), (wa, .inl (cZ, 25, .inl wf)), (ra, .inl (cI, 25, .inl (upd rf k fc))), (sa, .inl (cI, 25, .inl (upd sf k 0))), (ta, .inl (cII, 25, .inr (.inr (.inr (.inr (fun i => if i < 25 then some (rr i) else none))))))] ++ mt_rw 25 rr re) H := hP
    have hD : va_D A ([(fa, .inr (1, [.int fw, .int fh, .ref wa, .int x1, .ref ra, .ref sa, .ref ta])), (wa, .inl (cZ, 25, .inl wf)), (ra, .inl (cI, 25, .inl (upd rf k fc))), (sa, .inl (cI, 25, .inl (upd sf k 0))), (ta, .inl (cII, 25, .inr (.inr (.inr (.inr (fun i => if i < 25 then some (rr i) else none))))))] ++ mt_rw 25 rr re) := hD
    refine lv_aload_n hx hb d_fl_chartCell_37 rfl (lv_at hl 0 rfl) ?_
    refine lv_iload_n hx hb d_fl_chartCell_38 rfl (lv_at hl 2 rfl) ?_
    refine lv_iload_n hx hb d_fl_chartCell_39 rfl (lv_at hl 2 rfl) ?_
    refine lv_aload_n hx hb d_fl_chartCell_40 rfl (lv_at hl 0 rfl) ?_
    refine gf_fl_31 hx hb hg hown hK hP 0 rfl rfl d_fl_chartCell_41 ?_
    refine lv_isub hx hb d_fl_chartCell_44 ?_
    have hPc := hP
    have hDc := hD
    have hFc := mt_whole hD hS hA
    refine va_callv (va_runV (As := [.int (nI k), .int ((nI k) - fw)]) (rest := []) ⟨hx, hb, hml, hown, hg⟩ (c_fl_addStep l D cZ cI cJ cII fa fw fh wa x1 ra sa ta wf (upd rf k fc) (upd sf k 0) rr re k 0 ((nI k) - fw) H.size hb25 hk (by rw [pk_us, nI_0]) (by omega) hre) (cwV 2 hg gv_fl_54 rfl rfl rfl (by decide +kernel) ⟨Nat.le_of_ble_eq_true rfl, Nat.le_of_ble_eq_true rfl⟩) ⟨mt_bl, va_recv (q0 := 0) (ci := 1) hK hP rfl rfl, mt_pr hX hPc hK hDc⟩ rfl rfl hl.1 rfl (lv_room (Nat.le_of_ble_eq_true rfl)) d_fl_chartCell_45 ⟨Nat.le_of_ble_eq_true rfl, Nat.le_of_ble_eq_true rfl⟩) hS (fun q _ h => hFc q h) hFc (fun u t H1 locs ht hvm hw hB hz1 hk1 hS => ?_)
    obtain ⟨sf13, re14⟩ := u
    have hr2 : ((¬ ((nI k) - fw) < 0 ∧ ¬ fw * fh ≤ ((nI k) - fw) ∧ wf ((nI k) - fw).toNatClampNeg = 0) ∧ sf13 = upd (upd sf k 0) k (nI ((0 : Nat) + 1)) ∧ ∃ f : Nat → Int32, re k = .inl (cI, 5, .inl f) ∧ re14 = va_up re k (.inl (cI, 5, .inl (upd f (0 : Nat) ((nI k) - fw))))) ∨ ((((nI k) - fw) < 0 ∨ fw * fh ≤ ((nI k) - fw) ∨ ¬ wf ((nI k) - fw).toNatClampNeg = 0) ∧ sf13 = (upd sf k 0) ∧ re14 = re) := hw
    obtain ⟨hP1, hD1⟩ := hB
    rw [ht] at hP1
    have hP := hP1
    have hD := hD1.weaken (fun _ _ _ h => hFc _ h)
    generalize H1 = H at hP hS ⊢
    have hP : va_P D kls ([(fa, .inr (1, [.int fw, .int fh, .ref wa, .int x1, .ref ra, .ref sa, .ref ta])), (wa, .inl (cZ, 25, .inl wf)), (ra, .inl (cI, 25, .inl (upd rf k fc))), (sa, .inl (cI, 25, .inl sf13)), (ta, .inl (cII, 25, .inr (.inr (.inr (.inr (fun i => if i < 25 then some (rr i) else none))))))] ++ mt_rw 25 rr re14) H := hP
    have hD : va_D A ([(fa, .inr (1, [.int fw, .int fh, .ref wa, .int x1, .ref ra, .ref sa, .ref ta])), (wa, .inl (cZ, 25, .inl wf)), (ra, .inl (cI, 25, .inl (upd rf k fc))), (sa, .inl (cI, 25, .inl sf13)), (ta, .inl (cII, 25, .inr (.inr (.inr (.inr (fun i => if i < 25 then some (rr i) else none))))))] ++ mt_rw 25 rr re14) := hD
    obtain ⟨⟨jj, hjj, hss⟩, hrr⟩ := mt_st hr2 (by rw [pk_us, nI_0]) hre
    refine lv_iload_n hx hb d_fl_chartCell_48 rfl (lv_at hl 1 rfl) ?_
    refine lv_if_le hx hb d_fl_chartCell_49 rfl (fun g2 => ?_) (fun g2 => ?_)
    ·
      refine lv_aload_n hx hb d_fl_chartCell_60 rfl (lv_at hl 0 rfl) ?_
      refine lv_iload_n hx hb d_fl_chartCell_61 rfl (lv_at hl 2 rfl) ?_
      refine lv_iload_n hx hb d_fl_chartCell_62 rfl (lv_at hl 2 rfl) ?_
      have hPc := hP
      have hDc := hD
      have hFc := mt_whole hD hS hA
      refine va_callv (va_runV (As := [.int (nI k), .int (nI k)]) (rest := []) ⟨hx, hb, hml, hown, hg⟩ (c_fl_addStep l D cZ cI cJ cII fa fw fh wa x1 ra sa ta wf (upd rf k fc) sf13 rr re14 k jj (nI k) H.size hb25 hk hss (by omega) hrr) (cwV 2 hg gv_fl_54 rfl rfl rfl (by decide +kernel) ⟨Nat.le_of_ble_eq_true rfl, Nat.le_of_ble_eq_true rfl⟩) ⟨mt_bl, va_recv (q0 := 0) (ci := 1) hK hP rfl rfl, mt_pr hX hPc hK hDc⟩ rfl rfl hl.1 rfl (lv_room (Nat.le_of_ble_eq_true rfl)) d_fl_chartCell_63 ⟨Nat.le_of_ble_eq_true rfl, Nat.le_of_ble_eq_true rfl⟩) hS (fun q _ h => hFc q h) hFc (fun u t H1 locs ht hvm hw hB hz1 hk1 hS => ?_)
      obtain ⟨sf16, re17⟩ := u
      have hr5 : ((¬ (nI k) < 0 ∧ ¬ fw * fh ≤ (nI k) ∧ wf (nI k).toNatClampNeg = 0) ∧ sf16 = upd sf13 k (nI (jj + 1)) ∧ ∃ f : Nat → Int32, re14 k = .inl (cI, 5, .inl f) ∧ re17 = va_up re14 k (.inl (cI, 5, .inl (upd f jj (nI k))))) ∨ (((nI k) < 0 ∨ fw * fh ≤ (nI k) ∨ ¬ wf (nI k).toNatClampNeg = 0) ∧ sf16 = sf13 ∧ re17 = re14) := hw
      obtain ⟨hP1, hD1⟩ := hB
      rw [ht] at hP1
      have hP := hP1
      have hD := hD1.weaken (fun _ _ _ h => hFc _ h)
      generalize H1 = H at hP hS ⊢
      have hP : va_P D kls ([(fa, .inr (1, [.int fw, .int fh, .ref wa, .int x1, .ref ra, .ref sa, .ref ta])), (wa, .inl (cZ, 25, .inl wf)), (ra, .inl (cI, 25, .inl (upd rf k fc))), (sa, .inl (cI, 25, .inl sf16)), (ta, .inl (cII, 25, .inr (.inr (.inr (.inr (fun i => if i < 25 then some (rr i) else none))))))] ++ mt_rw 25 rr re17) H := hP
      have hD : va_D A ([(fa, .inr (1, [.int fw, .int fh, .ref wa, .int x1, .ref ra, .ref sa, .ref ta])), (wa, .inl (cZ, 25, .inl wf)), (ra, .inl (cI, 25, .inl (upd rf k fc))), (sa, .inl (cI, 25, .inl sf16)), (ta, .inl (cII, 25, .inr (.inr (.inr (.inr (fun i => if i < 25 then some (rr i) else none))))))] ++ mt_rw 25 rr re17) := hD
      obtain ⟨⟨jj, hjj, hss⟩, hrr⟩ := mt_st hr5 hss hrr
      refine lv_iload_n hx hb d_fl_chartCell_66 rfl (lv_at hl 1 rfl) ?_
      refine lv_aload_n hx hb d_fl_chartCell_67 rfl (lv_at hl 0 rfl) ?_
      refine gf_fl_31 hx hb hg hown hK hP 0 rfl rfl d_fl_chartCell_68 ?_
      refine lv_iconst (v := 1) hx hb d_fl_chartCell_71 (by decide) ?_
      refine lv_isub hx hb d_fl_chartCell_72 ?_
      refine lv_icmp_ge hx hb d_fl_chartCell_73 rfl (fun g3 => ?_) (fun g3 => ?_)
      ·
        refine lv_aload_n hx hb d_fl_chartCell_84 rfl (lv_at hl 0 rfl) ?_
        refine lv_iload_n hx hb d_fl_chartCell_85 rfl (lv_at hl 2 rfl) ?_
        refine lv_iload_n hx hb d_fl_chartCell_86 rfl (lv_at hl 2 rfl) ?_
        refine lv_aload_n hx hb d_fl_chartCell_87 rfl (lv_at hl 0 rfl) ?_
        refine gf_fl_31 hx hb hg hown hK hP 0 rfl rfl d_fl_chartCell_88 ?_
        refine lv_iadd hx hb d_fl_chartCell_91 ?_
        have hPc := hP
        have hDc := hD
        have hFc := mt_whole hD hS hA
        refine va_callv (va_runV (As := [.int (nI k), .int ((nI k) + fw)]) (rest := []) ⟨hx, hb, hml, hown, hg⟩ (c_fl_addStep l D cZ cI cJ cII fa fw fh wa x1 ra sa ta wf (upd rf k fc) sf16 rr re17 k jj ((nI k) + fw) H.size hb25 hk hss (by omega) hrr) (cwV 2 hg gv_fl_54 rfl rfl rfl (by decide +kernel) ⟨Nat.le_of_ble_eq_true rfl, Nat.le_of_ble_eq_true rfl⟩) ⟨mt_bl, va_recv (q0 := 0) (ci := 1) hK hP rfl rfl, mt_pr hX hPc hK hDc⟩ rfl rfl hl.1 rfl (lv_room (Nat.le_of_ble_eq_true rfl)) d_fl_chartCell_92 ⟨Nat.le_of_ble_eq_true rfl, Nat.le_of_ble_eq_true rfl⟩) hS (fun q _ h => hFc q h) hFc (fun u t H1 locs ht hvm hw hB hz1 hk1 hS => ?_)
        obtain ⟨sf19, re110⟩ := u
        have hr8 : ((¬ ((nI k) + fw) < 0 ∧ ¬ fw * fh ≤ ((nI k) + fw) ∧ wf ((nI k) + fw).toNatClampNeg = 0) ∧ sf19 = upd sf16 k (nI (jj + 1)) ∧ ∃ f : Nat → Int32, re17 k = .inl (cI, 5, .inl f) ∧ re110 = va_up re17 k (.inl (cI, 5, .inl (upd f jj ((nI k) + fw))))) ∨ ((((nI k) + fw) < 0 ∨ fw * fh ≤ ((nI k) + fw) ∨ ¬ wf ((nI k) + fw).toNatClampNeg = 0) ∧ sf19 = sf16 ∧ re110 = re17) := hw
        obtain ⟨hP1, hD1⟩ := hB
        rw [ht] at hP1
        have hP := hP1
        have hD := hD1.weaken (fun _ _ _ h => hFc _ h)
        generalize H1 = H at hP hS ⊢
        have hP : va_P D kls ([(fa, .inr (1, [.int fw, .int fh, .ref wa, .int x1, .ref ra, .ref sa, .ref ta])), (wa, .inl (cZ, 25, .inl wf)), (ra, .inl (cI, 25, .inl (upd rf k fc))), (sa, .inl (cI, 25, .inl sf19)), (ta, .inl (cII, 25, .inr (.inr (.inr (.inr (fun i => if i < 25 then some (rr i) else none))))))] ++ mt_rw 25 rr re110) H := hP
        have hD : va_D A ([(fa, .inr (1, [.int fw, .int fh, .ref wa, .int x1, .ref ra, .ref sa, .ref ta])), (wa, .inl (cZ, 25, .inl wf)), (ra, .inl (cI, 25, .inl (upd rf k fc))), (sa, .inl (cI, 25, .inl sf19)), (ta, .inl (cII, 25, .inr (.inr (.inr (.inr (fun i => if i < 25 then some (rr i) else none))))))] ++ mt_rw 25 rr re110) := hD
        obtain ⟨⟨jj, hjj, hss⟩, hrr⟩ := mt_st hr8 hss hrr
        have hP9 := hP
        have hD9 := hD
        exact W.vret hx hb hr (fun t ht hW => ⟨⟨(x1, upd rf k fc, sf19, re110), rfl, hrr, by rw [ht]; exact hP9, hD9⟩, hS.F ht⟩) hS.2.2 d_fl_chartCell_95
      ·
        refine lv_aload_n hx hb d_fl_chartCell_76 rfl (lv_at hl 0 rfl) ?_
        refine lv_iload_n hx hb d_fl_chartCell_77 rfl (lv_at hl 2 rfl) ?_
        refine lv_iload_n hx hb d_fl_chartCell_78 rfl (lv_at hl 2 rfl) ?_
        refine lv_iconst (v := 1) hx hb d_fl_chartCell_79 (by decide) ?_
        refine lv_iadd hx hb d_fl_chartCell_80 ?_
        have hPc := hP
        have hDc := hD
        have hFc := mt_whole hD hS hA
        refine va_callv (va_runV (As := [.int (nI k), .int ((nI k) + 1)]) (rest := []) ⟨hx, hb, hml, hown, hg⟩ (c_fl_addStep l D cZ cI cJ cII fa fw fh wa x1 ra sa ta wf (upd rf k fc) sf16 rr re17 k jj ((nI k) + 1) H.size hb25 hk hss (by omega) hrr) (cwV 2 hg gv_fl_54 rfl rfl rfl (by decide +kernel) ⟨Nat.le_of_ble_eq_true rfl, Nat.le_of_ble_eq_true rfl⟩) ⟨mt_bl, va_recv (q0 := 0) (ci := 1) hK hP rfl rfl, mt_pr hX hPc hK hDc⟩ rfl rfl hl.1 rfl (lv_room (Nat.le_of_ble_eq_true rfl)) d_fl_chartCell_81 ⟨Nat.le_of_ble_eq_true rfl, Nat.le_of_ble_eq_true rfl⟩) hS (fun q _ h => hFc q h) hFc (fun u t H1 locs ht hvm hw hB hz1 hk1 hS => ?_)
        obtain ⟨sf112, re113⟩ := u
        have hr11 : ((¬ ((nI k) + 1) < 0 ∧ ¬ fw * fh ≤ ((nI k) + 1) ∧ wf ((nI k) + 1).toNatClampNeg = 0) ∧ sf112 = upd sf16 k (nI (jj + 1)) ∧ ∃ f : Nat → Int32, re17 k = .inl (cI, 5, .inl f) ∧ re113 = va_up re17 k (.inl (cI, 5, .inl (upd f jj ((nI k) + 1))))) ∨ ((((nI k) + 1) < 0 ∨ fw * fh ≤ ((nI k) + 1) ∨ ¬ wf ((nI k) + 1).toNatClampNeg = 0) ∧ sf112 = sf16 ∧ re113 = re17) := hw
        obtain ⟨hP1, hD1⟩ := hB
        rw [ht] at hP1
        have hP := hP1
        have hD := hD1.weaken (fun _ _ _ h => hFc _ h)
        generalize H1 = H at hP hS ⊢
        have hP : va_P D kls ([(fa, .inr (1, [.int fw, .int fh, .ref wa, .int x1, .ref ra, .ref sa, .ref ta])), (wa, .inl (cZ, 25, .inl wf)), (ra, .inl (cI, 25, .inl (upd rf k fc))), (sa, .inl (cI, 25, .inl sf112)), (ta, .inl (cII, 25, .inr (.inr (.inr (.inr (fun i => if i < 25 then some (rr i) else none))))))] ++ mt_rw 25 rr re113) H := hP
        have hD : va_D A ([(fa, .inr (1, [.int fw, .int fh, .ref wa, .int x1, .ref ra, .ref sa, .ref ta])), (wa, .inl (cZ, 25, .inl wf)), (ra, .inl (cI, 25, .inl (upd rf k fc))), (sa, .inl (cI, 25, .inl sf112)), (ta, .inl (cII, 25, .inr (.inr (.inr (.inr (fun i => if i < 25 then some (rr i) else none))))))] ++ mt_rw 25 rr re113) := hD
        obtain ⟨⟨jj, hjj, hss⟩, hrr⟩ := mt_st hr11 hss hrr
        refine lv_aload_n hx hb d_fl_chartCell_84 rfl (lv_at hl 0 rfl) ?_
        refine lv_iload_n hx hb d_fl_chartCell_85 rfl (lv_at hl 2 rfl) ?_
        refine lv_iload_n hx hb d_fl_chartCell_86 rfl (lv_at hl 2 rfl) ?_
        refine lv_aload_n hx hb d_fl_chartCell_87 rfl (lv_at hl 0 rfl) ?_
        refine gf_fl_31 hx hb hg hown hK hP 0 rfl rfl d_fl_chartCell_88 ?_
        refine lv_iadd hx hb d_fl_chartCell_91 ?_
        have hPc := hP
        have hDc := hD
        have hFc := mt_whole hD hS hA
        refine va_callv (va_runV (As := [.int (nI k), .int ((nI k) + fw)]) (rest := []) ⟨hx, hb, hml, hown, hg⟩ (c_fl_addStep l D cZ cI cJ cII fa fw fh wa x1 ra sa ta wf (upd rf k fc) sf112 rr re113 k jj ((nI k) + fw) H.size hb25 hk hss (by omega) hrr) (cwV 2 hg gv_fl_54 rfl rfl rfl (by decide +kernel) ⟨Nat.le_of_ble_eq_true rfl, Nat.le_of_ble_eq_true rfl⟩) ⟨mt_bl, va_recv (q0 := 0) (ci := 1) hK hP rfl rfl, mt_pr hX hPc hK hDc⟩ rfl rfl hl.1 rfl (lv_room (Nat.le_of_ble_eq_true rfl)) d_fl_chartCell_92 ⟨Nat.le_of_ble_eq_true rfl, Nat.le_of_ble_eq_true rfl⟩) hS (fun q _ h => hFc q h) hFc (fun u t H1 locs ht hvm hw hB hz1 hk1 hS => ?_)
        obtain ⟨sf115, re116⟩ := u
        have hr14 : ((¬ ((nI k) + fw) < 0 ∧ ¬ fw * fh ≤ ((nI k) + fw) ∧ wf ((nI k) + fw).toNatClampNeg = 0) ∧ sf115 = upd sf112 k (nI (jj + 1)) ∧ ∃ f : Nat → Int32, re113 k = .inl (cI, 5, .inl f) ∧ re116 = va_up re113 k (.inl (cI, 5, .inl (upd f jj ((nI k) + fw))))) ∨ ((((nI k) + fw) < 0 ∨ fw * fh ≤ ((nI k) + fw) ∨ ¬ wf ((nI k) + fw).toNatClampNeg = 0) ∧ sf115 = sf112 ∧ re116 = re113) := hw
        obtain ⟨hP1, hD1⟩ := hB
        rw [ht] at hP1
        have hP := hP1
        have hD := hD1.weaken (fun _ _ _ h => hFc _ h)
        generalize H1 = H at hP hS ⊢
        have hP : va_P D kls ([(fa, .inr (1, [.int fw, .int fh, .ref wa, .int x1, .ref ra, .ref sa, .ref ta])), (wa, .inl (cZ, 25, .inl wf)), (ra, .inl (cI, 25, .inl (upd rf k fc))), (sa, .inl (cI, 25, .inl sf115)), (ta, .inl (cII, 25, .inr (.inr (.inr (.inr (fun i => if i < 25 then some (rr i) else none))))))] ++ mt_rw 25 rr re116) H := hP
        have hD : va_D A ([(fa, .inr (1, [.int fw, .int fh, .ref wa, .int x1, .ref ra, .ref sa, .ref ta])), (wa, .inl (cZ, 25, .inl wf)), (ra, .inl (cI, 25, .inl (upd rf k fc))), (sa, .inl (cI, 25, .inl sf115)), (ta, .inl (cII, 25, .inr (.inr (.inr (.inr (fun i => if i < 25 then some (rr i) else none))))))] ++ mt_rw 25 rr re116) := hD
        obtain ⟨⟨jj, hjj, hss⟩, hrr⟩ := mt_st hr14 hss hrr
        have hP9 := hP
        have hD9 := hD
        exact W.vret hx hb hr (fun t ht hW => ⟨⟨(x1, upd rf k fc, sf115, re116), rfl, hrr, by rw [ht]; exact hP9, hD9⟩, hS.F ht⟩) hS.2.2 d_fl_chartCell_95
    ·
      refine lv_aload_n hx hb d_fl_chartCell_52 rfl (lv_at hl 0 rfl) ?_
      refine lv_iload_n hx hb d_fl_chartCell_53 rfl (lv_at hl 2 rfl) ?_
      refine lv_iload_n hx hb d_fl_chartCell_54 rfl (lv_at hl 2 rfl) ?_
      refine lv_iconst (v := 1) hx hb d_fl_chartCell_55 (by decide) ?_
      refine lv_isub hx hb d_fl_chartCell_56 ?_
      have hPc := hP
      have hDc := hD
      have hFc := mt_whole hD hS hA
      refine va_callv (va_runV (As := [.int (nI k), .int ((nI k) - 1)]) (rest := []) ⟨hx, hb, hml, hown, hg⟩ (c_fl_addStep l D cZ cI cJ cII fa fw fh wa x1 ra sa ta wf (upd rf k fc) sf13 rr re14 k jj ((nI k) - 1) H.size hb25 hk hss (by omega) hrr) (cwV 2 hg gv_fl_54 rfl rfl rfl (by decide +kernel) ⟨Nat.le_of_ble_eq_true rfl, Nat.le_of_ble_eq_true rfl⟩) ⟨mt_bl, va_recv (q0 := 0) (ci := 1) hK hP rfl rfl, mt_pr hX hPc hK hDc⟩ rfl rfl hl.1 rfl (lv_room (Nat.le_of_ble_eq_true rfl)) d_fl_chartCell_57 ⟨Nat.le_of_ble_eq_true rfl, Nat.le_of_ble_eq_true rfl⟩) hS (fun q _ h => hFc q h) hFc (fun u t H1 locs ht hvm hw hB hz1 hk1 hS => ?_)
      obtain ⟨sf118, re119⟩ := u
      have hr17 : ((¬ ((nI k) - 1) < 0 ∧ ¬ fw * fh ≤ ((nI k) - 1) ∧ wf ((nI k) - 1).toNatClampNeg = 0) ∧ sf118 = upd sf13 k (nI (jj + 1)) ∧ ∃ f : Nat → Int32, re14 k = .inl (cI, 5, .inl f) ∧ re119 = va_up re14 k (.inl (cI, 5, .inl (upd f jj ((nI k) - 1))))) ∨ ((((nI k) - 1) < 0 ∨ fw * fh ≤ ((nI k) - 1) ∨ ¬ wf ((nI k) - 1).toNatClampNeg = 0) ∧ sf118 = sf13 ∧ re119 = re14) := hw
      obtain ⟨hP1, hD1⟩ := hB
      rw [ht] at hP1
      have hP := hP1
      have hD := hD1.weaken (fun _ _ _ h => hFc _ h)
      generalize H1 = H at hP hS ⊢
      have hP : va_P D kls ([(fa, .inr (1, [.int fw, .int fh, .ref wa, .int x1, .ref ra, .ref sa, .ref ta])), (wa, .inl (cZ, 25, .inl wf)), (ra, .inl (cI, 25, .inl (upd rf k fc))), (sa, .inl (cI, 25, .inl sf118)), (ta, .inl (cII, 25, .inr (.inr (.inr (.inr (fun i => if i < 25 then some (rr i) else none))))))] ++ mt_rw 25 rr re119) H := hP
      have hD : va_D A ([(fa, .inr (1, [.int fw, .int fh, .ref wa, .int x1, .ref ra, .ref sa, .ref ta])), (wa, .inl (cZ, 25, .inl wf)), (ra, .inl (cI, 25, .inl (upd rf k fc))), (sa, .inl (cI, 25, .inl sf118)), (ta, .inl (cII, 25, .inr (.inr (.inr (.inr (fun i => if i < 25 then some (rr i) else none))))))] ++ mt_rw 25 rr re119) := hD
      obtain ⟨⟨jj, hjj, hss⟩, hrr⟩ := mt_st hr17 hss hrr
      refine lv_aload_n hx hb d_fl_chartCell_60 rfl (lv_at hl 0 rfl) ?_
      refine lv_iload_n hx hb d_fl_chartCell_61 rfl (lv_at hl 2 rfl) ?_
      refine lv_iload_n hx hb d_fl_chartCell_62 rfl (lv_at hl 2 rfl) ?_
      have hPc := hP
      have hDc := hD
      have hFc := mt_whole hD hS hA
      refine va_callv (va_runV (As := [.int (nI k), .int (nI k)]) (rest := []) ⟨hx, hb, hml, hown, hg⟩ (c_fl_addStep l D cZ cI cJ cII fa fw fh wa x1 ra sa ta wf (upd rf k fc) sf118 rr re119 k jj (nI k) H.size hb25 hk hss (by omega) hrr) (cwV 2 hg gv_fl_54 rfl rfl rfl (by decide +kernel) ⟨Nat.le_of_ble_eq_true rfl, Nat.le_of_ble_eq_true rfl⟩) ⟨mt_bl, va_recv (q0 := 0) (ci := 1) hK hP rfl rfl, mt_pr hX hPc hK hDc⟩ rfl rfl hl.1 rfl (lv_room (Nat.le_of_ble_eq_true rfl)) d_fl_chartCell_63 ⟨Nat.le_of_ble_eq_true rfl, Nat.le_of_ble_eq_true rfl⟩) hS (fun q _ h => hFc q h) hFc (fun u t H1 locs ht hvm hw hB hz1 hk1 hS => ?_)
      obtain ⟨sf121, re122⟩ := u
      have hr20 : ((¬ (nI k) < 0 ∧ ¬ fw * fh ≤ (nI k) ∧ wf (nI k).toNatClampNeg = 0) ∧ sf121 = upd sf118 k (nI (jj + 1)) ∧ ∃ f : Nat → Int32, re119 k = .inl (cI, 5, .inl f) ∧ re122 = va_up re119 k (.inl (cI, 5, .inl (upd f jj (nI k))))) ∨ (((nI k) < 0 ∨ fw * fh ≤ (nI k) ∨ ¬ wf (nI k).toNatClampNeg = 0) ∧ sf121 = sf118 ∧ re122 = re119) := hw
      obtain ⟨hP1, hD1⟩ := hB
      rw [ht] at hP1
      have hP := hP1
      have hD := hD1.weaken (fun _ _ _ h => hFc _ h)
      generalize H1 = H at hP hS ⊢
      have hP : va_P D kls ([(fa, .inr (1, [.int fw, .int fh, .ref wa, .int x1, .ref ra, .ref sa, .ref ta])), (wa, .inl (cZ, 25, .inl wf)), (ra, .inl (cI, 25, .inl (upd rf k fc))), (sa, .inl (cI, 25, .inl sf121)), (ta, .inl (cII, 25, .inr (.inr (.inr (.inr (fun i => if i < 25 then some (rr i) else none))))))] ++ mt_rw 25 rr re122) H := hP
      have hD : va_D A ([(fa, .inr (1, [.int fw, .int fh, .ref wa, .int x1, .ref ra, .ref sa, .ref ta])), (wa, .inl (cZ, 25, .inl wf)), (ra, .inl (cI, 25, .inl (upd rf k fc))), (sa, .inl (cI, 25, .inl sf121)), (ta, .inl (cII, 25, .inr (.inr (.inr (.inr (fun i => if i < 25 then some (rr i) else none))))))] ++ mt_rw 25 rr re122) := hD
      obtain ⟨⟨jj, hjj, hss⟩, hrr⟩ := mt_st hr20 hss hrr
      refine lv_iload_n hx hb d_fl_chartCell_66 rfl (lv_at hl 1 rfl) ?_
      refine lv_aload_n hx hb d_fl_chartCell_67 rfl (lv_at hl 0 rfl) ?_
      refine gf_fl_31 hx hb hg hown hK hP 0 rfl rfl d_fl_chartCell_68 ?_
      refine lv_iconst (v := 1) hx hb d_fl_chartCell_71 (by decide) ?_
      refine lv_isub hx hb d_fl_chartCell_72 ?_
      refine lv_icmp_ge hx hb d_fl_chartCell_73 rfl (fun g3 => ?_) (fun g3 => ?_)
      ·
        refine lv_aload_n hx hb d_fl_chartCell_84 rfl (lv_at hl 0 rfl) ?_
        refine lv_iload_n hx hb d_fl_chartCell_85 rfl (lv_at hl 2 rfl) ?_
        refine lv_iload_n hx hb d_fl_chartCell_86 rfl (lv_at hl 2 rfl) ?_
        refine lv_aload_n hx hb d_fl_chartCell_87 rfl (lv_at hl 0 rfl) ?_
        refine gf_fl_31 hx hb hg hown hK hP 0 rfl rfl d_fl_chartCell_88 ?_
        refine lv_iadd hx hb d_fl_chartCell_91 ?_
        have hPc := hP
        have hDc := hD
        have hFc := mt_whole hD hS hA
        refine va_callv (va_runV (As := [.int (nI k), .int ((nI k) + fw)]) (rest := []) ⟨hx, hb, hml, hown, hg⟩ (c_fl_addStep l D cZ cI cJ cII fa fw fh wa x1 ra sa ta wf (upd rf k fc) sf121 rr re122 k jj ((nI k) + fw) H.size hb25 hk hss (by omega) hrr) (cwV 2 hg gv_fl_54 rfl rfl rfl (by decide +kernel) ⟨Nat.le_of_ble_eq_true rfl, Nat.le_of_ble_eq_true rfl⟩) ⟨mt_bl, va_recv (q0 := 0) (ci := 1) hK hP rfl rfl, mt_pr hX hPc hK hDc⟩ rfl rfl hl.1 rfl (lv_room (Nat.le_of_ble_eq_true rfl)) d_fl_chartCell_92 ⟨Nat.le_of_ble_eq_true rfl, Nat.le_of_ble_eq_true rfl⟩) hS (fun q _ h => hFc q h) hFc (fun u t H1 locs ht hvm hw hB hz1 hk1 hS => ?_)
        obtain ⟨sf124, re125⟩ := u
        have hr23 : ((¬ ((nI k) + fw) < 0 ∧ ¬ fw * fh ≤ ((nI k) + fw) ∧ wf ((nI k) + fw).toNatClampNeg = 0) ∧ sf124 = upd sf121 k (nI (jj + 1)) ∧ ∃ f : Nat → Int32, re122 k = .inl (cI, 5, .inl f) ∧ re125 = va_up re122 k (.inl (cI, 5, .inl (upd f jj ((nI k) + fw))))) ∨ ((((nI k) + fw) < 0 ∨ fw * fh ≤ ((nI k) + fw) ∨ ¬ wf ((nI k) + fw).toNatClampNeg = 0) ∧ sf124 = sf121 ∧ re125 = re122) := hw
        obtain ⟨hP1, hD1⟩ := hB
        rw [ht] at hP1
        have hP := hP1
        have hD := hD1.weaken (fun _ _ _ h => hFc _ h)
        generalize H1 = H at hP hS ⊢
        have hP : va_P D kls ([(fa, .inr (1, [.int fw, .int fh, .ref wa, .int x1, .ref ra, .ref sa, .ref ta])), (wa, .inl (cZ, 25, .inl wf)), (ra, .inl (cI, 25, .inl (upd rf k fc))), (sa, .inl (cI, 25, .inl sf124)), (ta, .inl (cII, 25, .inr (.inr (.inr (.inr (fun i => if i < 25 then some (rr i) else none))))))] ++ mt_rw 25 rr re125) H := hP
        have hD : va_D A ([(fa, .inr (1, [.int fw, .int fh, .ref wa, .int x1, .ref ra, .ref sa, .ref ta])), (wa, .inl (cZ, 25, .inl wf)), (ra, .inl (cI, 25, .inl (upd rf k fc))), (sa, .inl (cI, 25, .inl sf124)), (ta, .inl (cII, 25, .inr (.inr (.inr (.inr (fun i => if i < 25 then some (rr i) else none))))))] ++ mt_rw 25 rr re125) := hD
        obtain ⟨⟨jj, hjj, hss⟩, hrr⟩ := mt_st hr23 hss hrr
        have hP9 := hP
        have hD9 := hD
        exact W.vret hx hb hr (fun t ht hW => ⟨⟨(x1, upd rf k fc, sf124, re125), rfl, hrr, by rw [ht]; exact hP9, hD9⟩, hS.F ht⟩) hS.2.2 d_fl_chartCell_95
      ·
        refine lv_aload_n hx hb d_fl_chartCell_76 rfl (lv_at hl 0 rfl) ?_
        refine lv_iload_n hx hb d_fl_chartCell_77 rfl (lv_at hl 2 rfl) ?_
        refine lv_iload_n hx hb d_fl_chartCell_78 rfl (lv_at hl 2 rfl) ?_
        refine lv_iconst (v := 1) hx hb d_fl_chartCell_79 (by decide) ?_
        refine lv_iadd hx hb d_fl_chartCell_80 ?_
        have hPc := hP
        have hDc := hD
        have hFc := mt_whole hD hS hA
        refine va_callv (va_runV (As := [.int (nI k), .int ((nI k) + 1)]) (rest := []) ⟨hx, hb, hml, hown, hg⟩ (c_fl_addStep l D cZ cI cJ cII fa fw fh wa x1 ra sa ta wf (upd rf k fc) sf121 rr re122 k jj ((nI k) + 1) H.size hb25 hk hss (by omega) hrr) (cwV 2 hg gv_fl_54 rfl rfl rfl (by decide +kernel) ⟨Nat.le_of_ble_eq_true rfl, Nat.le_of_ble_eq_true rfl⟩) ⟨mt_bl, va_recv (q0 := 0) (ci := 1) hK hP rfl rfl, mt_pr hX hPc hK hDc⟩ rfl rfl hl.1 rfl (lv_room (Nat.le_of_ble_eq_true rfl)) d_fl_chartCell_81 ⟨Nat.le_of_ble_eq_true rfl, Nat.le_of_ble_eq_true rfl⟩) hS (fun q _ h => hFc q h) hFc (fun u t H1 locs ht hvm hw hB hz1 hk1 hS => ?_)
        obtain ⟨sf127, re128⟩ := u
        have hr26 : ((¬ ((nI k) + 1) < 0 ∧ ¬ fw * fh ≤ ((nI k) + 1) ∧ wf ((nI k) + 1).toNatClampNeg = 0) ∧ sf127 = upd sf121 k (nI (jj + 1)) ∧ ∃ f : Nat → Int32, re122 k = .inl (cI, 5, .inl f) ∧ re128 = va_up re122 k (.inl (cI, 5, .inl (upd f jj ((nI k) + 1))))) ∨ ((((nI k) + 1) < 0 ∨ fw * fh ≤ ((nI k) + 1) ∨ ¬ wf ((nI k) + 1).toNatClampNeg = 0) ∧ sf127 = sf121 ∧ re128 = re122) := hw
        obtain ⟨hP1, hD1⟩ := hB
        rw [ht] at hP1
        have hP := hP1
        have hD := hD1.weaken (fun _ _ _ h => hFc _ h)
        generalize H1 = H at hP hS ⊢
        have hP : va_P D kls ([(fa, .inr (1, [.int fw, .int fh, .ref wa, .int x1, .ref ra, .ref sa, .ref ta])), (wa, .inl (cZ, 25, .inl wf)), (ra, .inl (cI, 25, .inl (upd rf k fc))), (sa, .inl (cI, 25, .inl sf127)), (ta, .inl (cII, 25, .inr (.inr (.inr (.inr (fun i => if i < 25 then some (rr i) else none))))))] ++ mt_rw 25 rr re128) H := hP
        have hD : va_D A ([(fa, .inr (1, [.int fw, .int fh, .ref wa, .int x1, .ref ra, .ref sa, .ref ta])), (wa, .inl (cZ, 25, .inl wf)), (ra, .inl (cI, 25, .inl (upd rf k fc))), (sa, .inl (cI, 25, .inl sf127)), (ta, .inl (cII, 25, .inr (.inr (.inr (.inr (fun i => if i < 25 then some (rr i) else none))))))] ++ mt_rw 25 rr re128) := hD
        obtain ⟨⟨jj, hjj, hss⟩, hrr⟩ := mt_st hr26 hss hrr
        refine lv_aload_n hx hb d_fl_chartCell_84 rfl (lv_at hl 0 rfl) ?_
        refine lv_iload_n hx hb d_fl_chartCell_85 rfl (lv_at hl 2 rfl) ?_
        refine lv_iload_n hx hb d_fl_chartCell_86 rfl (lv_at hl 2 rfl) ?_
        refine lv_aload_n hx hb d_fl_chartCell_87 rfl (lv_at hl 0 rfl) ?_
        refine gf_fl_31 hx hb hg hown hK hP 0 rfl rfl d_fl_chartCell_88 ?_
        refine lv_iadd hx hb d_fl_chartCell_91 ?_
        have hPc := hP
        have hDc := hD
        have hFc := mt_whole hD hS hA
        refine va_callv (va_runV (As := [.int (nI k), .int ((nI k) + fw)]) (rest := []) ⟨hx, hb, hml, hown, hg⟩ (c_fl_addStep l D cZ cI cJ cII fa fw fh wa x1 ra sa ta wf (upd rf k fc) sf127 rr re128 k jj ((nI k) + fw) H.size hb25 hk hss (by omega) hrr) (cwV 2 hg gv_fl_54 rfl rfl rfl (by decide +kernel) ⟨Nat.le_of_ble_eq_true rfl, Nat.le_of_ble_eq_true rfl⟩) ⟨mt_bl, va_recv (q0 := 0) (ci := 1) hK hP rfl rfl, mt_pr hX hPc hK hDc⟩ rfl rfl hl.1 rfl (lv_room (Nat.le_of_ble_eq_true rfl)) d_fl_chartCell_92 ⟨Nat.le_of_ble_eq_true rfl, Nat.le_of_ble_eq_true rfl⟩) hS (fun q _ h => hFc q h) hFc (fun u t H1 locs ht hvm hw hB hz1 hk1 hS => ?_)
        obtain ⟨sf130, re131⟩ := u
        have hr29 : ((¬ ((nI k) + fw) < 0 ∧ ¬ fw * fh ≤ ((nI k) + fw) ∧ wf ((nI k) + fw).toNatClampNeg = 0) ∧ sf130 = upd sf127 k (nI (jj + 1)) ∧ ∃ f : Nat → Int32, re128 k = .inl (cI, 5, .inl f) ∧ re131 = va_up re128 k (.inl (cI, 5, .inl (upd f jj ((nI k) + fw))))) ∨ ((((nI k) + fw) < 0 ∨ fw * fh ≤ ((nI k) + fw) ∨ ¬ wf ((nI k) + fw).toNatClampNeg = 0) ∧ sf130 = sf127 ∧ re131 = re128) := hw
        obtain ⟨hP1, hD1⟩ := hB
        rw [ht] at hP1
        have hP := hP1
        have hD := hD1.weaken (fun _ _ _ h => hFc _ h)
        generalize H1 = H at hP hS ⊢
        have hP : va_P D kls ([(fa, .inr (1, [.int fw, .int fh, .ref wa, .int x1, .ref ra, .ref sa, .ref ta])), (wa, .inl (cZ, 25, .inl wf)), (ra, .inl (cI, 25, .inl (upd rf k fc))), (sa, .inl (cI, 25, .inl sf130)), (ta, .inl (cII, 25, .inr (.inr (.inr (.inr (fun i => if i < 25 then some (rr i) else none))))))] ++ mt_rw 25 rr re131) H := hP
        have hD : va_D A ([(fa, .inr (1, [.int fw, .int fh, .ref wa, .int x1, .ref ra, .ref sa, .ref ta])), (wa, .inl (cZ, 25, .inl wf)), (ra, .inl (cI, 25, .inl (upd rf k fc))), (sa, .inl (cI, 25, .inl sf130)), (ta, .inl (cII, 25, .inr (.inr (.inr (.inr (fun i => if i < 25 then some (rr i) else none))))))] ++ mt_rw 25 rr re131) := hD
        obtain ⟨⟨jj, hjj, hss⟩, hrr⟩ := mt_st hr29 hss hrr
        have hP9 := hP
        have hD9 := hD
        exact W.vret hx hb hr (fun t ht hW => ⟨⟨(x1, upd rf k fc, sf130, re131), rfl, hrr, by rw [ht]; exact hP9, hD9⟩, hS.F ht⟩) hS.2.2 d_fl_chartCell_95
  ·
    have hP9 := hP
    have hD9 := hD
    exact W.vret hx hb hr (fun t ht hW => ⟨⟨(fc, upd rf k fc, upd sf k 0, re), rfl, hre, by rw [ht]; exact hP9, hD9⟩, hS.F ht⟩) hS.2.2 d_fl_chartCell_26
end
section
set_option maxHeartbeats 4000000 in
set_option maxRecDepth 100000 in
theorem c_fl_chartCell1 (l : Launch) (D : va_G) (cZ cI cJ cII : ClassId) (fa : Nat) (wa : Nat) (ra : Nat) (sa : Nat) (ta : Nat) (wf : Nat → Int32) (rf : Nat → Int32) (sf : Nat → Int32) (rr : Nat → Nat) (re : Nat → va_E) (sz : Nat) (hw0 : wf 0 = 0) (hre : mt_r5 cI re) : Met l y_fl_chartCell w_fl_chartCell ({ frames := 3, cells := 0, slots := 0, locals := 120 }) (va_Pc [.ref fa, .int 0, .int 0] (mt_B D [(cZ, .boolean), (cI, .int), (cJ, .long), (cII, .array .int)] ([(fa, .inr (1, [.int 1, .int 1, .ref wa, .int 0, .ref ra, .ref sa, .ref ta])), (wa, .inl (cZ, 25, .inl wf)), (ra, .inl (cI, 25, .inl rf)), (sa, .inl (cI, 25, .inl sf)), (ta, .inl (cII, 25, .inr (.inr (.inr (.inr (fun i => if i < 25 then some (rr i) else none))))))] ++ mt_rw 25 rr re) sz)) ((fun A => va_Qv (fun (u : Int32 × (Nat → Int32) × (Nat → Int32) × (Nat → va_E)) => (u.2.2.1) 0 = 1 ∧ (∃ f : Nat → Int32, (u.2.2.2) 0 = .inl (cI, 5, .inl f) ∧ f 0 = 0) ∧ (u.1) = 1 ∧ mt_r5 cI (u.2.2.2)) (fun (u : Int32 × (Nat → Int32) × (Nat → Int32) × (Nat → va_E)) (t : State) => mt_O D A ([(fa, .inr (1, [.int 1, .int 1, .ref wa, .int (u.1), .ref ra, .ref sa, .ref ta])), (wa, .inl (cZ, 25, .inl wf)), (ra, .inl (cI, 25, .inl (u.2.1))), (sa, .inl (cI, 25, .inl (u.2.2.1))), (ta, .inl (cII, 25, .inr (.inr (.inr (.inr (fun i => if i < 25 then some (rr i) else none))))))] ++ mt_rw 25 rr (u.2.2.2)) t) A) (va_A ([(fa, .inr (1, [.int 1, .int 1, .ref wa, .int 0, .ref ra, .ref sa, .ref ta])), (wa, .inl (cZ, 25, .inl wf)), (ra, .inl (cI, 25, .inl rf)), (sa, .inl (cI, 25, .inl sf)), (ta, .inl (cII, 25, .inr (.inr (.inr (.inr (fun i => if i < 25 then some (rr i) else none))))))] ++ mt_rw 25 rr re) sz)) 0 0 (va_A ([(fa, .inr (1, [.int 1, .int 1, .ref wa, .int 0, .ref ra, .ref sa, .ref ta])), (wa, .inl (cZ, 25, .inl wf)), (ra, .inl (cI, 25, .inl rf)), (sa, .inl (cI, 25, .inl sf)), (ta, .inl (cII, 25, .inr (.inr (.inr (.inr (fun i => if i < 25 then some (rr i) else none))))))] ++ mt_rw 25 rr re) sz) := by
  refine mt_of (y := y_fl_chartCell) (n := 3) (av := [.ref fa, .int 0, .int 0]) (QF := (fun A => va_Qv (fun (u : Int32 × (Nat → Int32) × (Nat → Int32) × (Nat → va_E)) => (u.2.2.1) 0 = 1 ∧ (∃ f : Nat → Int32, (u.2.2.2) 0 = .inl (cI, 5, .inl f) ∧ f 0 = 0) ∧ (u.1) = 1 ∧ mt_r5 cI (u.2.2.2)) (fun (u : Int32 × (Nat → Int32) × (Nat → Int32) × (Nat → va_E)) (t : State) => mt_O D A ([(fa, .inr (1, [.int 1, .int 1, .ref wa, .int (u.1), .ref ra, .ref sa, .ref ta])), (wa, .inl (cZ, 25, .inl wf)), (ra, .inl (cI, 25, .inl (u.2.1))), (sa, .inl (cI, 25, .inl (u.2.2.1))), (ta, .inl (cII, 25, .inr (.inr (.inr (.inr (fun i => if i < 25 then some (rr i) else none))))))] ++ mt_rw 25 rr (u.2.2.2)) t) A)) (by decide) (Nat.le_of_ble_eq_true rfl) ?_
  intro p e s m below meth c ls A hx hb hr hlk hml hown hnm hg hl hX hP hK hD hA hS
  obtain ⟨H, hH⟩ : ∃ H : Heap, H = s.heap := ⟨_, rfl⟩
  have hS : va_S A s.heap H [] := by rw [hH]; exact va_S.rf
  rw [← hH] at hP ⊢
  have hown : s.vm.findClass R_fl = some m.cls := hown
  have hl : lv_has ls 3 [(0, .ref fa), (1, .int 0), (2, .int 0)] := hl
  refine lv_aload_n hx hb d_fl_chartCell_0 rfl (lv_at hl 0 rfl) ?_
  refine gf_fl_15 hx hb hg hown hK hP 0 rfl rfl d_fl_chartCell_1 ?_
  refine lv_iload_n hx hb d_fl_chartCell_4 rfl (lv_at hl 2 rfl) ?_
  refine lv_aload_n hx hb d_fl_chartCell_5 rfl (lv_at hl 0 rfl) ?_
  refine gf_fl_48 hx hb hg hown hK hP 0 rfl rfl d_fl_chartCell_6 ?_
  refine va_iast hx hb hK hP hD hS 2 1 rfl rfl (by unfold vp_in; decide) d_fl_chartCell_9 (fun H locs hP hD hS => ?_)
  have hP : va_P D kls ([(fa, .inr (1, [.int 1, .int 1, .ref wa, .int 0, .ref ra, .ref sa, .ref ta])), (wa, .inl (cZ, 25, .inl wf)), (ra, .inl (cI, 25, .inl (upd rf 0 0))), (sa, .inl (cI, 25, .inl sf)), (ta, .inl (cII, 25, .inr (.inr (.inr (.inr (fun i => if i < 25 then some (rr i) else none))))))] ++ mt_rw 25 rr re) H := hP
  have hD : va_D A ([(fa, .inr (1, [.int 1, .int 1, .ref wa, .int 0, .ref ra, .ref sa, .ref ta])), (wa, .inl (cZ, 25, .inl wf)), (ra, .inl (cI, 25, .inl (upd rf 0 0))), (sa, .inl (cI, 25, .inl sf)), (ta, .inl (cII, 25, .inr (.inr (.inr (.inr (fun i => if i < 25 then some (rr i) else none))))))] ++ mt_rw 25 rr re) := hD
  refine lv_aload_n hx hb d_fl_chartCell_10 rfl (lv_at hl 0 rfl) ?_
  refine gf_fl_19 hx hb hg hown hK hP 0 rfl rfl d_fl_chartCell_11 ?_
  refine lv_iload_n hx hb d_fl_chartCell_14 rfl (lv_at hl 2 rfl) ?_
  refine lv_iconst (v := 0) hx hb d_fl_chartCell_15 (by decide) ?_
  refine va_iast hx hb hK hP hD hS 3 1 rfl rfl (by unfold vp_in; decide) d_fl_chartCell_16 (fun H locs hP hD hS => ?_)
  have hP : va_P D kls ([(fa, .inr (1, [.int 1, .int 1, .ref wa, .int 0, .ref ra, .ref sa, .ref ta])), (wa, .inl (cZ, 25, .inl wf)), (ra, .inl (cI, 25, .inl (upd rf 0 0))), (sa, .inl (cI, 25, .inl (upd sf 0 0))), (ta, .inl (cII, 25, .inr (.inr (.inr (.inr (fun i => if i < 25 then some (rr i) else none))))))] ++ mt_rw 25 rr re) H := hP
  have hD : va_D A ([(fa, .inr (1, [.int 1, .int 1, .ref wa, .int 0, .ref ra, .ref sa, .ref ta])), (wa, .inl (cZ, 25, .inl wf)), (ra, .inl (cI, 25, .inl (upd rf 0 0))), (sa, .inl (cI, 25, .inl (upd sf 0 0))), (ta, .inl (cII, 25, .inr (.inr (.inr (.inr (fun i => if i < 25 then some (rr i) else none))))))] ++ mt_rw 25 rr re) := hD
  refine lv_aload_n hx hb d_fl_chartCell_17 rfl (lv_at hl 0 rfl) ?_
  refine gf_fl_9 hx hb hg hown hK hP 0 rfl rfl d_fl_chartCell_18 ?_
  refine lv_iload_n hx hb d_fl_chartCell_21 rfl (lv_at hl 2 rfl) ?_
  refine va_zald hx hb hK hP 1 0 rfl rfl (by unfold vp_in; decide) d_fl_chartCell_22 ?_
  refine lv_topi (fun y1 ey1 => ?_)
  have ey1 : y1 = 0 := ey1.trans hw0
  subst ey1
  refine lv_if_eq hx hb d_fl_chartCell_23 rfl (fun _ => ?_) (fun h => absurd (by decide) h)
  refine lv_aload_n hx hb d_fl_chartCell_27 rfl (lv_at hl 0 rfl) ?_
  refine lv_dup hx hb d_fl_chartCell_28 rfl ?_
  refine gf_fl_48 hx hb hg hown hK hP 0 rfl rfl d_fl_chartCell_29 ?_
  refine lv_iconst (v := 1) hx hb d_fl_chartCell_32 (by decide) ?_
  refine lv_iadd hx hb d_fl_chartCell_33 ?_
  refine lv_topi (fun x2 ex2 => ?_)
  refine pf_fl_48 hx hb hg hown hK hP hD hS 0 rfl rfl rfl (Nat.le_of_ble_eq_true rfl) d_fl_chartCell_34 (fun H locs hP hD hS => ?_)
  have hP : va_P D kls ([(fa, .inr (1, [.int 1, .int 1, .ref wa, .int x2, .ref ra, .ref sa, .ref ta])), (wa, .inl (cZ, 25, .inl wf)), (ra, .inl (cI, 25, .inl (upd rf 0 0))), (sa, .inl (cI, 25, .inl (upd sf 0 0))), (ta, .inl (cII, 25, .inr (.inr (.inr (.inr (fun i => if i < 25 then some (rr i) else none))))))] ++ mt_rw 25 rr re) H := hP
  have hD : va_D A ([(fa, .inr (1, [.int 1, .int 1, .ref wa, .int x2, .ref ra, .ref sa, .ref ta])), (wa, .inl (cZ, 25, .inl wf)), (ra, .inl (cI, 25, .inl (upd rf 0 0))), (sa, .inl (cI, 25, .inl (upd sf 0 0))), (ta, .inl (cII, 25, .inr (.inr (.inr (.inr (fun i => if i < 25 then some (rr i) else none))))))] ++ mt_rw 25 rr re) := hD
  refine lv_aload_n hx hb d_fl_chartCell_37 rfl (lv_at hl 0 rfl) ?_
  refine lv_iload_n hx hb d_fl_chartCell_38 rfl (lv_at hl 2 rfl) ?_
  refine lv_iload_n hx hb d_fl_chartCell_39 rfl (lv_at hl 2 rfl) ?_
  refine lv_aload_n hx hb d_fl_chartCell_40 rfl (lv_at hl 0 rfl) ?_
  refine gf_fl_31 hx hb hg hown hK hP 0 rfl rfl d_fl_chartCell_41 ?_
  refine lv_isub hx hb d_fl_chartCell_44 ?_
  have hPc := hP
  have hDc := hD
  have hFc := mt_whole hD hS hA
  refine va_callv (va_runV (As := [.int 0, .int (0 - 1)]) (rest := []) ⟨hx, hb, hml, hown, hg⟩ (c_fl_addStep l D cZ cI cJ cII fa 1 1 wa x2 ra sa ta wf (upd rf 0 0) (upd sf 0 0) rr re 0 0 (0 - 1) H.size (mt_b25 (w := 1) (h := 1) (by decide)) (by decide) (by rw [pk_us]; rfl) (by decide) hre) (cwV 2 hg gv_fl_54 rfl rfl rfl (by decide +kernel) ⟨Nat.le_of_ble_eq_true rfl, Nat.le_of_ble_eq_true rfl⟩) ⟨mt_bl, va_recv (q0 := 0) (ci := 1) hK hP rfl rfl, mt_pr hX hPc hK hDc⟩ rfl rfl hl.1 rfl (lv_room (Nat.le_of_ble_eq_true rfl)) d_fl_chartCell_45 ⟨Nat.le_of_ble_eq_true rfl, Nat.le_of_ble_eq_true rfl⟩) hS (fun q _ h => hFc q h) hFc (fun u t H1 locs ht hvm hw hB hz1 hk1 hS => ?_)
  obtain ⟨sf14, re15⟩ := u
  have hr3 : ((¬ (0 - 1 : Int32) < 0 ∧ ¬ (1 : Int32) * (1 : Int32) ≤ (0 - 1 : Int32) ∧ wf (0 - 1 : Int32).toNatClampNeg = 0) ∧ sf14 = upd (upd sf 0 0) (0 : Nat) (nI ((0 : Nat) + 1)) ∧ ∃ f : Nat → Int32, re (0 : Nat) = .inl (cI, 5, .inl f) ∧ re15 = va_up re (0 : Nat) (.inl (cI, 5, .inl (upd f (0 : Nat) (0 - 1 : Int32))))) ∨ (((0 - 1 : Int32) < 0 ∨ (1 : Int32) * (1 : Int32) ≤ (0 - 1 : Int32) ∨ ¬ wf (0 - 1 : Int32).toNatClampNeg = 0) ∧ sf14 = (upd sf 0 0) ∧ re15 = re) := hw
  obtain ⟨hP1, hD1⟩ := hB
  rw [ht] at hP1
  have hP := hP1
  have hD := hD1.weaken (fun _ _ _ h => hFc _ h)
  generalize H1 = H at hP hS ⊢
  have hP : va_P D kls ([(fa, .inr (1, [.int 1, .int 1, .ref wa, .int x2, .ref ra, .ref sa, .ref ta])), (wa, .inl (cZ, 25, .inl wf)), (ra, .inl (cI, 25, .inl (upd rf 0 0))), (sa, .inl (cI, 25, .inl sf14)), (ta, .inl (cII, 25, .inr (.inr (.inr (.inr (fun i => if i < 25 then some (rr i) else none))))))] ++ mt_rw 25 rr re15) H := hP
  have hD : va_D A ([(fa, .inr (1, [.int 1, .int 1, .ref wa, .int x2, .ref ra, .ref sa, .ref ta])), (wa, .inl (cZ, 25, .inl wf)), (ra, .inl (cI, 25, .inl (upd rf 0 0))), (sa, .inl (cI, 25, .inl sf14)), (ta, .inl (cII, 25, .inr (.inr (.inr (.inr (fun i => if i < 25 then some (rr i) else none))))))] ++ mt_rw 25 rr re15) := hD
  have a1 : sf14 = upd sf 0 0 ∧ re15 = re := by
    rcases hr3 with ⟨⟨q, -⟩, -⟩ | ⟨-, q⟩
    · exact absurd (by decide) q
    · exact q
  refine lv_iload_n hx hb d_fl_chartCell_48 rfl (lv_at hl 1 rfl) ?_
  refine lv_if_le hx hb d_fl_chartCell_49 rfl (fun _ => ?_) (fun h => absurd (by decide) h)
  refine lv_aload_n hx hb d_fl_chartCell_60 rfl (lv_at hl 0 rfl) ?_
  refine lv_iload_n hx hb d_fl_chartCell_61 rfl (lv_at hl 2 rfl) ?_
  refine lv_iload_n hx hb d_fl_chartCell_62 rfl (lv_at hl 2 rfl) ?_
  have hPc := hP
  have hDc := hD
  have hFc := mt_whole hD hS hA
  refine va_callv (va_runV (As := [.int 0, .int 0]) (rest := []) ⟨hx, hb, hml, hown, hg⟩ (c_fl_addStep l D cZ cI cJ cII fa 1 1 wa x2 ra sa ta wf (upd rf 0 0) sf14 rr re15 0 0 0 H.size (mt_b25 (w := 1) (h := 1) (by decide)) (by decide) (by rw [a1.1, pk_us]; rfl) (by decide) (by rw [a1.2]; exact hre)) (cwV 2 hg gv_fl_54 rfl rfl rfl (by decide +kernel) ⟨Nat.le_of_ble_eq_true rfl, Nat.le_of_ble_eq_true rfl⟩) ⟨mt_bl, va_recv (q0 := 0) (ci := 1) hK hP rfl rfl, mt_pr hX hPc hK hDc⟩ rfl rfl hl.1 rfl (lv_room (Nat.le_of_ble_eq_true rfl)) d_fl_chartCell_63 ⟨Nat.le_of_ble_eq_true rfl, Nat.le_of_ble_eq_true rfl⟩) hS (fun q _ h => hFc q h) hFc (fun u t H1 locs ht hvm hw hB hz1 hk1 hS => ?_)
  obtain ⟨sf17, re18⟩ := u
  have hr6 : ((¬ (0 : Int32) < 0 ∧ ¬ (1 : Int32) * (1 : Int32) ≤ (0 : Int32) ∧ wf (0 : Int32).toNatClampNeg = 0) ∧ sf17 = upd sf14 (0 : Nat) (nI ((0 : Nat) + 1)) ∧ ∃ f : Nat → Int32, re15 (0 : Nat) = .inl (cI, 5, .inl f) ∧ re18 = va_up re15 (0 : Nat) (.inl (cI, 5, .inl (upd f (0 : Nat) (0 : Int32))))) ∨ (((0 : Int32) < 0 ∨ (1 : Int32) * (1 : Int32) ≤ (0 : Int32) ∨ ¬ wf (0 : Int32).toNatClampNeg = 0) ∧ sf17 = sf14 ∧ re18 = re15) := hw
  obtain ⟨hP1, hD1⟩ := hB
  rw [ht] at hP1
  have hP := hP1
  have hD := hD1.weaken (fun _ _ _ h => hFc _ h)
  generalize H1 = H at hP hS ⊢
  have hP : va_P D kls ([(fa, .inr (1, [.int 1, .int 1, .ref wa, .int x2, .ref ra, .ref sa, .ref ta])), (wa, .inl (cZ, 25, .inl wf)), (ra, .inl (cI, 25, .inl (upd rf 0 0))), (sa, .inl (cI, 25, .inl sf17)), (ta, .inl (cII, 25, .inr (.inr (.inr (.inr (fun i => if i < 25 then some (rr i) else none))))))] ++ mt_rw 25 rr re18) H := hP
  have hD : va_D A ([(fa, .inr (1, [.int 1, .int 1, .ref wa, .int x2, .ref ra, .ref sa, .ref ta])), (wa, .inl (cZ, 25, .inl wf)), (ra, .inl (cI, 25, .inl (upd rf 0 0))), (sa, .inl (cI, 25, .inl sf17)), (ta, .inl (cII, 25, .inr (.inr (.inr (.inr (fun i => if i < 25 then some (rr i) else none))))))] ++ mt_rw 25 rr re18) := hD
  have a2 := hr6.elim (fun q => q.2) (fun q => q.1.elim (fun q => absurd q (by decide)) (fun q => q.elim (fun q => absurd q (by decide)) (fun q => absurd hw0 q)))
  refine lv_iload_n hx hb d_fl_chartCell_66 rfl (lv_at hl 1 rfl) ?_
  refine lv_aload_n hx hb d_fl_chartCell_67 rfl (lv_at hl 0 rfl) ?_
  refine gf_fl_31 hx hb hg hown hK hP 0 rfl rfl d_fl_chartCell_68 ?_
  refine lv_iconst (v := 1) hx hb d_fl_chartCell_71 (by decide) ?_
  refine lv_isub hx hb d_fl_chartCell_72 ?_
  refine lv_icmp_ge hx hb d_fl_chartCell_73 rfl (fun _ => ?_) (fun h => absurd (by decide) h)
  refine lv_aload_n hx hb d_fl_chartCell_84 rfl (lv_at hl 0 rfl) ?_
  refine lv_iload_n hx hb d_fl_chartCell_85 rfl (lv_at hl 2 rfl) ?_
  refine lv_iload_n hx hb d_fl_chartCell_86 rfl (lv_at hl 2 rfl) ?_
  refine lv_aload_n hx hb d_fl_chartCell_87 rfl (lv_at hl 0 rfl) ?_
  refine gf_fl_31 hx hb hg hown hK hP 0 rfl rfl d_fl_chartCell_88 ?_
  refine lv_iadd hx hb d_fl_chartCell_91 ?_
  have hPc := hP
  have hDc := hD
  have hFc := mt_whole hD hS hA
  refine va_callv (va_runV (As := [.int 0, .int (0 + 1)]) (rest := []) ⟨hx, hb, hml, hown, hg⟩ (c_fl_addStep l D cZ cI cJ cII fa 1 1 wa x2 ra sa ta wf (upd rf 0 0) sf17 rr re18 0 1 (0 + 1) H.size (mt_b25 (w := 1) (h := 1) (by decide)) (by decide) (by rw [a2.1]; exact pk_us) (by decide) (by obtain ⟨-, f9, -, q⟩ := a2; rw [q, a1.2]; exact mt_r5_up hre)) (cwV 2 hg gv_fl_54 rfl rfl rfl (by decide +kernel) ⟨Nat.le_of_ble_eq_true rfl, Nat.le_of_ble_eq_true rfl⟩) ⟨mt_bl, va_recv (q0 := 0) (ci := 1) hK hP rfl rfl, mt_pr hX hPc hK hDc⟩ rfl rfl hl.1 rfl (lv_room (Nat.le_of_ble_eq_true rfl)) d_fl_chartCell_92 ⟨Nat.le_of_ble_eq_true rfl, Nat.le_of_ble_eq_true rfl⟩) hS (fun q _ h => hFc q h) hFc (fun u t H1 locs ht hvm hw hB hz1 hk1 hS => ?_)
  obtain ⟨sf110, re111⟩ := u
  have hr9 : ((¬ (0 + 1 : Int32) < 0 ∧ ¬ (1 : Int32) * (1 : Int32) ≤ (0 + 1 : Int32) ∧ wf (0 + 1 : Int32).toNatClampNeg = 0) ∧ sf110 = upd sf17 (0 : Nat) (nI ((1 : Nat) + 1)) ∧ ∃ f : Nat → Int32, re18 (0 : Nat) = .inl (cI, 5, .inl f) ∧ re111 = va_up re18 (0 : Nat) (.inl (cI, 5, .inl (upd f (1 : Nat) (0 + 1 : Int32))))) ∨ (((0 + 1 : Int32) < 0 ∨ (1 : Int32) * (1 : Int32) ≤ (0 + 1 : Int32) ∨ ¬ wf (0 + 1 : Int32).toNatClampNeg = 0) ∧ sf110 = sf17 ∧ re111 = re18) := hw
  obtain ⟨hP1, hD1⟩ := hB
  rw [ht] at hP1
  have hP := hP1
  have hD := hD1.weaken (fun _ _ _ h => hFc _ h)
  generalize H1 = H at hP hS ⊢
  have hP : va_P D kls ([(fa, .inr (1, [.int 1, .int 1, .ref wa, .int x2, .ref ra, .ref sa, .ref ta])), (wa, .inl (cZ, 25, .inl wf)), (ra, .inl (cI, 25, .inl (upd rf 0 0))), (sa, .inl (cI, 25, .inl sf110)), (ta, .inl (cII, 25, .inr (.inr (.inr (.inr (fun i => if i < 25 then some (rr i) else none))))))] ++ mt_rw 25 rr re111) H := hP
  have hD : va_D A ([(fa, .inr (1, [.int 1, .int 1, .ref wa, .int x2, .ref ra, .ref sa, .ref ta])), (wa, .inl (cZ, 25, .inl wf)), (ra, .inl (cI, 25, .inl (upd rf 0 0))), (sa, .inl (cI, 25, .inl sf110)), (ta, .inl (cII, 25, .inr (.inr (.inr (.inr (fun i => if i < 25 then some (rr i) else none))))))] ++ mt_rw 25 rr re111) := hD
  have a3 := hr9.elim (fun q => absurd (show (1 : Int32) * 1 ≤ 0 + 1 by decide) q.1.2.1) (fun q => q.2)
  have post9 : sf110 0 = 1 ∧ (∃ f : Nat → Int32, re111 0 = .inl (cI, 5, .inl f) ∧ f 0 = 0) ∧ x2 = 1 ∧ mt_r5 cI re111 := by
    obtain ⟨a31, a32⟩ := a3; obtain ⟨a21, f9, a22, a23⟩ := a2; obtain ⟨a11, a12⟩ := a1
    rw [a31, a32, a21, a23]
    refine ⟨?_, ⟨upd f9 0 0, by simp [va_up], pk_us⟩, by assumption, ?_⟩
    · exact pk_us
    · rw [a12] at a22 ⊢; exact mt_r5_up hre
  have hP9 := hP
  have hD9 := hD
  exact W.vret hx hb hr (fun t ht hW => ⟨⟨(x2, upd rf 0 0, sf110, re111), rfl, post9, by rw [ht]; exact hP9, hD9⟩, hS.F ht⟩) hS.2.2 d_fl_chartCell_95

set_option maxHeartbeats 4000000 in
set_option maxRecDepth 100000 in
theorem c_fl_chart (l : Launch) (D : va_G) (cZ cI cJ cII : ClassId) (fa : Nat) (wa : Nat) (fc : Int32) (ra : Nat) (sa : Nat) (ta : Nat) (wf : Nat → Int32) (rf : Nat → Int32) (sf : Nat → Int32) (rr : Nat → Nat) (re : Nat → va_E) (W0 : Nat) (H0 : Nat) (sz : Nat) (hWH : W0 ≤ 6 ∧ H0 ≤ 6 ∧ W0 * H0 ≤ 25) (hre : mt_r5 cI re) : Met l y_fl_chart w_fl_chart ({ frames := 4, cells := 0, slots := 0, locals := 160 }) (va_Pc [.ref fa] (mt_B D [(cZ, .boolean), (cI, .int), (cJ, .long), (cII, .array .int)] ([(fa, .inr (1, [.int (nI W0), .int (nI H0), .ref wa, .int fc, .ref ra, .ref sa, .ref ta])), (wa, .inl (cZ, 25, .inl wf)), (ra, .inl (cI, 25, .inl rf)), (sa, .inl (cI, 25, .inl sf)), (ta, .inl (cII, 25, .inr (.inr (.inr (.inr (fun i => if i < 25 then some (rr i) else none))))))] ++ mt_rw 25 rr re) sz)) ((fun A => va_Qv (fun (u : Int32 × (Nat → Int32) × (Nat → Int32) × (Nat → va_E)) => mt_r5 cI (u.2.2.2)) (fun (u : Int32 × (Nat → Int32) × (Nat → Int32) × (Nat → va_E)) (t : State) => mt_O D A ([(fa, .inr (1, [.int (nI W0), .int (nI H0), .ref wa, .int (u.1), .ref ra, .ref sa, .ref ta])), (wa, .inl (cZ, 25, .inl wf)), (ra, .inl (cI, 25, .inl (u.2.1))), (sa, .inl (cI, 25, .inl (u.2.2.1))), (ta, .inl (cII, 25, .inr (.inr (.inr (.inr (fun i => if i < 25 then some (rr i) else none))))))] ++ mt_rw 25 rr (u.2.2.2)) t) A) (va_A ([(fa, .inr (1, [.int (nI W0), .int (nI H0), .ref wa, .int fc, .ref ra, .ref sa, .ref ta])), (wa, .inl (cZ, 25, .inl wf)), (ra, .inl (cI, 25, .inl rf)), (sa, .inl (cI, 25, .inl sf)), (ta, .inl (cII, 25, .inr (.inr (.inr (.inr (fun i => if i < 25 then some (rr i) else none))))))] ++ mt_rw 25 rr re) sz)) 0 0 (va_A ([(fa, .inr (1, [.int (nI W0), .int (nI H0), .ref wa, .int fc, .ref ra, .ref sa, .ref ta])), (wa, .inl (cZ, 25, .inl wf)), (ra, .inl (cI, 25, .inl rf)), (sa, .inl (cI, 25, .inl sf)), (ta, .inl (cII, 25, .inr (.inr (.inr (.inr (fun i => if i < 25 then some (rr i) else none))))))] ++ mt_rw 25 rr re) sz) := by
  refine mt_of (y := y_fl_chart) (n := 3) (av := [.ref fa]) (QF := (fun A => va_Qv (fun (u : Int32 × (Nat → Int32) × (Nat → Int32) × (Nat → va_E)) => mt_r5 cI (u.2.2.2)) (fun (u : Int32 × (Nat → Int32) × (Nat → Int32) × (Nat → va_E)) (t : State) => mt_O D A ([(fa, .inr (1, [.int (nI W0), .int (nI H0), .ref wa, .int (u.1), .ref ra, .ref sa, .ref ta])), (wa, .inl (cZ, 25, .inl wf)), (ra, .inl (cI, 25, .inl (u.2.1))), (sa, .inl (cI, 25, .inl (u.2.2.1))), (ta, .inl (cII, 25, .inr (.inr (.inr (.inr (fun i => if i < 25 then some (rr i) else none))))))] ++ mt_rw 25 rr (u.2.2.2)) t) A)) (by decide) (Nat.le_of_ble_eq_true rfl) ?_
  intro p e s m below meth c ls A hx hb hr hlk hml hown hnm hg hl hX hP hK hD hA hS
  obtain ⟨H, hH⟩ : ∃ H : Heap, H = s.heap := ⟨_, rfl⟩
  have hS : va_S A s.heap H [] := by rw [hH]; exact va_S.rf
  rw [← hH] at hP ⊢
  have hown : s.vm.findClass R_fl = some m.cls := hown
  have hl : lv_has ls 3 [(0, .ref fa)] := hl
  refine lv_aload_n hx hb d_fl_chart_0 rfl (lv_at hl 0 rfl) ?_
  refine lv_iconst (v := 0) hx hb d_fl_chart_1 (by decide) ?_
  refine pf_fl_48 hx hb hg hown hK hP hD hS 0 rfl rfl rfl (Nat.le_of_ble_eq_true rfl) d_fl_chart_2 (fun H locs hP hD hS => ?_)
  have hP : va_P D kls ([(fa, .inr (1, [.int (nI W0), .int (nI H0), .ref wa, .int 0, .ref ra, .ref sa, .ref ta])), (wa, .inl (cZ, 25, .inl wf)), (ra, .inl (cI, 25, .inl rf)), (sa, .inl (cI, 25, .inl sf)), (ta, .inl (cII, 25, .inr (.inr (.inr (.inr (fun i => if i < 25 then some (rr i) else none))))))] ++ mt_rw 25 rr re) H := hP
  have hD : va_D A ([(fa, .inr (1, [.int (nI W0), .int (nI H0), .ref wa, .int 0, .ref ra, .ref sa, .ref ta])), (wa, .inl (cZ, 25, .inl wf)), (ra, .inl (cI, 25, .inl rf)), (sa, .inl (cI, 25, .inl sf)), (ta, .inl (cII, 25, .inr (.inr (.inr (.inr (fun i => if i < 25 then some (rr i) else none))))))] ++ mt_rw 25 rr re) := hD
  refine lv_iconst (v := 0) hx hb d_fl_chart_5 (by decide) ?_
  refine lv_istore_n hx hb d_fl_chart_6 rfl hl (by decide) rfl (fun ls hl => ?_)
  have hl : lv_has ls 3 [(1, .int 0), (0, .ref fa)] := hl
  have hl := lv_sub hl [0, 1] (l' := [(1, .int (nI 0)), (0, .ref fa)]) rfl
  refine mt_loop (ι := Nat × Int32 × (Nat → Int32) × (Nat → Int32) × (Nat → va_E)) (I := fun i ls H locs => ((i.1) ≤ H0) ∧ (mt_r5 cI (i.2.2.2.2)) ∧ lv_has ls 3 [(1, .int (nI (i.1))), (0, .ref fa)] ∧ va_P D kls ([(fa, .inr (1, [.int (nI W0), .int (nI H0), .ref wa, .int (i.2.1), .ref ra, .ref sa, .ref ta])), (wa, .inl (cZ, 25, .inl wf)), (ra, .inl (cI, 25, .inl (i.2.2.1))), (sa, .inl (cI, 25, .inl (i.2.2.2.1))), (ta, .inl (cII, 25, .inr (.inr (.inr (.inr (fun i => if i < 25 then some (rr i) else none))))))] ++ mt_rw 25 rr (i.2.2.2.2)) H ∧ va_D A ([(fa, .inr (1, [.int (nI W0), .int (nI H0), .ref wa, .int (i.2.1), .ref ra, .ref sa, .ref ta])), (wa, .inl (cZ, 25, .inl wf)), (ra, .inl (cI, 25, .inl (i.2.2.1))), (sa, .inl (cI, 25, .inl (i.2.2.2.1))), (ta, .inl (cII, 25, .inr (.inr (.inr (.inr (fun i => if i < 25 then some (rr i) else none))))))] ++ mt_rw 25 rr (i.2.2.2.2)) ∧ va_S A s.heap H locs) (μ := fun i => H0 - (i.1)) ?_ (0, 0, rf, sf, re) ls H _ ⟨Nat.zero_le _, hre, hl, hP, hD, hS⟩
  clear hl hP hD hS
  intro i_a ls H locs ⟨hy, hv, hl, hP, hD, hS⟩ ih_a
  obtain ⟨y, vc, vr, vs, ve⟩ := i_a
  have hy : y ≤ H0 := hy
  have hv : mt_r5 cI ve := hv
  have hl : lv_has ls 3 [(1, .int (nI y)), (0, .ref fa)] := hl
  have hP : va_P D kls ([(fa, .inr (1, [.int (nI W0), .int (nI H0), .ref wa, .int vc, .ref ra, .ref sa, .ref ta])), (wa, .inl (cZ, 25, .inl wf)), (ra, .inl (cI, 25, .inl vr)), (sa, .inl (cI, 25, .inl vs)), (ta, .inl (cII, 25, .inr (.inr (.inr (.inr (fun i => if i < 25 then some (rr i) else none))))))] ++ mt_rw 25 rr ve) H := hP
  have hD : va_D A ([(fa, .inr (1, [.int (nI W0), .int (nI H0), .ref wa, .int vc, .ref ra, .ref sa, .ref ta])), (wa, .inl (cZ, 25, .inl wf)), (ra, .inl (cI, 25, .inl vr)), (sa, .inl (cI, 25, .inl vs)), (ta, .inl (cII, 25, .inr (.inr (.inr (.inr (fun i => if i < 25 then some (rr i) else none))))))] ++ mt_rw 25 rr ve) := hD
  refine lv_iload_n hx hb d_fl_chart_7 rfl (lv_at hl 0 rfl) ?_
  refine lv_aload_n hx hb d_fl_chart_8 rfl (lv_at hl 1 rfl) ?_
  refine gf_fl_35 hx hb hg hown hK hP 0 rfl rfl d_fl_chart_9 ?_
  refine lv_icmp_ge hx hb d_fl_chart_12 rfl (fun g1 => ?_) (fun g1 => ?_)
  ·
    have hP9 := hP
    have hD9 := hD
    exact W.vret hx hb hr (fun t ht hW => ⟨⟨(vc, vr, vs, ve), rfl, hv, by rw [ht]; exact hP9, hD9⟩, hS.F ht⟩) hS.2.2 d_fl_chart_50
  ·
    have g2 : y < H0 := by rcases Nat.lt_or_ge y H0 with h | h; exact h; exact absurd (nI_le h (by omega)) g1
    refine lv_iconst (v := 0) hx hb d_fl_chart_15 (by decide) ?_
    refine lv_istore_n hx hb d_fl_chart_16 rfl hl (by decide) rfl (fun ls hl => ?_)
    have hl : lv_has ls 3 [(2, .int 0), (1, .int (nI y)), (0, .ref fa)] := hl
    have hl := lv_sub hl [0, 1, 2] (l' := [(2, .int (nI 0)), (1, .int (nI y)), (0, .ref fa)]) rfl
    refine mt_loop (ι := Nat × Int32 × (Nat → Int32) × (Nat → Int32) × (Nat → va_E)) (I := fun i ls H locs => ((i.1) ≤ W0) ∧ (mt_r5 cI (i.2.2.2.2)) ∧ lv_has ls 3 [(2, .int (nI (i.1))), (1, .int (nI y)), (0, .ref fa)] ∧ va_P D kls ([(fa, .inr (1, [.int (nI W0), .int (nI H0), .ref wa, .int (i.2.1), .ref ra, .ref sa, .ref ta])), (wa, .inl (cZ, 25, .inl wf)), (ra, .inl (cI, 25, .inl (i.2.2.1))), (sa, .inl (cI, 25, .inl (i.2.2.2.1))), (ta, .inl (cII, 25, .inr (.inr (.inr (.inr (fun i => if i < 25 then some (rr i) else none))))))] ++ mt_rw 25 rr (i.2.2.2.2)) H ∧ va_D A ([(fa, .inr (1, [.int (nI W0), .int (nI H0), .ref wa, .int (i.2.1), .ref ra, .ref sa, .ref ta])), (wa, .inl (cZ, 25, .inl wf)), (ra, .inl (cI, 25, .inl (i.2.2.1))), (sa, .inl (cI, 25, .inl (i.2.2.2.1))), (ta, .inl (cII, 25, .inr (.inr (.inr (.inr (fun i => if i < 25 then some (rr i) else none))))))] ++ mt_rw 25 rr (i.2.2.2.2)) ∧ va_S A s.heap H locs) (μ := fun i => W0 - (i.1)) ?_ (0, vc, vr, vs, ve) ls H _ ⟨Nat.zero_le _, hv, hl, hP, hD, hS⟩
    clear hl hP hD hS
    intro i_b ls H locs ⟨hxx, hv2, hl, hP, hD, hS⟩ ih_b
    obtain ⟨x, uc, ur, us, ue⟩ := i_b
    have hxx : x ≤ W0 := hxx
    have hv2 : mt_r5 cI ue := hv2
    have hl : lv_has ls 3 [(2, .int (nI x)), (1, .int (nI y)), (0, .ref fa)] := hl
    have hP : va_P D kls ([(fa, .inr (1, [.int (nI W0), .int (nI H0), .ref wa, .int uc, .ref ra, .ref sa, .ref ta])), (wa, .inl (cZ, 25, .inl wf)), (ra, .inl (cI, 25, .inl ur)), (sa, .inl (cI, 25, .inl us)), (ta, .inl (cII, 25, .inr (.inr (.inr (.inr (fun i => if i < 25 then some (rr i) else none))))))] ++ mt_rw 25 rr ue) H := hP
    have hD : va_D A ([(fa, .inr (1, [.int (nI W0), .int (nI H0), .ref wa, .int uc, .ref ra, .ref sa, .ref ta])), (wa, .inl (cZ, 25, .inl wf)), (ra, .inl (cI, 25, .inl ur)), (sa, .inl (cI, 25, .inl us)), (ta, .inl (cII, 25, .inr (.inr (.inr (.inr (fun i => if i < 25 then some (rr i) else none))))))] ++ mt_rw 25 rr ue) := hD
    refine lv_iload_n hx hb d_fl_chart_17 rfl (lv_at hl 0 rfl) ?_
    refine lv_aload_n hx hb d_fl_chart_18 rfl (lv_at hl 2 rfl) ?_
    refine gf_fl_31 hx hb hg hown hK hP 0 rfl rfl d_fl_chart_19 ?_
    refine lv_icmp_ge hx hb d_fl_chart_22 rfl (fun g3 => ?_) (fun g3 => ?_)
    ·
      refine lv_iinc (k := 1) (v := nI (y + 1)) hx hb d_fl_chart_44 hl rfl ((nI_succ y).symm) (by decide) rfl (fun ls hl => ?_)
      have hl : lv_has ls 3 [(1, .int (nI (y + 1))), (2, .int (nI x)), (0, .ref fa)] := hl
      refine lv_goto hx hb d_fl_chart_47 rfl ?_
      have hl := lv_sub hl [0, 2] (l' := [(1, .int (nI (y + 1))), (0, .ref fa)]) rfl
      exact ih_a (y + 1, uc, ur, us, ue) ls H _ (by show H0 - (y + 1) < H0 - y; omega) ⟨by show y + 1 ≤ H0; omega, hv2, hl, hP, hD, hS⟩
    ·
      have g4 : x < W0 := by rcases Nat.lt_or_ge x W0 with h | h; exact h; exact absurd (nI_le h (by omega)) g3
      have g5 : W0 * y + x < 25 := by
        have q : W0 * (y + 1) ≤ W0 * H0 := Nat.mul_le_mul_left _ g2
        have q2 : W0 * (y + 1) = W0 * y + W0 := Nat.mul_succ _ _
        omega
      refine lv_aload_n hx hb d_fl_chart_25 rfl (lv_at hl 2 rfl) ?_
      refine lv_iload_n hx hb d_fl_chart_26 rfl (lv_at hl 0 rfl) ?_
      refine lv_aload_n hx hb d_fl_chart_27 rfl (lv_at hl 2 rfl) ?_
      refine gf_fl_31 hx hb hg hown hK hP 0 rfl rfl d_fl_chart_28 ?_
      refine lv_iload_n hx hb d_fl_chart_31 rfl (lv_at hl 1 rfl) ?_
      refine lv_imul hx hb d_fl_chart_32 ?_
      refine lv_iload_n hx hb d_fl_chart_33 rfl (lv_at hl 0 rfl) ?_
      refine lv_iadd hx hb d_fl_chart_34 ?_
      refine lv_topi (fun y1 ey1 => ?_)
      have ey1 : y1 = nI (W0 * y + x) := ey1.trans (by rw [pk_mul, nI_add])
      subst ey1
      have hPc := hP
      have hDc := hD
      have hFc := mt_whole hD hS hA
      refine va_callv (va_runV (As := [.int (nI x), .int (nI (W0 * y + x))]) (rest := []) ⟨hx, hb, hml, hown, hg⟩ (c_fl_chartCell l D cZ cI cJ cII fa (nI W0) (nI H0) wa uc ra sa ta wf ur us rr ue (nI x) (W0 * y + x) H.size (mt_b25 hWH.2.2) g5 hv2) (cwV 2 hg gv_fl_51 rfl rfl rfl (by decide +kernel) ⟨Nat.le_of_ble_eq_true rfl, Nat.le_of_ble_eq_true rfl⟩) ⟨mt_bl, va_recv (q0 := 0) (ci := 1) hK hP rfl rfl, mt_pr hX hPc hK hDc⟩ rfl rfl hl.1 rfl (lv_room (Nat.le_of_ble_eq_true rfl)) d_fl_chart_35 ⟨Nat.le_of_ble_eq_true rfl, Nat.le_of_ble_eq_true rfl⟩) hS (fun q _ h => hFc q h) hFc (fun u t H1 locs ht hvm hw hB hz1 hk1 hS => ?_)
      obtain ⟨fc13, rf14, sf15, re16⟩ := u
      have hr2 : mt_r5 cI re16 := hw
      obtain ⟨hP1, hD1⟩ := hB
      rw [ht] at hP1
      have hP := hP1
      have hD := hD1.weaken (fun _ _ _ h => hFc _ h)
      generalize H1 = H at hP hS ⊢
      have hP : va_P D kls ([(fa, .inr (1, [.int (nI W0), .int (nI H0), .ref wa, .int fc13, .ref ra, .ref sa, .ref ta])), (wa, .inl (cZ, 25, .inl wf)), (ra, .inl (cI, 25, .inl rf14)), (sa, .inl (cI, 25, .inl sf15)), (ta, .inl (cII, 25, .inr (.inr (.inr (.inr (fun i => if i < 25 then some (rr i) else none))))))] ++ mt_rw 25 rr re16) H := hP
      have hD : va_D A ([(fa, .inr (1, [.int (nI W0), .int (nI H0), .ref wa, .int fc13, .ref ra, .ref sa, .ref ta])), (wa, .inl (cZ, 25, .inl wf)), (ra, .inl (cI, 25, .inl rf14)), (sa, .inl (cI, 25, .inl sf15)), (ta, .inl (cII, 25, .inr (.inr (.inr (.inr (fun i => if i < 25 then some (rr i) else none))))))] ++ mt_rw 25 rr re16) := hD
      have hv3 := hr2
      refine lv_iinc (k := 0) (v := nI (x + 1)) hx hb d_fl_chart_38 hl rfl ((nI_succ x).symm) (by decide) rfl (fun ls hl => ?_)
      have hl : lv_has ls 3 [(2, .int (nI (x + 1))), (1, .int (nI y)), (0, .ref fa)] := hl
      refine lv_goto hx hb d_fl_chart_41 rfl ?_
      have hl := lv_sub hl [0, 1, 2] (l' := [(2, .int (nI (x + 1))), (1, .int (nI y)), (0, .ref fa)]) rfl
      exact ih_b (x + 1, fc13, rf14, sf15, re16) ls H _ (by show W0 - (x + 1) < W0 - x; omega) ⟨by show x + 1 ≤ W0; omega, hv3, hl, hP, hD, hS⟩

set_option maxHeartbeats 4000000 in
set_option maxRecDepth 100000 in
theorem c_fl_chart1 (l : Launch) (D : va_G) (cZ cI cJ cII : ClassId) (fa : Nat) (wa : Nat) (fc : Int32) (ra : Nat) (sa : Nat) (ta : Nat) (wf : Nat → Int32) (rf : Nat → Int32) (sf : Nat → Int32) (rr : Nat → Nat) (re : Nat → va_E) (sz : Nat) (hw0 : wf 0 = 0) (hre : mt_r5 cI re) : Met l y_fl_chart w_fl_chart ({ frames := 4, cells := 0, slots := 0, locals := 160 }) (va_Pc [.ref fa] (mt_B D [(cZ, .boolean), (cI, .int), (cJ, .long), (cII, .array .int)] ([(fa, .inr (1, [.int 1, .int 1, .ref wa, .int fc, .ref ra, .ref sa, .ref ta])), (wa, .inl (cZ, 25, .inl wf)), (ra, .inl (cI, 25, .inl rf)), (sa, .inl (cI, 25, .inl sf)), (ta, .inl (cII, 25, .inr (.inr (.inr (.inr (fun i => if i < 25 then some (rr i) else none))))))] ++ mt_rw 25 rr re) sz)) ((fun A => va_Qv (fun (u : Int32 × (Nat → Int32) × (Nat → Int32) × (Nat → va_E)) => (u.2.2.1) 0 = 1 ∧ (∃ f : Nat → Int32, (u.2.2.2) 0 = .inl (cI, 5, .inl f) ∧ f 0 = 0) ∧ (u.1) = 1 ∧ mt_r5 cI (u.2.2.2)) (fun (u : Int32 × (Nat → Int32) × (Nat → Int32) × (Nat → va_E)) (t : State) => mt_O D A ([(fa, .inr (1, [.int 1, .int 1, .ref wa, .int (u.1), .ref ra, .ref sa, .ref ta])), (wa, .inl (cZ, 25, .inl wf)), (ra, .inl (cI, 25, .inl (u.2.1))), (sa, .inl (cI, 25, .inl (u.2.2.1))), (ta, .inl (cII, 25, .inr (.inr (.inr (.inr (fun i => if i < 25 then some (rr i) else none))))))] ++ mt_rw 25 rr (u.2.2.2)) t) A) (va_A ([(fa, .inr (1, [.int 1, .int 1, .ref wa, .int fc, .ref ra, .ref sa, .ref ta])), (wa, .inl (cZ, 25, .inl wf)), (ra, .inl (cI, 25, .inl rf)), (sa, .inl (cI, 25, .inl sf)), (ta, .inl (cII, 25, .inr (.inr (.inr (.inr (fun i => if i < 25 then some (rr i) else none))))))] ++ mt_rw 25 rr re) sz)) 0 0 (va_A ([(fa, .inr (1, [.int 1, .int 1, .ref wa, .int fc, .ref ra, .ref sa, .ref ta])), (wa, .inl (cZ, 25, .inl wf)), (ra, .inl (cI, 25, .inl rf)), (sa, .inl (cI, 25, .inl sf)), (ta, .inl (cII, 25, .inr (.inr (.inr (.inr (fun i => if i < 25 then some (rr i) else none))))))] ++ mt_rw 25 rr re) sz) := by
  refine mt_of (y := y_fl_chart) (n := 3) (av := [.ref fa]) (QF := (fun A => va_Qv (fun (u : Int32 × (Nat → Int32) × (Nat → Int32) × (Nat → va_E)) => (u.2.2.1) 0 = 1 ∧ (∃ f : Nat → Int32, (u.2.2.2) 0 = .inl (cI, 5, .inl f) ∧ f 0 = 0) ∧ (u.1) = 1 ∧ mt_r5 cI (u.2.2.2)) (fun (u : Int32 × (Nat → Int32) × (Nat → Int32) × (Nat → va_E)) (t : State) => mt_O D A ([(fa, .inr (1, [.int 1, .int 1, .ref wa, .int (u.1), .ref ra, .ref sa, .ref ta])), (wa, .inl (cZ, 25, .inl wf)), (ra, .inl (cI, 25, .inl (u.2.1))), (sa, .inl (cI, 25, .inl (u.2.2.1))), (ta, .inl (cII, 25, .inr (.inr (.inr (.inr (fun i => if i < 25 then some (rr i) else none))))))] ++ mt_rw 25 rr (u.2.2.2)) t) A)) (by decide) (Nat.le_of_ble_eq_true rfl) ?_
  intro p e s m below meth c ls A hx hb hr hlk hml hown hnm hg hl hX hP hK hD hA hS
  obtain ⟨H, hH⟩ : ∃ H : Heap, H = s.heap := ⟨_, rfl⟩
  have hS : va_S A s.heap H [] := by rw [hH]; exact va_S.rf
  rw [← hH] at hP ⊢
  have hown : s.vm.findClass R_fl = some m.cls := hown
  have hl : lv_has ls 3 [(0, .ref fa)] := hl
  refine lv_aload_n hx hb d_fl_chart_0 rfl (lv_at hl 0 rfl) ?_
  refine lv_iconst (v := 0) hx hb d_fl_chart_1 (by decide) ?_
  refine pf_fl_48 hx hb hg hown hK hP hD hS 0 rfl rfl rfl (Nat.le_of_ble_eq_true rfl) d_fl_chart_2 (fun H locs hP hD hS => ?_)
  have hP : va_P D kls ([(fa, .inr (1, [.int 1, .int 1, .ref wa, .int 0, .ref ra, .ref sa, .ref ta])), (wa, .inl (cZ, 25, .inl wf)), (ra, .inl (cI, 25, .inl rf)), (sa, .inl (cI, 25, .inl sf)), (ta, .inl (cII, 25, .inr (.inr (.inr (.inr (fun i => if i < 25 then some (rr i) else none))))))] ++ mt_rw 25 rr re) H := hP
  have hD : va_D A ([(fa, .inr (1, [.int 1, .int 1, .ref wa, .int 0, .ref ra, .ref sa, .ref ta])), (wa, .inl (cZ, 25, .inl wf)), (ra, .inl (cI, 25, .inl rf)), (sa, .inl (cI, 25, .inl sf)), (ta, .inl (cII, 25, .inr (.inr (.inr (.inr (fun i => if i < 25 then some (rr i) else none))))))] ++ mt_rw 25 rr re) := hD
  refine lv_iconst (v := 0) hx hb d_fl_chart_5 (by decide) ?_
  refine lv_istore_n hx hb d_fl_chart_6 rfl hl (by decide) rfl (fun ls hl => ?_)
  have hl : lv_has ls 3 [(1, .int 0), (0, .ref fa)] := hl
  refine lv_iload_n hx hb d_fl_chart_7 rfl (lv_at hl 0 rfl) ?_
  refine lv_aload_n hx hb d_fl_chart_8 rfl (lv_at hl 1 rfl) ?_
  refine gf_fl_35 hx hb hg hown hK hP 0 rfl rfl d_fl_chart_9 ?_
  refine lv_icmp_ge hx hb d_fl_chart_12 rfl (fun h => absurd h (by decide)) (fun _ => ?_)
  refine lv_iconst (v := 0) hx hb d_fl_chart_15 (by decide) ?_
  refine lv_istore_n hx hb d_fl_chart_16 rfl hl (by decide) rfl (fun ls hl => ?_)
  have hl : lv_has ls 3 [(2, .int 0), (1, .int 0), (0, .ref fa)] := hl
  refine lv_iload_n hx hb d_fl_chart_17 rfl (lv_at hl 0 rfl) ?_
  refine lv_aload_n hx hb d_fl_chart_18 rfl (lv_at hl 2 rfl) ?_
  refine gf_fl_31 hx hb hg hown hK hP 0 rfl rfl d_fl_chart_19 ?_
  refine lv_icmp_ge hx hb d_fl_chart_22 rfl (fun h => absurd h (by decide)) (fun _ => ?_)
  refine lv_aload_n hx hb d_fl_chart_25 rfl (lv_at hl 2 rfl) ?_
  refine lv_iload_n hx hb d_fl_chart_26 rfl (lv_at hl 0 rfl) ?_
  refine lv_aload_n hx hb d_fl_chart_27 rfl (lv_at hl 2 rfl) ?_
  refine gf_fl_31 hx hb hg hown hK hP 0 rfl rfl d_fl_chart_28 ?_
  refine lv_iload_n hx hb d_fl_chart_31 rfl (lv_at hl 1 rfl) ?_
  refine lv_imul hx hb d_fl_chart_32 ?_
  refine lv_iload_n hx hb d_fl_chart_33 rfl (lv_at hl 0 rfl) ?_
  refine lv_iadd hx hb d_fl_chart_34 ?_
  refine lv_topi (fun y1 ey1 => ?_)
  have ey1 : y1 = 0 := ey1.trans (by decide)
  subst ey1
  have hPc := hP
  have hDc := hD
  have hFc := mt_whole hD hS hA
  refine va_callv (va_runV (As := [.int 0, .int 0]) (rest := []) ⟨hx, hb, hml, hown, hg⟩ (c_fl_chartCell1 l D cZ cI cJ cII fa wa ra sa ta wf rf sf rr re H.size hw0 hre) (cwV 2 hg gv_fl_51 rfl rfl rfl (by decide +kernel) ⟨Nat.le_of_ble_eq_true rfl, Nat.le_of_ble_eq_true rfl⟩) ⟨mt_bl, va_recv (q0 := 0) (ci := 1) hK hP rfl rfl, mt_pr hX hPc hK hDc⟩ rfl rfl hl.1 rfl (lv_room (Nat.le_of_ble_eq_true rfl)) d_fl_chart_35 ⟨Nat.le_of_ble_eq_true rfl, Nat.le_of_ble_eq_true rfl⟩) hS (fun q _ h => hFc q h) hFc (fun u t H1 locs ht hvm hw hB hz1 hk1 hS => ?_)
  obtain ⟨fc13, rf14, sf15, re16⟩ := u
  have hr2 : sf15 0 = 1 ∧ (∃ f : Nat → Int32, re16 0 = .inl (cI, 5, .inl f) ∧ f 0 = 0) ∧ fc13 = 1 ∧ mt_r5 cI re16 := hw
  obtain ⟨hP1, hD1⟩ := hB
  rw [ht] at hP1
  have hP := hP1
  have hD := hD1.weaken (fun _ _ _ h => hFc _ h)
  generalize H1 = H at hP hS ⊢
  have hP : va_P D kls ([(fa, .inr (1, [.int 1, .int 1, .ref wa, .int fc13, .ref ra, .ref sa, .ref ta])), (wa, .inl (cZ, 25, .inl wf)), (ra, .inl (cI, 25, .inl rf14)), (sa, .inl (cI, 25, .inl sf15)), (ta, .inl (cII, 25, .inr (.inr (.inr (.inr (fun i => if i < 25 then some (rr i) else none))))))] ++ mt_rw 25 rr re16) H := hP
  have hD : va_D A ([(fa, .inr (1, [.int 1, .int 1, .ref wa, .int fc13, .ref ra, .ref sa, .ref ta])), (wa, .inl (cZ, 25, .inl wf)), (ra, .inl (cI, 25, .inl rf14)), (sa, .inl (cI, 25, .inl sf15)), (ta, .inl (cII, 25, .inr (.inr (.inr (.inr (fun i => if i < 25 then some (rr i) else none))))))] ++ mt_rw 25 rr re16) := hD
  have a9 := hr2
  refine lv_iinc (k := 0) (v := 1) hx hb d_fl_chart_38 hl rfl (by decide) (by decide) rfl (fun ls hl => ?_)
  have hl : lv_has ls 3 [(2, .int 1), (1, .int 0), (0, .ref fa)] := hl
  refine lv_goto hx hb d_fl_chart_41 rfl ?_
  refine lv_iload_n hx hb d_fl_chart_17 rfl (lv_at hl 0 rfl) ?_
  refine lv_aload_n hx hb d_fl_chart_18 rfl (lv_at hl 2 rfl) ?_
  refine gf_fl_31 hx hb hg hown hK hP 0 rfl rfl d_fl_chart_19 ?_
  refine lv_icmp_ge hx hb d_fl_chart_22 rfl (fun _ => ?_) (fun h => absurd (by decide) h)
  refine lv_iinc (k := 1) (v := 1) hx hb d_fl_chart_44 hl rfl (by decide) (by decide) rfl (fun ls hl => ?_)
  have hl : lv_has ls 3 [(1, .int 1), (2, .int 1), (0, .ref fa)] := hl
  refine lv_goto hx hb d_fl_chart_47 rfl ?_
  refine lv_iload_n hx hb d_fl_chart_7 rfl (lv_at hl 0 rfl) ?_
  refine lv_aload_n hx hb d_fl_chart_8 rfl (lv_at hl 2 rfl) ?_
  refine gf_fl_35 hx hb hg hown hK hP 0 rfl rfl d_fl_chart_9 ?_
  refine lv_icmp_ge hx hb d_fl_chart_12 rfl (fun _ => ?_) (fun h => absurd (by decide) h)
  have hP9 := hP
  have hD9 := hD
  exact W.vret hx hb hr (fun t ht hW => ⟨⟨(fc13, rf14, sf15, re16), rfl, a9, by rw [ht]; exact hP9, hD9⟩, hS.F ht⟩) hS.2.2 d_fl_chart_50

set_option maxHeartbeats 4000000 in
set_option maxRecDepth 100000 in
theorem c_fl_build (l : Launch) (D : va_G) (cZ cI cJ cII : ClassId) (fa : Nat) (wa : Nat) (fc : Int32) (ra : Nat) (sa : Nat) (ta : Nat) (fw : Int32) (fh : Int32) (wf : Nat → Int32) (rf : Nat → Int32) (sf : Nat → Int32) (rr : Nat → Nat) (re : Nat → va_E) (W0 : Nat) (H0 : Nat) (sz : Nat) (hWH : W0 ≤ 6 ∧ H0 ≤ 6 ∧ W0 * H0 ≤ 25) (hre : mt_r5 cI re) : Met l y_fl_build w_fl_build ({ frames := 5, cells := 0, slots := 0, locals := 200 }) (va_Pc [.ref fa, .int (nI W0), .int (nI H0)] (mt_B D [(cZ, .boolean), (cI, .int), (cJ, .long), (cII, .array .int)] ([(fa, .inr (1, [.int fw, .int fh, .ref wa, .int fc, .ref ra, .ref sa, .ref ta])), (wa, .inl (cZ, 25, .inl wf)), (ra, .inl (cI, 25, .inl rf)), (sa, .inl (cI, 25, .inl sf)), (ta, .inl (cII, 25, .inr (.inr (.inr (.inr (fun i => if i < 25 then some (rr i) else none))))))] ++ mt_rw 25 rr re) sz)) ((fun A => va_Qv (fun (u : (Nat → Int32) × Int32 × (Nat → Int32) × (Nat → Int32) × (Nat → va_E)) => (∀ j, j < 25 → (u.1) j = 0) ∧ mt_r5 cI (u.2.2.2.2)) (fun (u : (Nat → Int32) × Int32 × (Nat → Int32) × (Nat → Int32) × (Nat → va_E)) (t : State) => mt_O D A ([(fa, .inr (1, [.int (nI W0), .int (nI H0), .ref wa, .int (u.2.1), .ref ra, .ref sa, .ref ta])), (wa, .inl (cZ, 25, .inl (u.1))), (ra, .inl (cI, 25, .inl (u.2.2.1))), (sa, .inl (cI, 25, .inl (u.2.2.2.1))), (ta, .inl (cII, 25, .inr (.inr (.inr (.inr (fun i => if i < 25 then some (rr i) else none))))))] ++ mt_rw 25 rr (u.2.2.2.2)) t) A) (va_A ([(fa, .inr (1, [.int fw, .int fh, .ref wa, .int fc, .ref ra, .ref sa, .ref ta])), (wa, .inl (cZ, 25, .inl wf)), (ra, .inl (cI, 25, .inl rf)), (sa, .inl (cI, 25, .inl sf)), (ta, .inl (cII, 25, .inr (.inr (.inr (.inr (fun i => if i < 25 then some (rr i) else none))))))] ++ mt_rw 25 rr re) sz)) 0 0 (va_A ([(fa, .inr (1, [.int fw, .int fh, .ref wa, .int fc, .ref ra, .ref sa, .ref ta])), (wa, .inl (cZ, 25, .inl wf)), (ra, .inl (cI, 25, .inl rf)), (sa, .inl (cI, 25, .inl sf)), (ta, .inl (cII, 25, .inr (.inr (.inr (.inr (fun i => if i < 25 then some (rr i) else none))))))] ++ mt_rw 25 rr re) sz) := by
  refine mt_of (y := y_fl_build) (n := 4) (av := [.ref fa, .int (nI W0), .int (nI H0)]) (QF := (fun A => va_Qv (fun (u : (Nat → Int32) × Int32 × (Nat → Int32) × (Nat → Int32) × (Nat → va_E)) => (∀ j, j < 25 → (u.1) j = 0) ∧ mt_r5 cI (u.2.2.2.2)) (fun (u : (Nat → Int32) × Int32 × (Nat → Int32) × (Nat → Int32) × (Nat → va_E)) (t : State) => mt_O D A ([(fa, .inr (1, [.int (nI W0), .int (nI H0), .ref wa, .int (u.2.1), .ref ra, .ref sa, .ref ta])), (wa, .inl (cZ, 25, .inl (u.1))), (ra, .inl (cI, 25, .inl (u.2.2.1))), (sa, .inl (cI, 25, .inl (u.2.2.2.1))), (ta, .inl (cII, 25, .inr (.inr (.inr (.inr (fun i => if i < 25 then some (rr i) else none))))))] ++ mt_rw 25 rr (u.2.2.2.2)) t) A)) (by decide) (Nat.le_of_ble_eq_true rfl) ?_
  intro p e s m below meth c ls A hx hb hr hlk hml hown hnm hg hl hX hP hK hD hA hS
  obtain ⟨H, hH⟩ : ∃ H : Heap, H = s.heap := ⟨_, rfl⟩
  have hS : va_S A s.heap H [] := by rw [hH]; exact va_S.rf
  rw [← hH] at hP ⊢
  have hown : s.vm.findClass R_fl = some m.cls := hown
  have hl : lv_has ls 4 [(0, .ref fa), (1, .int (nI W0)), (2, .int (nI H0))] := hl
  refine lv_aload_n hx hb d_fl_build_0 rfl (lv_at hl 0 rfl) ?_
  refine lv_iload_n hx hb d_fl_build_1 rfl (lv_at hl 1 rfl) ?_
  refine pf_fl_31 hx hb hg hown hK hP hD hS 0 rfl rfl rfl (Nat.le_of_ble_eq_true rfl) d_fl_build_2 (fun H locs hP hD hS => ?_)
  have hP : va_P D kls ([(fa, .inr (1, [.int (nI W0), .int fh, .ref wa, .int fc, .ref ra, .ref sa, .ref ta])), (wa, .inl (cZ, 25, .inl wf)), (ra, .inl (cI, 25, .inl rf)), (sa, .inl (cI, 25, .inl sf)), (ta, .inl (cII, 25, .inr (.inr (.inr (.inr (fun i => if i < 25 then some (rr i) else none))))))] ++ mt_rw 25 rr re) H := hP
  have hD : va_D A ([(fa, .inr (1, [.int (nI W0), .int fh, .ref wa, .int fc, .ref ra, .ref sa, .ref ta])), (wa, .inl (cZ, 25, .inl wf)), (ra, .inl (cI, 25, .inl rf)), (sa, .inl (cI, 25, .inl sf)), (ta, .inl (cII, 25, .inr (.inr (.inr (.inr (fun i => if i < 25 then some (rr i) else none))))))] ++ mt_rw 25 rr re) := hD
  refine lv_aload_n hx hb d_fl_build_5 rfl (lv_at hl 0 rfl) ?_
  refine lv_iload_n hx hb d_fl_build_6 rfl (lv_at hl 2 rfl) ?_
  refine pf_fl_35 hx hb hg hown hK hP hD hS 0 rfl rfl rfl (Nat.le_of_ble_eq_true rfl) d_fl_build_7 (fun H locs hP hD hS => ?_)
  have hP : va_P D kls ([(fa, .inr (1, [.int (nI W0), .int (nI H0), .ref wa, .int fc, .ref ra, .ref sa, .ref ta])), (wa, .inl (cZ, 25, .inl wf)), (ra, .inl (cI, 25, .inl rf)), (sa, .inl (cI, 25, .inl sf)), (ta, .inl (cII, 25, .inr (.inr (.inr (.inr (fun i => if i < 25 then some (rr i) else none))))))] ++ mt_rw 25 rr re) H := hP
  have hD : va_D A ([(fa, .inr (1, [.int (nI W0), .int (nI H0), .ref wa, .int fc, .ref ra, .ref sa, .ref ta])), (wa, .inl (cZ, 25, .inl wf)), (ra, .inl (cI, 25, .inl rf)), (sa, .inl (cI, 25, .inl sf)), (ta, .inl (cII, 25, .inr (.inr (.inr (.inr (fun i => if i < 25 then some (rr i) else none))))))] ++ mt_rw 25 rr re) := hD
  refine lv_iconst (v := 0) hx hb d_fl_build_10 (by decide) ?_
  refine lv_istore_n hx hb d_fl_build_11 rfl hl (by decide) rfl (fun ls hl => ?_)
  have hl : lv_has ls 4 [(3, .int 0), (0, .ref fa), (1, .int (nI W0)), (2, .int (nI H0))] := hl
  have hl := lv_sub hl [0, 1, 2, 3] (l' := [(3, .int (nI 0)), (0, .ref fa), (1, .int (nI W0)), (2, .int (nI H0))]) rfl
  refine mt_loop (ι := Nat × (Nat → Int32)) (I := fun i ls H locs => ((i.1) ≤ 25) ∧ (∀ j, j < (i.1) → (i.2) j = 0) ∧ lv_has ls 4 [(3, .int (nI (i.1))), (0, .ref fa), (1, .int (nI W0)), (2, .int (nI H0))] ∧ va_P D kls ([(fa, .inr (1, [.int (nI W0), .int (nI H0), .ref wa, .int fc, .ref ra, .ref sa, .ref ta])), (wa, .inl (cZ, 25, .inl (i.2))), (ra, .inl (cI, 25, .inl rf)), (sa, .inl (cI, 25, .inl sf)), (ta, .inl (cII, 25, .inr (.inr (.inr (.inr (fun i => if i < 25 then some (rr i) else none))))))] ++ mt_rw 25 rr re) H ∧ va_D A ([(fa, .inr (1, [.int (nI W0), .int (nI H0), .ref wa, .int fc, .ref ra, .ref sa, .ref ta])), (wa, .inl (cZ, 25, .inl (i.2))), (ra, .inl (cI, 25, .inl rf)), (sa, .inl (cI, 25, .inl sf)), (ta, .inl (cII, 25, .inr (.inr (.inr (.inr (fun i => if i < 25 then some (rr i) else none))))))] ++ mt_rw 25 rr re) ∧ va_S A s.heap H locs) (μ := fun i => 25 - (i.1)) ?_ (0, wf) ls H _ ⟨Nat.zero_le _, fun j h => absurd h (Nat.not_lt_zero _), hl, hP, hD, hS⟩
  clear hl hP hD hS
  intro i_a ls H locs ⟨hi, hz, hl, hP, hD, hS⟩ ih_a
  obtain ⟨iw, g⟩ := i_a
  have hi : iw ≤ 25 := hi
  have hz : ∀ j, j < iw → g j = 0 := hz
  have hl : lv_has ls 4 [(3, .int (nI iw)), (0, .ref fa), (1, .int (nI W0)), (2, .int (nI H0))] := hl
  have hP : va_P D kls ([(fa, .inr (1, [.int (nI W0), .int (nI H0), .ref wa, .int fc, .ref ra, .ref sa, .ref ta])), (wa, .inl (cZ, 25, .inl g)), (ra, .inl (cI, 25, .inl rf)), (sa, .inl (cI, 25, .inl sf)), (ta, .inl (cII, 25, .inr (.inr (.inr (.inr (fun i => if i < 25 then some (rr i) else none))))))] ++ mt_rw 25 rr re) H := hP
  have hD : va_D A ([(fa, .inr (1, [.int (nI W0), .int (nI H0), .ref wa, .int fc, .ref ra, .ref sa, .ref ta])), (wa, .inl (cZ, 25, .inl g)), (ra, .inl (cI, 25, .inl rf)), (sa, .inl (cI, 25, .inl sf)), (ta, .inl (cII, 25, .inr (.inr (.inr (.inr (fun i => if i < 25 then some (rr i) else none))))))] ++ mt_rw 25 rr re) := hD
  refine lv_iload_n hx hb d_fl_build_12 rfl (lv_at hl 0 rfl) ?_
  refine lv_bipush (v := 25) hx hb d_fl_build_13 (by decide) ?_
  refine lv_icmp_ge hx hb d_fl_build_15 rfl (fun g1 => ?_) (fun g1 => ?_)
  ·
    have g2 : iw = 25 := by rcases Nat.lt_or_ge iw 25 with h | h; exact absurd g1 (nI_ge (b := 25) h (by decide)); omega
    refine lv_aload_n hx hb d_fl_build_31 rfl (lv_at hl 1 rfl) ?_
    have hPc := hP
    have hDc := hD
    have hFc := mt_whole hD hS hA
    refine va_callv (va_runV (As := []) (rest := []) ⟨hx, hb, hml, hown, hg⟩ (c_fl_chart l D cZ cI cJ cII fa wa fc ra sa ta g rf sf rr re W0 H0 H.size hWH hre) (cwV 0 hg gv_fl_38 rfl rfl rfl (by decide +kernel) ⟨Nat.le_of_ble_eq_true rfl, Nat.le_of_ble_eq_true rfl⟩) ⟨mt_bl, va_recv (q0 := 0) (ci := 1) hK hP rfl rfl, mt_pr hX hPc hK hDc⟩ rfl rfl hl.1 rfl (lv_room (Nat.le_of_ble_eq_true rfl)) d_fl_build_32 ⟨Nat.le_of_ble_eq_true rfl, Nat.le_of_ble_eq_true rfl⟩) hS (fun q _ h => hFc q h) hFc (fun u t H1 locs ht hvm hw hB hz1 hk1 hS => ?_)
    obtain ⟨fc12, rf13, sf14, re15⟩ := u
    have hr1 : mt_r5 cI re15 := hw
    obtain ⟨hP1, hD1⟩ := hB
    rw [ht] at hP1
    have hP := hP1
    have hD := hD1.weaken (fun _ _ _ h => hFc _ h)
    generalize H1 = H at hP hS ⊢
    have hP : va_P D kls ([(fa, .inr (1, [.int (nI W0), .int (nI H0), .ref wa, .int fc12, .ref ra, .ref sa, .ref ta])), (wa, .inl (cZ, 25, .inl g)), (ra, .inl (cI, 25, .inl rf13)), (sa, .inl (cI, 25, .inl sf14)), (ta, .inl (cII, 25, .inr (.inr (.inr (.inr (fun i => if i < 25 then some (rr i) else none))))))] ++ mt_rw 25 rr re15) H := hP
    have hD : va_D A ([(fa, .inr (1, [.int (nI W0), .int (nI H0), .ref wa, .int fc12, .ref ra, .ref sa, .ref ta])), (wa, .inl (cZ, 25, .inl g)), (ra, .inl (cI, 25, .inl rf13)), (sa, .inl (cI, 25, .inl sf14)), (ta, .inl (cII, 25, .inr (.inr (.inr (.inr (fun i => if i < 25 then some (rr i) else none))))))] ++ mt_rw 25 rr re15) := hD
    have a9 := hr1
    have hP9 := hP
    have hD9 := hD
    exact W.vret hx hb hr (fun t ht hW => ⟨⟨(g, fc12, rf13, sf14, re15), rfl, ⟨fun j hj => hz j (by have : j < 25 := hj; omega), a9⟩, by rw [ht]; exact hP9, hD9⟩, hS.F ht⟩) hS.2.2 d_fl_build_35
  ·
    have g2 : iw < 25 := by rcases Nat.lt_or_ge iw 25 with h | h; exact h; exact absurd (nI_le (a := 25) h (by omega)) g1
    refine lv_aload_n hx hb d_fl_build_18 rfl (lv_at hl 1 rfl) ?_
    refine gf_fl_9 hx hb hg hown hK hP 0 rfl rfl d_fl_build_19 ?_
    refine lv_iload_n hx hb d_fl_build_22 rfl (lv_at hl 0 rfl) ?_
    refine lv_iconst (v := 0) hx hb d_fl_build_23 (by decide) ?_
    refine va_zast hx hb hK hP hD hS 1 0 rfl rfl (vp_in_nI g2 (by decide)) d_fl_build_24 (fun H locs hP hD hS => ?_)
    rw [nI_clamp (show iw < 2 ^ 31 by omega), show vp_nar .boolean 0 = 0 from rfl] at hP hD
    have hP : va_P D kls ([(fa, .inr (1, [.int (nI W0), .int (nI H0), .ref wa, .int fc, .ref ra, .ref sa, .ref ta])), (wa, .inl (cZ, 25, .inl (upd g iw 0))), (ra, .inl (cI, 25, .inl rf)), (sa, .inl (cI, 25, .inl sf)), (ta, .inl (cII, 25, .inr (.inr (.inr (.inr (fun i => if i < 25 then some (rr i) else none))))))] ++ mt_rw 25 rr re) H := hP
    have hD : va_D A ([(fa, .inr (1, [.int (nI W0), .int (nI H0), .ref wa, .int fc, .ref ra, .ref sa, .ref ta])), (wa, .inl (cZ, 25, .inl (upd g iw 0))), (ra, .inl (cI, 25, .inl rf)), (sa, .inl (cI, 25, .inl sf)), (ta, .inl (cII, 25, .inr (.inr (.inr (.inr (fun i => if i < 25 then some (rr i) else none))))))] ++ mt_rw 25 rr re) := hD
    refine lv_iinc (k := 0) (v := nI (iw + 1)) hx hb d_fl_build_25 hl rfl ((nI_succ iw).symm) (by decide) rfl (fun ls hl => ?_)
    have hl : lv_has ls 4 [(3, .int (nI (iw + 1))), (0, .ref fa), (1, .int (nI W0)), (2, .int (nI H0))] := hl
    refine lv_goto hx hb d_fl_build_28 rfl ?_
    have hl := lv_sub hl [0, 1, 2, 3] (l' := [(3, .int (nI (iw + 1))), (0, .ref fa), (1, .int (nI W0)), (2, .int (nI H0))]) rfl
    exact ih_a (iw + 1, upd g iw 0) ls H _ (by show 25 - (iw + 1) < 25 - iw; omega) ⟨by show iw + 1 ≤ 25; omega, fun j hj => mt_up0 hz j hj, hl, hP, hD, hS⟩

set_option maxHeartbeats 4000000 in
set_option maxRecDepth 100000 in
theorem c_fl_build1 (l : Launch) (D : va_G) (cZ cI cJ cII : ClassId) (fa : Nat) (wa : Nat) (fc : Int32) (ra : Nat) (sa : Nat) (ta : Nat) (fw : Int32) (fh : Int32) (wf : Nat → Int32) (rf : Nat → Int32) (sf : Nat → Int32) (rr : Nat → Nat) (re : Nat → va_E) (sz : Nat) (hre : mt_r5 cI re) : Met l y_fl_build w_fl_build ({ frames := 5, cells := 0, slots := 0, locals := 200 }) (va_Pc [.ref fa, .int 1, .int 1] (mt_B D [(cZ, .boolean), (cI, .int), (cJ, .long), (cII, .array .int)] ([(fa, .inr (1, [.int fw, .int fh, .ref wa, .int fc, .ref ra, .ref sa, .ref ta])), (wa, .inl (cZ, 25, .inl wf)), (ra, .inl (cI, 25, .inl rf)), (sa, .inl (cI, 25, .inl sf)), (ta, .inl (cII, 25, .inr (.inr (.inr (.inr (fun i => if i < 25 then some (rr i) else none))))))] ++ mt_rw 25 rr re) sz)) ((fun A => va_Qv (fun (u : (Nat → Int32) × Int32 × (Nat → Int32) × (Nat → Int32) × (Nat → va_E)) => (∀ j, j < 25 → (u.1) j = 0) ∧ (u.2.2.2.1) 0 = 1 ∧ (∃ f : Nat → Int32, (u.2.2.2.2) 0 = .inl (cI, 5, .inl f) ∧ f 0 = 0) ∧ (u.2.1) = 1 ∧ mt_r5 cI (u.2.2.2.2)) (fun (u : (Nat → Int32) × Int32 × (Nat → Int32) × (Nat → Int32) × (Nat → va_E)) (t : State) => mt_O D A ([(fa, .inr (1, [.int 1, .int 1, .ref wa, .int (u.2.1), .ref ra, .ref sa, .ref ta])), (wa, .inl (cZ, 25, .inl (u.1))), (ra, .inl (cI, 25, .inl (u.2.2.1))), (sa, .inl (cI, 25, .inl (u.2.2.2.1))), (ta, .inl (cII, 25, .inr (.inr (.inr (.inr (fun i => if i < 25 then some (rr i) else none))))))] ++ mt_rw 25 rr (u.2.2.2.2)) t) A) (va_A ([(fa, .inr (1, [.int fw, .int fh, .ref wa, .int fc, .ref ra, .ref sa, .ref ta])), (wa, .inl (cZ, 25, .inl wf)), (ra, .inl (cI, 25, .inl rf)), (sa, .inl (cI, 25, .inl sf)), (ta, .inl (cII, 25, .inr (.inr (.inr (.inr (fun i => if i < 25 then some (rr i) else none))))))] ++ mt_rw 25 rr re) sz)) 0 0 (va_A ([(fa, .inr (1, [.int fw, .int fh, .ref wa, .int fc, .ref ra, .ref sa, .ref ta])), (wa, .inl (cZ, 25, .inl wf)), (ra, .inl (cI, 25, .inl rf)), (sa, .inl (cI, 25, .inl sf)), (ta, .inl (cII, 25, .inr (.inr (.inr (.inr (fun i => if i < 25 then some (rr i) else none))))))] ++ mt_rw 25 rr re) sz) := by
  refine mt_of (y := y_fl_build) (n := 4) (av := [.ref fa, .int 1, .int 1]) (QF := (fun A => va_Qv (fun (u : (Nat → Int32) × Int32 × (Nat → Int32) × (Nat → Int32) × (Nat → va_E)) => (∀ j, j < 25 → (u.1) j = 0) ∧ (u.2.2.2.1) 0 = 1 ∧ (∃ f : Nat → Int32, (u.2.2.2.2) 0 = .inl (cI, 5, .inl f) ∧ f 0 = 0) ∧ (u.2.1) = 1 ∧ mt_r5 cI (u.2.2.2.2)) (fun (u : (Nat → Int32) × Int32 × (Nat → Int32) × (Nat → Int32) × (Nat → va_E)) (t : State) => mt_O D A ([(fa, .inr (1, [.int 1, .int 1, .ref wa, .int (u.2.1), .ref ra, .ref sa, .ref ta])), (wa, .inl (cZ, 25, .inl (u.1))), (ra, .inl (cI, 25, .inl (u.2.2.1))), (sa, .inl (cI, 25, .inl (u.2.2.2.1))), (ta, .inl (cII, 25, .inr (.inr (.inr (.inr (fun i => if i < 25 then some (rr i) else none))))))] ++ mt_rw 25 rr (u.2.2.2.2)) t) A)) (by decide) (Nat.le_of_ble_eq_true rfl) ?_
  intro p e s m below meth c ls A hx hb hr hlk hml hown hnm hg hl hX hP hK hD hA hS
  obtain ⟨H, hH⟩ : ∃ H : Heap, H = s.heap := ⟨_, rfl⟩
  have hS : va_S A s.heap H [] := by rw [hH]; exact va_S.rf
  rw [← hH] at hP ⊢
  have hown : s.vm.findClass R_fl = some m.cls := hown
  have hl : lv_has ls 4 [(0, .ref fa), (1, .int 1), (2, .int 1)] := hl
  refine lv_aload_n hx hb d_fl_build_0 rfl (lv_at hl 0 rfl) ?_
  refine lv_iload_n hx hb d_fl_build_1 rfl (lv_at hl 1 rfl) ?_
  refine pf_fl_31 hx hb hg hown hK hP hD hS 0 rfl rfl rfl (Nat.le_of_ble_eq_true rfl) d_fl_build_2 (fun H locs hP hD hS => ?_)
  have hP : va_P D kls ([(fa, .inr (1, [.int 1, .int fh, .ref wa, .int fc, .ref ra, .ref sa, .ref ta])), (wa, .inl (cZ, 25, .inl wf)), (ra, .inl (cI, 25, .inl rf)), (sa, .inl (cI, 25, .inl sf)), (ta, .inl (cII, 25, .inr (.inr (.inr (.inr (fun i => if i < 25 then some (rr i) else none))))))] ++ mt_rw 25 rr re) H := hP
  have hD : va_D A ([(fa, .inr (1, [.int 1, .int fh, .ref wa, .int fc, .ref ra, .ref sa, .ref ta])), (wa, .inl (cZ, 25, .inl wf)), (ra, .inl (cI, 25, .inl rf)), (sa, .inl (cI, 25, .inl sf)), (ta, .inl (cII, 25, .inr (.inr (.inr (.inr (fun i => if i < 25 then some (rr i) else none))))))] ++ mt_rw 25 rr re) := hD
  refine lv_aload_n hx hb d_fl_build_5 rfl (lv_at hl 0 rfl) ?_
  refine lv_iload_n hx hb d_fl_build_6 rfl (lv_at hl 2 rfl) ?_
  refine pf_fl_35 hx hb hg hown hK hP hD hS 0 rfl rfl rfl (Nat.le_of_ble_eq_true rfl) d_fl_build_7 (fun H locs hP hD hS => ?_)
  have hP : va_P D kls ([(fa, .inr (1, [.int 1, .int 1, .ref wa, .int fc, .ref ra, .ref sa, .ref ta])), (wa, .inl (cZ, 25, .inl wf)), (ra, .inl (cI, 25, .inl rf)), (sa, .inl (cI, 25, .inl sf)), (ta, .inl (cII, 25, .inr (.inr (.inr (.inr (fun i => if i < 25 then some (rr i) else none))))))] ++ mt_rw 25 rr re) H := hP
  have hD : va_D A ([(fa, .inr (1, [.int 1, .int 1, .ref wa, .int fc, .ref ra, .ref sa, .ref ta])), (wa, .inl (cZ, 25, .inl wf)), (ra, .inl (cI, 25, .inl rf)), (sa, .inl (cI, 25, .inl sf)), (ta, .inl (cII, 25, .inr (.inr (.inr (.inr (fun i => if i < 25 then some (rr i) else none))))))] ++ mt_rw 25 rr re) := hD
  refine lv_iconst (v := 0) hx hb d_fl_build_10 (by decide) ?_
  refine lv_istore_n hx hb d_fl_build_11 rfl hl (by decide) rfl (fun ls hl => ?_)
  have hl : lv_has ls 4 [(3, .int 0), (0, .ref fa), (1, .int 1), (2, .int 1)] := hl
  have hl := lv_sub hl [0, 1, 2, 3] (l' := [(3, .int (nI 0)), (0, .ref fa), (1, .int 1), (2, .int 1)]) rfl
  refine mt_loop (ι := Nat × (Nat → Int32)) (I := fun i ls H locs => ((i.1) ≤ 25) ∧ (∀ j, j < (i.1) → (i.2) j = 0) ∧ lv_has ls 4 [(3, .int (nI (i.1))), (0, .ref fa), (1, .int 1), (2, .int 1)] ∧ va_P D kls ([(fa, .inr (1, [.int 1, .int 1, .ref wa, .int fc, .ref ra, .ref sa, .ref ta])), (wa, .inl (cZ, 25, .inl (i.2))), (ra, .inl (cI, 25, .inl rf)), (sa, .inl (cI, 25, .inl sf)), (ta, .inl (cII, 25, .inr (.inr (.inr (.inr (fun i => if i < 25 then some (rr i) else none))))))] ++ mt_rw 25 rr re) H ∧ va_D A ([(fa, .inr (1, [.int 1, .int 1, .ref wa, .int fc, .ref ra, .ref sa, .ref ta])), (wa, .inl (cZ, 25, .inl (i.2))), (ra, .inl (cI, 25, .inl rf)), (sa, .inl (cI, 25, .inl sf)), (ta, .inl (cII, 25, .inr (.inr (.inr (.inr (fun i => if i < 25 then some (rr i) else none))))))] ++ mt_rw 25 rr re) ∧ va_S A s.heap H locs) (μ := fun i => 25 - (i.1)) ?_ (0, wf) ls H _ ⟨Nat.zero_le _, fun j h => absurd h (Nat.not_lt_zero _), hl, hP, hD, hS⟩
  clear hl hP hD hS
  intro i_a ls H locs ⟨hi, hz, hl, hP, hD, hS⟩ ih_a
  obtain ⟨iw, g⟩ := i_a
  have hi : iw ≤ 25 := hi
  have hz : ∀ j, j < iw → g j = 0 := hz
  have hl : lv_has ls 4 [(3, .int (nI iw)), (0, .ref fa), (1, .int 1), (2, .int 1)] := hl
  have hP : va_P D kls ([(fa, .inr (1, [.int 1, .int 1, .ref wa, .int fc, .ref ra, .ref sa, .ref ta])), (wa, .inl (cZ, 25, .inl g)), (ra, .inl (cI, 25, .inl rf)), (sa, .inl (cI, 25, .inl sf)), (ta, .inl (cII, 25, .inr (.inr (.inr (.inr (fun i => if i < 25 then some (rr i) else none))))))] ++ mt_rw 25 rr re) H := hP
  have hD : va_D A ([(fa, .inr (1, [.int 1, .int 1, .ref wa, .int fc, .ref ra, .ref sa, .ref ta])), (wa, .inl (cZ, 25, .inl g)), (ra, .inl (cI, 25, .inl rf)), (sa, .inl (cI, 25, .inl sf)), (ta, .inl (cII, 25, .inr (.inr (.inr (.inr (fun i => if i < 25 then some (rr i) else none))))))] ++ mt_rw 25 rr re) := hD
  refine lv_iload_n hx hb d_fl_build_12 rfl (lv_at hl 0 rfl) ?_
  refine lv_bipush (v := 25) hx hb d_fl_build_13 (by decide) ?_
  refine lv_icmp_ge hx hb d_fl_build_15 rfl (fun g1 => ?_) (fun g1 => ?_)
  ·
    have g2 : iw = 25 := by rcases Nat.lt_or_ge iw 25 with h | h; exact absurd g1 (nI_ge (b := 25) h (by decide)); omega
    refine lv_aload_n hx hb d_fl_build_31 rfl (lv_at hl 1 rfl) ?_
    have hPc := hP
    have hDc := hD
    have hFc := mt_whole hD hS hA
    refine va_callv (va_runV (As := []) (rest := []) ⟨hx, hb, hml, hown, hg⟩ (c_fl_chart1 l D cZ cI cJ cII fa wa fc ra sa ta g rf sf rr re H.size (hz 0 (by omega)) hre) (cwV 0 hg gv_fl_38 rfl rfl rfl (by decide +kernel) ⟨Nat.le_of_ble_eq_true rfl, Nat.le_of_ble_eq_true rfl⟩) ⟨mt_bl, va_recv (q0 := 0) (ci := 1) hK hP rfl rfl, mt_pr hX hPc hK hDc⟩ rfl rfl hl.1 rfl (lv_room (Nat.le_of_ble_eq_true rfl)) d_fl_build_32 ⟨Nat.le_of_ble_eq_true rfl, Nat.le_of_ble_eq_true rfl⟩) hS (fun q _ h => hFc q h) hFc (fun u t H1 locs ht hvm hw hB hz1 hk1 hS => ?_)
    obtain ⟨fc12, rf13, sf14, re15⟩ := u
    have hr1 : sf14 0 = 1 ∧ (∃ f : Nat → Int32, re15 0 = .inl (cI, 5, .inl f) ∧ f 0 = 0) ∧ fc12 = 1 ∧ mt_r5 cI re15 := hw
    obtain ⟨hP1, hD1⟩ := hB
    rw [ht] at hP1
    have hP := hP1
    have hD := hD1.weaken (fun _ _ _ h => hFc _ h)
    generalize H1 = H at hP hS ⊢
    have hP : va_P D kls ([(fa, .inr (1, [.int 1, .int 1, .ref wa, .int fc12, .ref ra, .ref sa, .ref ta])), (wa, .inl (cZ, 25, .inl g)), (ra, .inl (cI, 25, .inl rf13)), (sa, .inl (cI, 25, .inl sf14)), (ta, .inl (cII, 25, .inr (.inr (.inr (.inr (fun i => if i < 25 then some (rr i) else none))))))] ++ mt_rw 25 rr re15) H := hP
    have hD : va_D A ([(fa, .inr (1, [.int 1, .int 1, .ref wa, .int fc12, .ref ra, .ref sa, .ref ta])), (wa, .inl (cZ, 25, .inl g)), (ra, .inl (cI, 25, .inl rf13)), (sa, .inl (cI, 25, .inl sf14)), (ta, .inl (cII, 25, .inr (.inr (.inr (.inr (fun i => if i < 25 then some (rr i) else none))))))] ++ mt_rw 25 rr re15) := hD
    have a9 := hr1
    have hP9 := hP
    have hD9 := hD
    exact W.vret hx hb hr (fun t ht hW => ⟨⟨(g, fc12, rf13, sf14, re15), rfl, ⟨fun j hj => hz j (by have : j < 25 := hj; omega), a9⟩, by rw [ht]; exact hP9, hD9⟩, hS.F ht⟩) hS.2.2 d_fl_build_35
  ·
    have g2 : iw < 25 := by rcases Nat.lt_or_ge iw 25 with h | h; exact h; exact absurd (nI_le (a := 25) h (by omega)) g1
    refine lv_aload_n hx hb d_fl_build_18 rfl (lv_at hl 1 rfl) ?_
    refine gf_fl_9 hx hb hg hown hK hP 0 rfl rfl d_fl_build_19 ?_
    refine lv_iload_n hx hb d_fl_build_22 rfl (lv_at hl 0 rfl) ?_
    refine lv_iconst (v := 0) hx hb d_fl_build_23 (by decide) ?_
    refine va_zast hx hb hK hP hD hS 1 0 rfl rfl (vp_in_nI g2 (by decide)) d_fl_build_24 (fun H locs hP hD hS => ?_)
    rw [nI_clamp (show iw < 2 ^ 31 by omega), show vp_nar .boolean 0 = 0 from rfl] at hP hD
    have hP : va_P D kls ([(fa, .inr (1, [.int 1, .int 1, .ref wa, .int fc, .ref ra, .ref sa, .ref ta])), (wa, .inl (cZ, 25, .inl (upd g iw 0))), (ra, .inl (cI, 25, .inl rf)), (sa, .inl (cI, 25, .inl sf)), (ta, .inl (cII, 25, .inr (.inr (.inr (.inr (fun i => if i < 25 then some (rr i) else none))))))] ++ mt_rw 25 rr re) H := hP
    have hD : va_D A ([(fa, .inr (1, [.int 1, .int 1, .ref wa, .int fc, .ref ra, .ref sa, .ref ta])), (wa, .inl (cZ, 25, .inl (upd g iw 0))), (ra, .inl (cI, 25, .inl rf)), (sa, .inl (cI, 25, .inl sf)), (ta, .inl (cII, 25, .inr (.inr (.inr (.inr (fun i => if i < 25 then some (rr i) else none))))))] ++ mt_rw 25 rr re) := hD
    refine lv_iinc (k := 0) (v := nI (iw + 1)) hx hb d_fl_build_25 hl rfl ((nI_succ iw).symm) (by decide) rfl (fun ls hl => ?_)
    have hl : lv_has ls 4 [(3, .int (nI (iw + 1))), (0, .ref fa), (1, .int 1), (2, .int 1)] := hl
    refine lv_goto hx hb d_fl_build_28 rfl ?_
    have hl := lv_sub hl [0, 1, 2, 3] (l' := [(3, .int (nI (iw + 1))), (0, .ref fa), (1, .int 1), (2, .int 1)]) rfl
    exact ih_a (iw + 1, upd g iw 0) ls H _ (by show 25 - (iw + 1) < 25 - iw; omega) ⟨by show iw + 1 ≤ 25; omega, fun j hj => mt_up0 hz j hj, hl, hP, hD, hS⟩

set_option maxHeartbeats 4000000 in
set_option maxRecDepth 100000 in
theorem c_fl_turn (l : Launch) (D : va_G) (cZ cI cJ cII : ClassId) (fa : Nat) (wa : Nat) (fc : Int32) (ra : Nat) (sa : Nat) (ta : Nat) (wf : Nat → Int32) (rf : Nat → Int32) (sf : Nat → Int32) (rr : Nat → Nat) (re : Nat → va_E) (sz : Nat) (hw0 : wf 0 = 0) (hre : mt_r5 cI re) : Met l y_fl_turn w_fl_turn ({ frames := 5, cells := 0, slots := 0, locals := 200 }) (va_Pc [.ref fa, .int 0] (mt_B D [(cZ, .boolean), (cI, .int), (cJ, .long), (cII, .array .int)] ([(fa, .inr (1, [.int 1, .int 1, .ref wa, .int fc, .ref ra, .ref sa, .ref ta])), (wa, .inl (cZ, 25, .inl wf)), (ra, .inl (cI, 25, .inl rf)), (sa, .inl (cI, 25, .inl sf)), (ta, .inl (cII, 25, .inr (.inr (.inr (.inr (fun i => if i < 25 then some (rr i) else none))))))] ++ mt_rw 25 rr re) sz)) ((fun A => va_Qv (fun (u : Int32 × (Nat → Int32) × (Nat → Int32) × (Nat → va_E)) => True) (fun (u : Int32 × (Nat → Int32) × (Nat → Int32) × (Nat → va_E)) (t : State) => mt_O D A ([(fa, .inr (1, [.int 1, .int 1, .ref wa, .int (u.1), .ref ra, .ref sa, .ref ta])), (wa, .inl (cZ, 25, .inl (upd wf 0 1))), (ra, .inl (cI, 25, .inl (u.2.1))), (sa, .inl (cI, 25, .inl (u.2.2.1))), (ta, .inl (cII, 25, .inr (.inr (.inr (.inr (fun i => if i < 25 then some (rr i) else none))))))] ++ mt_rw 25 rr (u.2.2.2)) t) A) (va_A ([(fa, .inr (1, [.int 1, .int 1, .ref wa, .int fc, .ref ra, .ref sa, .ref ta])), (wa, .inl (cZ, 25, .inl wf)), (ra, .inl (cI, 25, .inl rf)), (sa, .inl (cI, 25, .inl sf)), (ta, .inl (cII, 25, .inr (.inr (.inr (.inr (fun i => if i < 25 then some (rr i) else none))))))] ++ mt_rw 25 rr re) sz)) 0 0 (va_A ([(fa, .inr (1, [.int 1, .int 1, .ref wa, .int fc, .ref ra, .ref sa, .ref ta])), (wa, .inl (cZ, 25, .inl wf)), (ra, .inl (cI, 25, .inl rf)), (sa, .inl (cI, 25, .inl sf)), (ta, .inl (cII, 25, .inr (.inr (.inr (.inr (fun i => if i < 25 then some (rr i) else none))))))] ++ mt_rw 25 rr re) sz) := by
  refine mt_of (y := y_fl_turn) (n := 2) (av := [.ref fa, .int 0]) (QF := (fun A => va_Qv (fun (u : Int32 × (Nat → Int32) × (Nat → Int32) × (Nat → va_E)) => True) (fun (u : Int32 × (Nat → Int32) × (Nat → Int32) × (Nat → va_E)) (t : State) => mt_O D A ([(fa, .inr (1, [.int 1, .int 1, .ref wa, .int (u.1), .ref ra, .ref sa, .ref ta])), (wa, .inl (cZ, 25, .inl (upd wf 0 1))), (ra, .inl (cI, 25, .inl (u.2.1))), (sa, .inl (cI, 25, .inl (u.2.2.1))), (ta, .inl (cII, 25, .inr (.inr (.inr (.inr (fun i => if i < 25 then some (rr i) else none))))))] ++ mt_rw 25 rr (u.2.2.2)) t) A)) (by decide) (Nat.le_of_ble_eq_true rfl) ?_
  intro p e s m below meth c ls A hx hb hr hlk hml hown hnm hg hl hX hP hK hD hA hS
  obtain ⟨H, hH⟩ : ∃ H : Heap, H = s.heap := ⟨_, rfl⟩
  have hS : va_S A s.heap H [] := by rw [hH]; exact va_S.rf
  rw [← hH] at hP ⊢
  have hown : s.vm.findClass R_fl = some m.cls := hown
  have hl : lv_has ls 2 [(0, .ref fa), (1, .int 0)] := hl
  refine lv_aload_n hx hb d_fl_turn_0 rfl (lv_at hl 0 rfl) ?_
  refine gf_fl_9 hx hb hg hown hK hP 0 rfl rfl d_fl_turn_1 ?_
  refine lv_iload_n hx hb d_fl_turn_4 rfl (lv_at hl 1 rfl) ?_
  refine lv_aload_n hx hb d_fl_turn_5 rfl (lv_at hl 0 rfl) ?_
  refine gf_fl_9 hx hb hg hown hK hP 0 rfl rfl d_fl_turn_6 ?_
  refine lv_iload_n hx hb d_fl_turn_9 rfl (lv_at hl 1 rfl) ?_
  refine va_zald hx hb hK hP 1 0 rfl rfl (by unfold vp_in; decide) d_fl_turn_10 ?_
  refine lv_topi (fun y1 ey1 => ?_)
  have ey1 : y1 = 0 := ey1.trans hw0
  subst ey1
  refine lv_if_ne hx hb d_fl_turn_11 rfl (fun h => absurd (by decide) h) (fun _ => ?_)
  refine lv_iconst (v := 1) hx hb d_fl_turn_14 (by decide) ?_
  refine lv_goto hx hb d_fl_turn_15 rfl ?_
  refine va_zast hx hb hK hP hD hS 1 0 rfl rfl (by unfold vp_in; decide) d_fl_turn_19 (fun H locs hP hD hS => ?_)
  have hP : va_P D kls ([(fa, .inr (1, [.int 1, .int 1, .ref wa, .int fc, .ref ra, .ref sa, .ref ta])), (wa, .inl (cZ, 25, .inl (upd wf 0 1))), (ra, .inl (cI, 25, .inl rf)), (sa, .inl (cI, 25, .inl sf)), (ta, .inl (cII, 25, .inr (.inr (.inr (.inr (fun i => if i < 25 then some (rr i) else none))))))] ++ mt_rw 25 rr re) H := hP
  have hD : va_D A ([(fa, .inr (1, [.int 1, .int 1, .ref wa, .int fc, .ref ra, .ref sa, .ref ta])), (wa, .inl (cZ, 25, .inl (upd wf 0 1))), (ra, .inl (cI, 25, .inl rf)), (sa, .inl (cI, 25, .inl sf)), (ta, .inl (cII, 25, .inr (.inr (.inr (.inr (fun i => if i < 25 then some (rr i) else none))))))] ++ mt_rw 25 rr re) := hD
  refine lv_aload_n hx hb d_fl_turn_20 rfl (lv_at hl 0 rfl) ?_
  have hPc := hP
  have hDc := hD
  have hFc := mt_whole hD hS hA
  refine va_callv (va_runV (As := []) (rest := []) ⟨hx, hb, hml, hown, hg⟩ (c_fl_chart l D cZ cI cJ cII fa wa fc ra sa ta (upd wf 0 1) rf sf rr re 1 1 H.size (by decide) hre) (cwV 0 hg gv_fl_38 rfl rfl rfl (by decide +kernel) ⟨Nat.le_of_ble_eq_true rfl, Nat.le_of_ble_eq_true rfl⟩) ⟨mt_bl, va_recv (q0 := 0) (ci := 1) hK hP rfl rfl, mt_pr hX hPc hK hDc⟩ rfl rfl hl.1 rfl (lv_room (Nat.le_of_ble_eq_true rfl)) d_fl_turn_21 ⟨Nat.le_of_ble_eq_true rfl, Nat.le_of_ble_eq_true rfl⟩) hS (fun q _ h => hFc q h) hFc (fun u t H1 locs ht hvm hw hB hz1 hk1 hS => ?_)
  obtain ⟨fc13, rf14, sf15, re16⟩ := u
  have hr2 : mt_r5 cI re16 := hw
  obtain ⟨hP1, hD1⟩ := hB
  rw [ht] at hP1
  have hP := hP1
  have hD := hD1.weaken (fun _ _ _ h => hFc _ h)
  generalize H1 = H at hP hS ⊢
  have hP : va_P D kls ([(fa, .inr (1, [.int (nI 1), .int (nI 1), .ref wa, .int fc13, .ref ra, .ref sa, .ref ta])), (wa, .inl (cZ, 25, .inl (upd wf 0 1))), (ra, .inl (cI, 25, .inl rf14)), (sa, .inl (cI, 25, .inl sf15)), (ta, .inl (cII, 25, .inr (.inr (.inr (.inr (fun i => if i < 25 then some (rr i) else none))))))] ++ mt_rw 25 rr re16) H := hP
  have hD : va_D A ([(fa, .inr (1, [.int (nI 1), .int (nI 1), .ref wa, .int fc13, .ref ra, .ref sa, .ref ta])), (wa, .inl (cZ, 25, .inl (upd wf 0 1))), (ra, .inl (cI, 25, .inl rf14)), (sa, .inl (cI, 25, .inl sf15)), (ta, .inl (cII, 25, .inr (.inr (.inr (.inr (fun i => if i < 25 then some (rr i) else none))))))] ++ mt_rw 25 rr re16) := hD
  have hP9 := hP
  have hD9 := hD
  exact W.vret hx hb hr (fun t ht hW => ⟨⟨(fc13, rf14, sf15, re16), rfl, trivial, by rw [ht]; exact hP9, hD9⟩, hS.F ht⟩) hS.2.2 d_fl_turn_24
end
section
section MTN
variable {p : Program} {l : Launch} {e : Env} {R : Room} {s : State} {m : MethodId} {args : Array Value} {below : List Frame} {meth : Method} {c : Code} {H : Heap} {locs : List Loc} {cells slots : Nat} {Q : State → Prop}
variable {cc : ByteArray} {pc : Nat} {ls : Array Slot} {rest : List Value} {D : va_G} {cl : List vw_C} {A : Nat → Prop} {a : Nat} {tys : List (ClassId × FieldType)} {ws : va_W} {H0 : Heap}
theorem mt_newI (hexec : p.tables.exec = Jvm.exec) (hb : c.code = cc) (harr : (Cond.arrayClass .int).before args s = true) (hK : va_K D cl tys s) (hP : va_P D cl ws H) (hD : va_D A ws) (hS : va_S A H0 H locs) (hA : ∀ q, H0.size ≤ q → A q) (t0 : Nat) {cA : ClassId} (ht : tys[t0]? = some (cA, .int)) {n : Int32} (N : Nat) (hn : ¬ n < 0) (hN : n.toNatClampNeg = N) (hbytes : N * 8 ≤ 536870912) (hcells : cells + 1 ≤ R.cells) (hslots : slots + N ≤ R.slots) (hdg : decode cc pc = .ok (.newarray .int, 2))
    (kk : ∀ (q : Nat) (H1 : Heap), va_P D cl (ws ++ [(q, .inl (cA, N, .inl (fun _ => 0)))]) H1 → va_D A (ws ++ [(q, .inl (cA, N, .inl (fun _ => 0)))]) → va_S A H0 H1 locs → W p l e R s m args below meth c H1 locs (cells + 1) (slots + N) Q (F0 m (pc + 2) ls (.ref q :: rest))) : W p l e R s m args below meth c H locs cells slots Q (F0 m pc ls (.int n :: rest)) :=
  mt_newa (atype := .int) (ty := .int) (N' := N) (a0 := (N, .inl (fun _ => 0))) hexec hb harr rfl hK hP hD hS hA t0 ht (mt_ra (fun _ h => h)) (fun _ => rfl) hn hN (Nat.le_trans (Nat.mul_le_mul_left N (show componentBytes .int ≤ 8 by decide)) hbytes) hcells hslots hdg kk
theorem mt_newZ (hexec : p.tables.exec = Jvm.exec) (hb : c.code = cc) (harr : (Cond.arrayClass .boolean).before args s = true) (hK : va_K D cl tys s) (hP : va_P D cl ws H) (hD : va_D A ws) (hS : va_S A H0 H locs) (hA : ∀ q, H0.size ≤ q → A q) (t0 : Nat) {cA : ClassId} (ht : tys[t0]? = some (cA, .boolean)) {n : Int32} (N : Nat) (hn : ¬ n < 0) (hN : n.toNatClampNeg = N) (hbytes : N * 8 ≤ 536870912) (hcells : cells + 1 ≤ R.cells) (hslots : slots + N ≤ R.slots) (hdg : decode cc pc = .ok (.newarray .boolean, 2))
    (kk : ∀ (q : Nat) (H1 : Heap), va_P D cl (ws ++ [(q, .inl (cA, N, .inl (fun _ => 0)))]) H1 → va_D A (ws ++ [(q, .inl (cA, N, .inl (fun _ => 0)))]) → va_S A H0 H1 locs → W p l e R s m args below meth c H1 locs (cells + 1) (slots + N) Q (F0 m (pc + 2) ls (.ref q :: rest))) : W p l e R s m args below meth c H locs cells slots Q (F0 m pc ls (.int n :: rest)) :=
  mt_newa (atype := .boolean) (ty := .boolean) (N' := N) (a0 := (N, .inl (fun _ => 0))) hexec hb harr rfl hK hP hD hS hA t0 ht (mt_ra (fun _ h => h)) (fun _ => rfl) hn hN (Nat.le_trans (Nat.mul_le_mul_left N (show componentBytes .boolean ≤ 8 by decide)) hbytes) hcells hslots hdg kk
theorem mt_newJ (hexec : p.tables.exec = Jvm.exec) (hb : c.code = cc) (harr : (Cond.arrayClass .long).before args s = true) (hK : va_K D cl tys s) (hP : va_P D cl ws H) (hD : va_D A ws) (hS : va_S A H0 H locs) (hA : ∀ q, H0.size ≤ q → A q) (t0 : Nat) {cA : ClassId} (ht : tys[t0]? = some (cA, .long)) {n : Int32} (N : Nat) (hn : ¬ n < 0) (hN : n.toNatClampNeg = N) (hbytes : N * 8 ≤ 536870912) (hcells : cells + 1 ≤ R.cells) (hslots : slots + N ≤ R.slots) (hdg : decode cc pc = .ok (.newarray .long, 2))
    (kk : ∀ (q : Nat) (H1 : Heap), va_P D cl (ws ++ [(q, .inl (cA, N, .inr (.inl (fun _ => 0))))]) H1 → va_D A (ws ++ [(q, .inl (cA, N, .inr (.inl (fun _ => 0))))]) → va_S A H0 H1 locs → W p l e R s m args below meth c H1 locs (cells + 1) (slots + N) Q (F0 m (pc + 2) ls (.ref q :: rest))) : W p l e R s m args below meth c H locs cells slots Q (F0 m pc ls (.int n :: rest)) :=
  mt_newa (atype := .long) (ty := .long) (N' := N) (a0 := (N, .inr (.inl (fun _ => 0)))) hexec hb harr rfl hK hP hD hS hA t0 ht (mt_ra (fun _ h => h)) (fun _ => rfl) hn hN (Nat.le_trans (Nat.mul_le_mul_left N (show componentBytes .long ≤ 8 by decide)) hbytes) hcells hslots hdg kk
end MTN
end
section
theorem mt_rotP {D : va_G} {cl : List vw_C} {ws : va_W} {x : Nat × va_E} {H : Heap} (h : va_P D cl (ws ++ [x]) H) : va_P D cl ([x] ++ ws) H := va_P.swap (a := []) (b := ws) (c := [x]) h
theorem mt_rotD {A : Nat → Prop} {ws : va_W} {x : Nat × va_E} (h : va_D A (ws ++ [x])) : va_D A ([x] ++ ws) := va_D.swap (a := []) (b := ws) (c := [x]) h
theorem mt_hd {D : va_G} {cl : List vw_C} {R : va_W} {x : Nat × va_E} {H : Heap} (h : va_P D cl ([x] ++ R) H) : va_P D cl [x] H := h.sub [0] rfl
theorem mt_hdD {A : Nat → Prop} {R : va_W} {x : Nat × va_E} (h : va_D A ([x] ++ R)) : va_D A [x] := h.sub [0] (by decide) rfl
theorem mt_hdF {A : Nat → Prop} {R : va_W} {x : Nat × va_E} {H0 H : Heap} {locs : List Loc} (hD : va_D A ([x] ++ R)) (hS : va_S A H0 H locs) (hA : ∀ q, H0.size ≤ q → A q) : ∀ q, va_A [x] H.size q → A q := va_free (wc := [x]) hD hS hA [0] rfl
/-- a call over the first cell alone: the others stand, what came back stands behind them -/
theorem mt_join1 {A0 : Nat → Prop} {D : va_G} {cl : List vw_C} {x : Nat × va_E} {R w1 : va_W} {H H1 : Heap} (hP : va_P D cl ([x] ++ R) H) (hD : va_D A0 ([x] ++ R))
    (hk : ∀ q : Nat, q < H.size → ¬ va_A [x] H.size q → H1[q]? = H[q]?) (hF : ∀ q, va_A [x] H.size q → A0 q) (hP1 : va_P D cl w1 H1) (hD1 : va_D (va_A [x] H.size) w1) : va_P D cl (R ++ w1) H1 ∧ va_D A0 (R ++ w1) := by
  have hR : va_P D cl R H := fun k q hq => hP (k + 1) q hq
  have hDR : va_D A0 R := ⟨fun i j p q hi hj e => Nat.succ.inj (hD.1 (i + 1) (j + 1) p q hi hj e), fun k q hq => hD.2 (k + 1) q hq⟩
  have hne : ∀ (k : Nat) (q : Nat × va_E), R[k]? = some q → ¬ va_A [x] H.size q.1 := by
    intro k q hq h
    rcases h with ⟨i, e, hi⟩ | h
    · have hi0 : i < 1 := (List.getElem?_eq_some_iff.mp hi).1
      have e0 : i = 0 := by omega
      subst e0
      have hx : x = (q.1, e) := Option.some.inj hi
      have := hD.1 0 (k + 1) x q rfl hq (by rw [hx])
      omega
    · have := (hR k q hq).lt
      omega
  refine ⟨(hR.kept (fun k q hq => hk q.1 ((hR k q hq).lt) (hne k q hq))).app hP1, va_D.app hDR (hD1.weaken (fun _ _ _ h => hF _ h)) ?_⟩
  intro i j p q hi hj e
  exact hne i p hi (by rw [e]; exact hD1.2 j q hj)
end
section
set_option maxHeartbeats 4000000 in
set_option maxRecDepth 100000 in
theorem c_le_init (l : Launch) (D : va_G) (cZ cI cJ cII : ClassId) (la : Nat) (sz : Nat)  : Met l y_le_init w_le_init ({ frames := 1, cells := 1, slots := 1296, locals := 40 }) (va_Pc [.ref la] (mt_B D [(cZ, .boolean), (cI, .int), (cJ, .long), (cII, .array .int)] [(la, .inr (3, [.null]))] sz)) ((fun A => va_Qv (fun (u : Nat) => True) (fun (u : Nat) (t : State) => mt_O D A [(la, .inr (3, [.ref u])), (u, .inl (cJ, 1296, .inr (.inl (fun _ => 0))))] t) A) (va_A [(la, .inr (3, [.null]))] sz)) 1 1296 (va_A [(la, .inr (3, [.null]))] sz) := by
  refine mt_of (y := y_le_init) (n := 1) (av := [.ref la]) (QF := (fun A => va_Qv (fun (u : Nat) => True) (fun (u : Nat) (t : State) => mt_O D A [(la, .inr (3, [.ref u])), (u, .inl (cJ, 1296, .inr (.inl (fun _ => 0))))] t) A)) (by decide) (Nat.le_of_ble_eq_true rfl) ?_
  intro p e s m below meth c ls A hx hb hr hlk hml hown hnm hg hl hX hP hK hD hA hS
  obtain ⟨H, hH⟩ : ∃ H : Heap, H = s.heap := ⟨_, rfl⟩
  have hS : va_S A s.heap H [] := by rw [hH]; exact va_S.rf
  rw [← hH] at hP ⊢
  have hown : s.vm.findClass R_le = some m.cls := hown
  have hl : lv_has ls 1 [(0, .ref la)] := hl
  refine lv_aload_n hx hb d_le_init_0 rfl (lv_at hl 0 rfl) ?_
  refine W.objInit hx hb hown (hg _ go_le) (hg _ go_m) (hg _ go_c) rfl (by rw [hml]; exact hl.1) rfl d_le_init_1 (Nat.le_of_ble_eq_true rfl) (Nat.le_of_ble_eq_true rfl) ?_
  refine W.eq (g2 := F0 m 4 ls []) rfl ?_
  refine lv_aload_n hx hb d_le_init_4 rfl (lv_at hl 0 rfl) ?_
  refine lv_sipush (v := 1296) hx hb d_le_init_5 (by decide) ?_
  refine mt_newJ hx hb (hg _ ga_long) hK hP hD hS hA 2 rfl 1296 (by decide) (by decide) (by decide) (Nat.le_of_ble_eq_true rfl) (Nat.le_of_ble_eq_true rfl) d_le_init_8 (fun q1 H hP hD hS => ?_)
  have hP : va_P D kls [(la, .inr (3, [.null])), (q1, .inl (cJ, 1296, .inr (.inl (fun _ => 0))))] H := hP
  have hD : va_D A [(la, .inr (3, [.null])), (q1, .inl (cJ, 1296, .inr (.inl (fun _ => 0))))] := hD
  refine W.widen (k := 1) (n := 1296) (Nat.le_of_ble_eq_true rfl) (Nat.le_of_ble_eq_true rfl) ?_
  refine pf_le_9 hx hb hg hown hnm hK hP hD hS 0 rfl rfl rfl (Nat.le_of_ble_eq_true rfl) d_le_init_10 (fun H locs hP hD hS => ?_)
  have hP : va_P D kls [(la, .inr (3, [.ref q1])), (q1, .inl (cJ, 1296, .inr (.inl (fun _ => 0))))] H := hP
  have hD : va_D A [(la, .inr (3, [.ref q1])), (q1, .inl (cJ, 1296, .inr (.inl (fun _ => 0))))] := hD
  refine W.widen (k := 1) (n := 1296) (Nat.le_of_ble_eq_true rfl) (Nat.le_of_ble_eq_true rfl) ?_
  have hP9 := hP
  have hD9 := hD
  exact W.vret hx hb hr (fun t ht hW => ⟨⟨(q1), rfl, trivial, by rw [ht]; exact hP9, hD9⟩, hS.F ht⟩) hS.2.2 d_le_init_13
end
section
set_option maxHeartbeats 4000000 in
set_option maxRecDepth 100000 in
theorem c_fl_init (l : Launch) (D : va_G) (cZ cI cJ cII : ClassId) (fa : Nat) (sz : Nat)  : Met l y_fl_init w_fl_init ({ frames := 6, cells := 29, slots := 225, locals := 240 }) (va_Pc [.ref fa] (mt_B D [(cZ, .boolean), (cI, .int), (cJ, .long), (cII, .array .int)] [(fa, .inr (1, [.int 0, .int 0, .null, .int 0, .null, .null, .null]))] sz)) ((fun A => va_Qv (fun (u : Nat × Nat × Nat × Nat × (Nat → Nat) × (Nat → Int32) × Int32 × (Nat → Int32) × (Nat → Int32) × (Nat → va_E)) => (∀ j, j < 25 → (u.2.2.2.2.2.1) j = 0) ∧ (u.2.2.2.2.2.2.2.2.1) 0 = 1 ∧ (∃ f : Nat → Int32, (u.2.2.2.2.2.2.2.2.2) 0 = .inl (cI, 5, .inl f) ∧ f 0 = 0) ∧ (u.2.2.2.2.2.2.1) = 1 ∧ mt_r5 cI (u.2.2.2.2.2.2.2.2.2)) (fun (u : Nat × Nat × Nat × Nat × (Nat → Nat) × (Nat → Int32) × Int32 × (Nat → Int32) × (Nat → Int32) × (Nat → va_E)) (t : State) => mt_O D A ([(fa, .inr (1, [.int 1, .int 1, .ref (u.1), .int (u.2.2.2.2.2.2.1), .ref (u.2.1), .ref (u.2.2.1), .ref (u.2.2.2.1)])), ((u.1), .inl (cZ, 25, .inl (u.2.2.2.2.2.1))), ((u.2.1), .inl (cI, 25, .inl (u.2.2.2.2.2.2.2.1))), ((u.2.2.1), .inl (cI, 25, .inl (u.2.2.2.2.2.2.2.2.1))), ((u.2.2.2.1), .inl (cII, 25, .inr (.inr (.inr (.inr (fun i => if i < 25 then some ((u.2.2.2.2.1) i) else none))))))] ++ mt_rw 25 (u.2.2.2.2.1) (u.2.2.2.2.2.2.2.2.2)) t) A) (va_A [(fa, .inr (1, [.int 0, .int 0, .null, .int 0, .null, .null, .null]))] sz)) 29 225 (va_A [(fa, .inr (1, [.int 0, .int 0, .null, .int 0, .null, .null, .null]))] sz) := by
  refine mt_of (y := y_fl_init) (n := 1) (av := [.ref fa]) (QF := (fun A => va_Qv (fun (u : Nat × Nat × Nat × Nat × (Nat → Nat) × (Nat → Int32) × Int32 × (Nat → Int32) × (Nat → Int32) × (Nat → va_E)) => (∀ j, j < 25 → (u.2.2.2.2.2.1) j = 0) ∧ (u.2.2.2.2.2.2.2.2.1) 0 = 1 ∧ (∃ f : Nat → Int32, (u.2.2.2.2.2.2.2.2.2) 0 = .inl (cI, 5, .inl f) ∧ f 0 = 0) ∧ (u.2.2.2.2.2.2.1) = 1 ∧ mt_r5 cI (u.2.2.2.2.2.2.2.2.2)) (fun (u : Nat × Nat × Nat × Nat × (Nat → Nat) × (Nat → Int32) × Int32 × (Nat → Int32) × (Nat → Int32) × (Nat → va_E)) (t : State) => mt_O D A ([(fa, .inr (1, [.int 1, .int 1, .ref (u.1), .int (u.2.2.2.2.2.2.1), .ref (u.2.1), .ref (u.2.2.1), .ref (u.2.2.2.1)])), ((u.1), .inl (cZ, 25, .inl (u.2.2.2.2.2.1))), ((u.2.1), .inl (cI, 25, .inl (u.2.2.2.2.2.2.2.1))), ((u.2.2.1), .inl (cI, 25, .inl (u.2.2.2.2.2.2.2.2.1))), ((u.2.2.2.1), .inl (cII, 25, .inr (.inr (.inr (.inr (fun i => if i < 25 then some ((u.2.2.2.2.1) i) else none))))))] ++ mt_rw 25 (u.2.2.2.2.1) (u.2.2.2.2.2.2.2.2.2)) t) A)) (by decide) (Nat.le_of_ble_eq_true rfl) ?_
  intro p e s m below meth c ls A hx hb hr hlk hml hown hnm hg hl hX hP hK hD hA hS
  obtain ⟨H, hH⟩ : ∃ H : Heap, H = s.heap := ⟨_, rfl⟩
  have hS : va_S A s.heap H [] := by rw [hH]; exact va_S.rf
  rw [← hH] at hP ⊢
  have hown : s.vm.findClass R_fl = some m.cls := hown
  have hl : lv_has ls 1 [(0, .ref fa)] := hl
  refine lv_aload_n hx hb d_fl_init_0 rfl (lv_at hl 0 rfl) ?_
  refine W.objInit hx hb hown (hg _ go_fl) (hg _ go_m) (hg _ go_c) rfl (by rw [hml]; exact hl.1) rfl d_fl_init_1 (Nat.le_of_ble_eq_true rfl) (Nat.le_of_ble_eq_true rfl) ?_
  refine W.eq (g2 := F0 m 4 ls []) rfl ?_
  refine lv_aload_n hx hb d_fl_init_4 rfl (lv_at hl 0 rfl) ?_
  refine lv_bipush (v := 25) hx hb d_fl_init_5 (by decide) ?_
  refine mt_newZ hx hb (hg _ ga_boolean) hK hP hD hS hA 0 rfl 25 (by decide) (by decide) (by decide) (Nat.le_of_ble_eq_true rfl) (Nat.le_of_ble_eq_true rfl) d_fl_init_7 (fun q1 H hP hD hS => ?_)
  have hP : va_P D kls [(fa, .inr (1, [.int 0, .int 0, .null, .int 0, .null, .null, .null])), (q1, .inl (cZ, 25, .inl (fun _ => 0)))] H := hP
  have hD : va_D A [(fa, .inr (1, [.int 0, .int 0, .null, .int 0, .null, .null, .null])), (q1, .inl (cZ, 25, .inl (fun _ => 0)))] := hD
  refine W.widen (k := 1) (n := 25) (Nat.le_of_ble_eq_true rfl) (Nat.le_of_ble_eq_true rfl) ?_
  refine pf_fl_9 hx hb hg hown hnm hK hP hD hS 0 rfl rfl rfl (Nat.le_of_ble_eq_true rfl) d_fl_init_9 (fun H locs hP hD hS => ?_)
  have hP : va_P D kls [(fa, .inr (1, [.int 0, .int 0, .ref q1, .int 0, .null, .null, .null])), (q1, .inl (cZ, 25, .inl (fun _ => 0)))] H := hP
  have hD : va_D A [(fa, .inr (1, [.int 0, .int 0, .ref q1, .int 0, .null, .null, .null])), (q1, .inl (cZ, 25, .inl (fun _ => 0)))] := hD
  refine lv_aload_n hx hb d_fl_init_12 rfl (lv_at hl 0 rfl) ?_
  refine lv_bipush (v := 25) hx hb d_fl_init_13 (by decide) ?_
  refine mt_newI hx hb (hg _ ga_int) hK hP hD hS hA 1 rfl 25 (by decide) (by decide) (by decide) (Nat.le_of_ble_eq_true rfl) (Nat.le_of_ble_eq_true rfl) d_fl_init_15 (fun q2 H hP hD hS => ?_)
  have hP : va_P D kls [(fa, .inr (1, [.int 0, .int 0, .ref q1, .int 0, .null, .null, .null])), (q1, .inl (cZ, 25, .inl (fun _ => 0))), (q2, .inl (cI, 25, .inl (fun _ => 0)))] H := hP
  have hD : va_D A [(fa, .inr (1, [.int 0, .int 0, .ref q1, .int 0, .null, .null, .null])), (q1, .inl (cZ, 25, .inl (fun _ => 0))), (q2, .inl (cI, 25, .inl (fun _ => 0)))] := hD
  refine W.widen (k := 2) (n := 50) (Nat.le_of_ble_eq_true rfl) (Nat.le_of_ble_eq_true rfl) ?_
  refine pf_fl_15 hx hb hg hown hnm hK hP hD hS 0 rfl rfl rfl (Nat.le_of_ble_eq_true rfl) d_fl_init_17 (fun H locs hP hD hS => ?_)
  have hP : va_P D kls [(fa, .inr (1, [.int 0, .int 0, .ref q1, .int 0, .ref q2, .null, .null])), (q1, .inl (cZ, 25, .inl (fun _ => 0))), (q2, .inl (cI, 25, .inl (fun _ => 0)))] H := hP
  have hD : va_D A [(fa, .inr (1, [.int 0, .int 0, .ref q1, .int 0, .ref q2, .null, .null])), (q1, .inl (cZ, 25, .inl (fun _ => 0))), (q2, .inl (cI, 25, .inl (fun _ => 0)))] := hD
  refine lv_aload_n hx hb d_fl_init_20 rfl (lv_at hl 0 rfl) ?_
  refine lv_bipush (v := 25) hx hb d_fl_init_21 (by decide) ?_
  refine mt_newI hx hb (hg _ ga_int) hK hP hD hS hA 1 rfl 25 (by decide) (by decide) (by decide) (Nat.le_of_ble_eq_true rfl) (Nat.le_of_ble_eq_true rfl) d_fl_init_23 (fun q3 H hP hD hS => ?_)
  have hP : va_P D kls [(fa, .inr (1, [.int 0, .int 0, .ref q1, .int 0, .ref q2, .null, .null])), (q1, .inl (cZ, 25, .inl (fun _ => 0))), (q2, .inl (cI, 25, .inl (fun _ => 0))), (q3, .inl (cI, 25, .inl (fun _ => 0)))] H := hP
  have hD : va_D A [(fa, .inr (1, [.int 0, .int 0, .ref q1, .int 0, .ref q2, .null, .null])), (q1, .inl (cZ, 25, .inl (fun _ => 0))), (q2, .inl (cI, 25, .inl (fun _ => 0))), (q3, .inl (cI, 25, .inl (fun _ => 0)))] := hD
  refine W.widen (k := 3) (n := 75) (Nat.le_of_ble_eq_true rfl) (Nat.le_of_ble_eq_true rfl) ?_
  refine pf_fl_19 hx hb hg hown hnm hK hP hD hS 0 rfl rfl rfl (Nat.le_of_ble_eq_true rfl) d_fl_init_25 (fun H locs hP hD hS => ?_)
  have hP : va_P D kls [(fa, .inr (1, [.int 0, .int 0, .ref q1, .int 0, .ref q2, .ref q3, .null])), (q1, .inl (cZ, 25, .inl (fun _ => 0))), (q2, .inl (cI, 25, .inl (fun _ => 0))), (q3, .inl (cI, 25, .inl (fun _ => 0)))] H := hP
  have hD : va_D A [(fa, .inr (1, [.int 0, .int 0, .ref q1, .int 0, .ref q2, .ref q3, .null])), (q1, .inl (cZ, 25, .inl (fun _ => 0))), (q2, .inl (cI, 25, .inl (fun _ => 0))), (q3, .inl (cI, 25, .inl (fun _ => 0)))] := hD
  refine lv_aload_n hx hb d_fl_init_28 rfl (lv_at hl 0 rfl) ?_
  refine lv_bipush (v := 25) hx hb d_fl_init_29 (by decide) ?_
  refine lv_iconst (v := 5) hx hb d_fl_init_31 (by decide) ?_
  refine mt_mna (N' := 25) (K' := 5) hx hb hown (hg _ gc_fl_22) hX (hg _ ga_int) hK hP hD hS hA 1 3 rfl rfl (by decide) (by decide) (by decide) (by decide) (by decide) (by decide) (by decide) (Nat.le_of_ble_eq_true rfl) (Nat.le_of_ble_eq_true rfl) d_fl_init_32 (fun q4 r5 H hP hD hS => ?_)
  have hP : va_P D kls ([(fa, .inr (1, [.int 0, .int 0, .ref q1, .int 0, .ref q2, .ref q3, .null])), (q1, .inl (cZ, 25, .inl (fun _ => 0))), (q2, .inl (cI, 25, .inl (fun _ => 0))), (q3, .inl (cI, 25, .inl (fun _ => 0))), (q4, .inl (cII, 25, .inr (.inr (.inr (.inr (fun i => if i < 25 then some (r5 i) else none))))))] ++ mt_rw 25 r5 (fun _ => .inl (cI, 5, .inl (fun _ => 0)))) H := hP
  have hD : va_D A ([(fa, .inr (1, [.int 0, .int 0, .ref q1, .int 0, .ref q2, .ref q3, .null])), (q1, .inl (cZ, 25, .inl (fun _ => 0))), (q2, .inl (cI, 25, .inl (fun _ => 0))), (q3, .inl (cI, 25, .inl (fun _ => 0))), (q4, .inl (cII, 25, .inr (.inr (.inr (.inr (fun i => if i < 25 then some (r5 i) else none))))))] ++ mt_rw 25 r5 (fun _ => .inl (cI, 5, .inl (fun _ => 0)))) := hD
  refine W.widen (k := 29) (n := 225) (Nat.le_of_ble_eq_true rfl) (Nat.le_of_ble_eq_true rfl) ?_
  refine pf_fl_24 hx hb hg hown hnm hK hP hD hS 0 rfl rfl rfl (Nat.le_of_ble_eq_true rfl) d_fl_init_36 (fun H locs hP hD hS => ?_)
  have hP : va_P D kls ([(fa, .inr (1, [.int 0, .int 0, .ref q1, .int 0, .ref q2, .ref q3, .ref q4])), (q1, .inl (cZ, 25, .inl (fun _ => 0))), (q2, .inl (cI, 25, .inl (fun _ => 0))), (q3, .inl (cI, 25, .inl (fun _ => 0))), (q4, .inl (cII, 25, .inr (.inr (.inr (.inr (fun i => if i < 25 then some (r5 i) else none))))))] ++ mt_rw 25 r5 (fun _ => .inl (cI, 5, .inl (fun _ => 0)))) H := hP
  have hD : va_D A ([(fa, .inr (1, [.int 0, .int 0, .ref q1, .int 0, .ref q2, .ref q3, .ref q4])), (q1, .inl (cZ, 25, .inl (fun _ => 0))), (q2, .inl (cI, 25, .inl (fun _ => 0))), (q3, .inl (cI, 25, .inl (fun _ => 0))), (q4, .inl (cII, 25, .inr (.inr (.inr (.inr (fun i => if i < 25 then some (r5 i) else none))))))] ++ mt_rw 25 r5 (fun _ => .inl (cI, 5, .inl (fun _ => 0)))) := hD
  refine lv_aload_n hx hb d_fl_init_39 rfl (lv_at hl 0 rfl) ?_
  refine lv_iconst (v := 1) hx hb d_fl_init_40 (by decide) ?_
  refine lv_iconst (v := 1) hx hb d_fl_init_41 (by decide) ?_
  have hPc := hP
  have hDc := hD
  have hFc := mt_whole hD hS hA
  refine va_callv (va_runV (As := [.int 1, .int 1]) (rest := []) ⟨hx, hb, hml, hown, hg⟩ (c_fl_build1 l D cZ cI cJ cII fa q1 0 q2 q3 q4 0 0 (fun _ => 0) (fun _ => 0) (fun _ => 0) r5 (fun _ => .inl (cI, 5, .inl (fun _ => 0))) H.size (fun _ _ => ⟨_, rfl⟩)) (cwV 2 hg gv_fl_27 rfl rfl rfl (by decide +kernel) ⟨Nat.le_of_ble_eq_true rfl, Nat.le_of_ble_eq_true rfl⟩) ⟨mt_bl, va_recv (q0 := 0) (ci := 1) hK hP rfl rfl, mt_pr hX hPc hK hDc⟩ rfl rfl hl.1 rfl (lv_room (Nat.le_of_ble_eq_true rfl)) d_fl_init_42 ⟨Nat.le_of_ble_eq_true rfl, Nat.le_of_ble_eq_true rfl⟩) hS (fun q _ h => hFc q h) hFc (fun u t H1 locs ht hvm hw hB hz1 hk1 hS => ?_)
  obtain ⟨wf17, fc18, rf19, sf110, re111⟩ := u
  have hr6 : (∀ j, j < 25 → wf17 j = 0) ∧ sf110 0 = 1 ∧ (∃ f : Nat → Int32, re111 0 = .inl (cI, 5, .inl f) ∧ f 0 = 0) ∧ fc18 = 1 ∧ mt_r5 cI re111 := hw
  obtain ⟨hP1, hD1⟩ := hB
  rw [ht] at hP1
  have hP := hP1
  have hD := hD1.weaken (fun _ _ _ h => hFc _ h)
  generalize H1 = H at hP hS ⊢
  have hP : va_P D kls ([(fa, .inr (1, [.int 1, .int 1, .ref q1, .int fc18, .ref q2, .ref q3, .ref q4])), (q1, .inl (cZ, 25, .inl wf17)), (q2, .inl (cI, 25, .inl rf19)), (q3, .inl (cI, 25, .inl sf110)), (q4, .inl (cII, 25, .inr (.inr (.inr (.inr (fun i => if i < 25 then some (r5 i) else none))))))] ++ mt_rw 25 r5 re111) H := hP
  have hD : va_D A ([(fa, .inr (1, [.int 1, .int 1, .ref q1, .int fc18, .ref q2, .ref q3, .ref q4])), (q1, .inl (cZ, 25, .inl wf17)), (q2, .inl (cI, 25, .inl rf19)), (q3, .inl (cI, 25, .inl sf110)), (q4, .inl (cII, 25, .inr (.inr (.inr (.inr (fun i => if i < 25 then some (r5 i) else none))))))] ++ mt_rw 25 r5 re111) := hD
  have a9 := hr6
  refine W.widen (k := 29) (n := 225) (Nat.le_of_ble_eq_true rfl) (Nat.le_of_ble_eq_true rfl) ?_
  have hP9 := hP
  have hD9 := hD
  exact W.vret hx hb hr (fun t ht hW => ⟨⟨(q1, q2, q3, q4, r5, wf17, fc18, rf19, sf110, re111), rfl, a9, by rw [ht]; exact hP9, hD9⟩, hS.F ht⟩) hS.2.2 d_fl_init_45
end
section
set_option maxHeartbeats 4000000 in
set_option maxRecDepth 100000 in
theorem c_cr_init (l : Launch) (D : va_G) (cZ cI cJ cII : ClassId) (ca : Nat) (cfl : Nat) (sz : Nat)  : Met l y_cr_init w_cr_init ({ frames := 1, cells := 11, slots := 215, locals := 40 }) (va_Pc [.ref ca, .ref cfl] (mt_B D [(cZ, .boolean), (cI, .int), (cJ, .long), (cII, .array .int)] [(ca, .inr (0, [.null, .int 0, .null, .null, .null, .null, .null, .null]))] sz)) ((fun A => va_Qv (fun (u : Nat × Nat × Nat × (Nat → Nat) × Nat × Nat × Nat) => True) (fun (u : Nat × Nat × Nat × (Nat → Nat) × Nat × Nat × Nat) (t : State) => mt_O D A (([(ca, .inr (0, [.ref cfl, .int 0, .ref (u.1), .ref (u.2.1), .ref (u.2.2.1), .ref (u.2.2.2.2.1), .ref (u.2.2.2.2.2.1), .ref (u.2.2.2.2.2.2)])), ((u.1), .inl (cI, 5, .inl (fun _ => 0))), ((u.2.1), .inl (cI, 5, .inl (fun _ => 0))), ((u.2.2.1), .inl (cII, 5, .inr (.inr (.inr (.inr (fun i => if i < 5 then some ((u.2.2.2.1) i) else none))))))] ++ mt_rw 5 (u.2.2.2.1) (fun _ => .inl (cI, 25, .inl (fun _ => 0)))) ++ [((u.2.2.2.2.1), .inl (cI, 25, .inl (fun _ => 0))), ((u.2.2.2.2.2.1), .inl (cJ, 25, .inr (.inl (fun _ => 0)))), ((u.2.2.2.2.2.2), .inl (cJ, 25, .inr (.inl (fun _ => 0))))]) t) A) (va_A [(ca, .inr (0, [.null, .int 0, .null, .null, .null, .null, .null, .null]))] sz)) 11 215 (va_A [(ca, .inr (0, [.null, .int 0, .null, .null, .null, .null, .null, .null]))] sz) := by
  refine mt_of (y := y_cr_init) (n := 2) (av := [.ref ca, .ref cfl]) (QF := (fun A => va_Qv (fun (u : Nat × Nat × Nat × (Nat → Nat) × Nat × Nat × Nat) => True) (fun (u : Nat × Nat × Nat × (Nat → Nat) × Nat × Nat × Nat) (t : State) => mt_O D A (([(ca, .inr (0, [.ref cfl, .int 0, .ref (u.1), .ref (u.2.1), .ref (u.2.2.1), .ref (u.2.2.2.2.1), .ref (u.2.2.2.2.2.1), .ref (u.2.2.2.2.2.2)])), ((u.1), .inl (cI, 5, .inl (fun _ => 0))), ((u.2.1), .inl (cI, 5, .inl (fun _ => 0))), ((u.2.2.1), .inl (cII, 5, .inr (.inr (.inr (.inr (fun i => if i < 5 then some ((u.2.2.2.1) i) else none))))))] ++ mt_rw 5 (u.2.2.2.1) (fun _ => .inl (cI, 25, .inl (fun _ => 0)))) ++ [((u.2.2.2.2.1), .inl (cI, 25, .inl (fun _ => 0))), ((u.2.2.2.2.2.1), .inl (cJ, 25, .inr (.inl (fun _ => 0)))), ((u.2.2.2.2.2.2), .inl (cJ, 25, .inr (.inl (fun _ => 0))))]) t) A)) (by decide) (Nat.le_of_ble_eq_true rfl) ?_
  intro p e s m below meth c ls A hx hb hr hlk hml hown hnm hg hl hX hP hK hD hA hS
  obtain ⟨H, hH⟩ : ∃ H : Heap, H = s.heap := ⟨_, rfl⟩
  have hS : va_S A s.heap H [] := by rw [hH]; exact va_S.rf
  rw [← hH] at hP ⊢
  have hown : s.vm.findClass R_cr = some m.cls := hown
  have hl : lv_has ls 2 [(0, .ref ca), (1, .ref cfl)] := hl
  refine lv_aload_n hx hb d_cr_init_0 rfl (lv_at hl 0 rfl) ?_
  refine W.objInit hx hb hown (hg _ go_cr) (hg _ go_m) (hg _ go_c) rfl (by rw [hml]; exact hl.1) rfl d_cr_init_1 (Nat.le_of_ble_eq_true rfl) (Nat.le_of_ble_eq_true rfl) ?_
  refine W.eq (g2 := F0 m 4 ls []) rfl ?_
  refine lv_aload_n hx hb d_cr_init_4 rfl (lv_at hl 0 rfl) ?_
  refine lv_iconst (v := 5) hx hb d_cr_init_5 (by decide) ?_
  refine mt_newI hx hb (hg _ ga_int) hK hP hD hS hA 1 rfl 5 (by decide) (by decide) (by decide) (Nat.le_of_ble_eq_true rfl) (Nat.le_of_ble_eq_true rfl) d_cr_init_6 (fun q1 H hP hD hS => ?_)
  have hP : va_P D kls [(ca, .inr (0, [.null, .int 0, .null, .null, .null, .null, .null, .null])), (q1, .inl (cI, 5, .inl (fun _ => 0)))] H := hP
  have hD : va_D A [(ca, .inr (0, [.null, .int 0, .null, .null, .null, .null, .null, .null])), (q1, .inl (cI, 5, .inl (fun _ => 0)))] := hD
  refine W.widen (k := 1) (n := 5) (Nat.le_of_ble_eq_true rfl) (Nat.le_of_ble_eq_true rfl) ?_
  refine pf_cr_9 hx hb hg hown hnm hK hP hD hS 0 rfl rfl rfl (Nat.le_of_ble_eq_true rfl) d_cr_init_8 (fun H locs hP hD hS => ?_)
  have hP : va_P D kls [(ca, .inr (0, [.null, .int 0, .ref q1, .null, .null, .null, .null, .null])), (q1, .inl (cI, 5, .inl (fun _ => 0)))] H := hP
  have hD : va_D A [(ca, .inr (0, [.null, .int 0, .ref q1, .null, .null, .null, .null, .null])), (q1, .inl (cI, 5, .inl (fun _ => 0)))] := hD
  refine lv_aload_n hx hb d_cr_init_11 rfl (lv_at hl 0 rfl) ?_
  refine lv_iconst (v := 5) hx hb d_cr_init_12 (by decide) ?_
  refine mt_newI hx hb (hg _ ga_int) hK hP hD hS hA 1 rfl 5 (by decide) (by decide) (by decide) (Nat.le_of_ble_eq_true rfl) (Nat.le_of_ble_eq_true rfl) d_cr_init_13 (fun q2 H hP hD hS => ?_)
  have hP : va_P D kls [(ca, .inr (0, [.null, .int 0, .ref q1, .null, .null, .null, .null, .null])), (q1, .inl (cI, 5, .inl (fun _ => 0))), (q2, .inl (cI, 5, .inl (fun _ => 0)))] H := hP
  have hD : va_D A [(ca, .inr (0, [.null, .int 0, .ref q1, .null, .null, .null, .null, .null])), (q1, .inl (cI, 5, .inl (fun _ => 0))), (q2, .inl (cI, 5, .inl (fun _ => 0)))] := hD
  refine W.widen (k := 2) (n := 10) (Nat.le_of_ble_eq_true rfl) (Nat.le_of_ble_eq_true rfl) ?_
  refine pf_cr_15 hx hb hg hown hnm hK hP hD hS 0 rfl rfl rfl (Nat.le_of_ble_eq_true rfl) d_cr_init_15 (fun H locs hP hD hS => ?_)
  have hP : va_P D kls [(ca, .inr (0, [.null, .int 0, .ref q1, .ref q2, .null, .null, .null, .null])), (q1, .inl (cI, 5, .inl (fun _ => 0))), (q2, .inl (cI, 5, .inl (fun _ => 0)))] H := hP
  have hD : va_D A [(ca, .inr (0, [.null, .int 0, .ref q1, .ref q2, .null, .null, .null, .null])), (q1, .inl (cI, 5, .inl (fun _ => 0))), (q2, .inl (cI, 5, .inl (fun _ => 0)))] := hD
  refine lv_aload_n hx hb d_cr_init_18 rfl (lv_at hl 0 rfl) ?_
  refine lv_iconst (v := 5) hx hb d_cr_init_19 (by decide) ?_
  refine lv_bipush (v := 25) hx hb d_cr_init_20 (by decide) ?_
  refine mt_mna (N' := 5) (K' := 25) hx hb hown (hg _ gc_cr_18) hX (hg _ ga_int) hK hP hD hS hA 1 3 rfl rfl (by decide) (by decide) (by decide) (by decide) (by decide) (by decide) (by decide) (Nat.le_of_ble_eq_true rfl) (Nat.le_of_ble_eq_true rfl) d_cr_init_22 (fun q3 r4 H hP hD hS => ?_)
  have hP : va_P D kls ([(ca, .inr (0, [.null, .int 0, .ref q1, .ref q2, .null, .null, .null, .null])), (q1, .inl (cI, 5, .inl (fun _ => 0))), (q2, .inl (cI, 5, .inl (fun _ => 0))), (q3, .inl (cII, 5, .inr (.inr (.inr (.inr (fun i => if i < 5 then some (r4 i) else none))))))] ++ mt_rw 5 r4 (fun _ => .inl (cI, 25, .inl (fun _ => 0)))) H := hP
  have hD : va_D A ([(ca, .inr (0, [.null, .int 0, .ref q1, .ref q2, .null, .null, .null, .null])), (q1, .inl (cI, 5, .inl (fun _ => 0))), (q2, .inl (cI, 5, .inl (fun _ => 0))), (q3, .inl (cII, 5, .inr (.inr (.inr (.inr (fun i => if i < 5 then some (r4 i) else none))))))] ++ mt_rw 5 r4 (fun _ => .inl (cI, 25, .inl (fun _ => 0)))) := hD
  refine W.widen (k := 8) (n := 140) (Nat.le_of_ble_eq_true rfl) (Nat.le_of_ble_eq_true rfl) ?_
  refine pf_cr_20 hx hb hg hown hnm hK hP hD hS 0 rfl rfl rfl (Nat.le_of_ble_eq_true rfl) d_cr_init_26 (fun H locs hP hD hS => ?_)
  have hP : va_P D kls ([(ca, .inr (0, [.null, .int 0, .ref q1, .ref q2, .ref q3, .null, .null, .null])), (q1, .inl (cI, 5, .inl (fun _ => 0))), (q2, .inl (cI, 5, .inl (fun _ => 0))), (q3, .inl (cII, 5, .inr (.inr (.inr (.inr (fun i => if i < 5 then some (r4 i) else none))))))] ++ mt_rw 5 r4 (fun _ => .inl (cI, 25, .inl (fun _ => 0)))) H := hP
  have hD : va_D A ([(ca, .inr (0, [.null, .int 0, .ref q1, .ref q2, .ref q3, .null, .null, .null])), (q1, .inl (cI, 5, .inl (fun _ => 0))), (q2, .inl (cI, 5, .inl (fun _ => 0))), (q3, .inl (cII, 5, .inr (.inr (.inr (.inr (fun i => if i < 5 then some (r4 i) else none))))))] ++ mt_rw 5 r4 (fun _ => .inl (cI, 25, .inl (fun _ => 0)))) := hD
  refine lv_aload_n hx hb d_cr_init_29 rfl (lv_at hl 0 rfl) ?_
  refine lv_bipush (v := 25) hx hb d_cr_init_30 (by decide) ?_
  refine mt_newI hx hb (hg _ ga_int) hK hP hD hS hA 1 rfl 25 (by decide) (by decide) (by decide) (Nat.le_of_ble_eq_true rfl) (Nat.le_of_ble_eq_true rfl) d_cr_init_32 (fun q5 H hP hD hS => ?_)
  have hP : va_P D kls (([(ca, .inr (0, [.null, .int 0, .ref q1, .ref q2, .ref q3, .null, .null, .null])), (q1, .inl (cI, 5, .inl (fun _ => 0))), (q2, .inl (cI, 5, .inl (fun _ => 0))), (q3, .inl (cII, 5, .inr (.inr (.inr (.inr (fun i => if i < 5 then some (r4 i) else none))))))] ++ mt_rw 5 r4 (fun _ => .inl (cI, 25, .inl (fun _ => 0)))) ++ [(q5, .inl (cI, 25, .inl (fun _ => 0)))]) H := hP
  have hD : va_D A (([(ca, .inr (0, [.null, .int 0, .ref q1, .ref q2, .ref q3, .null, .null, .null])), (q1, .inl (cI, 5, .inl (fun _ => 0))), (q2, .inl (cI, 5, .inl (fun _ => 0))), (q3, .inl (cII, 5, .inr (.inr (.inr (.inr (fun i => if i < 5 then some (r4 i) else none))))))] ++ mt_rw 5 r4 (fun _ => .inl (cI, 25, .inl (fun _ => 0)))) ++ [(q5, .inl (cI, 25, .inl (fun _ => 0)))]) := hD
  refine W.widen (k := 9) (n := 165) (Nat.le_of_ble_eq_true rfl) (Nat.le_of_ble_eq_true rfl) ?_
  refine pf_cr_23 hx hb hg hown hnm hK hP hD hS 0 rfl rfl rfl (Nat.le_of_ble_eq_true rfl) d_cr_init_34 (fun H locs hP hD hS => ?_)
  have hP : va_P D kls (([(ca, .inr (0, [.null, .int 0, .ref q1, .ref q2, .ref q3, .ref q5, .null, .null])), (q1, .inl (cI, 5, .inl (fun _ => 0))), (q2, .inl (cI, 5, .inl (fun _ => 0))), (q3, .inl (cII, 5, .inr (.inr (.inr (.inr (fun i => if i < 5 then some (r4 i) else none))))))] ++ mt_rw 5 r4 (fun _ => .inl (cI, 25, .inl (fun _ => 0)))) ++ [(q5, .inl (cI, 25, .inl (fun _ => 0)))]) H := hP
  have hD : va_D A (([(ca, .inr (0, [.null, .int 0, .ref q1, .ref q2, .ref q3, .ref q5, .null, .null])), (q1, .inl (cI, 5, .inl (fun _ => 0))), (q2, .inl (cI, 5, .inl (fun _ => 0))), (q3, .inl (cII, 5, .inr (.inr (.inr (.inr (fun i => if i < 5 then some (r4 i) else none))))))] ++ mt_rw 5 r4 (fun _ => .inl (cI, 25, .inl (fun _ => 0)))) ++ [(q5, .inl (cI, 25, .inl (fun _ => 0)))]) := hD
  refine lv_aload_n hx hb d_cr_init_37 rfl (lv_at hl 0 rfl) ?_
  refine lv_bipush (v := 25) hx hb d_cr_init_38 (by decide) ?_
  refine mt_newJ hx hb (hg _ ga_long) hK hP hD hS hA 2 rfl 25 (by decide) (by decide) (by decide) (Nat.le_of_ble_eq_true rfl) (Nat.le_of_ble_eq_true rfl) d_cr_init_40 (fun q6 H hP hD hS => ?_)
  have hP : va_P D kls (([(ca, .inr (0, [.null, .int 0, .ref q1, .ref q2, .ref q3, .ref q5, .null, .null])), (q1, .inl (cI, 5, .inl (fun _ => 0))), (q2, .inl (cI, 5, .inl (fun _ => 0))), (q3, .inl (cII, 5, .inr (.inr (.inr (.inr (fun i => if i < 5 then some (r4 i) else none))))))] ++ mt_rw 5 r4 (fun _ => .inl (cI, 25, .inl (fun _ => 0)))) ++ [(q5, .inl (cI, 25, .inl (fun _ => 0))), (q6, .inl (cJ, 25, .inr (.inl (fun _ => 0))))]) H := hP
  have hD : va_D A (([(ca, .inr (0, [.null, .int 0, .ref q1, .ref q2, .ref q3, .ref q5, .null, .null])), (q1, .inl (cI, 5, .inl (fun _ => 0))), (q2, .inl (cI, 5, .inl (fun _ => 0))), (q3, .inl (cII, 5, .inr (.inr (.inr (.inr (fun i => if i < 5 then some (r4 i) else none))))))] ++ mt_rw 5 r4 (fun _ => .inl (cI, 25, .inl (fun _ => 0)))) ++ [(q5, .inl (cI, 25, .inl (fun _ => 0))), (q6, .inl (cJ, 25, .inr (.inl (fun _ => 0))))]) := hD
  refine W.widen (k := 10) (n := 190) (Nat.le_of_ble_eq_true rfl) (Nat.le_of_ble_eq_true rfl) ?_
  refine pf_cr_26 hx hb hg hown hK hP hD hS 0 rfl rfl rfl (Nat.le_of_ble_eq_true rfl) d_cr_init_42 (fun H locs hP hD hS => ?_)
  have hP : va_P D kls (([(ca, .inr (0, [.null, .int 0, .ref q1, .ref q2, .ref q3, .ref q5, .ref q6, .null])), (q1, .inl (cI, 5, .inl (fun _ => 0))), (q2, .inl (cI, 5, .inl (fun _ => 0))), (q3, .inl (cII, 5, .inr (.inr (.inr (.inr (fun i => if i < 5 then some (r4 i) else none))))))] ++ mt_rw 5 r4 (fun _ => .inl (cI, 25, .inl (fun _ => 0)))) ++ [(q5, .inl (cI, 25, .inl (fun _ => 0))), (q6, .inl (cJ, 25, .inr (.inl (fun _ => 0))))]) H := hP
  have hD : va_D A (([(ca, .inr (0, [.null, .int 0, .ref q1, .ref q2, .ref q3, .ref q5, .ref q6, .null])), (q1, .inl (cI, 5, .inl (fun _ => 0))), (q2, .inl (cI, 5, .inl (fun _ => 0))), (q3, .inl (cII, 5, .inr (.inr (.inr (.inr (fun i => if i < 5 then some (r4 i) else none))))))] ++ mt_rw 5 r4 (fun _ => .inl (cI, 25, .inl (fun _ => 0)))) ++ [(q5, .inl (cI, 25, .inl (fun _ => 0))), (q6, .inl (cJ, 25, .inr (.inl (fun _ => 0))))]) := hD
  refine lv_aload_n hx hb d_cr_init_45 rfl (lv_at hl 0 rfl) ?_
  refine lv_bipush (v := 25) hx hb d_cr_init_46 (by decide) ?_
  refine mt_newJ hx hb (hg _ ga_long) hK hP hD hS hA 2 rfl 25 (by decide) (by decide) (by decide) (Nat.le_of_ble_eq_true rfl) (Nat.le_of_ble_eq_true rfl) d_cr_init_48 (fun q7 H hP hD hS => ?_)
  have hP : va_P D kls (([(ca, .inr (0, [.null, .int 0, .ref q1, .ref q2, .ref q3, .ref q5, .ref q6, .null])), (q1, .inl (cI, 5, .inl (fun _ => 0))), (q2, .inl (cI, 5, .inl (fun _ => 0))), (q3, .inl (cII, 5, .inr (.inr (.inr (.inr (fun i => if i < 5 then some (r4 i) else none))))))] ++ mt_rw 5 r4 (fun _ => .inl (cI, 25, .inl (fun _ => 0)))) ++ [(q5, .inl (cI, 25, .inl (fun _ => 0))), (q6, .inl (cJ, 25, .inr (.inl (fun _ => 0)))), (q7, .inl (cJ, 25, .inr (.inl (fun _ => 0))))]) H := hP
  have hD : va_D A (([(ca, .inr (0, [.null, .int 0, .ref q1, .ref q2, .ref q3, .ref q5, .ref q6, .null])), (q1, .inl (cI, 5, .inl (fun _ => 0))), (q2, .inl (cI, 5, .inl (fun _ => 0))), (q3, .inl (cII, 5, .inr (.inr (.inr (.inr (fun i => if i < 5 then some (r4 i) else none))))))] ++ mt_rw 5 r4 (fun _ => .inl (cI, 25, .inl (fun _ => 0)))) ++ [(q5, .inl (cI, 25, .inl (fun _ => 0))), (q6, .inl (cJ, 25, .inr (.inl (fun _ => 0)))), (q7, .inl (cJ, 25, .inr (.inl (fun _ => 0))))]) := hD
  refine W.widen (k := 11) (n := 215) (Nat.le_of_ble_eq_true rfl) (Nat.le_of_ble_eq_true rfl) ?_
  refine pf_cr_30 hx hb hg hown hK hP hD hS 0 rfl rfl rfl (Nat.le_of_ble_eq_true rfl) d_cr_init_50 (fun H locs hP hD hS => ?_)
  have hP : va_P D kls (([(ca, .inr (0, [.null, .int 0, .ref q1, .ref q2, .ref q3, .ref q5, .ref q6, .ref q7])), (q1, .inl (cI, 5, .inl (fun _ => 0))), (q2, .inl (cI, 5, .inl (fun _ => 0))), (q3, .inl (cII, 5, .inr (.inr (.inr (.inr (fun i => if i < 5 then some (r4 i) else none))))))] ++ mt_rw 5 r4 (fun _ => .inl (cI, 25, .inl (fun _ => 0)))) ++ [(q5, .inl (cI, 25, .inl (fun _ => 0))), (q6, .inl (cJ, 25, .inr (.inl (fun _ => 0)))), (q7, .inl (cJ, 25, .inr (.inl (fun _ => 0))))]) H := hP
  have hD : va_D A (([(ca, .inr (0, [.null, .int 0, .ref q1, .ref q2, .ref q3, .ref q5, .ref q6, .ref q7])), (q1, .inl (cI, 5, .inl (fun _ => 0))), (q2, .inl (cI, 5, .inl (fun _ => 0))), (q3, .inl (cII, 5, .inr (.inr (.inr (.inr (fun i => if i < 5 then some (r4 i) else none))))))] ++ mt_rw 5 r4 (fun _ => .inl (cI, 25, .inl (fun _ => 0)))) ++ [(q5, .inl (cI, 25, .inl (fun _ => 0))), (q6, .inl (cJ, 25, .inr (.inl (fun _ => 0)))), (q7, .inl (cJ, 25, .inr (.inl (fun _ => 0))))]) := hD
  refine lv_aload_n hx hb d_cr_init_53 rfl (lv_at hl 0 rfl) ?_
  refine lv_aload_n hx hb d_cr_init_54 rfl (lv_at hl 1 rfl) ?_
  refine pf_cr_33 hx hb hg hown hnm hK hP hD hS 0 rfl rfl rfl (Nat.le_of_ble_eq_true rfl) d_cr_init_55 (fun H locs hP hD hS => ?_)
  have hP : va_P D kls (([(ca, .inr (0, [.ref cfl, .int 0, .ref q1, .ref q2, .ref q3, .ref q5, .ref q6, .ref q7])), (q1, .inl (cI, 5, .inl (fun _ => 0))), (q2, .inl (cI, 5, .inl (fun _ => 0))), (q3, .inl (cII, 5, .inr (.inr (.inr (.inr (fun i => if i < 5 then some (r4 i) else none))))))] ++ mt_rw 5 r4 (fun _ => .inl (cI, 25, .inl (fun _ => 0)))) ++ [(q5, .inl (cI, 25, .inl (fun _ => 0))), (q6, .inl (cJ, 25, .inr (.inl (fun _ => 0)))), (q7, .inl (cJ, 25, .inr (.inl (fun _ => 0))))]) H := hP
  have hD : va_D A (([(ca, .inr (0, [.ref cfl, .int 0, .ref q1, .ref q2, .ref q3, .ref q5, .ref q6, .ref q7])), (q1, .inl (cI, 5, .inl (fun _ => 0))), (q2, .inl (cI, 5, .inl (fun _ => 0))), (q3, .inl (cII, 5, .inr (.inr (.inr (.inr (fun i => if i < 5 then some (r4 i) else none))))))] ++ mt_rw 5 r4 (fun _ => .inl (cI, 25, .inl (fun _ => 0)))) ++ [(q5, .inl (cI, 25, .inl (fun _ => 0))), (q6, .inl (cJ, 25, .inr (.inl (fun _ => 0)))), (q7, .inl (cJ, 25, .inr (.inl (fun _ => 0))))]) := hD
  refine W.widen (k := 11) (n := 215) (Nat.le_of_ble_eq_true rfl) (Nat.le_of_ble_eq_true rfl) ?_
  have hP9 := hP
  have hD9 := hD
  exact W.vret hx hb hr (fun t ht hW => ⟨⟨(q1, q2, q3, r4, q5, q6, q7), rfl, trivial, by rw [ht]; exact hP9, hD9⟩, hS.F ht⟩) hS.2.2 d_cr_init_58
end
section
set_option maxHeartbeats 4000000 in
set_option maxRecDepth 100000 in
theorem c_pn_init (l : Launch) (D : va_G) (cZ cI cJ cII : ClassId) (pa : Nat) (pfl : Nat) (pcr : Nat) (sz : Nat)  : Met l y_pn_init w_pn_init ({ frames := 2, cells := 69, slots := 1713, locals := 80 }) (va_Pc [.ref pa, .ref pfl, .ref pcr] (mt_B D [(cZ, .boolean), (cI, .int), (cJ, .long), (cII, .array .int)] [(pa, .inr (4, [.null, .null, .null, .null, .null, .null, .int 0, .int 0, .int 0, .int 0, .int 0]))] sz)) ((fun A => va_Qv (fun (u : Nat × Nat × Nat × (Nat → Nat) × Nat × Nat × (Nat → Nat)) => True) (fun (u : Nat × Nat × Nat × (Nat → Nat) × Nat × Nat × (Nat → Nat)) (t : State) => mt_O D A ((([(pa, .inr (4, [.ref pfl, .ref pcr, .ref (u.1), .ref (u.2.2.1), .ref (u.2.2.2.2.1), .ref (u.2.2.2.2.2.1), .int 0, .int 0, .int 0, .int 0, .int 0])), ((u.1), .inr (3, [.ref (u.2.1)])), ((u.2.1), .inl (cJ, 1296, .inr (.inl (fun _ => 0)))), ((u.2.2.1), .inl (cII, 32, .inr (.inr (.inr (.inr (fun i => if i < 32 then some ((u.2.2.2.1) i) else none))))))] ++ mt_rw 32 (u.2.2.2.1) (fun _ => .inl (cI, 5, .inl (fun _ => 0)))) ++ [((u.2.2.2.2.1), .inl (cI, 32, .inl (fun _ => 0))), ((u.2.2.2.2.2.1), .inl (cII, 32, .inr (.inr (.inr (.inr (fun i => if i < 32 then some ((u.2.2.2.2.2.2) i) else none))))))]) ++ mt_rw 32 (u.2.2.2.2.2.2) (fun _ => .inl (cI, 5, .inl (fun _ => 0)))) t) A) (va_A [(pa, .inr (4, [.null, .null, .null, .null, .null, .null, .int 0, .int 0, .int 0, .int 0, .int 0]))] sz)) 69 1713 (va_A [(pa, .inr (4, [.null, .null, .null, .null, .null, .null, .int 0, .int 0, .int 0, .int 0, .int 0]))] sz) := by
  refine mt_of (y := y_pn_init) (n := 3) (av := [.ref pa, .ref pfl, .ref pcr]) (QF := (fun A => va_Qv (fun (u : Nat × Nat × Nat × (Nat → Nat) × Nat × Nat × (Nat → Nat)) => True) (fun (u : Nat × Nat × Nat × (Nat → Nat) × Nat × Nat × (Nat → Nat)) (t : State) => mt_O D A ((([(pa, .inr (4, [.ref pfl, .ref pcr, .ref (u.1), .ref (u.2.2.1), .ref (u.2.2.2.2.1), .ref (u.2.2.2.2.2.1), .int 0, .int 0, .int 0, .int 0, .int 0])), ((u.1), .inr (3, [.ref (u.2.1)])), ((u.2.1), .inl (cJ, 1296, .inr (.inl (fun _ => 0)))), ((u.2.2.1), .inl (cII, 32, .inr (.inr (.inr (.inr (fun i => if i < 32 then some ((u.2.2.2.1) i) else none))))))] ++ mt_rw 32 (u.2.2.2.1) (fun _ => .inl (cI, 5, .inl (fun _ => 0)))) ++ [((u.2.2.2.2.1), .inl (cI, 32, .inl (fun _ => 0))), ((u.2.2.2.2.2.1), .inl (cII, 32, .inr (.inr (.inr (.inr (fun i => if i < 32 then some ((u.2.2.2.2.2.2) i) else none))))))]) ++ mt_rw 32 (u.2.2.2.2.2.2) (fun _ => .inl (cI, 5, .inl (fun _ => 0)))) t) A)) (by decide) (Nat.le_of_ble_eq_true rfl) ?_
  intro p e s m below meth c ls A hx hb hr hlk hml hown hnm hg hl hX hP hK hD hA hS
  obtain ⟨H, hH⟩ : ∃ H : Heap, H = s.heap := ⟨_, rfl⟩
  have hS : va_S A s.heap H [] := by rw [hH]; exact va_S.rf
  rw [← hH] at hP ⊢
  have hown : s.vm.findClass R_pn = some m.cls := hown
  have hl : lv_has ls 3 [(0, .ref pa), (1, .ref pfl), (2, .ref pcr)] := hl
  refine lv_aload_n hx hb d_pn_init_0 rfl (lv_at hl 0 rfl) ?_
  refine W.objInit hx hb hown (hg _ go_pn) (hg _ go_m) (hg _ go_c) rfl (by rw [hml]; exact hl.1) rfl d_pn_init_1 (Nat.le_of_ble_eq_true rfl) (Nat.le_of_ble_eq_true rfl) ?_
  refine W.eq (g2 := F0 m 4 ls []) rfl ?_
  refine lv_aload_n hx hb d_pn_init_4 rfl (lv_at hl 0 rfl) ?_
  refine va_new (ci := 3) (fs := [.null]) (C := R_le) (T := T_le) (N := 1) hx hb hg in_le t_le t_le_ok hown (hg _ gc_pn_9) (hg _ gj_le) (hg _ gi_le) hK hP hD hS hA rfl (fun j hj => by rcases (show j = 0 by omega) with rfl <;> rfl) (Nat.le_of_ble_eq_true rfl) (Nat.le_of_ble_eq_true rfl) d_pn_init_5 (fun q1 H hP hD hS => ?_)
  have hP : va_P D kls [(pa, .inr (4, [.null, .null, .null, .null, .null, .null, .int 0, .int 0, .int 0, .int 0, .int 0])), (q1, .inr (3, [.null]))] H := hP
  have hD : va_D A [(pa, .inr (4, [.null, .null, .null, .null, .null, .null, .int 0, .int 0, .int 0, .int 0, .int 0])), (q1, .inr (3, [.null]))] := hD
  refine W.widen (k := 1) (n := 1) (Nat.le_of_ble_eq_true rfl) (Nat.le_of_ble_eq_true rfl) ?_
  refine lv_dup hx hb d_pn_init_8 rfl ?_
  have hPc := hP.sub (ws' := [(q1, .inr (3, [.null]))]) [1] rfl
  have hDc := hD.sub (ws' := [(q1, .inr (3, [.null]))]) [1] (by decide) rfl
  have hFc := va_free (wc := [(q1, .inr (3, [.null]))]) hD hS hA [1] rfl
  refine va_callv (va_runIN (As := []) (rest := [.ref q1, .ref pa]) ⟨hx, hb, hml, hown, hg⟩ (c_le_init l D cZ cI cJ cII q1 H.size ) ⟨va_cnB 0 hg gg_pn_11 rfl rfl rfl hX.2.1 (hg _ gi_pn_11) (by decide +kernel) ⟨Nat.le_of_ble_eq_true rfl, Nat.le_of_ble_eq_true rfl⟩, rfl, hg _ gm_pn_11⟩ ⟨mt_bl, mt_pr hX hPc hK hDc⟩ rfl rfl hl.1 rfl (lv_room (Nat.le_of_ble_eq_true rfl)) d_pn_init_9 ⟨Nat.le_of_ble_eq_true rfl, Nat.le_of_ble_eq_true rfl⟩) hS (fun q _ h => hFc q h) hFc (fun u t H1 locs ht hvm hw hB hz1 hk1 hS => ?_)
  obtain ⟨lwo3, rfl⟩ : ∃ z, z = u := ⟨_, rfl⟩
  obtain ⟨hP1, hD1⟩ := hB
  rw [ht] at hP1
  obtain ⟨hP, hD⟩ := va_join (wr := [(pa, .inr (4, [.null, .null, .null, .null, .null, .null, .int 0, .int 0, .int 0, .int 0, .int 0]))]) (w1 := [(q1, .inr (3, [.ref lwo3])), (lwo3, .inl (cJ, 1296, .inr (.inl (fun _ => 0))))]) hP hD [1] [0] rfl rfl (by decide) (by decide) hk1 hFc hP1 hD1
  generalize H1 = H at hP hS ⊢
  have hP : va_P D kls [(pa, .inr (4, [.null, .null, .null, .null, .null, .null, .int 0, .int 0, .int 0, .int 0, .int 0])), (q1, .inr (3, [.ref lwo3])), (lwo3, .inl (cJ, 1296, .inr (.inl (fun _ => 0))))] H := hP
  have hD : va_D A [(pa, .inr (4, [.null, .null, .null, .null, .null, .null, .int 0, .int 0, .int 0, .int 0, .int 0])), (q1, .inr (3, [.ref lwo3])), (lwo3, .inl (cJ, 1296, .inr (.inl (fun _ => 0))))] := hD
  refine W.widen (k := 2) (n := 1297) (Nat.le_of_ble_eq_true rfl) (Nat.le_of_ble_eq_true rfl) ?_
  refine pf_pn_12 hx hb hg hown hnm hK hP hD hS 0 rfl rfl rfl (Nat.le_of_ble_eq_true rfl) d_pn_init_12 (fun H locs hP hD hS => ?_)
  have hP : va_P D kls [(pa, .inr (4, [.null, .null, .ref q1, .null, .null, .null, .int 0, .int 0, .int 0, .int 0, .int 0])), (q1, .inr (3, [.ref lwo3])), (lwo3, .inl (cJ, 1296, .inr (.inl (fun _ => 0))))] H := hP
  have hD : va_D A [(pa, .inr (4, [.null, .null, .ref q1, .null, .null, .null, .int 0, .int 0, .int 0, .int 0, .int 0])), (q1, .inr (3, [.ref lwo3])), (lwo3, .inl (cJ, 1296, .inr (.inl (fun _ => 0))))] := hD
  refine lv_aload_n hx hb d_pn_init_15 rfl (lv_at hl 0 rfl) ?_
  refine lv_bipush (v := 32) hx hb d_pn_init_16 (by decide) ?_
  refine lv_iconst (v := 5) hx hb d_pn_init_18 (by decide) ?_
  refine mt_mna (N' := 32) (K' := 5) hx hb hown (hg _ gc_pn_18) hX (hg _ ga_int) hK hP hD hS hA 1 3 rfl rfl (by decide) (by decide) (by decide) (by decide) (by decide) (by decide) (by decide) (Nat.le_of_ble_eq_true rfl) (Nat.le_of_ble_eq_true rfl) d_pn_init_19 (fun q4 r5 H hP hD hS => ?_)
  have hP : va_P D kls ([(pa, .inr (4, [.null, .null, .ref q1, .null, .null, .null, .int 0, .int 0, .int 0, .int 0, .int 0])), (q1, .inr (3, [.ref lwo3])), (lwo3, .inl (cJ, 1296, .inr (.inl (fun _ => 0)))), (q4, .inl (cII, 32, .inr (.inr (.inr (.inr (fun i => if i < 32 then some (r5 i) else none))))))] ++ mt_rw 32 r5 (fun _ => .inl (cI, 5, .inl (fun _ => 0)))) H := hP
  have hD : va_D A ([(pa, .inr (4, [.null, .null, .ref q1, .null, .null, .null, .int 0, .int 0, .int 0, .int 0, .int 0])), (q1, .inr (3, [.ref lwo3])), (lwo3, .inl (cJ, 1296, .inr (.inl (fun _ => 0)))), (q4, .inl (cII, 32, .inr (.inr (.inr (.inr (fun i => if i < 32 then some (r5 i) else none))))))] ++ mt_rw 32 r5 (fun _ => .inl (cI, 5, .inl (fun _ => 0)))) := hD
  refine W.widen (k := 35) (n := 1489) (Nat.le_of_ble_eq_true rfl) (Nat.le_of_ble_eq_true rfl) ?_
  refine pf_pn_20 hx hb hg hown hnm hK hP hD hS 0 rfl rfl rfl (Nat.le_of_ble_eq_true rfl) d_pn_init_23 (fun H locs hP hD hS => ?_)
  have hP : va_P D kls ([(pa, .inr (4, [.null, .null, .ref q1, .ref q4, .null, .null, .int 0, .int 0, .int 0, .int 0, .int 0])), (q1, .inr (3, [.ref lwo3])), (lwo3, .inl (cJ, 1296, .inr (.inl (fun _ => 0)))), (q4, .inl (cII, 32, .inr (.inr (.inr (.inr (fun i => if i < 32 then some (r5 i) else none))))))] ++ mt_rw 32 r5 (fun _ => .inl (cI, 5, .inl (fun _ => 0)))) H := hP
  have hD : va_D A ([(pa, .inr (4, [.null, .null, .ref q1, .ref q4, .null, .null, .int 0, .int 0, .int 0, .int 0, .int 0])), (q1, .inr (3, [.ref lwo3])), (lwo3, .inl (cJ, 1296, .inr (.inl (fun _ => 0)))), (q4, .inl (cII, 32, .inr (.inr (.inr (.inr (fun i => if i < 32 then some (r5 i) else none))))))] ++ mt_rw 32 r5 (fun _ => .inl (cI, 5, .inl (fun _ => 0)))) := hD
  refine lv_aload_n hx hb d_pn_init_26 rfl (lv_at hl 0 rfl) ?_
  refine lv_bipush (v := 32) hx hb d_pn_init_27 (by decide) ?_
  refine mt_newI hx hb (hg _ ga_int) hK hP hD hS hA 1 rfl 32 (by decide) (by decide) (by decide) (Nat.le_of_ble_eq_true rfl) (Nat.le_of_ble_eq_true rfl) d_pn_init_29 (fun q6 H hP hD hS => ?_)
  have hP : va_P D kls (([(pa, .inr (4, [.null, .null, .ref q1, .ref q4, .null, .null, .int 0, .int 0, .int 0, .int 0, .int 0])), (q1, .inr (3, [.ref lwo3])), (lwo3, .inl (cJ, 1296, .inr (.inl (fun _ => 0)))), (q4, .inl (cII, 32, .inr (.inr (.inr (.inr (fun i => if i < 32 then some (r5 i) else none))))))] ++ mt_rw 32 r5 (fun _ => .inl (cI, 5, .inl (fun _ => 0)))) ++ [(q6, .inl (cI, 32, .inl (fun _ => 0)))]) H := hP
  have hD : va_D A (([(pa, .inr (4, [.null, .null, .ref q1, .ref q4, .null, .null, .int 0, .int 0, .int 0, .int 0, .int 0])), (q1, .inr (3, [.ref lwo3])), (lwo3, .inl (cJ, 1296, .inr (.inl (fun _ => 0)))), (q4, .inl (cII, 32, .inr (.inr (.inr (.inr (fun i => if i < 32 then some (r5 i) else none))))))] ++ mt_rw 32 r5 (fun _ => .inl (cI, 5, .inl (fun _ => 0)))) ++ [(q6, .inl (cI, 32, .inl (fun _ => 0)))]) := hD
  refine W.widen (k := 36) (n := 1521) (Nat.le_of_ble_eq_true rfl) (Nat.le_of_ble_eq_true rfl) ?_
  refine pf_pn_23 hx hb hg hown hnm hK hP hD hS 0 rfl rfl rfl (Nat.le_of_ble_eq_true rfl) d_pn_init_31 (fun H locs hP hD hS => ?_)
  have hP : va_P D kls (([(pa, .inr (4, [.null, .null, .ref q1, .ref q4, .ref q6, .null, .int 0, .int 0, .int 0, .int 0, .int 0])), (q1, .inr (3, [.ref lwo3])), (lwo3, .inl (cJ, 1296, .inr (.inl (fun _ => 0)))), (q4, .inl (cII, 32, .inr (.inr (.inr (.inr (fun i => if i < 32 then some (r5 i) else none))))))] ++ mt_rw 32 r5 (fun _ => .inl (cI, 5, .inl (fun _ => 0)))) ++ [(q6, .inl (cI, 32, .inl (fun _ => 0)))]) H := hP
  have hD : va_D A (([(pa, .inr (4, [.null, .null, .ref q1, .ref q4, .ref q6, .null, .int 0, .int 0, .int 0, .int 0, .int 0])), (q1, .inr (3, [.ref lwo3])), (lwo3, .inl (cJ, 1296, .inr (.inl (fun _ => 0)))), (q4, .inl (cII, 32, .inr (.inr (.inr (.inr (fun i => if i < 32 then some (r5 i) else none))))))] ++ mt_rw 32 r5 (fun _ => .inl (cI, 5, .inl (fun _ => 0)))) ++ [(q6, .inl (cI, 32, .inl (fun _ => 0)))]) := hD
  refine lv_aload_n hx hb d_pn_init_34 rfl (lv_at hl 0 rfl) ?_
  refine lv_bipush (v := 32) hx hb d_pn_init_35 (by decide) ?_
  refine lv_iconst (v := 5) hx hb d_pn_init_37 (by decide) ?_
  refine mt_mna (N' := 32) (K' := 5) hx hb hown (hg _ gc_pn_18) hX (hg _ ga_int) hK hP hD hS hA 1 3 rfl rfl (by decide) (by decide) (by decide) (by decide) (by decide) (by decide) (by decide) (Nat.le_of_ble_eq_true rfl) (Nat.le_of_ble_eq_true rfl) d_pn_init_38 (fun q7 r8 H hP hD hS => ?_)
  have hP : va_P D kls ((([(pa, .inr (4, [.null, .null, .ref q1, .ref q4, .ref q6, .null, .int 0, .int 0, .int 0, .int 0, .int 0])), (q1, .inr (3, [.ref lwo3])), (lwo3, .inl (cJ, 1296, .inr (.inl (fun _ => 0)))), (q4, .inl (cII, 32, .inr (.inr (.inr (.inr (fun i => if i < 32 then some (r5 i) else none))))))] ++ mt_rw 32 r5 (fun _ => .inl (cI, 5, .inl (fun _ => 0)))) ++ [(q6, .inl (cI, 32, .inl (fun _ => 0))), (q7, .inl (cII, 32, .inr (.inr (.inr (.inr (fun i => if i < 32 then some (r8 i) else none))))))]) ++ mt_rw 32 r8 (fun _ => .inl (cI, 5, .inl (fun _ => 0)))) H := hP
  have hD : va_D A ((([(pa, .inr (4, [.null, .null, .ref q1, .ref q4, .ref q6, .null, .int 0, .int 0, .int 0, .int 0, .int 0])), (q1, .inr (3, [.ref lwo3])), (lwo3, .inl (cJ, 1296, .inr (.inl (fun _ => 0)))), (q4, .inl (cII, 32, .inr (.inr (.inr (.inr (fun i => if i < 32 then some (r5 i) else none))))))] ++ mt_rw 32 r5 (fun _ => .inl (cI, 5, .inl (fun _ => 0)))) ++ [(q6, .inl (cI, 32, .inl (fun _ => 0))), (q7, .inl (cII, 32, .inr (.inr (.inr (.inr (fun i => if i < 32 then some (r8 i) else none))))))]) ++ mt_rw 32 r8 (fun _ => .inl (cI, 5, .inl (fun _ => 0)))) := hD
  refine W.widen (k := 69) (n := 1713) (Nat.le_of_ble_eq_true rfl) (Nat.le_of_ble_eq_true rfl) ?_
  refine pf_pn_27 hx hb hg hown hnm hK hP hD hS 0 rfl rfl rfl (Nat.le_of_ble_eq_true rfl) d_pn_init_42 (fun H locs hP hD hS => ?_)
  have hP : va_P D kls ((([(pa, .inr (4, [.null, .null, .ref q1, .ref q4, .ref q6, .ref q7, .int 0, .int 0, .int 0, .int 0, .int 0])), (q1, .inr (3, [.ref lwo3])), (lwo3, .inl (cJ, 1296, .inr (.inl (fun _ => 0)))), (q4, .inl (cII, 32, .inr (.inr (.inr (.inr (fun i => if i < 32 then some (r5 i) else none))))))] ++ mt_rw 32 r5 (fun _ => .inl (cI, 5, .inl (fun _ => 0)))) ++ [(q6, .inl (cI, 32, .inl (fun _ => 0))), (q7, .inl (cII, 32, .inr (.inr (.inr (.inr (fun i => if i < 32 then some (r8 i) else none))))))]) ++ mt_rw 32 r8 (fun _ => .inl (cI, 5, .inl (fun _ => 0)))) H := hP
  have hD : va_D A ((([(pa, .inr (4, [.null, .null, .ref q1, .ref q4, .ref q6, .ref q7, .int 0, .int 0, .int 0, .int 0, .int 0])), (q1, .inr (3, [.ref lwo3])), (lwo3, .inl (cJ, 1296, .inr (.inl (fun _ => 0)))), (q4, .inl (cII, 32, .inr (.inr (.inr (.inr (fun i => if i < 32 then some (r5 i) else none))))))] ++ mt_rw 32 r5 (fun _ => .inl (cI, 5, .inl (fun _ => 0)))) ++ [(q6, .inl (cI, 32, .inl (fun _ => 0))), (q7, .inl (cII, 32, .inr (.inr (.inr (.inr (fun i => if i < 32 then some (r8 i) else none))))))]) ++ mt_rw 32 r8 (fun _ => .inl (cI, 5, .inl (fun _ => 0)))) := hD
  refine lv_aload_n hx hb d_pn_init_45 rfl (lv_at hl 0 rfl) ?_
  refine lv_aload_n hx hb d_pn_init_46 rfl (lv_at hl 1 rfl) ?_
  refine pf_pn_30 hx hb hg hown hnm hK hP hD hS 0 rfl rfl rfl (Nat.le_of_ble_eq_true rfl) d_pn_init_47 (fun H locs hP hD hS => ?_)
  have hP : va_P D kls ((([(pa, .inr (4, [.ref pfl, .null, .ref q1, .ref q4, .ref q6, .ref q7, .int 0, .int 0, .int 0, .int 0, .int 0])), (q1, .inr (3, [.ref lwo3])), (lwo3, .inl (cJ, 1296, .inr (.inl (fun _ => 0)))), (q4, .inl (cII, 32, .inr (.inr (.inr (.inr (fun i => if i < 32 then some (r5 i) else none))))))] ++ mt_rw 32 r5 (fun _ => .inl (cI, 5, .inl (fun _ => 0)))) ++ [(q6, .inl (cI, 32, .inl (fun _ => 0))), (q7, .inl (cII, 32, .inr (.inr (.inr (.inr (fun i => if i < 32 then some (r8 i) else none))))))]) ++ mt_rw 32 r8 (fun _ => .inl (cI, 5, .inl (fun _ => 0)))) H := hP
  have hD : va_D A ((([(pa, .inr (4, [.ref pfl, .null, .ref q1, .ref q4, .ref q6, .ref q7, .int 0, .int 0, .int 0, .int 0, .int 0])), (q1, .inr (3, [.ref lwo3])), (lwo3, .inl (cJ, 1296, .inr (.inl (fun _ => 0)))), (q4, .inl (cII, 32, .inr (.inr (.inr (.inr (fun i => if i < 32 then some (r5 i) else none))))))] ++ mt_rw 32 r5 (fun _ => .inl (cI, 5, .inl (fun _ => 0)))) ++ [(q6, .inl (cI, 32, .inl (fun _ => 0))), (q7, .inl (cII, 32, .inr (.inr (.inr (.inr (fun i => if i < 32 then some (r8 i) else none))))))]) ++ mt_rw 32 r8 (fun _ => .inl (cI, 5, .inl (fun _ => 0)))) := hD
  refine lv_aload_n hx hb d_pn_init_50 rfl (lv_at hl 0 rfl) ?_
  refine lv_aload_n hx hb d_pn_init_51 rfl (lv_at hl 2 rfl) ?_
  refine pf_pn_34 hx hb hg hown hnm hK hP hD hS 0 rfl rfl rfl (Nat.le_of_ble_eq_true rfl) d_pn_init_52 (fun H locs hP hD hS => ?_)
  have hP : va_P D kls ((([(pa, .inr (4, [.ref pfl, .ref pcr, .ref q1, .ref q4, .ref q6, .ref q7, .int 0, .int 0, .int 0, .int 0, .int 0])), (q1, .inr (3, [.ref lwo3])), (lwo3, .inl (cJ, 1296, .inr (.inl (fun _ => 0)))), (q4, .inl (cII, 32, .inr (.inr (.inr (.inr (fun i => if i < 32 then some (r5 i) else none))))))] ++ mt_rw 32 r5 (fun _ => .inl (cI, 5, .inl (fun _ => 0)))) ++ [(q6, .inl (cI, 32, .inl (fun _ => 0))), (q7, .inl (cII, 32, .inr (.inr (.inr (.inr (fun i => if i < 32 then some (r8 i) else none))))))]) ++ mt_rw 32 r8 (fun _ => .inl (cI, 5, .inl (fun _ => 0)))) H := hP
  have hD : va_D A ((([(pa, .inr (4, [.ref pfl, .ref pcr, .ref q1, .ref q4, .ref q6, .ref q7, .int 0, .int 0, .int 0, .int 0, .int 0])), (q1, .inr (3, [.ref lwo3])), (lwo3, .inl (cJ, 1296, .inr (.inl (fun _ => 0)))), (q4, .inl (cII, 32, .inr (.inr (.inr (.inr (fun i => if i < 32 then some (r5 i) else none))))))] ++ mt_rw 32 r5 (fun _ => .inl (cI, 5, .inl (fun _ => 0)))) ++ [(q6, .inl (cI, 32, .inl (fun _ => 0))), (q7, .inl (cII, 32, .inr (.inr (.inr (.inr (fun i => if i < 32 then some (r8 i) else none))))))]) ++ mt_rw 32 r8 (fun _ => .inl (cI, 5, .inl (fun _ => 0)))) := hD
  refine W.widen (k := 69) (n := 1713) (Nat.le_of_ble_eq_true rfl) (Nat.le_of_ble_eq_true rfl) ?_
  have hP9 := hP
  have hD9 := hD
  exact W.vret hx hb hr (fun t ht hW => ⟨⟨(q1, lwo3, q4, r5, q6, q7, r8), rfl, trivial, by rw [ht]; exact hP9, hD9⟩, hS.F ht⟩) hS.2.2 d_pn_init_55
end
section
set_option maxHeartbeats 4000000 in
set_option maxRecDepth 100000 in
theorem c_ld_init (l : Launch) (D : va_G) (cZ cI cJ cII : ClassId) (da : Nat) (sz : Nat)  : Met l y_ld_init w_ld_init ({ frames := 1, cells := 9, slots := 198, locals := 40 }) (va_Pc [.ref da] (mt_B D [(cZ, .boolean), (cI, .int), (cJ, .long), (cII, .array .int)] [(da, .inr (2, [.null, .null, .null]))] sz)) ((fun A => va_Qv (fun (u : Nat × (Nat → Nat) × Nat × Nat) => True) (fun (u : Nat × (Nat → Nat) × Nat × Nat) (t : State) => mt_O D A (([(da, .inr (2, [.ref (u.1), .ref (u.2.2.1), .ref (u.2.2.2)])), ((u.1), .inl (cII, 6, .inr (.inr (.inr (.inr (fun i => if i < 6 then some ((u.2.1) i) else none))))))] ++ mt_rw 6 (u.2.1) (fun _ => .inl (cI, 30, .inl (fun _ => 0)))) ++ [((u.2.2.1), .inl (cI, 6, .inl (fun _ => 0))), ((u.2.2.2), .inl (cI, 6, .inl (fun _ => 0)))]) t) A) (va_A [(da, .inr (2, [.null, .null, .null]))] sz)) 9 198 (va_A [(da, .inr (2, [.null, .null, .null]))] sz) := by
  refine mt_of (y := y_ld_init) (n := 1) (av := [.ref da]) (QF := (fun A => va_Qv (fun (u : Nat × (Nat → Nat) × Nat × Nat) => True) (fun (u : Nat × (Nat → Nat) × Nat × Nat) (t : State) => mt_O D A (([(da, .inr (2, [.ref (u.1), .ref (u.2.2.1), .ref (u.2.2.2)])), ((u.1), .inl (cII, 6, .inr (.inr (.inr (.inr (fun i => if i < 6 then some ((u.2.1) i) else none))))))] ++ mt_rw 6 (u.2.1) (fun _ => .inl (cI, 30, .inl (fun _ => 0)))) ++ [((u.2.2.1), .inl (cI, 6, .inl (fun _ => 0))), ((u.2.2.2), .inl (cI, 6, .inl (fun _ => 0)))]) t) A)) (by decide) (Nat.le_of_ble_eq_true rfl) ?_
  intro p e s m below meth c ls A hx hb hr hlk hml hown hnm hg hl hX hP hK hD hA hS
  obtain ⟨H, hH⟩ : ∃ H : Heap, H = s.heap := ⟨_, rfl⟩
  have hS : va_S A s.heap H [] := by rw [hH]; exact va_S.rf
  rw [← hH] at hP ⊢
  have hown : s.vm.findClass R_ld = some m.cls := hown
  have hl : lv_has ls 1 [(0, .ref da)] := hl
  refine lv_aload_n hx hb d_ld_init_0 rfl (lv_at hl 0 rfl) ?_
  refine W.objInit hx hb hown (hg _ go_ld) (hg _ go_m) (hg _ go_c) rfl (by rw [hml]; exact hl.1) rfl d_ld_init_1 (Nat.le_of_ble_eq_true rfl) (Nat.le_of_ble_eq_true rfl) ?_
  refine W.eq (g2 := F0 m 4 ls []) rfl ?_
  refine lv_aload_n hx hb d_ld_init_4 rfl (lv_at hl 0 rfl) ?_
  refine lv_bipush (v := 6) hx hb d_ld_init_5 (by decide) ?_
  refine lv_bipush (v := 30) hx hb d_ld_init_7 (by decide) ?_
  refine mt_mna (N' := 6) (K' := 30) hx hb hown (hg _ gc_ld_9) hX (hg _ ga_int) hK hP hD hS hA 1 3 rfl rfl (by decide) (by decide) (by decide) (by decide) (by decide) (by decide) (by decide) (Nat.le_of_ble_eq_true rfl) (Nat.le_of_ble_eq_true rfl) d_ld_init_9 (fun q1 r2 H hP hD hS => ?_)
  have hP : va_P D kls ([(da, .inr (2, [.null, .null, .null])), (q1, .inl (cII, 6, .inr (.inr (.inr (.inr (fun i => if i < 6 then some (r2 i) else none))))))] ++ mt_rw 6 r2 (fun _ => .inl (cI, 30, .inl (fun _ => 0)))) H := hP
  have hD : va_D A ([(da, .inr (2, [.null, .null, .null])), (q1, .inl (cII, 6, .inr (.inr (.inr (.inr (fun i => if i < 6 then some (r2 i) else none))))))] ++ mt_rw 6 r2 (fun _ => .inl (cI, 30, .inl (fun _ => 0)))) := hD
  refine W.widen (k := 7) (n := 186) (Nat.le_of_ble_eq_true rfl) (Nat.le_of_ble_eq_true rfl) ?_
  refine pf_ld_11 hx hb hg hown hnm hK hP hD hS 0 rfl rfl rfl (Nat.le_of_ble_eq_true rfl) d_ld_init_13 (fun H locs hP hD hS => ?_)
  have hP : va_P D kls ([(da, .inr (2, [.ref q1, .null, .null])), (q1, .inl (cII, 6, .inr (.inr (.inr (.inr (fun i => if i < 6 then some (r2 i) else none))))))] ++ mt_rw 6 r2 (fun _ => .inl (cI, 30, .inl (fun _ => 0)))) H := hP
  have hD : va_D A ([(da, .inr (2, [.ref q1, .null, .null])), (q1, .inl (cII, 6, .inr (.inr (.inr (.inr (fun i => if i < 6 then some (r2 i) else none))))))] ++ mt_rw 6 r2 (fun _ => .inl (cI, 30, .inl (fun _ => 0)))) := hD
  refine lv_aload_n hx hb d_ld_init_16 rfl (lv_at hl 0 rfl) ?_
  refine lv_bipush (v := 6) hx hb d_ld_init_17 (by decide) ?_
  refine mt_newI hx hb (hg _ ga_int) hK hP hD hS hA 1 rfl 6 (by decide) (by decide) (by decide) (Nat.le_of_ble_eq_true rfl) (Nat.le_of_ble_eq_true rfl) d_ld_init_19 (fun q3 H hP hD hS => ?_)
  have hP : va_P D kls (([(da, .inr (2, [.ref q1, .null, .null])), (q1, .inl (cII, 6, .inr (.inr (.inr (.inr (fun i => if i < 6 then some (r2 i) else none))))))] ++ mt_rw 6 r2 (fun _ => .inl (cI, 30, .inl (fun _ => 0)))) ++ [(q3, .inl (cI, 6, .inl (fun _ => 0)))]) H := hP
  have hD : va_D A (([(da, .inr (2, [.ref q1, .null, .null])), (q1, .inl (cII, 6, .inr (.inr (.inr (.inr (fun i => if i < 6 then some (r2 i) else none))))))] ++ mt_rw 6 r2 (fun _ => .inl (cI, 30, .inl (fun _ => 0)))) ++ [(q3, .inl (cI, 6, .inl (fun _ => 0)))]) := hD
  refine W.widen (k := 8) (n := 192) (Nat.le_of_ble_eq_true rfl) (Nat.le_of_ble_eq_true rfl) ?_
  refine pf_ld_16 hx hb hg hown hnm hK hP hD hS 0 rfl rfl rfl (Nat.le_of_ble_eq_true rfl) d_ld_init_21 (fun H locs hP hD hS => ?_)
  have hP : va_P D kls (([(da, .inr (2, [.ref q1, .ref q3, .null])), (q1, .inl (cII, 6, .inr (.inr (.inr (.inr (fun i => if i < 6 then some (r2 i) else none))))))] ++ mt_rw 6 r2 (fun _ => .inl (cI, 30, .inl (fun _ => 0)))) ++ [(q3, .inl (cI, 6, .inl (fun _ => 0)))]) H := hP
  have hD : va_D A (([(da, .inr (2, [.ref q1, .ref q3, .null])), (q1, .inl (cII, 6, .inr (.inr (.inr (.inr (fun i => if i < 6 then some (r2 i) else none))))))] ++ mt_rw 6 r2 (fun _ => .inl (cI, 30, .inl (fun _ => 0)))) ++ [(q3, .inl (cI, 6, .inl (fun _ => 0)))]) := hD
  refine lv_aload_n hx hb d_ld_init_24 rfl (lv_at hl 0 rfl) ?_
  refine lv_bipush (v := 6) hx hb d_ld_init_25 (by decide) ?_
  refine mt_newI hx hb (hg _ ga_int) hK hP hD hS hA 1 rfl 6 (by decide) (by decide) (by decide) (Nat.le_of_ble_eq_true rfl) (Nat.le_of_ble_eq_true rfl) d_ld_init_27 (fun q4 H hP hD hS => ?_)
  have hP : va_P D kls (([(da, .inr (2, [.ref q1, .ref q3, .null])), (q1, .inl (cII, 6, .inr (.inr (.inr (.inr (fun i => if i < 6 then some (r2 i) else none))))))] ++ mt_rw 6 r2 (fun _ => .inl (cI, 30, .inl (fun _ => 0)))) ++ [(q3, .inl (cI, 6, .inl (fun _ => 0))), (q4, .inl (cI, 6, .inl (fun _ => 0)))]) H := hP
  have hD : va_D A (([(da, .inr (2, [.ref q1, .ref q3, .null])), (q1, .inl (cII, 6, .inr (.inr (.inr (.inr (fun i => if i < 6 then some (r2 i) else none))))))] ++ mt_rw 6 r2 (fun _ => .inl (cI, 30, .inl (fun _ => 0)))) ++ [(q3, .inl (cI, 6, .inl (fun _ => 0))), (q4, .inl (cI, 6, .inl (fun _ => 0)))]) := hD
  refine W.widen (k := 9) (n := 198) (Nat.le_of_ble_eq_true rfl) (Nat.le_of_ble_eq_true rfl) ?_
  refine pf_ld_20 hx hb hg hown hnm hK hP hD hS 0 rfl rfl rfl (Nat.le_of_ble_eq_true rfl) d_ld_init_29 (fun H locs hP hD hS => ?_)
  have hP : va_P D kls (([(da, .inr (2, [.ref q1, .ref q3, .ref q4])), (q1, .inl (cII, 6, .inr (.inr (.inr (.inr (fun i => if i < 6 then some (r2 i) else none))))))] ++ mt_rw 6 r2 (fun _ => .inl (cI, 30, .inl (fun _ => 0)))) ++ [(q3, .inl (cI, 6, .inl (fun _ => 0))), (q4, .inl (cI, 6, .inl (fun _ => 0)))]) H := hP
  have hD : va_D A (([(da, .inr (2, [.ref q1, .ref q3, .ref q4])), (q1, .inl (cII, 6, .inr (.inr (.inr (.inr (fun i => if i < 6 then some (r2 i) else none))))))] ++ mt_rw 6 r2 (fun _ => .inl (cI, 30, .inl (fun _ => 0)))) ++ [(q3, .inl (cI, 6, .inl (fun _ => 0))), (q4, .inl (cI, 6, .inl (fun _ => 0)))]) := hD
  refine W.widen (k := 9) (n := 198) (Nat.le_of_ble_eq_true rfl) (Nat.le_of_ble_eq_true rfl) ?_
  have hP9 := hP
  have hD9 := hD
  exact W.vret hx hb hr (fun t ht hW => ⟨⟨(q1, r2, q3, q4), rfl, trivial, by rw [ht]; exact hP9, hD9⟩, hS.F ht⟩) hS.2.2 d_ld_init_32
end
section
set_option maxHeartbeats 4000000 in
set_option maxRecDepth 100000 in
theorem c_vd_init (l : Launch) (D : va_G) (cZ cI cJ cII : ClassId) (ea : Nat) (efl : Nat) (ecr : Nat) (ela : Nat) (sz : Nat)  : Met l y_vd_init w_vd_init ({ frames := 1, cells := 0, slots := 0, locals := 40 }) (va_Pc [.ref ea, .ref efl, .ref ecr, .ref ela] (mt_B D [(cZ, .boolean), (cI, .int), (cJ, .long), (cII, .array .int)] [(ea, .inr (5, [.null, .null, .null, .int 0, .int 0, .int 0, .int 0]))] sz)) ((fun A => va_Qv (fun (u : Unit) => True) (fun (u : Unit) (t : State) => mt_O D A [(ea, .inr (5, [.ref efl, .ref ecr, .ref ela, .int 0, .int 0, .int 0, .int 0]))] t) A) (va_A [(ea, .inr (5, [.null, .null, .null, .int 0, .int 0, .int 0, .int 0]))] sz)) 0 0 (va_A [(ea, .inr (5, [.null, .null, .null, .int 0, .int 0, .int 0, .int 0]))] sz) := by
  refine mt_of (y := y_vd_init) (n := 4) (av := [.ref ea, .ref efl, .ref ecr, .ref ela]) (QF := (fun A => va_Qv (fun (u : Unit) => True) (fun (u : Unit) (t : State) => mt_O D A [(ea, .inr (5, [.ref efl, .ref ecr, .ref ela, .int 0, .int 0, .int 0, .int 0]))] t) A)) (by decide) (Nat.le_of_ble_eq_true rfl) ?_
  intro p e s m below meth c ls A hx hb hr hlk hml hown hnm hg hl hX hP hK hD hA hS
  obtain ⟨H, hH⟩ : ∃ H : Heap, H = s.heap := ⟨_, rfl⟩
  have hS : va_S A s.heap H [] := by rw [hH]; exact va_S.rf
  rw [← hH] at hP ⊢
  have hown : s.vm.findClass R_vd = some m.cls := hown
  have hl : lv_has ls 4 [(0, .ref ea), (1, .ref efl), (2, .ref ecr), (3, .ref ela)] := hl
  refine lv_aload_n hx hb d_vd_init_0 rfl (lv_at hl 0 rfl) ?_
  refine W.objInit hx hb hown (hg _ go_vd) (hg _ go_m) (hg _ go_c) rfl (by rw [hml]; exact hl.1) rfl d_vd_init_1 (Nat.le_of_ble_eq_true rfl) (Nat.le_of_ble_eq_true rfl) ?_
  refine W.eq (g2 := F0 m 4 ls []) rfl ?_
  refine lv_aload_n hx hb d_vd_init_4 rfl (lv_at hl 0 rfl) ?_
  refine lv_aload_n hx hb d_vd_init_5 rfl (lv_at hl 1 rfl) ?_
  refine pf_vd_9 hx hb hg hown hnm hK hP hD hS 0 rfl rfl rfl (Nat.le_of_ble_eq_true rfl) d_vd_init_6 (fun H locs hP hD hS => ?_)
  have hP : va_P D kls [(ea, .inr (5, [.ref efl, .null, .null, .int 0, .int 0, .int 0, .int 0]))] H := hP
  have hD : va_D A [(ea, .inr (5, [.ref efl, .null, .null, .int 0, .int 0, .int 0, .int 0]))] := hD
  refine lv_aload_n hx hb d_vd_init_9 rfl (lv_at hl 0 rfl) ?_
  refine lv_aload_n hx hb d_vd_init_10 rfl (lv_at hl 2 rfl) ?_
  refine pf_vd_15 hx hb hg hown hnm hK hP hD hS 0 rfl rfl rfl (Nat.le_of_ble_eq_true rfl) d_vd_init_11 (fun H locs hP hD hS => ?_)
  have hP : va_P D kls [(ea, .inr (5, [.ref efl, .ref ecr, .null, .int 0, .int 0, .int 0, .int 0]))] H := hP
  have hD : va_D A [(ea, .inr (5, [.ref efl, .ref ecr, .null, .int 0, .int 0, .int 0, .int 0]))] := hD
  refine lv_aload_n hx hb d_vd_init_14 rfl (lv_at hl 0 rfl) ?_
  refine lv_aload_n hx hb d_vd_init_15 rfl (lv_at hl 3 rfl) ?_
  refine pf_vd_19 hx hb hg hown hnm hK hP hD hS 0 rfl rfl rfl (Nat.le_of_ble_eq_true rfl) d_vd_init_16 (fun H locs hP hD hS => ?_)
  have hP : va_P D kls [(ea, .inr (5, [.ref efl, .ref ecr, .ref ela, .int 0, .int 0, .int 0, .int 0]))] H := hP
  have hD : va_D A [(ea, .inr (5, [.ref efl, .ref ecr, .ref ela, .int 0, .int 0, .int 0, .int 0]))] := hD
  have hP9 := hP
  have hD9 := hD
  exact W.vret hx hb hr (fun t ht hW => ⟨⟨(), rfl, trivial, by rw [ht]; exact hP9, hD9⟩, hS.F ht⟩) hS.2.2 d_vd_init_19
end
section
set_option maxHeartbeats 4000000 in
set_option maxRecDepth 100000 in
theorem c_mr_init (l : Launch) (D : va_G) (cZ cI cJ cII : ClassId) (ma : Nat) (sz : Nat)  : Met l y_mr_init w_mr_init ({ frames := 7, cells := 123, slots := 2387, locals := 280 }) (va_Pc [.ref ma] (mt_B D [(cZ, .boolean), (cI, .int), (cJ, .long), (cII, .array .int)] [(ma, .inr (6, [.null, .null, .null, .null, .null]))] sz)) ((fun A => va_Qv (fun (u : Nat × Nat × Nat × Nat × Nat × Nat × Nat × Nat × Nat × (Nat → Nat) × (Nat → Int32) × Int32 × (Nat → Int32) × (Nat → Int32) × (Nat → va_E) × Nat × Nat × Nat × (Nat → Nat) × Nat × Nat × Nat × Nat × Nat × Nat × (Nat → Nat) × Nat × Nat × (Nat → Nat) × Nat × (Nat → Nat) × Nat × Nat) => (∀ j, j < 25 → (u.2.2.2.2.2.2.2.2.2.2.1) j = 0) ∧ (u.2.2.2.2.2.2.2.2.2.2.2.2.2.1) 0 = 1 ∧ (∃ f : Nat → Int32, (u.2.2.2.2.2.2.2.2.2.2.2.2.2.2.1) 0 = .inl (cI, 5, .inl f) ∧ f 0 = 0) ∧ (u.2.2.2.2.2.2.2.2.2.2.2.1) = 1 ∧ mt_r5 cI (u.2.2.2.2.2.2.2.2.2.2.2.2.2.2.1)) (fun (u : Nat × Nat × Nat × Nat × Nat × Nat × Nat × Nat × Nat × (Nat → Nat) × (Nat → Int32) × Int32 × (Nat → Int32) × (Nat → Int32) × (Nat → va_E) × Nat × Nat × Nat × (Nat → Nat) × Nat × Nat × Nat × Nat × Nat × Nat × (Nat → Nat) × Nat × Nat × (Nat → Nat) × Nat × (Nat → Nat) × Nat × Nat) (t : State) => mt_O D A ([(ma, .inr (6, [.ref (u.1), .ref (u.2.1), .ref (u.2.2.1), .ref (u.2.2.2.1), .ref (u.2.2.2.2.1)]))] ++ ((((([((u.1), .inr (1, [.int 1, .int 1, .ref (u.2.2.2.2.2.1), .int (u.2.2.2.2.2.2.2.2.2.2.2.1), .ref (u.2.2.2.2.2.2.1), .ref (u.2.2.2.2.2.2.2.1), .ref (u.2.2.2.2.2.2.2.2.1)])), ((u.2.2.2.2.2.1), .inl (cZ, 25, .inl (u.2.2.2.2.2.2.2.2.2.2.1))), ((u.2.2.2.2.2.2.1), .inl (cI, 25, .inl (u.2.2.2.2.2.2.2.2.2.2.2.2.1))), ((u.2.2.2.2.2.2.2.1), .inl (cI, 25, .inl (u.2.2.2.2.2.2.2.2.2.2.2.2.2.1))), ((u.2.2.2.2.2.2.2.2.1), .inl (cII, 25, .inr (.inr (.inr (.inr (fun i => if i < 25 then some ((u.2.2.2.2.2.2.2.2.2.1) i) else none))))))] ++ mt_rw 25 (u.2.2.2.2.2.2.2.2.2.1) (u.2.2.2.2.2.2.2.2.2.2.2.2.2.2.1)) ++ (([((u.2.1), .inr (0, [.ref (u.1), .int 0, .ref (u.2.2.2.2.2.2.2.2.2.2.2.2.2.2.2.1), .ref (u.2.2.2.2.2.2.2.2.2.2.2.2.2.2.2.2.1), .ref (u.2.2.2.2.2.2.2.2.2.2.2.2.2.2.2.2.2.1), .ref (u.2.2.2.2.2.2.2.2.2.2.2.2.2.2.2.2.2.2.2.1), .ref (u.2.2.2.2.2.2.2.2.2.2.2.2.2.2.2.2.2.2.2.2.1), .ref (u.2.2.2.2.2.2.2.2.2.2.2.2.2.2.2.2.2.2.2.2.2.1)])), ((u.2.2.2.2.2.2.2.2.2.2.2.2.2.2.2.1), .inl (cI, 5, .inl (fun _ => 0))), ((u.2.2.2.2.2.2.2.2.2.2.2.2.2.2.2.2.1), .inl (cI, 5, .inl (fun _ => 0))), ((u.2.2.2.2.2.2.2.2.2.2.2.2.2.2.2.2.2.1), .inl (cII, 5, .inr (.inr (.inr (.inr (fun i => if i < 5 then some ((u.2.2.2.2.2.2.2.2.2.2.2.2.2.2.2.2.2.2.1) i) else none))))))] ++ mt_rw 5 (u.2.2.2.2.2.2.2.2.2.2.2.2.2.2.2.2.2.2.1) (fun _ => .inl (cI, 25, .inl (fun _ => 0)))) ++ [((u.2.2.2.2.2.2.2.2.2.2.2.2.2.2.2.2.2.2.2.1), .inl (cI, 25, .inl (fun _ => 0))), ((u.2.2.2.2.2.2.2.2.2.2.2.2.2.2.2.2.2.2.2.2.1), .inl (cJ, 25, .inr (.inl (fun _ => 0)))), ((u.2.2.2.2.2.2.2.2.2.2.2.2.2.2.2.2.2.2.2.2.2.1), .inl (cJ, 25, .inr (.inl (fun _ => 0))))])) ++ ((([((u.2.2.1), .inr (4, [.ref (u.1), .ref (u.2.1), .ref (u.2.2.2.2.2.2.2.2.2.2.2.2.2.2.2.2.2.2.2.2.2.2.1), .ref (u.2.2.2.2.2.2.2.2.2.2.2.2.2.2.2.2.2.2.2.2.2.2.2.2.1), .ref (u.2.2.2.2.2.2.2.2.2.2.2.2.2.2.2.2.2.2.2.2.2.2.2.2.2.2.1), .ref (u.2.2.2.2.2.2.2.2.2.2.2.2.2.2.2.2.2.2.2.2.2.2.2.2.2.2.2.1), .int 0, .int 0, .int 0, .int 0, .int 0])), ((u.2.2.2.2.2.2.2.2.2.2.2.2.2.2.2.2.2.2.2.2.2.2.1), .inr (3, [.ref (u.2.2.2.2.2.2.2.2.2.2.2.2.2.2.2.2.2.2.2.2.2.2.2.1)])), ((u.2.2.2.2.2.2.2.2.2.2.2.2.2.2.2.2.2.2.2.2.2.2.2.1), .inl (cJ, 1296, .inr (.inl (fun _ => 0)))), ((u.2.2.2.2.2.2.2.2.2.2.2.2.2.2.2.2.2.2.2.2.2.2.2.2.1), .inl (cII, 32, .inr (.inr (.inr (.inr (fun i => if i < 32 then some ((u.2.2.2.2.2.2.2.2.2.2.2.2.2.2.2.2.2.2.2.2.2.2.2.2.2.1) i) else none))))))] ++ mt_rw 32 (u.2.2.2.2.2.2.2.2.2.2.2.2.2.2.2.2.2.2.2.2.2.2.2.2.2.1) (fun _ => .inl (cI, 5, .inl (fun _ => 0)))) ++ [((u.2.2.2.2.2.2.2.2.2.2.2.2.2.2.2.2.2.2.2.2.2.2.2.2.2.2.1), .inl (cI, 32, .inl (fun _ => 0))), ((u.2.2.2.2.2.2.2.2.2.2.2.2.2.2.2.2.2.2.2.2.2.2.2.2.2.2.2.1), .inl (cII, 32, .inr (.inr (.inr (.inr (fun i => if i < 32 then some ((u.2.2.2.2.2.2.2.2.2.2.2.2.2.2.2.2.2.2.2.2.2.2.2.2.2.2.2.2.1) i) else none))))))]) ++ mt_rw 32 (u.2.2.2.2.2.2.2.2.2.2.2.2.2.2.2.2.2.2.2.2.2.2.2.2.2.2.2.2.1) (fun _ => .inl (cI, 5, .inl (fun _ => 0))))) ++ (([((u.2.2.2.1), .inr (2, [.ref (u.2.2.2.2.2.2.2.2.2.2.2.2.2.2.2.2.2.2.2.2.2.2.2.2.2.2.2.2.2.1), .ref (u.2.2.2.2.2.2.2.2.2.2.2.2.2.2.2.2.2.2.2.2.2.2.2.2.2.2.2.2.2.2.2.1), .ref (u.2.2.2.2.2.2.2.2.2.2.2.2.2.2.2.2.2.2.2.2.2.2.2.2.2.2.2.2.2.2.2.2)])), ((u.2.2.2.2.2.2.2.2.2.2.2.2.2.2.2.2.2.2.2.2.2.2.2.2.2.2.2.2.2.1), .inl (cII, 6, .inr (.inr (.inr (.inr (fun i => if i < 6 then some ((u.2.2.2.2.2.2.2.2.2.2.2.2.2.2.2.2.2.2.2.2.2.2.2.2.2.2.2.2.2.2.1) i) else none))))))] ++ mt_rw 6 (u.2.2.2.2.2.2.2.2.2.2.2.2.2.2.2.2.2.2.2.2.2.2.2.2.2.2.2.2.2.2.1) (fun _ => .inl (cI, 30, .inl (fun _ => 0)))) ++ [((u.2.2.2.2.2.2.2.2.2.2.2.2.2.2.2.2.2.2.2.2.2.2.2.2.2.2.2.2.2.2.2.1), .inl (cI, 6, .inl (fun _ => 0))), ((u.2.2.2.2.2.2.2.2.2.2.2.2.2.2.2.2.2.2.2.2.2.2.2.2.2.2.2.2.2.2.2.2), .inl (cI, 6, .inl (fun _ => 0)))])) ++ [((u.2.2.2.2.1), .inr (5, [.ref (u.1), .ref (u.2.1), .ref (u.2.2.2.1), .int 0, .int 0, .int 0, .int 0]))])) t) A) (va_A [(ma, .inr (6, [.null, .null, .null, .null, .null]))] sz)) 123 2387 (va_A [(ma, .inr (6, [.null, .null, .null, .null, .null]))] sz) := by
  refine mt_of (y := y_mr_init) (n := 1) (av := [.ref ma]) (QF := (fun A => va_Qv (fun (u : Nat × Nat × Nat × Nat × Nat × Nat × Nat × Nat × Nat × (Nat → Nat) × (Nat → Int32) × Int32 × (Nat → Int32) × (Nat → Int32) × (Nat → va_E) × Nat × Nat × Nat × (Nat → Nat) × Nat × Nat × Nat × Nat × Nat × Nat × (Nat → Nat) × Nat × Nat × (Nat → Nat) × Nat × (Nat → Nat) × Nat × Nat) => (∀ j, j < 25 → (u.2.2.2.2.2.2.2.2.2.2.1) j = 0) ∧ (u.2.2.2.2.2.2.2.2.2.2.2.2.2.1) 0 = 1 ∧ (∃ f : Nat → Int32, (u.2.2.2.2.2.2.2.2.2.2.2.2.2.2.1) 0 = .inl (cI, 5, .inl f) ∧ f 0 = 0) ∧ (u.2.2.2.2.2.2.2.2.2.2.2.1) = 1 ∧ mt_r5 cI (u.2.2.2.2.2.2.2.2.2.2.2.2.2.2.1)) (fun (u : Nat × Nat × Nat × Nat × Nat × Nat × Nat × Nat × Nat × (Nat → Nat) × (Nat → Int32) × Int32 × (Nat → Int32) × (Nat → Int32) × (Nat → va_E) × Nat × Nat × Nat × (Nat → Nat) × Nat × Nat × Nat × Nat × Nat × Nat × (Nat → Nat) × Nat × Nat × (Nat → Nat) × Nat × (Nat → Nat) × Nat × Nat) (t : State) => mt_O D A ([(ma, .inr (6, [.ref (u.1), .ref (u.2.1), .ref (u.2.2.1), .ref (u.2.2.2.1), .ref (u.2.2.2.2.1)]))] ++ ((((([((u.1), .inr (1, [.int 1, .int 1, .ref (u.2.2.2.2.2.1), .int (u.2.2.2.2.2.2.2.2.2.2.2.1), .ref (u.2.2.2.2.2.2.1), .ref (u.2.2.2.2.2.2.2.1), .ref (u.2.2.2.2.2.2.2.2.1)])), ((u.2.2.2.2.2.1), .inl (cZ, 25, .inl (u.2.2.2.2.2.2.2.2.2.2.1))), ((u.2.2.2.2.2.2.1), .inl (cI, 25, .inl (u.2.2.2.2.2.2.2.2.2.2.2.2.1))), ((u.2.2.2.2.2.2.2.1), .inl (cI, 25, .inl (u.2.2.2.2.2.2.2.2.2.2.2.2.2.1))), ((u.2.2.2.2.2.2.2.2.1), .inl (cII, 25, .inr (.inr (.inr (.inr (fun i => if i < 25 then some ((u.2.2.2.2.2.2.2.2.2.1) i) else none))))))] ++ mt_rw 25 (u.2.2.2.2.2.2.2.2.2.1) (u.2.2.2.2.2.2.2.2.2.2.2.2.2.2.1)) ++ (([((u.2.1), .inr (0, [.ref (u.1), .int 0, .ref (u.2.2.2.2.2.2.2.2.2.2.2.2.2.2.2.1), .ref (u.2.2.2.2.2.2.2.2.2.2.2.2.2.2.2.2.1), .ref (u.2.2.2.2.2.2.2.2.2.2.2.2.2.2.2.2.2.1), .ref (u.2.2.2.2.2.2.2.2.2.2.2.2.2.2.2.2.2.2.2.1), .ref (u.2.2.2.2.2.2.2.2.2.2.2.2.2.2.2.2.2.2.2.2.1), .ref (u.2.2.2.2.2.2.2.2.2.2.2.2.2.2.2.2.2.2.2.2.2.1)])), ((u.2.2.2.2.2.2.2.2.2.2.2.2.2.2.2.1), .inl (cI, 5, .inl (fun _ => 0))), ((u.2.2.2.2.2.2.2.2.2.2.2.2.2.2.2.2.1), .inl (cI, 5, .inl (fun _ => 0))), ((u.2.2.2.2.2.2.2.2.2.2.2.2.2.2.2.2.2.1), .inl (cII, 5, .inr (.inr (.inr (.inr (fun i => if i < 5 then some ((u.2.2.2.2.2.2.2.2.2.2.2.2.2.2.2.2.2.2.1) i) else none))))))] ++ mt_rw 5 (u.2.2.2.2.2.2.2.2.2.2.2.2.2.2.2.2.2.2.1) (fun _ => .inl (cI, 25, .inl (fun _ => 0)))) ++ [((u.2.2.2.2.2.2.2.2.2.2.2.2.2.2.2.2.2.2.2.1), .inl (cI, 25, .inl (fun _ => 0))), ((u.2.2.2.2.2.2.2.2.2.2.2.2.2.2.2.2.2.2.2.2.1), .inl (cJ, 25, .inr (.inl (fun _ => 0)))), ((u.2.2.2.2.2.2.2.2.2.2.2.2.2.2.2.2.2.2.2.2.2.1), .inl (cJ, 25, .inr (.inl (fun _ => 0))))])) ++ ((([((u.2.2.1), .inr (4, [.ref (u.1), .ref (u.2.1), .ref (u.2.2.2.2.2.2.2.2.2.2.2.2.2.2.2.2.2.2.2.2.2.2.1), .ref (u.2.2.2.2.2.2.2.2.2.2.2.2.2.2.2.2.2.2.2.2.2.2.2.2.1), .ref (u.2.2.2.2.2.2.2.2.2.2.2.2.2.2.2.2.2.2.2.2.2.2.2.2.2.2.1), .ref (u.2.2.2.2.2.2.2.2.2.2.2.2.2.2.2.2.2.2.2.2.2.2.2.2.2.2.2.1), .int 0, .int 0, .int 0, .int 0, .int 0])), ((u.2.2.2.2.2.2.2.2.2.2.2.2.2.2.2.2.2.2.2.2.2.2.1), .inr (3, [.ref (u.2.2.2.2.2.2.2.2.2.2.2.2.2.2.2.2.2.2.2.2.2.2.2.1)])), ((u.2.2.2.2.2.2.2.2.2.2.2.2.2.2.2.2.2.2.2.2.2.2.2.1), .inl (cJ, 1296, .inr (.inl (fun _ => 0)))), ((u.2.2.2.2.2.2.2.2.2.2.2.2.2.2.2.2.2.2.2.2.2.2.2.2.1), .inl (cII, 32, .inr (.inr (.inr (.inr (fun i => if i < 32 then some ((u.2.2.2.2.2.2.2.2.2.2.2.2.2.2.2.2.2.2.2.2.2.2.2.2.2.1) i) else none))))))] ++ mt_rw 32 (u.2.2.2.2.2.2.2.2.2.2.2.2.2.2.2.2.2.2.2.2.2.2.2.2.2.1) (fun _ => .inl (cI, 5, .inl (fun _ => 0)))) ++ [((u.2.2.2.2.2.2.2.2.2.2.2.2.2.2.2.2.2.2.2.2.2.2.2.2.2.2.1), .inl (cI, 32, .inl (fun _ => 0))), ((u.2.2.2.2.2.2.2.2.2.2.2.2.2.2.2.2.2.2.2.2.2.2.2.2.2.2.2.1), .inl (cII, 32, .inr (.inr (.inr (.inr (fun i => if i < 32 then some ((u.2.2.2.2.2.2.2.2.2.2.2.2.2.2.2.2.2.2.2.2.2.2.2.2.2.2.2.2.1) i) else none))))))]) ++ mt_rw 32 (u.2.2.2.2.2.2.2.2.2.2.2.2.2.2.2.2.2.2.2.2.2.2.2.2.2.2.2.2.1) (fun _ => .inl (cI, 5, .inl (fun _ => 0))))) ++ (([((u.2.2.2.1), .inr (2, [.ref (u.2.2.2.2.2.2.2.2.2.2.2.2.2.2.2.2.2.2.2.2.2.2.2.2.2.2.2.2.2.1), .ref (u.2.2.2.2.2.2.2.2.2.2.2.2.2.2.2.2.2.2.2.2.2.2.2.2.2.2.2.2.2.2.2.1), .ref (u.2.2.2.2.2.2.2.2.2.2.2.2.2.2.2.2.2.2.2.2.2.2.2.2.2.2.2.2.2.2.2.2)])), ((u.2.2.2.2.2.2.2.2.2.2.2.2.2.2.2.2.2.2.2.2.2.2.2.2.2.2.2.2.2.1), .inl (cII, 6, .inr (.inr (.inr (.inr (fun i => if i < 6 then some ((u.2.2.2.2.2.2.2.2.2.2.2.2.2.2.2.2.2.2.2.2.2.2.2.2.2.2.2.2.2.2.1) i) else none))))))] ++ mt_rw 6 (u.2.2.2.2.2.2.2.2.2.2.2.2.2.2.2.2.2.2.2.2.2.2.2.2.2.2.2.2.2.2.1) (fun _ => .inl (cI, 30, .inl (fun _ => 0)))) ++ [((u.2.2.2.2.2.2.2.2.2.2.2.2.2.2.2.2.2.2.2.2.2.2.2.2.2.2.2.2.2.2.2.1), .inl (cI, 6, .inl (fun _ => 0))), ((u.2.2.2.2.2.2.2.2.2.2.2.2.2.2.2.2.2.2.2.2.2.2.2.2.2.2.2.2.2.2.2.2), .inl (cI, 6, .inl (fun _ => 0)))])) ++ [((u.2.2.2.2.1), .inr (5, [.ref (u.1), .ref (u.2.1), .ref (u.2.2.2.1), .int 0, .int 0, .int 0, .int 0]))])) t) A)) (by decide) (Nat.le_of_ble_eq_true rfl) ?_
  intro p e s m below meth c ls A hx hb hr hlk hml hown hnm hg hl hX hP hK hD hA hS
  obtain ⟨H, hH⟩ : ∃ H : Heap, H = s.heap := ⟨_, rfl⟩
  have hS : va_S A s.heap H [] := by rw [hH]; exact va_S.rf
  rw [← hH] at hP ⊢
  have hown : s.vm.findClass R_mr = some m.cls := hown
  have hl : lv_has ls 1 [(0, .ref ma)] := hl
  refine lv_aload_n hx hb d_mr_init_0 rfl (lv_at hl 0 rfl) ?_
  refine W.objInit hx hb hown (hg _ go_mr) (hg _ go_m) (hg _ go_c) rfl (by rw [hml]; exact hl.1) rfl d_mr_init_1 (Nat.le_of_ble_eq_true rfl) (Nat.le_of_ble_eq_true rfl) ?_
  refine W.eq (g2 := F0 m 4 ls []) rfl ?_
  refine lv_aload_n hx hb d_mr_init_4 rfl (lv_at hl 0 rfl) ?_
  refine va_new (ci := 1) (fs := [.int 0, .int 0, .null, .int 0, .null, .null, .null]) (C := R_fl) (T := T_fl) (N := 7) hx hb hg in_fl t_fl t_fl_ok hown (hg _ gc_mr_9) (hg _ gj_fl) (hg _ gi_fl) hK hP hD hS hA rfl (fun j hj => by rcases (show j = 0 ∨ j = 1 ∨ j = 2 ∨ j = 3 ∨ j = 4 ∨ j = 5 ∨ j = 6 by omega) with rfl | rfl | rfl | rfl | rfl | rfl | rfl <;> rfl) (Nat.le_of_ble_eq_true rfl) (Nat.le_of_ble_eq_true rfl) d_mr_init_5 (fun q1 H hP hD hS => ?_)
  have hP := mt_rotP hP
  have hD := mt_rotD hD
  have hP : va_P D kls ([(q1, .inr (1, [.int 0, .int 0, .null, .int 0, .null, .null, .null]))] ++ [(ma, .inr (6, [.null, .null, .null, .null, .null]))]) H := hP
  have hD : va_D A ([(q1, .inr (1, [.int 0, .int 0, .null, .int 0, .null, .null, .null]))] ++ [(ma, .inr (6, [.null, .null, .null, .null, .null]))]) := hD
  refine W.widen (k := 1) (n := 7) (Nat.le_of_ble_eq_true rfl) (Nat.le_of_ble_eq_true rfl) ?_
  refine lv_dup hx hb d_mr_init_8 rfl ?_
  have hPc := mt_hd hP
  have hDc := mt_hdD hD
  have hFc := mt_hdF hD hS hA
  refine va_callv (va_runI (As := []) (rest := [.ref q1, .ref ma]) ⟨hx, hb, hml, hown, hg⟩ (c_fl_init l D cZ cI cJ cII q1 H.size) (cwI 0 hg gg_mr_11 rfl rfl rfl (hg _ gi_mr_11) (hg _ gl_mr_11) (hg _ gm_mr_11) rfl (by decide +kernel) ⟨Nat.le_of_ble_eq_true rfl, Nat.le_of_ble_eq_true rfl⟩) ⟨mt_bl, mt_pr hX hPc hK hDc⟩ rfl rfl hl.1 rfl (lv_room (Nat.le_of_ble_eq_true rfl)) d_mr_init_9 ⟨Nat.le_of_ble_eq_true rfl, Nat.le_of_ble_eq_true rfl⟩) hS (fun q _ h => hFc q h) hFc (fun u t H1 locs ht hvm hw hB hz1 hk1 hS => ?_)
  obtain ⟨wa3, ra4, sa5, ta6, rr7, wf8, fc9, rf10, sf11, re12⟩ := u
  have a9 : (∀ j, j < 25 → wf8 j = 0) ∧ sf11 0 = 1 ∧ (∃ f : Nat → Int32, re12 0 = .inl (cI, 5, .inl f) ∧ f 0 = 0) ∧ fc9 = 1 ∧ mt_r5 cI re12 := hw
  obtain ⟨hP1, hD1⟩ := hB
  rw [ht] at hP1
  have hP1 : va_P D kls ([(q1, .inr (1, [.int 1, .int 1, .ref wa3, .int fc9, .ref ra4, .ref sa5, .ref ta6])), (wa3, .inl (cZ, 25, .inl wf8)), (ra4, .inl (cI, 25, .inl rf10)), (sa5, .inl (cI, 25, .inl sf11)), (ta6, .inl (cII, 25, .inr (.inr (.inr (.inr (fun i => if i < 25 then some (rr7 i) else none))))))] ++ mt_rw 25 rr7 re12) H1 := hP1
  have hD1 : va_D _ ([(q1, .inr (1, [.int 1, .int 1, .ref wa3, .int fc9, .ref ra4, .ref sa5, .ref ta6])), (wa3, .inl (cZ, 25, .inl wf8)), (ra4, .inl (cI, 25, .inl rf10)), (sa5, .inl (cI, 25, .inl sf11)), (ta6, .inl (cII, 25, .inr (.inr (.inr (.inr (fun i => if i < 25 then some (rr7 i) else none))))))] ++ mt_rw 25 rr7 re12) := hD1
  obtain ⟨hP, hD⟩ := mt_join1 hP hD hk1 hFc hP1 hD1
  generalize H1 = H at hP hS ⊢
  have hP : va_P D kls ([(ma, .inr (6, [.null, .null, .null, .null, .null]))] ++ ([(q1, .inr (1, [.int 1, .int 1, .ref wa3, .int fc9, .ref ra4, .ref sa5, .ref ta6])), (wa3, .inl (cZ, 25, .inl wf8)), (ra4, .inl (cI, 25, .inl rf10)), (sa5, .inl (cI, 25, .inl sf11)), (ta6, .inl (cII, 25, .inr (.inr (.inr (.inr (fun i => if i < 25 then some (rr7 i) else none))))))] ++ mt_rw 25 rr7 re12)) H := hP
  have hD : va_D A ([(ma, .inr (6, [.null, .null, .null, .null, .null]))] ++ ([(q1, .inr (1, [.int 1, .int 1, .ref wa3, .int fc9, .ref ra4, .ref sa5, .ref ta6])), (wa3, .inl (cZ, 25, .inl wf8)), (ra4, .inl (cI, 25, .inl rf10)), (sa5, .inl (cI, 25, .inl sf11)), (ta6, .inl (cII, 25, .inr (.inr (.inr (.inr (fun i => if i < 25 then some (rr7 i) else none))))))] ++ mt_rw 25 rr7 re12)) := hD
  obtain ⟨X1, hX1⟩ : ∃ Z : va_W, Z = ([(q1, .inr (1, [.int 1, .int 1, .ref wa3, .int fc9, .ref ra4, .ref sa5, .ref ta6])), (wa3, .inl (cZ, 25, .inl wf8)), (ra4, .inl (cI, 25, .inl rf10)), (sa5, .inl (cI, 25, .inl sf11)), (ta6, .inl (cII, 25, .inr (.inr (.inr (.inr (fun i => if i < 25 then some (rr7 i) else none))))))] ++ mt_rw 25 rr7 re12) := ⟨_, rfl⟩
  rw [← hX1] at hP hD
  refine W.widen (k := 30) (n := 232) (Nat.le_of_ble_eq_true rfl) (Nat.le_of_ble_eq_true rfl) ?_
  refine pf_mr_12 hx hb hg hown hnm hK hP hD hS 0 rfl rfl rfl (Nat.le_of_ble_eq_true rfl) d_mr_init_12 (fun H locs hP hD hS => ?_)
  have hP : va_P D kls ([(ma, .inr (6, [.ref q1, .null, .null, .null, .null]))] ++ X1) H := hP
  have hD : va_D A ([(ma, .inr (6, [.ref q1, .null, .null, .null, .null]))] ++ X1) := hD
  refine lv_aload_n hx hb d_mr_init_15 rfl (lv_at hl 0 rfl) ?_
  refine va_new (ci := 0) (fs := [.null, .int 0, .null, .null, .null, .null, .null, .null]) (C := R_cr) (T := T_cr) (N := 8) hx hb hg in_cr t_cr t_cr_ok hown (hg _ gc_mr_16) (hg _ gj_cr) (hg _ gi_cr) hK hP hD hS hA rfl (fun j hj => by rcases (show j = 0 ∨ j = 1 ∨ j = 2 ∨ j = 3 ∨ j = 4 ∨ j = 5 ∨ j = 6 ∨ j = 7 by omega) with rfl | rfl | rfl | rfl | rfl | rfl | rfl | rfl <;> rfl) (Nat.le_of_ble_eq_true rfl) (Nat.le_of_ble_eq_true rfl) d_mr_init_16 (fun q13 H hP hD hS => ?_)
  have hP := mt_rotP hP
  have hD := mt_rotD hD
  have hP : va_P D kls ([(q13, .inr (0, [.null, .int 0, .null, .null, .null, .null, .null, .null]))] ++ ([(ma, .inr (6, [.ref q1, .null, .null, .null, .null]))] ++ X1)) H := hP
  have hD : va_D A ([(q13, .inr (0, [.null, .int 0, .null, .null, .null, .null, .null, .null]))] ++ ([(ma, .inr (6, [.ref q1, .null, .null, .null, .null]))] ++ X1)) := hD
  refine W.widen (k := 31) (n := 240) (Nat.le_of_ble_eq_true rfl) (Nat.le_of_ble_eq_true rfl) ?_
  refine lv_dup hx hb d_mr_init_19 rfl ?_
  refine lv_aload_n hx hb d_mr_init_20 rfl (lv_at hl 0 rfl) ?_
  refine gf_mr_12 hx hb hg hown hK hP 1 rfl rfl d_mr_init_21 ?_
  have hPc := mt_hd hP
  have hDc := mt_hdD hD
  have hFc := mt_hdF hD hS hA
  refine va_callv (va_runI (As := [.ref q1]) (rest := [.ref q13, .ref ma]) ⟨hx, hb, hml, hown, hg⟩ (c_cr_init l D cZ cI cJ cII q13 q1 H.size) (cwI 1 hg gg_mr_18 rfl rfl rfl (hg _ gi_mr_18) (hg _ gl_mr_18) (hg _ gm_mr_18) rfl (by decide +kernel) ⟨Nat.le_of_ble_eq_true rfl, Nat.le_of_ble_eq_true rfl⟩) ⟨mt_bl, mt_pr hX hPc hK hDc⟩ rfl rfl hl.1 rfl (lv_room (Nat.le_of_ble_eq_true rfl)) d_mr_init_24 ⟨Nat.le_of_ble_eq_true rfl, Nat.le_of_ble_eq_true rfl⟩) hS (fun q _ h => hFc q h) hFc (fun u t H1 locs ht hvm hw hB hz1 hk1 hS => ?_)
  obtain ⟨cs15, cg16, cto17, rg18, cq19, cco20, cnx21⟩ := u
  obtain ⟨hP1, hD1⟩ := hB
  rw [ht] at hP1
  have hP1 : va_P D kls (([(q13, .inr (0, [.ref q1, .int 0, .ref cs15, .ref cg16, .ref cto17, .ref cq19, .ref cco20, .ref cnx21])), (cs15, .inl (cI, 5, .inl (fun _ => 0))), (cg16, .inl (cI, 5, .inl (fun _ => 0))), (cto17, .inl (cII, 5, .inr (.inr (.inr (.inr (fun i => if i < 5 then some (rg18 i) else none))))))] ++ mt_rw 5 rg18 (fun _ => .inl (cI, 25, .inl (fun _ => 0)))) ++ [(cq19, .inl (cI, 25, .inl (fun _ => 0))), (cco20, .inl (cJ, 25, .inr (.inl (fun _ => 0)))), (cnx21, .inl (cJ, 25, .inr (.inl (fun _ => 0))))]) H1 := hP1
  have hD1 : va_D _ (([(q13, .inr (0, [.ref q1, .int 0, .ref cs15, .ref cg16, .ref cto17, .ref cq19, .ref cco20, .ref cnx21])), (cs15, .inl (cI, 5, .inl (fun _ => 0))), (cg16, .inl (cI, 5, .inl (fun _ => 0))), (cto17, .inl (cII, 5, .inr (.inr (.inr (.inr (fun i => if i < 5 then some (rg18 i) else none))))))] ++ mt_rw 5 rg18 (fun _ => .inl (cI, 25, .inl (fun _ => 0)))) ++ [(cq19, .inl (cI, 25, .inl (fun _ => 0))), (cco20, .inl (cJ, 25, .inr (.inl (fun _ => 0)))), (cnx21, .inl (cJ, 25, .inr (.inl (fun _ => 0))))]) := hD1
  obtain ⟨hP, hD⟩ := mt_join1 hP hD hk1 hFc hP1 hD1
  generalize H1 = H at hP hS ⊢
  have hP : va_P D kls ([(ma, .inr (6, [.ref q1, .null, .null, .null, .null]))] ++ (X1 ++ (([(q13, .inr (0, [.ref q1, .int 0, .ref cs15, .ref cg16, .ref cto17, .ref cq19, .ref cco20, .ref cnx21])), (cs15, .inl (cI, 5, .inl (fun _ => 0))), (cg16, .inl (cI, 5, .inl (fun _ => 0))), (cto17, .inl (cII, 5, .inr (.inr (.inr (.inr (fun i => if i < 5 then some (rg18 i) else none))))))] ++ mt_rw 5 rg18 (fun _ => .inl (cI, 25, .inl (fun _ => 0)))) ++ [(cq19, .inl (cI, 25, .inl (fun _ => 0))), (cco20, .inl (cJ, 25, .inr (.inl (fun _ => 0)))), (cnx21, .inl (cJ, 25, .inr (.inl (fun _ => 0))))]))) H := hP
  have hD : va_D A ([(ma, .inr (6, [.ref q1, .null, .null, .null, .null]))] ++ (X1 ++ (([(q13, .inr (0, [.ref q1, .int 0, .ref cs15, .ref cg16, .ref cto17, .ref cq19, .ref cco20, .ref cnx21])), (cs15, .inl (cI, 5, .inl (fun _ => 0))), (cg16, .inl (cI, 5, .inl (fun _ => 0))), (cto17, .inl (cII, 5, .inr (.inr (.inr (.inr (fun i => if i < 5 then some (rg18 i) else none))))))] ++ mt_rw 5 rg18 (fun _ => .inl (cI, 25, .inl (fun _ => 0)))) ++ [(cq19, .inl (cI, 25, .inl (fun _ => 0))), (cco20, .inl (cJ, 25, .inr (.inl (fun _ => 0)))), (cnx21, .inl (cJ, 25, .inr (.inl (fun _ => 0))))]))) := hD
  obtain ⟨X2, hX2⟩ : ∃ Z : va_W, Z = (X1 ++ (([(q13, .inr (0, [.ref q1, .int 0, .ref cs15, .ref cg16, .ref cto17, .ref cq19, .ref cco20, .ref cnx21])), (cs15, .inl (cI, 5, .inl (fun _ => 0))), (cg16, .inl (cI, 5, .inl (fun _ => 0))), (cto17, .inl (cII, 5, .inr (.inr (.inr (.inr (fun i => if i < 5 then some (rg18 i) else none))))))] ++ mt_rw 5 rg18 (fun _ => .inl (cI, 25, .inl (fun _ => 0)))) ++ [(cq19, .inl (cI, 25, .inl (fun _ => 0))), (cco20, .inl (cJ, 25, .inr (.inl (fun _ => 0)))), (cnx21, .inl (cJ, 25, .inr (.inl (fun _ => 0))))])) := ⟨_, rfl⟩
  rw [← hX2] at hP hD
  refine W.widen (k := 42) (n := 455) (Nat.le_of_ble_eq_true rfl) (Nat.le_of_ble_eq_true rfl) ?_
  refine pf_mr_21 hx hb hg hown hnm hK hP hD hS 0 rfl rfl rfl (Nat.le_of_ble_eq_true rfl) d_mr_init_27 (fun H locs hP hD hS => ?_)
  have hP : va_P D kls ([(ma, .inr (6, [.ref q1, .ref q13, .null, .null, .null]))] ++ X2) H := hP
  have hD : va_D A ([(ma, .inr (6, [.ref q1, .ref q13, .null, .null, .null]))] ++ X2) := hD
  refine lv_aload_n hx hb d_mr_init_30 rfl (lv_at hl 0 rfl) ?_
  refine va_new (ci := 4) (fs := [.null, .null, .null, .null, .null, .null, .int 0, .int 0, .int 0, .int 0, .int 0]) (C := R_pn) (T := T_pn) (N := 11) hx hb hg in_pn t_pn t_pn_ok hown (hg _ gc_mr_25) (hg _ gj_pn) (hg _ gi_pn) hK hP hD hS hA rfl (fun j hj => by rcases (show j = 0 ∨ j = 1 ∨ j = 2 ∨ j = 3 ∨ j = 4 ∨ j = 5 ∨ j = 6 ∨ j = 7 ∨ j = 8 ∨ j = 9 ∨ j = 10 by omega) with rfl | rfl | rfl | rfl | rfl | rfl | rfl | rfl | rfl | rfl | rfl <;> rfl) (Nat.le_of_ble_eq_true rfl) (Nat.le_of_ble_eq_true rfl) d_mr_init_31 (fun q22 H hP hD hS => ?_)
  have hP := mt_rotP hP
  have hD := mt_rotD hD
  have hP : va_P D kls ([(q22, .inr (4, [.null, .null, .null, .null, .null, .null, .int 0, .int 0, .int 0, .int 0, .int 0]))] ++ ([(ma, .inr (6, [.ref q1, .ref q13, .null, .null, .null]))] ++ X2)) H := hP
  have hD : va_D A ([(q22, .inr (4, [.null, .null, .null, .null, .null, .null, .int 0, .int 0, .int 0, .int 0, .int 0]))] ++ ([(ma, .inr (6, [.ref q1, .ref q13, .null, .null, .null]))] ++ X2)) := hD
  refine W.widen (k := 43) (n := 466) (Nat.le_of_ble_eq_true rfl) (Nat.le_of_ble_eq_true rfl) ?_
  refine lv_dup hx hb d_mr_init_34 rfl ?_
  refine lv_aload_n hx hb d_mr_init_35 rfl (lv_at hl 0 rfl) ?_
  refine gf_mr_12 hx hb hg hown hK hP 1 rfl rfl d_mr_init_36 ?_
  refine lv_aload_n hx hb d_mr_init_39 rfl (lv_at hl 0 rfl) ?_
  refine gf_mr_21 hx hb hg hown hK hP 1 rfl rfl d_mr_init_40 ?_
  have hPc := mt_hd hP
  have hDc := mt_hdD hD
  have hFc := mt_hdF hD hS hA
  refine va_callv (va_runI (As := [.ref q1, .ref q13]) (rest := [.ref q22, .ref ma]) ⟨hx, hb, hml, hown, hg⟩ (c_pn_init l D cZ cI cJ cII q22 q1 q13 H.size) (cwI 2 hg gg_mr_27 rfl rfl rfl (hg _ gi_mr_27) (hg _ gl_mr_27) (hg _ gm_mr_27) rfl (by decide +kernel) ⟨Nat.le_of_ble_eq_true rfl, Nat.le_of_ble_eq_true rfl⟩) ⟨mt_bl, mt_pr hX hPc hK hDc⟩ rfl rfl hl.1 rfl (lv_room (Nat.le_of_ble_eq_true rfl)) d_mr_init_43 ⟨Nat.le_of_ble_eq_true rfl, Nat.le_of_ble_eq_true rfl⟩) hS (fun q _ h => hFc q h) hFc (fun u t H1 locs ht hvm hw hB hz1 hk1 hS => ?_)
  obtain ⟨la24, lwo25, pce26, rp27, pse28, ppl29, rq30⟩ := u
  obtain ⟨hP1, hD1⟩ := hB
  rw [ht] at hP1
  have hP1 : va_P D kls ((([(q22, .inr (4, [.ref q1, .ref q13, .ref la24, .ref pce26, .ref pse28, .ref ppl29, .int 0, .int 0, .int 0, .int 0, .int 0])), (la24, .inr (3, [.ref lwo25])), (lwo25, .inl (cJ, 1296, .inr (.inl (fun _ => 0)))), (pce26, .inl (cII, 32, .inr (.inr (.inr (.inr (fun i => if i < 32 then some (rp27 i) else none))))))] ++ mt_rw 32 rp27 (fun _ => .inl (cI, 5, .inl (fun _ => 0)))) ++ [(pse28, .inl (cI, 32, .inl (fun _ => 0))), (ppl29, .inl (cII, 32, .inr (.inr (.inr (.inr (fun i => if i < 32 then some (rq30 i) else none))))))]) ++ mt_rw 32 rq30 (fun _ => .inl (cI, 5, .inl (fun _ => 0)))) H1 := hP1
  have hD1 : va_D _ ((([(q22, .inr (4, [.ref q1, .ref q13, .ref la24, .ref pce26, .ref pse28, .ref ppl29, .int 0, .int 0, .int 0, .int 0, .int 0])), (la24, .inr (3, [.ref lwo25])), (lwo25, .inl (cJ, 1296, .inr (.inl (fun _ => 0)))), (pce26, .inl (cII, 32, .inr (.inr (.inr (.inr (fun i => if i < 32 then some (rp27 i) else none))))))] ++ mt_rw 32 rp27 (fun _ => .inl (cI, 5, .inl (fun _ => 0)))) ++ [(pse28, .inl (cI, 32, .inl (fun _ => 0))), (ppl29, .inl (cII, 32, .inr (.inr (.inr (.inr (fun i => if i < 32 then some (rq30 i) else none))))))]) ++ mt_rw 32 rq30 (fun _ => .inl (cI, 5, .inl (fun _ => 0)))) := hD1
  obtain ⟨hP, hD⟩ := mt_join1 hP hD hk1 hFc hP1 hD1
  generalize H1 = H at hP hS ⊢
  have hP : va_P D kls ([(ma, .inr (6, [.ref q1, .ref q13, .null, .null, .null]))] ++ (X2 ++ ((([(q22, .inr (4, [.ref q1, .ref q13, .ref la24, .ref pce26, .ref pse28, .ref ppl29, .int 0, .int 0, .int 0, .int 0, .int 0])), (la24, .inr (3, [.ref lwo25])), (lwo25, .inl (cJ, 1296, .inr (.inl (fun _ => 0)))), (pce26, .inl (cII, 32, .inr (.inr (.inr (.inr (fun i => if i < 32 then some (rp27 i) else none))))))] ++ mt_rw 32 rp27 (fun _ => .inl (cI, 5, .inl (fun _ => 0)))) ++ [(pse28, .inl (cI, 32, .inl (fun _ => 0))), (ppl29, .inl (cII, 32, .inr (.inr (.inr (.inr (fun i => if i < 32 then some (rq30 i) else none))))))]) ++ mt_rw 32 rq30 (fun _ => .inl (cI, 5, .inl (fun _ => 0)))))) H := hP
  have hD : va_D A ([(ma, .inr (6, [.ref q1, .ref q13, .null, .null, .null]))] ++ (X2 ++ ((([(q22, .inr (4, [.ref q1, .ref q13, .ref la24, .ref pce26, .ref pse28, .ref ppl29, .int 0, .int 0, .int 0, .int 0, .int 0])), (la24, .inr (3, [.ref lwo25])), (lwo25, .inl (cJ, 1296, .inr (.inl (fun _ => 0)))), (pce26, .inl (cII, 32, .inr (.inr (.inr (.inr (fun i => if i < 32 then some (rp27 i) else none))))))] ++ mt_rw 32 rp27 (fun _ => .inl (cI, 5, .inl (fun _ => 0)))) ++ [(pse28, .inl (cI, 32, .inl (fun _ => 0))), (ppl29, .inl (cII, 32, .inr (.inr (.inr (.inr (fun i => if i < 32 then some (rq30 i) else none))))))]) ++ mt_rw 32 rq30 (fun _ => .inl (cI, 5, .inl (fun _ => 0)))))) := hD
  obtain ⟨X3, hX3⟩ : ∃ Z : va_W, Z = (X2 ++ ((([(q22, .inr (4, [.ref q1, .ref q13, .ref la24, .ref pce26, .ref pse28, .ref ppl29, .int 0, .int 0, .int 0, .int 0, .int 0])), (la24, .inr (3, [.ref lwo25])), (lwo25, .inl (cJ, 1296, .inr (.inl (fun _ => 0)))), (pce26, .inl (cII, 32, .inr (.inr (.inr (.inr (fun i => if i < 32 then some (rp27 i) else none))))))] ++ mt_rw 32 rp27 (fun _ => .inl (cI, 5, .inl (fun _ => 0)))) ++ [(pse28, .inl (cI, 32, .inl (fun _ => 0))), (ppl29, .inl (cII, 32, .inr (.inr (.inr (.inr (fun i => if i < 32 then some (rq30 i) else none))))))]) ++ mt_rw 32 rq30 (fun _ => .inl (cI, 5, .inl (fun _ => 0))))) := ⟨_, rfl⟩
  rw [← hX3] at hP hD
  refine W.widen (k := 112) (n := 2179) (Nat.le_of_ble_eq_true rfl) (Nat.le_of_ble_eq_true rfl) ?_
  refine pf_mr_30 hx hb hg hown hnm hK hP hD hS 0 rfl rfl rfl (Nat.le_of_ble_eq_true rfl) d_mr_init_46 (fun H locs hP hD hS => ?_)
  have hP : va_P D kls ([(ma, .inr (6, [.ref q1, .ref q13, .ref q22, .null, .null]))] ++ X3) H := hP
  have hD : va_D A ([(ma, .inr (6, [.ref q1, .ref q13, .ref q22, .null, .null]))] ++ X3) := hD
  refine lv_aload_n hx hb d_mr_init_49 rfl (lv_at hl 0 rfl) ?_
  refine va_new (ci := 2) (fs := [.null, .null, .null]) (C := R_ld) (T := T_ld) (N := 3) hx hb hg in_ld t_ld t_ld_ok hown (hg _ gc_mr_34) (hg _ gj_ld) (hg _ gi_ld) hK hP hD hS hA rfl (fun j hj => by rcases (show j = 0 ∨ j = 1 ∨ j = 2 by omega) with rfl | rfl | rfl <;> rfl) (Nat.le_of_ble_eq_true rfl) (Nat.le_of_ble_eq_true rfl) d_mr_init_50 (fun q31 H hP hD hS => ?_)
  have hP := mt_rotP hP
  have hD := mt_rotD hD
  have hP : va_P D kls ([(q31, .inr (2, [.null, .null, .null]))] ++ ([(ma, .inr (6, [.ref q1, .ref q13, .ref q22, .null, .null]))] ++ X3)) H := hP
  have hD : va_D A ([(q31, .inr (2, [.null, .null, .null]))] ++ ([(ma, .inr (6, [.ref q1, .ref q13, .ref q22, .null, .null]))] ++ X3)) := hD
  refine W.widen (k := 113) (n := 2182) (Nat.le_of_ble_eq_true rfl) (Nat.le_of_ble_eq_true rfl) ?_
  refine lv_dup hx hb d_mr_init_53 rfl ?_
  have hPc := mt_hd hP
  have hDc := mt_hdD hD
  have hFc := mt_hdF hD hS hA
  refine va_callv (va_runIN (As := []) (rest := [.ref q31, .ref ma]) ⟨hx, hb, hml, hown, hg⟩ (c_ld_init l D cZ cI cJ cII q31 H.size) ⟨va_cnB 0 hg gg_mr_36 rfl rfl rfl hX.2.2 (hg _ gi_mr_36) (by decide +kernel) ⟨Nat.le_of_ble_eq_true rfl, Nat.le_of_ble_eq_true rfl⟩, rfl, hg _ gm_mr_36⟩ ⟨mt_bl, mt_pr hX hPc hK hDc⟩ rfl rfl hl.1 rfl (lv_room (Nat.le_of_ble_eq_true rfl)) d_mr_init_54 ⟨Nat.le_of_ble_eq_true rfl, Nat.le_of_ble_eq_true rfl⟩) hS (fun q _ h => hFc q h) hFc (fun u t H1 locs ht hvm hw hB hz1 hk1 hS => ?_)
  obtain ⟨dce33, rl34, dto35, dle36⟩ := u
  obtain ⟨hP1, hD1⟩ := hB
  rw [ht] at hP1
  have hP1 : va_P D kls (([(q31, .inr (2, [.ref dce33, .ref dto35, .ref dle36])), (dce33, .inl (cII, 6, .inr (.inr (.inr (.inr (fun i => if i < 6 then some (rl34 i) else none))))))] ++ mt_rw 6 rl34 (fun _ => .inl (cI, 30, .inl (fun _ => 0)))) ++ [(dto35, .inl (cI, 6, .inl (fun _ => 0))), (dle36, .inl (cI, 6, .inl (fun _ => 0)))]) H1 := hP1
  have hD1 : va_D _ (([(q31, .inr (2, [.ref dce33, .ref dto35, .ref dle36])), (dce33, .inl (cII, 6, .inr (.inr (.inr (.inr (fun i => if i < 6 then some (rl34 i) else none))))))] ++ mt_rw 6 rl34 (fun _ => .inl (cI, 30, .inl (fun _ => 0)))) ++ [(dto35, .inl (cI, 6, .inl (fun _ => 0))), (dle36, .inl (cI, 6, .inl (fun _ => 0)))]) := hD1
  obtain ⟨hP, hD⟩ := mt_join1 hP hD hk1 hFc hP1 hD1
  generalize H1 = H at hP hS ⊢
  have hP : va_P D kls ([(ma, .inr (6, [.ref q1, .ref q13, .ref q22, .null, .null]))] ++ (X3 ++ (([(q31, .inr (2, [.ref dce33, .ref dto35, .ref dle36])), (dce33, .inl (cII, 6, .inr (.inr (.inr (.inr (fun i => if i < 6 then some (rl34 i) else none))))))] ++ mt_rw 6 rl34 (fun _ => .inl (cI, 30, .inl (fun _ => 0)))) ++ [(dto35, .inl (cI, 6, .inl (fun _ => 0))), (dle36, .inl (cI, 6, .inl (fun _ => 0)))]))) H := hP
  have hD : va_D A ([(ma, .inr (6, [.ref q1, .ref q13, .ref q22, .null, .null]))] ++ (X3 ++ (([(q31, .inr (2, [.ref dce33, .ref dto35, .ref dle36])), (dce33, .inl (cII, 6, .inr (.inr (.inr (.inr (fun i => if i < 6 then some (rl34 i) else none))))))] ++ mt_rw 6 rl34 (fun _ => .inl (cI, 30, .inl (fun _ => 0)))) ++ [(dto35, .inl (cI, 6, .inl (fun _ => 0))), (dle36, .inl (cI, 6, .inl (fun _ => 0)))]))) := hD
  obtain ⟨X4, hX4⟩ : ∃ Z : va_W, Z = (X3 ++ (([(q31, .inr (2, [.ref dce33, .ref dto35, .ref dle36])), (dce33, .inl (cII, 6, .inr (.inr (.inr (.inr (fun i => if i < 6 then some (rl34 i) else none))))))] ++ mt_rw 6 rl34 (fun _ => .inl (cI, 30, .inl (fun _ => 0)))) ++ [(dto35, .inl (cI, 6, .inl (fun _ => 0))), (dle36, .inl (cI, 6, .inl (fun _ => 0)))])) := ⟨_, rfl⟩
  rw [← hX4] at hP hD
  refine W.widen (k := 122) (n := 2380) (Nat.le_of_ble_eq_true rfl) (Nat.le_of_ble_eq_true rfl) ?_
  refine pf_mr_37 hx hb hg hown hnm hK hP hD hS 0 rfl rfl rfl (Nat.le_of_ble_eq_true rfl) d_mr_init_57 (fun H locs hP hD hS => ?_)
  have hP : va_P D kls ([(ma, .inr (6, [.ref q1, .ref q13, .ref q22, .ref q31, .null]))] ++ X4) H := hP
  have hD : va_D A ([(ma, .inr (6, [.ref q1, .ref q13, .ref q22, .ref q31, .null]))] ++ X4) := hD
  refine lv_aload_n hx hb d_mr_init_60 rfl (lv_at hl 0 rfl) ?_
  refine va_new (ci := 5) (fs := [.null, .null, .null, .int 0, .int 0, .int 0, .int 0]) (C := R_vd) (T := T_vd) (N := 7) hx hb hg in_vd t_vd t_vd_ok hown (hg _ gc_mr_41) (hg _ gj_vd) (hg _ gi_vd) hK hP hD hS hA rfl (fun j hj => by rcases (show j = 0 ∨ j = 1 ∨ j = 2 ∨ j = 3 ∨ j = 4 ∨ j = 5 ∨ j = 6 by omega) with rfl | rfl | rfl | rfl | rfl | rfl | rfl <;> rfl) (Nat.le_of_ble_eq_true rfl) (Nat.le_of_ble_eq_true rfl) d_mr_init_61 (fun q37 H hP hD hS => ?_)
  have hP := mt_rotP hP
  have hD := mt_rotD hD
  have hP : va_P D kls ([(q37, .inr (5, [.null, .null, .null, .int 0, .int 0, .int 0, .int 0]))] ++ ([(ma, .inr (6, [.ref q1, .ref q13, .ref q22, .ref q31, .null]))] ++ X4)) H := hP
  have hD : va_D A ([(q37, .inr (5, [.null, .null, .null, .int 0, .int 0, .int 0, .int 0]))] ++ ([(ma, .inr (6, [.ref q1, .ref q13, .ref q22, .ref q31, .null]))] ++ X4)) := hD
  refine W.widen (k := 123) (n := 2387) (Nat.le_of_ble_eq_true rfl) (Nat.le_of_ble_eq_true rfl) ?_
  refine lv_dup hx hb d_mr_init_64 rfl ?_
  refine lv_aload_n hx hb d_mr_init_65 rfl (lv_at hl 0 rfl) ?_
  refine gf_mr_12 hx hb hg hown hK hP 1 rfl rfl d_mr_init_66 ?_
  refine lv_aload_n hx hb d_mr_init_69 rfl (lv_at hl 0 rfl) ?_
  refine gf_mr_21 hx hb hg hown hK hP 1 rfl rfl d_mr_init_70 ?_
  refine lv_aload_n hx hb d_mr_init_73 rfl (lv_at hl 0 rfl) ?_
  refine gf_mr_37 hx hb hg hown hK hP 1 rfl rfl d_mr_init_74 ?_
  have hPc := mt_hd hP
  have hDc := mt_hdD hD
  have hFc := mt_hdF hD hS hA
  refine va_callv (va_runI (As := [.ref q1, .ref q13, .ref q31]) (rest := [.ref q37, .ref ma]) ⟨hx, hb, hml, hown, hg⟩ (c_vd_init l D cZ cI cJ cII q37 q1 q13 q31 H.size) (cwI 3 hg gg_mr_43 rfl rfl rfl (hg _ gi_mr_43) (hg _ gl_mr_43) (hg _ gm_mr_43) rfl (by decide +kernel) ⟨Nat.le_of_ble_eq_true rfl, Nat.le_of_ble_eq_true rfl⟩) ⟨mt_bl, mt_pr hX hPc hK hDc⟩ rfl rfl hl.1 rfl (lv_room (Nat.le_of_ble_eq_true rfl)) d_mr_init_77 ⟨Nat.le_of_ble_eq_true rfl, Nat.le_of_ble_eq_true rfl⟩) hS (fun q _ h => hFc q h) hFc (fun u t H1 locs ht hvm hw hB hz1 hk1 hS => ?_)
  obtain ⟨hP1, hD1⟩ := hB
  rw [ht] at hP1
  have hP1 : va_P D kls [(q37, .inr (5, [.ref q1, .ref q13, .ref q31, .int 0, .int 0, .int 0, .int 0]))] H1 := hP1
  have hD1 : va_D _ [(q37, .inr (5, [.ref q1, .ref q13, .ref q31, .int 0, .int 0, .int 0, .int 0]))] := hD1
  obtain ⟨hP, hD⟩ := mt_join1 hP hD hk1 hFc hP1 hD1
  generalize H1 = H at hP hS ⊢
  have hP : va_P D kls ([(ma, .inr (6, [.ref q1, .ref q13, .ref q22, .ref q31, .null]))] ++ (X4 ++ [(q37, .inr (5, [.ref q1, .ref q13, .ref q31, .int 0, .int 0, .int 0, .int 0]))])) H := hP
  have hD : va_D A ([(ma, .inr (6, [.ref q1, .ref q13, .ref q22, .ref q31, .null]))] ++ (X4 ++ [(q37, .inr (5, [.ref q1, .ref q13, .ref q31, .int 0, .int 0, .int 0, .int 0]))])) := hD
  obtain ⟨X5, hX5⟩ : ∃ Z : va_W, Z = (X4 ++ [(q37, .inr (5, [.ref q1, .ref q13, .ref q31, .int 0, .int 0, .int 0, .int 0]))]) := ⟨_, rfl⟩
  rw [← hX5] at hP hD
  refine pf_mr_46 hx hb hg hown hnm hK hP hD hS 0 rfl rfl rfl (Nat.le_of_ble_eq_true rfl) d_mr_init_80 (fun H locs hP hD hS => ?_)
  have hP : va_P D kls ([(ma, .inr (6, [.ref q1, .ref q13, .ref q22, .ref q31, .ref q37]))] ++ X5) H := hP
  have hD : va_D A ([(ma, .inr (6, [.ref q1, .ref q13, .ref q22, .ref q31, .ref q37]))] ++ X5) := hD
  subst hX5
  subst hX4
  subst hX3
  subst hX2
  subst hX1
  refine W.widen (k := 123) (n := 2387) (Nat.le_of_ble_eq_true rfl) (Nat.le_of_ble_eq_true rfl) ?_
  exact W.vret hx hb hr (fun t ht hW => ⟨⟨(q1, q13, q22, q31, q37, wa3, ra4, sa5, ta6, rr7, wf8, fc9, rf10, sf11, re12, cs15, cg16, cto17, rg18, cq19, cco20, cnx21, la24, lwo25, pce26, rp27, pse28, ppl29, rq30, dce33, rl34, dto35, dle36), rfl, a9, by rw [ht]; exact hP, hD⟩, hS.F ht⟩) hS.2.2 d_mr_init_83
end
section
theorem mt_nn {x y : Int32} (h : ¬ x < y) : y ≤ x := Int32.not_lt.mp h
theorem mt_rng {x : Int32} {n : Nat} (hn : n < 2 ^ 31) (h0 : ¬ x < 0) (h1 : x < nI n) : ∃ k, k < n ∧ x = nI k := by
  obtain ⟨j, hj, rfl⟩ := nI_of h0
  refine ⟨j, ?_, rfl⟩
  rcases Nat.lt_or_ge j n with g | g
  · exact g
  · exact absurd h1 (nI_nlt g hj)
/-- rows of int arrays by their contents -/
theorem mt_rw_row {cI : ClassId} {n z a : Nat} {r : Nat → Nat} {M : Nat → Nat → Int32} {f : Nat → Int32} : mt_rw n r (va_up (fun i => .inl (cI, z, .inl (M i))) a (.inl (cI, z, .inl f))) = mt_rw n r (fun i => .inl (cI, z, .inl (va_up M a f i))) := by
  unfold mt_rw
  apply List.map_congr_left
  intro i _
  by_cases h : i = a
  · simp [va_up, h]
  · simp [va_up, h]

theorem mt_min {a b : Nat} (ha : a < 2 ^ 31) (hb : b < 2 ^ 31) : (if nI b < nI a then nI b else nI a) = nI (min a b) := by
  by_cases h : b < a
  · rw [if_pos ((nI_ltI hb ha).mpr h), Nat.min_eq_right (by omega)]
  · rw [if_neg (fun q => h ((nI_ltI hb ha).mp q)), Nat.min_eq_left (by omega)]

set_option maxHeartbeats 4000000 in
set_option maxRecDepth 100000 in
theorem c_ld_forget (l : Launch) (D : va_G) (cZ cI cJ cII : ClassId) (da : Nat) (dce : Nat) (dto : Nat) (dle : Nat) (of : Nat → Int32) (lf : Nat → Int32) (sz : Nat)  : Met l y_ld_forget w_ld_forget ({ frames := 1, cells := 0, slots := 0, locals := 40 }) (va_Pc [.ref da] (mt_B D [(cZ, .boolean), (cI, .int), (cJ, .long), (cII, .array .int)] [(da, .inr (2, [.ref dce, .ref dto, .ref dle])), (dto, .inl (cI, 6, .inl of)), (dle, .inl (cI, 6, .inl lf))] sz)) ((fun A => va_Qv (fun (u : (Nat → Int32) × (Nat → Int32)) => (∀ j, j < 6 → (u.1) j = 0) ∧ (∀ j, j < 6 → (u.2) j = 0)) (fun (u : (Nat → Int32) × (Nat → Int32)) (t : State) => mt_O D A [(da, .inr (2, [.ref dce, .ref dto, .ref dle])), (dto, .inl (cI, 6, .inl (u.1))), (dle, .inl (cI, 6, .inl (u.2)))] t) A) (va_A [(da, .inr (2, [.ref dce, .ref dto, .ref dle])), (dto, .inl (cI, 6, .inl of)), (dle, .inl (cI, 6, .inl lf))] sz)) 0 0 (va_A [(da, .inr (2, [.ref dce, .ref dto, .ref dle])), (dto, .inl (cI, 6, .inl of)), (dle, .inl (cI, 6, .inl lf))] sz) := by
  refine mt_of (y := y_ld_forget) (n := 1) (av := [.ref da]) (QF := (fun A => va_Qv (fun (u : (Nat → Int32) × (Nat → Int32)) => (∀ j, j < 6 → (u.1) j = 0) ∧ (∀ j, j < 6 → (u.2) j = 0)) (fun (u : (Nat → Int32) × (Nat → Int32)) (t : State) => mt_O D A [(da, .inr (2, [.ref dce, .ref dto, .ref dle])), (dto, .inl (cI, 6, .inl (u.1))), (dle, .inl (cI, 6, .inl (u.2)))] t) A)) (by decide) (Nat.le_of_ble_eq_true rfl) ?_
  intro p e s m below meth c ls A hx hb hr hlk hml hown hnm hg hl hX hP hK hD hA hS
  obtain ⟨H, hH⟩ : ∃ H : Heap, H = s.heap := ⟨_, rfl⟩
  have hS : va_S A s.heap H [] := by rw [hH]; exact va_S.rf
  rw [← hH] at hP ⊢
  have hown : s.vm.findClass R_ld = some m.cls := hown
  have hl : lv_has ls 1 [(0, .ref da)] := hl
  refine lv_aload_n hx hb d_ld_forget_0 rfl (lv_at hl 0 rfl) ?_
  refine gf_ld_16 hx hb hg hown hK hP 0 rfl rfl d_ld_forget_1 ?_
  refine lv_iconst (v := 0) hx hb d_ld_forget_4 (by decide) ?_
  have hPc := hP.sub (ws' := [(dto, .inl (cI, 6, .inl of))]) [1] rfl
  have hDc := hD.sub (ws' := [(dto, .inl (cI, 6, .inl of))]) [1] (by decide) rfl
  have hFc := va_free (wc := [(dto, .inl (cI, 6, .inl of))]) hD hS hA [1] rfl
  refine va_callv (va_runS (As := [.ref dto, .int 0]) (rest := []) ⟨hx, hb, hml, hown, hg⟩ (c_ar_fillI l D cZ cI cJ cII dto 6 of 0 H.size (by decide)) ⟨callB_of 2 hg gg_ld_23 rfl rfl rfl (hg _ gi_ld_23) (hg _ gl_ld_23) (by decide +kernel) ⟨Nat.le_of_ble_eq_true rfl, Nat.le_of_ble_eq_true rfl⟩, hg _ gt_ld_23⟩ ⟨mt_bl, mt_pr hX hPc hK hDc⟩ rfl rfl hl.1 rfl (lv_room (Nat.le_of_ble_eq_true rfl)) d_ld_forget_5 ⟨Nat.le_of_ble_eq_true rfl, Nat.le_of_ble_eq_true rfl⟩) hS (fun q _ h => hFc q h) hFc (fun u t H1 locs ht hvm hw hB hz1 hk1 hS => ?_)
  obtain ⟨f12, rfl⟩ : ∃ z, z = u := ⟨_, rfl⟩
  have hr1 : ∀ j, j < (6 : Nat) → f12 j = (0 : Int32) := hw
  obtain ⟨hP1, hD1⟩ := hB
  rw [ht] at hP1
  obtain ⟨hP, hD⟩ := va_join (wr := [(da, .inr (2, [.ref dce, .ref dto, .ref dle])), (dle, .inl (cI, 6, .inl lf))]) (w1 := [(dto, .inl (cI, 6, .inl f12))]) hP hD [1] [0, 2] rfl rfl (by decide) (by decide) hk1 hFc hP1 hD1
  generalize H1 = H at hP hS ⊢
  have hP : va_P D kls [(da, .inr (2, [.ref dce, .ref dto, .ref dle])), (dle, .inl (cI, 6, .inl lf)), (dto, .inl (cI, 6, .inl f12))] H := hP
  have hD : va_D A [(da, .inr (2, [.ref dce, .ref dto, .ref dle])), (dle, .inl (cI, 6, .inl lf)), (dto, .inl (cI, 6, .inl f12))] := hD
  have fa1 := hr1
  refine lv_aload_n hx hb d_ld_forget_8 rfl (lv_at hl 0 rfl) ?_
  refine gf_ld_20 hx hb hg hown hK hP 0 rfl rfl d_ld_forget_9 ?_
  refine lv_iconst (v := 0) hx hb d_ld_forget_12 (by decide) ?_
  have hPc := hP.sub (ws' := [(dle, .inl (cI, 6, .inl lf))]) [1] rfl
  have hDc := hD.sub (ws' := [(dle, .inl (cI, 6, .inl lf))]) [1] (by decide) rfl
  have hFc := va_free (wc := [(dle, .inl (cI, 6, .inl lf))]) hD hS hA [1] rfl
  refine va_callv (va_runS (As := [.ref dle, .int 0]) (rest := []) ⟨hx, hb, hml, hown, hg⟩ (c_ar_fillI l D cZ cI cJ cII dle 6 lf 0 H.size (by decide)) ⟨callB_of 2 hg gg_ld_23 rfl rfl rfl (hg _ gi_ld_23) (hg _ gl_ld_23) (by decide +kernel) ⟨Nat.le_of_ble_eq_true rfl, Nat.le_of_ble_eq_true rfl⟩, hg _ gt_ld_23⟩ ⟨mt_bl, mt_pr hX hPc hK hDc⟩ rfl rfl hl.1 rfl (lv_room (Nat.le_of_ble_eq_true rfl)) d_ld_forget_13 ⟨Nat.le_of_ble_eq_true rfl, Nat.le_of_ble_eq_true rfl⟩) hS (fun q _ h => hFc q h) hFc (fun u t H1 locs ht hvm hw hB hz1 hk1 hS => ?_)
  obtain ⟨f14, rfl⟩ : ∃ z, z = u := ⟨_, rfl⟩
  have hr3 : ∀ j, j < (6 : Nat) → f14 j = (0 : Int32) := hw
  obtain ⟨hP1, hD1⟩ := hB
  rw [ht] at hP1
  obtain ⟨hP, hD⟩ := va_join (wr := [(da, .inr (2, [.ref dce, .ref dto, .ref dle])), (dto, .inl (cI, 6, .inl f12))]) (w1 := [(dle, .inl (cI, 6, .inl f14))]) hP hD [1] [0, 2] rfl rfl (by decide) (by decide) hk1 hFc hP1 hD1
  generalize H1 = H at hP hS ⊢
  have hP : va_P D kls [(da, .inr (2, [.ref dce, .ref dto, .ref dle])), (dto, .inl (cI, 6, .inl f12)), (dle, .inl (cI, 6, .inl f14))] H := hP
  have hD : va_D A [(da, .inr (2, [.ref dce, .ref dto, .ref dle])), (dto, .inl (cI, 6, .inl f12)), (dle, .inl (cI, 6, .inl f14))] := hD
  have fa2 := hr3
  have hP9 := hP
  have hD9 := hD
  exact W.vret hx hb hr (fun t ht hW => ⟨⟨(f12, f14), rfl, ⟨fa1, fa2⟩, by rw [ht]; exact hP9, hD9⟩, hS.F ht⟩) hS.2.2 d_ld_forget_16

set_option maxHeartbeats 4000000 in
set_option maxRecDepth 100000 in
theorem c_ld_isTold (l : Launch) (D : va_G) (cZ cI cJ cII : ClassId) (da : Nat) (dce : Nat) (dto : Nat) (dle : Nat) (of : Nat → Int32) (k : Nat) (y : Int32) (sz : Nat) (hk : k < 6) : Met l y_ld_isTold w_ld_isTold ({ frames := 0, cells := 0, slots := 0, locals := 0 }) (va_Pc [.ref da, .int (nI k), .int y] (mt_B D [(cZ, .boolean), (cI, .int), (cJ, .long), (cII, .array .int)] [(da, .inr (2, [.ref dce, .ref dto, .ref dle])), (dto, .inl (cI, 6, .inl of))] sz)) (vp_Si (fun r : Int32 => (r = 1 ∧ of k >>> (y &&& 31) &&& 1 = 1) ∨ (r = 0 ∧ ¬ of k >>> (y &&& 31) &&& 1 = 1))) 0 0 (fun _ => False) := by
  refine mt_ofR (by decide) (Nat.le_of_ble_eq_true rfl) ?_
  intro p e s m below meth c ls hx hb hr hlk hml hown hg hl hX hP hK hD
  have hown : s.vm.findClass R_ld = some m.cls := hown
  obtain ⟨H, hH⟩ : ∃ H : Heap, H = s.heap := ⟨_, rfl⟩
  rw [← hH] at hP ⊢
  have hl : lv_has ls 3 [(0, .ref da), (1, .int (nI k)), (2, .int y)] := hl
  refine lv_aload_n hx hb d_ld_isTold_0 rfl (lv_at hl 0 rfl) ?_
  refine gf_ld_16 hx hb hg hown hK hP 0 rfl rfl d_ld_isTold_1 ?_
  refine lv_iload_n hx hb d_ld_isTold_4 rfl (lv_at hl 1 rfl) ?_
  refine va_iald hx hb hK hP 1 1 rfl rfl (vp_in_nI hk (by decide)) d_ld_isTold_5 ?_
  refine lv_topi (fun y1 ey1 => ?_)
  have ey1 : y1 = of k := ey1.trans (by rw [nI_clamp (show k < 2 ^ 31 by omega)])
  subst ey1
  refine lv_iload_n hx hb d_ld_isTold_6 rfl (lv_at hl 2 rfl) ?_
  refine lv_ishr hx hb d_ld_isTold_7 ?_
  refine lv_iconst (v := 1) hx hb d_ld_isTold_8 (by decide) ?_
  refine lv_iand hx hb d_ld_isTold_9 ?_
  refine lv_iconst (v := 1) hx hb d_ld_isTold_10 (by decide) ?_
  refine lv_icmp_ne hx hb d_ld_isTold_11 rfl (fun g1 => ?_) (fun g1 => ?_)
  ·
    refine lv_iconst (v := 0) hx hb d_ld_isTold_18 (by decide) ?_
    exact W.zret hx hb hr rfl (fun t ht _ => ⟨0, rfl, Or.inr ⟨rfl, g1⟩, ht.trans hH⟩) (fun _ h => absurd h List.not_mem_nil) d_ld_isTold_19
  ·
    refine lv_iconst (v := 1) hx hb d_ld_isTold_14 (by decide) ?_
    refine lv_goto hx hb d_ld_isTold_15 rfl ?_
    exact W.zret hx hb hr rfl (fun t ht _ => ⟨1, rfl, Or.inl ⟨rfl, g1⟩, ht.trans hH⟩) (fun _ h => absurd h List.not_mem_nil) d_ld_isTold_19

set_option maxHeartbeats 4000000 in
set_option maxRecDepth 100000 in
theorem c_ld_isNowhere (l : Launch) (D : va_G) (cZ cI cJ cII : ClassId) (da : Nat) (dce : Nat) (dto : Nat) (dle : Nat) (lf : Nat → Int32) (k : Nat) (sz : Nat) (hk : k < 6) : Met l y_ld_isNowhere w_ld_isNowhere ({ frames := 0, cells := 0, slots := 0, locals := 0 }) (va_Pc [.ref da, .int (nI k)] (mt_B D [(cZ, .boolean), (cI, .int), (cJ, .long), (cII, .array .int)] [(da, .inr (2, [.ref dce, .ref dto, .ref dle])), (dle, .inl (cI, 6, .inl lf))] sz)) (vp_Si (fun r : Int32 => (r = 1 ∧ lf k = 0) ∨ (r = 0 ∧ ¬ lf k = 0))) 0 0 (fun _ => False) := by
  refine mt_ofR (by decide) (Nat.le_of_ble_eq_true rfl) ?_
  intro p e s m below meth c ls hx hb hr hlk hml hown hg hl hX hP hK hD
  have hown : s.vm.findClass R_ld = some m.cls := hown
  obtain ⟨H, hH⟩ : ∃ H : Heap, H = s.heap := ⟨_, rfl⟩
  rw [← hH] at hP ⊢
  have hl : lv_has ls 2 [(0, .ref da), (1, .int (nI k))] := hl
  refine lv_aload_n hx hb d_ld_isNowhere_0 rfl (lv_at hl 0 rfl) ?_
  refine gf_ld_20 hx hb hg hown hK hP 0 rfl rfl d_ld_isNowhere_1 ?_
  refine lv_iload_n hx hb d_ld_isNowhere_4 rfl (lv_at hl 1 rfl) ?_
  refine va_iald hx hb hK hP 1 1 rfl rfl (vp_in_nI hk (by decide)) d_ld_isNowhere_5 ?_
  refine lv_topi (fun y1 ey1 => ?_)
  have ey1 : y1 = lf k := ey1.trans (by rw [nI_clamp (show k < 2 ^ 31 by omega)])
  subst ey1
  refine lv_if_ne hx hb d_ld_isNowhere_6 rfl (fun g1 => ?_) (fun g1 => ?_)
  ·
    refine lv_iconst (v := 0) hx hb d_ld_isNowhere_13 (by decide) ?_
    exact W.zret hx hb hr rfl (fun t ht _ => ⟨0, rfl, Or.inr ⟨rfl, g1⟩, ht.trans hH⟩) (fun _ h => absurd h List.not_mem_nil) d_ld_isNowhere_14
  ·
    refine lv_iconst (v := 1) hx hb d_ld_isNowhere_9 (by decide) ?_
    refine lv_goto hx hb d_ld_isNowhere_10 rfl ?_
    exact W.zret hx hb hr rfl (fun t ht _ => ⟨1, rfl, Or.inl ⟨rfl, g1⟩, ht.trans hH⟩) (fun _ h => absurd h List.not_mem_nil) d_ld_isNowhere_14

set_option maxHeartbeats 4000000 in
set_option maxRecDepth 100000 in
theorem c_vd_blame (l : Launch) (D : va_G) (cZ cI cJ cII : ClassId) (ea : Nat) (efl : Nat) (ecr : Nat) (ela : Nat) (eso : Int32) (eti : Int32) (eles : Int32) (egr : Int32) (b1 : Int32) (b2 : Int32) (b3 : Int32) (b4 : Int32) (sz : Nat)  : Met l y_vd_blame w_vd_blame ({ frames := 0, cells := 0, slots := 0, locals := 0 }) (va_Pc [.ref ea, .int b1, .int b2, .int b3, .int b4] (mt_B D [(cZ, .boolean), (cI, .int), (cJ, .long), (cII, .array .int)] [(ea, .inr (5, [.ref efl, .ref ecr, .ref ela, .int eso, .int eti, .int eles, .int egr]))] sz)) ((fun A => va_Qv (fun (u : Unit) => True) (fun (u : Unit) (t : State) => mt_O D A [(ea, .inr (5, [.ref efl, .ref ecr, .ref ela, .int b1, .int b2, .int b3, .int b4]))] t) A) (va_A [(ea, .inr (5, [.ref efl, .ref ecr, .ref ela, .int eso, .int eti, .int eles, .int egr]))] sz)) 0 0 (va_A [(ea, .inr (5, [.ref efl, .ref ecr, .ref ela, .int eso, .int eti, .int eles, .int egr]))] sz) := by
  refine mt_of (y := y_vd_blame) (n := 5) (av := [.ref ea, .int b1, .int b2, .int b3, .int b4]) (QF := (fun A => va_Qv (fun (u : Unit) => True) (fun (u : Unit) (t : State) => mt_O D A [(ea, .inr (5, [.ref efl, .ref ecr, .ref ela, .int b1, .int b2, .int b3, .int b4]))] t) A)) (by decide) (Nat.le_of_ble_eq_true rfl) ?_
  intro p e s m below meth c ls A hx hb hr hlk hml hown hnm hg hl hX hP hK hD hA hS
  obtain ⟨H, hH⟩ : ∃ H : Heap, H = s.heap := ⟨_, rfl⟩
  have hS : va_S A s.heap H [] := by rw [hH]; exact va_S.rf
  rw [← hH] at hP ⊢
  have hown : s.vm.findClass R_vd = some m.cls := hown
  have hl : lv_has ls 5 [(0, .ref ea), (1, .int b1), (2, .int b2), (3, .int b3), (4, .int b4)] := hl
  refine lv_aload_n hx hb d_vd_blame_0 rfl (lv_at hl 0 rfl) ?_
  refine lv_iload_n hx hb d_vd_blame_1 rfl (lv_at hl 1 rfl) ?_
  refine pf_vd_27 hx hb hg hown hK hP hD hS 0 rfl rfl rfl (Nat.le_of_ble_eq_true rfl) d_vd_blame_2 (fun H locs hP hD hS => ?_)
  have hP : va_P D kls [(ea, .inr (5, [.ref efl, .ref ecr, .ref ela, .int b1, .int eti, .int eles, .int egr]))] H := hP
  have hD : va_D A [(ea, .inr (5, [.ref efl, .ref ecr, .ref ela, .int b1, .int eti, .int eles, .int egr]))] := hD
  refine lv_aload_n hx hb d_vd_blame_5 rfl (lv_at hl 0 rfl) ?_
  refine lv_iload_n hx hb d_vd_blame_6 rfl (lv_at hl 2 rfl) ?_
  refine pf_vd_39 hx hb hg hown hK hP hD hS 0 rfl rfl rfl (Nat.le_of_ble_eq_true rfl) d_vd_blame_7 (fun H locs hP hD hS => ?_)
  have hP : va_P D kls [(ea, .inr (5, [.ref efl, .ref ecr, .ref ela, .int b1, .int b2, .int eles, .int egr]))] H := hP
  have hD : va_D A [(ea, .inr (5, [.ref efl, .ref ecr, .ref ela, .int b1, .int b2, .int eles, .int egr]))] := hD
  refine lv_aload_n hx hb d_vd_blame_10 rfl (lv_at hl 0 rfl) ?_
  refine lv_iload_n hx hb d_vd_blame_11 rfl (lv_at hl 3 rfl) ?_
  refine pf_vd_42 hx hb hg hown hK hP hD hS 0 rfl rfl rfl (Nat.le_of_ble_eq_true rfl) d_vd_blame_12 (fun H locs hP hD hS => ?_)
  have hP : va_P D kls [(ea, .inr (5, [.ref efl, .ref ecr, .ref ela, .int b1, .int b2, .int b3, .int egr]))] H := hP
  have hD : va_D A [(ea, .inr (5, [.ref efl, .ref ecr, .ref ela, .int b1, .int b2, .int b3, .int egr]))] := hD
  refine lv_aload_n hx hb d_vd_blame_15 rfl (lv_at hl 0 rfl) ?_
  refine lv_iload hx hb d_vd_blame_16 (lv_at hl 4 rfl) ?_
  refine pf_vd_45 hx hb hg hown hK hP hD hS 0 rfl rfl rfl (Nat.le_of_ble_eq_true rfl) d_vd_blame_18 (fun H locs hP hD hS => ?_)
  have hP : va_P D kls [(ea, .inr (5, [.ref efl, .ref ecr, .ref ela, .int b1, .int b2, .int b3, .int b4]))] H := hP
  have hD : va_D A [(ea, .inr (5, [.ref efl, .ref ecr, .ref ela, .int b1, .int b2, .int b3, .int b4]))] := hD
  have hP9 := hP
  have hD9 := hD
  exact W.vret hx hb hr (fun t ht hW => ⟨⟨(), rfl, trivial, by rw [ht]; exact hP9, hD9⟩, hS.F ht⟩) hS.2.2 d_vd_blame_21

set_option maxHeartbeats 4000000 in
set_option maxRecDepth 100000 in
theorem c_cr_wayFromStart (l : Launch) (D : va_G) (cZ cI cJ cII : ClassId) (ca : Nat) (cfl : Nat) (cn : Int32) (cs : Nat) (cg : Nat) (cto : Nat) (cq : Nat) (cco : Nat) (cnx : Nat) (rg : Nat → Nat) (Mg : Nat → Nat → Int32) (sf : Nat → Int32) (k : Nat) (z : Nat) (sz : Nat) (hk : k < 5) (hz : z < 25) (hs : sf k = nI z) : Met l y_cr_wayFromStart w_cr_wayFromStart ({ frames := 0, cells := 0, slots := 0, locals := 0 }) (va_Pc [.ref ca, .int (nI k)] (mt_B D [(cZ, .boolean), (cI, .int), (cJ, .long), (cII, .array .int)] ([(ca, .inr (0, [.ref cfl, .int cn, .ref cs, .ref cg, .ref cto, .ref cq, .ref cco, .ref cnx])), (cs, .inl (cI, 5, .inl sf)), (cto, .inl (cII, 5, .inr (.inr (.inr (.inr (fun i => if i < 5 then some (rg i) else none))))))] ++ mt_rw 5 rg (fun i => .inl (cI, 25, .inl (Mg i)))) sz)) (vp_Si (fun r : Int32 => r = Mg k z)) 0 0 (fun _ => False) := by
  refine mt_ofR (by decide) (Nat.le_of_ble_eq_true rfl) ?_
  intro p e s m below meth c ls hx hb hr hlk hml hown hg hl hX hP hK hD
  have hown : s.vm.findClass R_cr = some m.cls := hown
  obtain ⟨H, hH⟩ : ∃ H : Heap, H = s.heap := ⟨_, rfl⟩
  rw [← hH] at hP ⊢
  have hl : lv_has ls 2 [(0, .ref ca), (1, .int (nI k))] := hl
  refine lv_aload_n hx hb d_cr_wayFromStart_0 rfl (lv_at hl 0 rfl) ?_
  refine gf_cr_20 hx hb hg hown hK hP 0 rfl rfl d_cr_wayFromStart_1 ?_
  refine lv_iload_n hx hb d_cr_wayFromStart_4 rfl (lv_at hl 1 rfl) ?_
  refine mt_aald hx hb hK hP 2 3 rfl rfl (vp_in_nI hk (by decide)) (by show (if (nI k).toNatClampNeg < 5 then some (rg (nI k).toNatClampNeg) else none) = some (rg k); rw [nI_clamp (show k < 2 ^ 31 by omega), if_pos hk]) d_cr_wayFromStart_5 ?_
  refine lv_aload_n hx hb d_cr_wayFromStart_6 rfl (lv_at hl 0 rfl) ?_
  refine gf_cr_9 hx hb hg hown hK hP 0 rfl rfl d_cr_wayFromStart_7 ?_
  refine lv_iload_n hx hb d_cr_wayFromStart_10 rfl (lv_at hl 1 rfl) ?_
  refine va_iald hx hb hK hP 1 1 rfl rfl (vp_in_nI hk (by decide)) d_cr_wayFromStart_11 ?_
  refine lv_topi (fun y1 ey1 => ?_)
  have ey1 : y1 = nI z := ey1.trans (by rw [nI_clamp (show k < 2 ^ 31 by omega)]; exact hs)
  subst ey1
  refine va_iald hx hb hK hP (3 + k) 1 (mt_rw_at rfl hk) rfl (vp_in_nI hz (by decide)) d_cr_wayFromStart_12 ?_
  refine lv_topi (fun y2 ey2 => ?_)
  have ey2 : y2 = Mg k z := ey2.trans (by rw [nI_clamp (show z < 2 ^ 31 by omega)])
  subst ey2
  exact W.iret hx hb hr (fun t ht _ => ⟨Mg k z, rfl, rfl, ht.trans hH⟩) (fun _ h => absurd h List.not_mem_nil) d_cr_wayFromStart_13
end
