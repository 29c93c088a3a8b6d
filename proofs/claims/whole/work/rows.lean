section
/-- a private method of a class that the tables say can be made, by its rows of tables_1 -/
def lw_okq (q : MethodName × Nat) : Prop := (q.1.cls ≠ "java/lang/invoke/MethodHandle" ∧ q.1.cls ≠ "java/lang/invoke/VarHandle") ∧ Cond.instantiable q.1.cls q.2 ∈ tables_1 ∧ Cond.privateMethod q.1 ∈ tables_1 ∧ Cond.instanceMethod q.1 ∈ tables_1
theorem lw_p0 : lw_okq (⟨"FeedCheck$Reader", "read", "(LFeedCheck$Plan;)I"⟩, 7) := ⟨⟨by decide +kernel, by decide +kernel⟩, List.mem_of_getElem? (i := 126) (by decide +kernel), List.mem_of_getElem? (i := 284) (by decide +kernel), List.mem_of_getElem? (i := 285) (by decide +kernel)⟩
theorem lw_p1 : lw_okq (⟨"FeedCheck$Plan", "copyFrom", "(LFeedCheck$Plan;)V"⟩, 8) := ⟨⟨by decide +kernel, by decide +kernel⟩, List.mem_of_getElem? (i := 44) (by decide +kernel), List.mem_of_getElem? (i := 288) (by decide +kernel), List.mem_of_getElem? (i := 289) (by decide +kernel)⟩
theorem lw_p2 : lw_okq (⟨"FeedCheck$Fit", "copyFrom", "(LFeedCheck$Fit;)V"⟩, 5) := ⟨⟨by decide +kernel, by decide +kernel⟩, List.mem_of_getElem? (i := 50) (by decide +kernel), List.mem_of_getElem? (i := 295) (by decide +kernel), List.mem_of_getElem? (i := 296) (by decide +kernel)⟩
theorem lw_p3 : lw_okq (⟨"FeedCheck$Plan", "setRule", "(III)V"⟩, 8) := ⟨⟨by decide +kernel, by decide +kernel⟩, List.mem_of_getElem? (i := 44) (by decide +kernel), List.mem_of_getElem? (i := 300) (by decide +kernel), List.mem_of_getElem? (i := 301) (by decide +kernel)⟩
theorem lw_p4 : lw_okq (⟨"FeedCheck$Reader", "step", "()V"⟩, 7) := ⟨⟨by decide +kernel, by decide +kernel⟩, List.mem_of_getElem? (i := 126) (by decide +kernel), List.mem_of_getElem? (i := 304) (by decide +kernel), List.mem_of_getElem? (i := 305) (by decide +kernel)⟩
theorem lw_p5 : lw_okq (⟨"FeedCheck$Text", "letterAt", "(I)I"⟩, 2) := ⟨⟨by decide +kernel, by decide +kernel⟩, List.mem_of_getElem? (i := 27) (by decide +kernel), List.mem_of_getElem? (i := 308) (by decide +kernel), List.mem_of_getElem? (i := 309) (by decide +kernel)⟩
theorem lw_p6 : lw_okq (⟨"FeedCheck$Reader", "clauseStands", "()Z"⟩, 7) := ⟨⟨by decide +kernel, by decide +kernel⟩, List.mem_of_getElem? (i := 126) (by decide +kernel), List.mem_of_getElem? (i := 315) (by decide +kernel), List.mem_of_getElem? (i := 316) (by decide +kernel)⟩
theorem lw_p7 : lw_okq (⟨"FeedCheck$Reader", "isWord", "(Ljava/lang/String;)Z"⟩, 7) := ⟨⟨by decide +kernel, by decide +kernel⟩, List.mem_of_getElem? (i := 126) (by decide +kernel), List.mem_of_getElem? (i := 320) (by decide +kernel), List.mem_of_getElem? (i := 321) (by decide +kernel)⟩
theorem lw_p8 : lw_okq (⟨"FeedCheck$Plan", "clear", "()V"⟩, 8) := ⟨⟨by decide +kernel, by decide +kernel⟩, List.mem_of_getElem? (i := 44) (by decide +kernel), List.mem_of_getElem? (i := 372) (by decide +kernel), List.mem_of_getElem? (i := 373) (by decide +kernel)⟩
theorem lw_p9 : lw_okq (⟨"FeedCheck$Fit", "clear", "()V"⟩, 5) := ⟨⟨by decide +kernel, by decide +kernel⟩, List.mem_of_getElem? (i := 50) (by decide +kernel), List.mem_of_getElem? (i := 376) (by decide +kernel), List.mem_of_getElem? (i := 377) (by decide +kernel)⟩
theorem lw_p10 : lw_okq (⟨"FeedCheck$Reader", "sectionStands", "()Z"⟩, 7) := ⟨⟨by decide +kernel, by decide +kernel⟩, List.mem_of_getElem? (i := 126) (by decide +kernel), List.mem_of_getElem? (i := 384) (by decide +kernel), List.mem_of_getElem? (i := 385) (by decide +kernel)⟩
theorem lw_p11 : lw_okq (⟨"FeedCheck$Reader", "numberStands", "(II)Z"⟩, 7) := ⟨⟨by decide +kernel, by decide +kernel⟩, List.mem_of_getElem? (i := 126) (by decide +kernel), List.mem_of_getElem? (i := 388) (by decide +kernel), List.mem_of_getElem? (i := 389) (by decide +kernel)⟩
theorem lw_p12 : lw_okq (⟨"FeedCheck$Plan", "addSection", "(II)V"⟩, 8) := ⟨⟨by decide +kernel, by decide +kernel⟩, List.mem_of_getElem? (i := 44) (by decide +kernel), List.mem_of_getElem? (i := 392) (by decide +kernel), List.mem_of_getElem? (i := 393) (by decide +kernel)⟩
theorem lw_p13 : lw_okq (⟨"FeedCheck$Reader", "jointStands", "()Z"⟩, 7) := ⟨⟨by decide +kernel, by decide +kernel⟩, List.mem_of_getElem? (i := 126) (by decide +kernel), List.mem_of_getElem? (i := 397) (by decide +kernel), List.mem_of_getElem? (i := 398) (by decide +kernel)⟩
theorem lw_p14 : lw_okq (⟨"FeedCheck$Plan", "join", "(II)V"⟩, 8) := ⟨⟨by decide +kernel, by decide +kernel⟩, List.mem_of_getElem? (i := 44) (by decide +kernel), List.mem_of_getElem? (i := 401) (by decide +kernel), List.mem_of_getElem? (i := 402) (by decide +kernel)⟩
theorem lw_p15 : lw_okq (⟨"FeedCheck$Reader", "riserStands", "()Z"⟩, 7) := ⟨⟨by decide +kernel, by decide +kernel⟩, List.mem_of_getElem? (i := 126) (by decide +kernel), List.mem_of_getElem? (i := 406) (by decide +kernel), List.mem_of_getElem? (i := 407) (by decide +kernel)⟩
def lw_privs_1 : List (MethodName × Nat) := [(⟨"FeedCheck$Reader", "read", "(LFeedCheck$Plan;)I"⟩, 7), (⟨"FeedCheck$Plan", "copyFrom", "(LFeedCheck$Plan;)V"⟩, 8), (⟨"FeedCheck$Fit", "copyFrom", "(LFeedCheck$Fit;)V"⟩, 5), (⟨"FeedCheck$Plan", "setRule", "(III)V"⟩, 8), (⟨"FeedCheck$Reader", "step", "()V"⟩, 7), (⟨"FeedCheck$Text", "letterAt", "(I)I"⟩, 2), (⟨"FeedCheck$Reader", "clauseStands", "()Z"⟩, 7), (⟨"FeedCheck$Reader", "isWord", "(Ljava/lang/String;)Z"⟩, 7), (⟨"FeedCheck$Plan", "clear", "()V"⟩, 8), (⟨"FeedCheck$Fit", "clear", "()V"⟩, 5), (⟨"FeedCheck$Reader", "sectionStands", "()Z"⟩, 7), (⟨"FeedCheck$Reader", "numberStands", "(II)Z"⟩, 7), (⟨"FeedCheck$Plan", "addSection", "(II)V"⟩, 8), (⟨"FeedCheck$Reader", "jointStands", "()Z"⟩, 7), (⟨"FeedCheck$Plan", "join", "(II)V"⟩, 8), (⟨"FeedCheck$Reader", "riserStands", "()Z"⟩, 7)]
theorem lw_r1 : ∀ q ∈ lw_privs_1, lw_okq q := List.forall_mem_cons.mpr ⟨lw_p0, List.forall_mem_cons.mpr ⟨lw_p1, List.forall_mem_cons.mpr ⟨lw_p2, List.forall_mem_cons.mpr ⟨lw_p3, List.forall_mem_cons.mpr ⟨lw_p4, List.forall_mem_cons.mpr ⟨lw_p5, List.forall_mem_cons.mpr ⟨lw_p6, List.forall_mem_cons.mpr ⟨lw_p7, List.forall_mem_cons.mpr ⟨lw_p8, List.forall_mem_cons.mpr ⟨lw_p9, List.forall_mem_cons.mpr ⟨lw_p10, List.forall_mem_cons.mpr ⟨lw_p11, List.forall_mem_cons.mpr ⟨lw_p12, List.forall_mem_cons.mpr ⟨lw_p13, List.forall_mem_cons.mpr ⟨lw_p14, List.forall_mem_cons.mpr ⟨lw_p15, fun _ h => absurd h List.not_mem_nil⟩⟩⟩⟩⟩⟩⟩⟩⟩⟩⟩⟩⟩⟩⟩⟩
theorem lw_p16 : lw_okq (⟨"FeedCheck$Fit", "addRiser", "(III)V"⟩, 5) := ⟨⟨by decide +kernel, by decide +kernel⟩, List.mem_of_getElem? (i := 50) (by decide +kernel), List.mem_of_getElem? (i := 410) (by decide +kernel), List.mem_of_getElem? (i := 411) (by decide +kernel)⟩
theorem lw_p17 : lw_okq (⟨"FeedCheck$Reader", "chillStands", "()Z"⟩, 7) := ⟨⟨by decide +kernel, by decide +kernel⟩, List.mem_of_getElem? (i := 126) (by decide +kernel), List.mem_of_getElem? (i := 415) (by decide +kernel), List.mem_of_getElem? (i := 416) (by decide +kernel)⟩
theorem lw_p18 : lw_okq (⟨"FeedCheck$Reader", "ruleStands", "()Z"⟩, 7) := ⟨⟨by decide +kernel, by decide +kernel⟩, List.mem_of_getElem? (i := 126) (by decide +kernel), List.mem_of_getElem? (i := 420) (by decide +kernel), List.mem_of_getElem? (i := 421) (by decide +kernel)⟩
theorem lw_p19 : lw_okq (⟨"FeedCheck$Reader", "isSemicolon", "()Z"⟩, 7) := ⟨⟨by decide +kernel, by decide +kernel⟩, List.mem_of_getElem? (i := 126) (by decide +kernel), List.mem_of_getElem? (i := 425) (by decide +kernel), List.mem_of_getElem? (i := 426) (by decide +kernel)⟩
theorem lw_p20 : lw_okq (⟨"FeedCheck", "forgetAll", "()V"⟩, 10) := ⟨⟨by decide +kernel, by decide +kernel⟩, List.mem_of_getElem? (i := 19) (by decide +kernel), List.mem_of_getElem? (i := 436) (by decide +kernel), List.mem_of_getElem? (i := 437) (by decide +kernel)⟩
theorem lw_p21 : lw_okq (⟨"FeedCheck$Bin", "vanish", "()V"⟩, 4) := ⟨⟨by decide +kernel, by decide +kernel⟩, List.mem_of_getElem? (i := 219) (by decide +kernel), List.mem_of_getElem? (i := 440) (by decide +kernel), List.mem_of_getElem? (i := 441) (by decide +kernel)⟩
theorem lw_p22 : lw_okq (⟨"FeedCheck", "isSection", "(I)Z"⟩, 10) := ⟨⟨by decide +kernel, by decide +kernel⟩, List.mem_of_getElem? (i := 19) (by decide +kernel), List.mem_of_getElem? (i := 448) (by decide +kernel), List.mem_of_getElem? (i := 449) (by decide +kernel)⟩
theorem lw_p23 : lw_okq (⟨"FeedCheck$Melt", "settle", "()V"⟩, 9) := ⟨⟨by decide +kernel, by decide +kernel⟩, List.mem_of_getElem? (i := 177) (by decide +kernel), List.mem_of_getElem? (i := 452) (by decide +kernel), List.mem_of_getElem? (i := 453) (by decide +kernel)⟩
theorem lw_p24 : lw_okq (⟨"FeedCheck$Melt", "belowWith", "(II)I"⟩, 9) := ⟨⟨by decide +kernel, by decide +kernel⟩, List.mem_of_getElem? (i := 177) (by decide +kernel), List.mem_of_getElem? (i := 456) (by decide +kernel), List.mem_of_getElem? (i := 457) (by decide +kernel)⟩
theorem lw_p25 : lw_okq (⟨"FeedCheck$Melt", "climb", "(I)V"⟩, 9) := ⟨⟨by decide +kernel, by decide +kernel⟩, List.mem_of_getElem? (i := 177) (by decide +kernel), List.mem_of_getElem? (i := 460) (by decide +kernel), List.mem_of_getElem? (i := 461) (by decide +kernel)⟩
theorem lw_p26 : lw_okq (⟨"FeedCheck$Melt", "isTop", "(I)Z"⟩, 9) := ⟨⟨by decide +kernel, by decide +kernel⟩, List.mem_of_getElem? (i := 177) (by decide +kernel), List.mem_of_getElem? (i := 464) (by decide +kernel), List.mem_of_getElem? (i := 465) (by decide +kernel)⟩
theorem lw_p27 : lw_okq (⟨"FeedCheck$Melt", "isNeighbour", "(II)Z"⟩, 9) := ⟨⟨by decide +kernel, by decide +kernel⟩, List.mem_of_getElem? (i := 177) (by decide +kernel), List.mem_of_getElem? (i := 468) (by decide +kernel), List.mem_of_getElem? (i := 469) (by decide +kernel)⟩
theorem lw_p28 : lw_okq (⟨"FeedCheck$Melt", "isSooner", "(II)Z"⟩, 9) := ⟨⟨by decide +kernel, by decide +kernel⟩, List.mem_of_getElem? (i := 177) (by decide +kernel), List.mem_of_getElem? (i := 472) (by decide +kernel), List.mem_of_getElem? (i := 473) (by decide +kernel)⟩
theorem lw_p29 : lw_okq (⟨"FeedCheck$Melt", "latestNeighbour", "(I)I"⟩, 9) := ⟨⟨by decide +kernel, by decide +kernel⟩, List.mem_of_getElem? (i := 177) (by decide +kernel), List.mem_of_getElem? (i := 476) (by decide +kernel), List.mem_of_getElem? (i := 477) (by decide +kernel)⟩
theorem lw_p30 : lw_okq (⟨"FeedCheck$Melt", "later", "(II)I"⟩, 9) := ⟨⟨by decide +kernel, by decide +kernel⟩, List.mem_of_getElem? (i := 177) (by decide +kernel), List.mem_of_getElem? (i := 480) (by decide +kernel), List.mem_of_getElem? (i := 481) (by decide +kernel)⟩
theorem lw_p31 : lw_okq (⟨"FeedCheck$Melt", "drowner", "(I)I"⟩, 9) := ⟨⟨by decide +kernel, by decide +kernel⟩, List.mem_of_getElem? (i := 177) (by decide +kernel), List.mem_of_getElem? (i := 484) (by decide +kernel), List.mem_of_getElem? (i := 485) (by decide +kernel)⟩
def lw_privs_2 : List (MethodName × Nat) := [(⟨"FeedCheck$Fit", "addRiser", "(III)V"⟩, 5), (⟨"FeedCheck$Reader", "chillStands", "()Z"⟩, 7), (⟨"FeedCheck$Reader", "ruleStands", "()Z"⟩, 7), (⟨"FeedCheck$Reader", "isSemicolon", "()Z"⟩, 7), (⟨"FeedCheck", "forgetAll", "()V"⟩, 10), (⟨"FeedCheck$Bin", "vanish", "()V"⟩, 4), (⟨"FeedCheck", "isSection", "(I)Z"⟩, 10), (⟨"FeedCheck$Melt", "settle", "()V"⟩, 9), (⟨"FeedCheck$Melt", "belowWith", "(II)I"⟩, 9), (⟨"FeedCheck$Melt", "climb", "(I)V"⟩, 9), (⟨"FeedCheck$Melt", "isTop", "(I)Z"⟩, 9), (⟨"FeedCheck$Melt", "isNeighbour", "(II)Z"⟩, 9), (⟨"FeedCheck$Melt", "isSooner", "(II)Z"⟩, 9), (⟨"FeedCheck$Melt", "latestNeighbour", "(I)I"⟩, 9), (⟨"FeedCheck$Melt", "later", "(II)I"⟩, 9), (⟨"FeedCheck$Melt", "drowner", "(I)I"⟩, 9)]
theorem lw_r2 : ∀ q ∈ lw_privs_2, lw_okq q := List.forall_mem_cons.mpr ⟨lw_p16, List.forall_mem_cons.mpr ⟨lw_p17, List.forall_mem_cons.mpr ⟨lw_p18, List.forall_mem_cons.mpr ⟨lw_p19, List.forall_mem_cons.mpr ⟨lw_p20, List.forall_mem_cons.mpr ⟨lw_p21, List.forall_mem_cons.mpr ⟨lw_p22, List.forall_mem_cons.mpr ⟨lw_p23, List.forall_mem_cons.mpr ⟨lw_p24, List.forall_mem_cons.mpr ⟨lw_p25, List.forall_mem_cons.mpr ⟨lw_p26, List.forall_mem_cons.mpr ⟨lw_p27, List.forall_mem_cons.mpr ⟨lw_p28, List.forall_mem_cons.mpr ⟨lw_p29, List.forall_mem_cons.mpr ⟨lw_p30, List.forall_mem_cons.mpr ⟨lw_p31, fun _ h => absurd h List.not_mem_nil⟩⟩⟩⟩⟩⟩⟩⟩⟩⟩⟩⟩⟩⟩⟩⟩
theorem lw_p32 : lw_okq (⟨"FeedCheck$Melt", "passBetween", "(II)I"⟩, 9) := ⟨⟨by decide +kernel, by decide +kernel⟩, List.mem_of_getElem? (i := 177) (by decide +kernel), List.mem_of_getElem? (i := 488) (by decide +kernel), List.mem_of_getElem? (i := 489) (by decide +kernel)⟩
theorem lw_p33 : lw_okq (⟨"FeedCheck$Melt", "drowns", "(II)Z"⟩, 9) := ⟨⟨by decide +kernel, by decide +kernel⟩, List.mem_of_getElem? (i := 177) (by decide +kernel), List.mem_of_getElem? (i := 492) (by decide +kernel), List.mem_of_getElem? (i := 493) (by decide +kernel)⟩
theorem lw_p34 : lw_okq (⟨"FeedCheck$Melt", "headOf", "(I)I"⟩, 9) := ⟨⟨by decide +kernel, by decide +kernel⟩, List.mem_of_getElem? (i := 177) (by decide +kernel), List.mem_of_getElem? (i := 496) (by decide +kernel), List.mem_of_getElem? (i := 497) (by decide +kernel)⟩
theorem lw_p35 : lw_okq (⟨"FeedCheck$Melt", "commonPart", "(I)I"⟩, 9) := ⟨⟨by decide +kernel, by decide +kernel⟩, List.mem_of_getElem? (i := 177) (by decide +kernel), List.mem_of_getElem? (i := 500) (by decide +kernel), List.mem_of_getElem? (i := 501) (by decide +kernel)⟩
theorem lw_p36 : lw_okq (⟨"FeedCheck$Melt", "basin", "(I)I"⟩, 9) := ⟨⟨by decide +kernel, by decide +kernel⟩, List.mem_of_getElem? (i := 177) (by decide +kernel), List.mem_of_getElem? (i := 512) (by decide +kernel), List.mem_of_getElem? (i := 513) (by decide +kernel)⟩
theorem lw_p37 : lw_okq (⟨"FeedCheck$Melt", "allRisers", "()I"⟩, 9) := ⟨⟨by decide +kernel, by decide +kernel⟩, List.mem_of_getElem? (i := 177) (by decide +kernel), List.mem_of_getElem? (i := 516) (by decide +kernel), List.mem_of_getElem? (i := 517) (by decide +kernel)⟩
theorem lw_p38 : lw_okq (⟨"FeedCheck$Melt", "feeder", "(II)I"⟩, 9) := ⟨⟨by decide +kernel, by decide +kernel⟩, List.mem_of_getElem? (i := 177) (by decide +kernel), List.mem_of_getElem? (i := 520) (by decide +kernel), List.mem_of_getElem? (i := 521) (by decide +kernel)⟩
theorem lw_p39 : lw_okq (⟨"FeedCheck$Melt", "outlasts", "(III)Z"⟩, 9) := ⟨⟨by decide +kernel, by decide +kernel⟩, List.mem_of_getElem? (i := 177) (by decide +kernel), List.mem_of_getElem? (i := 524) (by decide +kernel), List.mem_of_getElem? (i := 525) (by decide +kernel)⟩
theorem lw_p40 : lw_okq (⟨"FeedCheck", "isRiser", "(I)Z"⟩, 10) := ⟨⟨by decide +kernel, by decide +kernel⟩, List.mem_of_getElem? (i := 19) (by decide +kernel), List.mem_of_getElem? (i := 532) (by decide +kernel), List.mem_of_getElem? (i := 533) (by decide +kernel)⟩
theorem lw_p41 : lw_okq (⟨"FeedCheck$Melt", "starvedBy", "(I)I"⟩, 9) := ⟨⟨by decide +kernel, by decide +kernel⟩, List.mem_of_getElem? (i := 177) (by decide +kernel), List.mem_of_getElem? (i := 536) (by decide +kernel), List.mem_of_getElem? (i := 537) (by decide +kernel)⟩
theorem lw_p42 : lw_okq (⟨"FeedCheck$Melt", "fedTops", "(I)I"⟩, 9) := ⟨⟨by decide +kernel, by decide +kernel⟩, List.mem_of_getElem? (i := 177) (by decide +kernel), List.mem_of_getElem? (i := 541) (by decide +kernel), List.mem_of_getElem? (i := 542) (by decide +kernel)⟩
theorem lw_p43 : lw_okq (⟨"FeedCheck$History", "remember", "(LFeedCheck$Fit;)V"⟩, 3) := ⟨⟨by decide +kernel, by decide +kernel⟩, List.mem_of_getElem? (i := 157) (by decide +kernel), List.mem_of_getElem? (i := 553) (by decide +kernel), List.mem_of_getElem? (i := 554) (by decide +kernel)⟩
theorem lw_p44 : lw_okq (⟨"FeedCheck$Fit", "removeRiser", "(I)V"⟩, 5) := ⟨⟨by decide +kernel, by decide +kernel⟩, List.mem_of_getElem? (i := 50) (by decide +kernel), List.mem_of_getElem? (i := 566) (by decide +kernel), List.mem_of_getElem? (i := 567) (by decide +kernel)⟩
theorem lw_p45 : lw_okq (⟨"FeedCheck$Melt", "tops", "()I"⟩, 9) := ⟨⟨by decide +kernel, by decide +kernel⟩, List.mem_of_getElem? (i := 177) (by decide +kernel), List.mem_of_getElem? (i := 581) (by decide +kernel), List.mem_of_getElem? (i := 582) (by decide +kernel)⟩
theorem lw_p46 : lw_okq (⟨"FeedCheck$History", "recall", "(LFeedCheck$Fit;)V"⟩, 3) := ⟨⟨by decide +kernel, by decide +kernel⟩, List.mem_of_getElem? (i := 157) (by decide +kernel), List.mem_of_getElem? (i := 595) (by decide +kernel), List.mem_of_getElem? (i := 596) (by decide +kernel)⟩
theorem lw_p47 : lw_okq (⟨"FeedCheck$Melt", "atRank", "(I)I"⟩, 9) := ⟨⟨by decide +kernel, by decide +kernel⟩, List.mem_of_getElem? (i := 177) (by decide +kernel), List.mem_of_getElem? (i := 614) (by decide +kernel), List.mem_of_getElem? (i := 615) (by decide +kernel)⟩
def lw_privs_3 : List (MethodName × Nat) := [(⟨"FeedCheck$Melt", "passBetween", "(II)I"⟩, 9), (⟨"FeedCheck$Melt", "drowns", "(II)Z"⟩, 9), (⟨"FeedCheck$Melt", "headOf", "(I)I"⟩, 9), (⟨"FeedCheck$Melt", "commonPart", "(I)I"⟩, 9), (⟨"FeedCheck$Melt", "basin", "(I)I"⟩, 9), (⟨"FeedCheck$Melt", "allRisers", "()I"⟩, 9), (⟨"FeedCheck$Melt", "feeder", "(II)I"⟩, 9), (⟨"FeedCheck$Melt", "outlasts", "(III)Z"⟩, 9), (⟨"FeedCheck", "isRiser", "(I)Z"⟩, 10), (⟨"FeedCheck$Melt", "starvedBy", "(I)I"⟩, 9), (⟨"FeedCheck$Melt", "fedTops", "(I)I"⟩, 9), (⟨"FeedCheck$History", "remember", "(LFeedCheck$Fit;)V"⟩, 3), (⟨"FeedCheck$Fit", "removeRiser", "(I)V"⟩, 5), (⟨"FeedCheck$Melt", "tops", "()I"⟩, 9), (⟨"FeedCheck$History", "recall", "(LFeedCheck$Fit;)V"⟩, 3), (⟨"FeedCheck$Melt", "atRank", "(I)I"⟩, 9)]
theorem lw_r3 : ∀ q ∈ lw_privs_3, lw_okq q := List.forall_mem_cons.mpr ⟨lw_p32, List.forall_mem_cons.mpr ⟨lw_p33, List.forall_mem_cons.mpr ⟨lw_p34, List.forall_mem_cons.mpr ⟨lw_p35, List.forall_mem_cons.mpr ⟨lw_p36, List.forall_mem_cons.mpr ⟨lw_p37, List.forall_mem_cons.mpr ⟨lw_p38, List.forall_mem_cons.mpr ⟨lw_p39, List.forall_mem_cons.mpr ⟨lw_p40, List.forall_mem_cons.mpr ⟨lw_p41, List.forall_mem_cons.mpr ⟨lw_p42, List.forall_mem_cons.mpr ⟨lw_p43, List.forall_mem_cons.mpr ⟨lw_p44, List.forall_mem_cons.mpr ⟨lw_p45, List.forall_mem_cons.mpr ⟨lw_p46, List.forall_mem_cons.mpr ⟨lw_p47, fun _ h => absurd h List.not_mem_nil⟩⟩⟩⟩⟩⟩⟩⟩⟩⟩⟩⟩⟩⟩⟩⟩
theorem lw_p48 : lw_okq (⟨"FeedCheck$Melt", "rank", "(I)I"⟩, 9) := ⟨⟨by decide +kernel, by decide +kernel⟩, List.mem_of_getElem? (i := 177) (by decide +kernel), List.mem_of_getElem? (i := 618) (by decide +kernel), List.mem_of_getElem? (i := 619) (by decide +kernel)⟩
theorem lw_p49 : lw_okq (⟨"FeedCheck$Melt", "leastVolume", "(II)I"⟩, 9) := ⟨⟨by decide +kernel, by decide +kernel⟩, List.mem_of_getElem? (i := 177) (by decide +kernel), List.mem_of_getElem? (i := 631) (by decide +kernel), List.mem_of_getElem? (i := 632) (by decide +kernel)⟩
theorem lw_p50 : lw_okq (⟨"FeedCheck$Melt", "bestChilled", "(I)I"⟩, 9) := ⟨⟨by decide +kernel, by decide +kernel⟩, List.mem_of_getElem? (i := 177) (by decide +kernel), List.mem_of_getElem? (i := 639) (by decide +kernel), List.mem_of_getElem? (i := 640) (by decide +kernel)⟩
theorem lw_p51 : lw_okq (⟨"FeedCheck$Melt", "topsIfChilled", "(II)I"⟩, 9) := ⟨⟨by decide +kernel, by decide +kernel⟩, List.mem_of_getElem? (i := 177) (by decide +kernel), List.mem_of_getElem? (i := 643) (by decide +kernel), List.mem_of_getElem? (i := 644) (by decide +kernel)⟩
theorem lw_p52 : lw_okq (⟨"FeedCheck$Melt", "fewestRisers", "()I"⟩, 9) := ⟨⟨by decide +kernel, by decide +kernel⟩, List.mem_of_getElem? (i := 177) (by decide +kernel), List.mem_of_getElem? (i := 655) (by decide +kernel), List.mem_of_getElem? (i := 656) (by decide +kernel)⟩
theorem lw_p53 : lw_okq (⟨"FeedCheck$Bin", "begin", "(I)V"⟩, 4) := ⟨⟨by decide +kernel, by decide +kernel⟩, List.mem_of_getElem? (i := 219) (by decide +kernel), List.mem_of_getElem? (i := 666) (by decide +kernel), List.mem_of_getElem? (i := 667) (by decide +kernel)⟩
theorem lw_p54 : lw_okq (⟨"FeedCheck$Bin", "addThing", "(II)I"⟩, 4) := ⟨⟨by decide +kernel, by decide +kernel⟩, List.mem_of_getElem? (i := 219) (by decide +kernel), List.mem_of_getElem? (i := 674) (by decide +kernel), List.mem_of_getElem? (i := 675) (by decide +kernel)⟩
theorem lw_p55 : lw_okq (⟨"FeedCheck$Bin", "greatest", "()I"⟩, 4) := ⟨⟨by decide +kernel, by decide +kernel⟩, List.mem_of_getElem? (i := 219) (by decide +kernel), List.mem_of_getElem? (i := 689) (by decide +kernel), List.mem_of_getElem? (i := 690) (by decide +kernel)⟩
theorem lw_p56 : lw_okq (⟨"FeedCheck$Bin", "smallest", "()I"⟩, 4) := ⟨⟨by decide +kernel, by decide +kernel⟩, List.mem_of_getElem? (i := 219) (by decide +kernel), List.mem_of_getElem? (i := 696) (by decide +kernel), List.mem_of_getElem? (i := 697) (by decide +kernel)⟩
theorem lw_p57 : lw_okq (⟨"FeedCheck$Bin", "arrange", "()V"⟩, 4) := ⟨⟨by decide +kernel, by decide +kernel⟩, List.mem_of_getElem? (i := 219) (by decide +kernel), List.mem_of_getElem? (i := 709) (by decide +kernel), List.mem_of_getElem? (i := 710) (by decide +kernel)⟩
theorem lw_p58 : lw_okq (⟨"FeedCheck$Bin", "addAll", "(LFeedCheck$Bin;)I"⟩, 4) := ⟨⟨by decide +kernel, by decide +kernel⟩, List.mem_of_getElem? (i := 219) (by decide +kernel), List.mem_of_getElem? (i := 717) (by decide +kernel), List.mem_of_getElem? (i := 718) (by decide +kernel)⟩
theorem lw_p59 : lw_okq (⟨"FeedCheck$Bin", "together", "()I"⟩, 4) := ⟨⟨by decide +kernel, by decide +kernel⟩, List.mem_of_getElem? (i := 219) (by decide +kernel), List.mem_of_getElem? (i := 726) (by decide +kernel), List.mem_of_getElem? (i := 727) (by decide +kernel)⟩
theorem lw_p60 : lw_okq (⟨"FeedCheck$Plan", "joints", "()I"⟩, 8) := ⟨⟨by decide +kernel, by decide +kernel⟩, List.mem_of_getElem? (i := 44) (by decide +kernel), List.mem_of_getElem? (i := 738) (by decide +kernel), List.mem_of_getElem? (i := 739) (by decide +kernel)⟩
theorem lw_p61 : lw_okq (⟨"FeedCheck", "countOfTops", "(I)I"⟩, 10) := ⟨⟨by decide +kernel, by decide +kernel⟩, List.mem_of_getElem? (i := 19) (by decide +kernel), List.mem_of_getElem? (i := 743) (by decide +kernel), List.mem_of_getElem? (i := 744) (by decide +kernel)⟩
theorem lw_p62 : lw_okq (⟨"FeedCheck$Melt", "drownedTops", "()I"⟩, 9) := ⟨⟨by decide +kernel, by decide +kernel⟩, List.mem_of_getElem? (i := 177) (by decide +kernel), List.mem_of_getElem? (i := 747) (by decide +kernel), List.mem_of_getElem? (i := 748) (by decide +kernel)⟩
theorem lw_p63 : lw_okq (⟨"FeedCheck", "thingsOfAllBins", "()I"⟩, 10) := ⟨⟨by decide +kernel, by decide +kernel⟩, List.mem_of_getElem? (i := 19) (by decide +kernel), List.mem_of_getElem? (i := 752) (by decide +kernel), List.mem_of_getElem? (i := 753) (by decide +kernel)⟩
def lw_privs_4 : List (MethodName × Nat) := [(⟨"FeedCheck$Melt", "rank", "(I)I"⟩, 9), (⟨"FeedCheck$Melt", "leastVolume", "(II)I"⟩, 9), (⟨"FeedCheck$Melt", "bestChilled", "(I)I"⟩, 9), (⟨"FeedCheck$Melt", "topsIfChilled", "(II)I"⟩, 9), (⟨"FeedCheck$Melt", "fewestRisers", "()I"⟩, 9), (⟨"FeedCheck$Bin", "begin", "(I)V"⟩, 4), (⟨"FeedCheck$Bin", "addThing", "(II)I"⟩, 4), (⟨"FeedCheck$Bin", "greatest", "()I"⟩, 4), (⟨"FeedCheck$Bin", "smallest", "()I"⟩, 4), (⟨"FeedCheck$Bin", "arrange", "()V"⟩, 4), (⟨"FeedCheck$Bin", "addAll", "(LFeedCheck$Bin;)I"⟩, 4), (⟨"FeedCheck$Bin", "together", "()I"⟩, 4), (⟨"FeedCheck$Plan", "joints", "()I"⟩, 8), (⟨"FeedCheck", "countOfTops", "(I)I"⟩, 10), (⟨"FeedCheck$Melt", "drownedTops", "()I"⟩, 9), (⟨"FeedCheck", "thingsOfAllBins", "()I"⟩, 10)]
theorem lw_r4 : ∀ q ∈ lw_privs_4, lw_okq q := List.forall_mem_cons.mpr ⟨lw_p48, List.forall_mem_cons.mpr ⟨lw_p49, List.forall_mem_cons.mpr ⟨lw_p50, List.forall_mem_cons.mpr ⟨lw_p51, List.forall_mem_cons.mpr ⟨lw_p52, List.forall_mem_cons.mpr ⟨lw_p53, List.forall_mem_cons.mpr ⟨lw_p54, List.forall_mem_cons.mpr ⟨lw_p55, List.forall_mem_cons.mpr ⟨lw_p56, List.forall_mem_cons.mpr ⟨lw_p57, List.forall_mem_cons.mpr ⟨lw_p58, List.forall_mem_cons.mpr ⟨lw_p59, List.forall_mem_cons.mpr ⟨lw_p60, List.forall_mem_cons.mpr ⟨lw_p61, List.forall_mem_cons.mpr ⟨lw_p62, List.forall_mem_cons.mpr ⟨lw_p63, fun _ h => absurd h List.not_mem_nil⟩⟩⟩⟩⟩⟩⟩⟩⟩⟩⟩⟩⟩⟩⟩⟩
theorem lw_p64 : lw_okq (⟨"FeedCheckModel", "reads", "(Z)Z"⟩, 25) := ⟨⟨by decide +kernel, by decide +kernel⟩, List.mem_of_getElem? (i := 756) (by decide +kernel), List.mem_of_getElem? (i := 854) (by decide +kernel), List.mem_of_getElem? (i := 855) (by decide +kernel)⟩
theorem lw_p65 : lw_okq (⟨"FeedCheckModel", "nextToken", "()V"⟩, 25) := ⟨⟨by decide +kernel, by decide +kernel⟩, List.mem_of_getElem? (i := 756) (by decide +kernel), List.mem_of_getElem? (i := 858) (by decide +kernel), List.mem_of_getElem? (i := 859) (by decide +kernel)⟩
theorem lw_p66 : lw_okq (⟨"FeedCheckModel", "readsClause", "()Z"⟩, 25) := ⟨⟨by decide +kernel, by decide +kernel⟩, List.mem_of_getElem? (i := 756) (by decide +kernel), List.mem_of_getElem? (i := 872) (by decide +kernel), List.mem_of_getElem? (i := 873) (by decide +kernel)⟩
theorem lw_p67 : lw_okq (⟨"FeedCheckModel", "wordHere", "()I"⟩, 25) := ⟨⟨by decide +kernel, by decide +kernel⟩, List.mem_of_getElem? (i := 756) (by decide +kernel), List.mem_of_getElem? (i := 876) (by decide +kernel), List.mem_of_getElem? (i := 877) (by decide +kernel)⟩
theorem lw_p68 : lw_okq (⟨"FeedCheckModel", "readsRest", "(I)Z"⟩, 25) := ⟨⟨by decide +kernel, by decide +kernel⟩, List.mem_of_getElem? (i := 756) (by decide +kernel), List.mem_of_getElem? (i := 880) (by decide +kernel), List.mem_of_getElem? (i := 881) (by decide +kernel)⟩
theorem lw_p69 : lw_okq (⟨"FeedCheckModel", "number", "(IIII)Z"⟩, 25) := ⟨⟨by decide +kernel, by decide +kernel⟩, List.mem_of_getElem? (i := 756) (by decide +kernel), List.mem_of_getElem? (i := 884) (by decide +kernel), List.mem_of_getElem? (i := 885) (by decide +kernel)⟩
theorem lw_p70 : lw_okq (⟨"FeedCheckModel", "readsSection", "(II)Z"⟩, 25) := ⟨⟨by decide +kernel, by decide +kernel⟩, List.mem_of_getElem? (i := 756) (by decide +kernel), List.mem_of_getElem? (i := 888) (by decide +kernel), List.mem_of_getElem? (i := 889) (by decide +kernel)⟩
theorem lw_p71 : lw_okq (⟨"FeedCheckModel", "does", "(I)V"⟩, 25) := ⟨⟨by decide +kernel, by decide +kernel⟩, List.mem_of_getElem? (i := 756) (by decide +kernel), List.mem_of_getElem? (i := 892) (by decide +kernel), List.mem_of_getElem? (i := 893) (by decide +kernel)⟩
theorem lw_p72 : lw_okq (⟨"FeedCheckModel", "anew", "()V"⟩, 25) := ⟨⟨by decide +kernel, by decide +kernel⟩, List.mem_of_getElem? (i := 756) (by decide +kernel), List.mem_of_getElem? (i := 896) (by decide +kernel), List.mem_of_getElem? (i := 897) (by decide +kernel)⟩
theorem lw_p73 : lw_okq (⟨"FeedCheckModel", "addRiser", "(III)V"⟩, 25) := ⟨⟨by decide +kernel, by decide +kernel⟩, List.mem_of_getElem? (i := 756) (by decide +kernel), List.mem_of_getElem? (i := 900) (by decide +kernel), List.mem_of_getElem? (i := 901) (by decide +kernel)⟩
theorem lw_p74 : lw_okq (⟨"FeedCheckModel", "copyRow", "(II)V"⟩, 25) := ⟨⟨by decide +kernel, by decide +kernel⟩, List.mem_of_getElem? (i := 756) (by decide +kernel), List.mem_of_getElem? (i := 908) (by decide +kernel), List.mem_of_getElem? (i := 909) (by decide +kernel)⟩
theorem lw_p75 : lw_okq (⟨"FeedCheckModel", "isSection", "(I)Z"⟩, 25) := ⟨⟨by decide +kernel, by decide +kernel⟩, List.mem_of_getElem? (i := 756) (by decide +kernel), List.mem_of_getElem? (i := 916) (by decide +kernel), List.mem_of_getElem? (i := 917) (by decide +kernel)⟩
theorem lw_p76 : lw_okq (⟨"FeedCheckModel", "skinOf", "(I)I"⟩, 25) := ⟨⟨by decide +kernel, by decide +kernel⟩, List.mem_of_getElem? (i := 756) (by decide +kernel), List.mem_of_getElem? (i := 920) (by decide +kernel), List.mem_of_getElem? (i := 921) (by decide +kernel)⟩
theorem lw_p77 : lw_okq (⟨"FeedCheckModel", "isTop", "(I)Z"⟩, 25) := ⟨⟨by decide +kernel, by decide +kernel⟩, List.mem_of_getElem? (i := 756) (by decide +kernel), List.mem_of_getElem? (i := 927) (by decide +kernel), List.mem_of_getElem? (i := 928) (by decide +kernel)⟩
theorem lw_p78 : lw_okq (⟨"FeedCheckModel", "latest", "(I)I"⟩, 25) := ⟨⟨by decide +kernel, by decide +kernel⟩, List.mem_of_getElem? (i := 756) (by decide +kernel), List.mem_of_getElem? (i := 931) (by decide +kernel), List.mem_of_getElem? (i := 932) (by decide +kernel)⟩
theorem lw_p79 : lw_okq (⟨"FeedCheckModel", "isLater", "(II)Z"⟩, 25) := ⟨⟨by decide +kernel, by decide +kernel⟩, List.mem_of_getElem? (i := 756) (by decide +kernel), List.mem_of_getElem? (i := 938) (by decide +kernel), List.mem_of_getElem? (i := 939) (by decide +kernel)⟩
def lw_privs_5 : List (MethodName × Nat) := [(⟨"FeedCheckModel", "reads", "(Z)Z"⟩, 25), (⟨"FeedCheckModel", "nextToken", "()V"⟩, 25), (⟨"FeedCheckModel", "readsClause", "()Z"⟩, 25), (⟨"FeedCheckModel", "wordHere", "()I"⟩, 25), (⟨"FeedCheckModel", "readsRest", "(I)Z"⟩, 25), (⟨"FeedCheckModel", "number", "(IIII)Z"⟩, 25), (⟨"FeedCheckModel", "readsSection", "(II)Z"⟩, 25), (⟨"FeedCheckModel", "does", "(I)V"⟩, 25), (⟨"FeedCheckModel", "anew", "()V"⟩, 25), (⟨"FeedCheckModel", "addRiser", "(III)V"⟩, 25), (⟨"FeedCheckModel", "copyRow", "(II)V"⟩, 25), (⟨"FeedCheckModel", "isSection", "(I)Z"⟩, 25), (⟨"FeedCheckModel", "skinOf", "(I)I"⟩, 25), (⟨"FeedCheckModel", "isTop", "(I)Z"⟩, 25), (⟨"FeedCheckModel", "latest", "(I)I"⟩, 25), (⟨"FeedCheckModel", "isLater", "(II)Z"⟩, 25)]
theorem lw_r5 : ∀ q ∈ lw_privs_5, lw_okq q := List.forall_mem_cons.mpr ⟨lw_p64, List.forall_mem_cons.mpr ⟨lw_p65, List.forall_mem_cons.mpr ⟨lw_p66, List.forall_mem_cons.mpr ⟨lw_p67, List.forall_mem_cons.mpr ⟨lw_p68, List.forall_mem_cons.mpr ⟨lw_p69, List.forall_mem_cons.mpr ⟨lw_p70, List.forall_mem_cons.mpr ⟨lw_p71, List.forall_mem_cons.mpr ⟨lw_p72, List.forall_mem_cons.mpr ⟨lw_p73, List.forall_mem_cons.mpr ⟨lw_p74, List.forall_mem_cons.mpr ⟨lw_p75, List.forall_mem_cons.mpr ⟨lw_p76, List.forall_mem_cons.mpr ⟨lw_p77, List.forall_mem_cons.mpr ⟨lw_p78, List.forall_mem_cons.mpr ⟨lw_p79, fun _ h => absurd h List.not_mem_nil⟩⟩⟩⟩⟩⟩⟩⟩⟩⟩⟩⟩⟩⟩⟩⟩
theorem lw_p80 : lw_okq (⟨"FeedCheckModel", "topOf", "(I)I"⟩, 25) := ⟨⟨by decide +kernel, by decide +kernel⟩, List.mem_of_getElem? (i := 756) (by decide +kernel), List.mem_of_getElem? (i := 942) (by decide +kernel), List.mem_of_getElem? (i := 943) (by decide +kernel)⟩
theorem lw_p81 : lw_okq (⟨"FeedCheckModel", "layHeads", "()V"⟩, 25) := ⟨⟨by decide +kernel, by decide +kernel⟩, List.mem_of_getElem? (i := 756) (by decide +kernel), List.mem_of_getElem? (i := 951) (by decide +kernel), List.mem_of_getElem? (i := 952) (by decide +kernel)⟩
theorem lw_p82 : lw_okq (⟨"FeedCheckModel", "head", "(I)I"⟩, 25) := ⟨⟨by decide +kernel, by decide +kernel⟩, List.mem_of_getElem? (i := 756) (by decide +kernel), List.mem_of_getElem? (i := 955) (by decide +kernel), List.mem_of_getElem? (i := 956) (by decide +kernel)⟩
theorem lw_p83 : lw_okq (⟨"FeedCheckModel", "drownedIn", "(I)I"⟩, 25) := ⟨⟨by decide +kernel, by decide +kernel⟩, List.mem_of_getElem? (i := 756) (by decide +kernel), List.mem_of_getElem? (i := 959) (by decide +kernel), List.mem_of_getElem? (i := 960) (by decide +kernel)⟩
theorem lw_p84 : lw_okq (⟨"FeedCheckModel", "tops", "()I"⟩, 25) := ⟨⟨by decide +kernel, by decide +kernel⟩, List.mem_of_getElem? (i := 756) (by decide +kernel), List.mem_of_getElem? (i := 963) (by decide +kernel), List.mem_of_getElem? (i := 964) (by decide +kernel)⟩
theorem lw_p85 : lw_okq (⟨"FeedCheckModel", "passOf", "(II)I"⟩, 25) := ⟨⟨by decide +kernel, by decide +kernel⟩, List.mem_of_getElem? (i := 756) (by decide +kernel), List.mem_of_getElem? (i := 967) (by decide +kernel), List.mem_of_getElem? (i := 968) (by decide +kernel)⟩
theorem lw_p86 : lw_okq (⟨"FeedCheckModel", "basin", "(I)I"⟩, 25) := ⟨⟨by decide +kernel, by decide +kernel⟩, List.mem_of_getElem? (i := 756) (by decide +kernel), List.mem_of_getElem? (i := 971) (by decide +kernel), List.mem_of_getElem? (i := 972) (by decide +kernel)⟩
theorem lw_p87 : lw_okq (⟨"FeedCheckModel", "isHigh", "(II)Z"⟩, 25) := ⟨⟨by decide +kernel, by decide +kernel⟩, List.mem_of_getElem? (i := 756) (by decide +kernel), List.mem_of_getElem? (i := 975) (by decide +kernel), List.mem_of_getElem? (i := 976) (by decide +kernel)⟩
theorem lw_p88 : lw_okq (⟨"FeedCheckModel", "allRisers", "()I"⟩, 25) := ⟨⟨by decide +kernel, by decide +kernel⟩, List.mem_of_getElem? (i := 756) (by decide +kernel), List.mem_of_getElem? (i := 979) (by decide +kernel), List.mem_of_getElem? (i := 980) (by decide +kernel)⟩
theorem lw_p89 : lw_okq (⟨"FeedCheckModel", "feeder", "(II)I"⟩, 25) := ⟨⟨by decide +kernel, by decide +kernel⟩, List.mem_of_getElem? (i := 756) (by decide +kernel), List.mem_of_getElem? (i := 983) (by decide +kernel), List.mem_of_getElem? (i := 984) (by decide +kernel)⟩
theorem lw_p90 : lw_okq (⟨"FeedCheckModel", "outlasts", "(III)Z"⟩, 25) := ⟨⟨by decide +kernel, by decide +kernel⟩, List.mem_of_getElem? (i := 756) (by decide +kernel), List.mem_of_getElem? (i := 987) (by decide +kernel), List.mem_of_getElem? (i := 988) (by decide +kernel)⟩
theorem lw_p91 : lw_okq (⟨"FeedCheckModel", "isRiser", "(I)Z"⟩, 25) := ⟨⟨by decide +kernel, by decide +kernel⟩, List.mem_of_getElem? (i := 756) (by decide +kernel), List.mem_of_getElem? (i := 995) (by decide +kernel), List.mem_of_getElem? (i := 996) (by decide +kernel)⟩
theorem lw_p92 : lw_okq (⟨"FeedCheckModel", "fed", "()I"⟩, 25) := ⟨⟨by decide +kernel, by decide +kernel⟩, List.mem_of_getElem? (i := 756) (by decide +kernel), List.mem_of_getElem? (i := 999) (by decide +kernel), List.mem_of_getElem? (i := 1000) (by decide +kernel)⟩
theorem lw_p93 : lw_okq (⟨"FeedCheckModel", "fedBy", "(I)I"⟩, 25) := ⟨⟨by decide +kernel, by decide +kernel⟩, List.mem_of_getElem? (i := 756) (by decide +kernel), List.mem_of_getElem? (i := 1003) (by decide +kernel), List.mem_of_getElem? (i := 1004) (by decide +kernel)⟩
theorem lw_p94 : lw_okq (⟨"FeedCheckModel", "keepPast", "()V"⟩, 25) := ⟨⟨by decide +kernel, by decide +kernel⟩, List.mem_of_getElem? (i := 756) (by decide +kernel), List.mem_of_getElem? (i := 1012) (by decide +kernel), List.mem_of_getElem? (i := 1013) (by decide +kernel)⟩
theorem lw_p95 : lw_okq (⟨"FeedCheckModel", "add", "(III)I"⟩, 25) := ⟨⟨by decide +kernel, by decide +kernel⟩, List.mem_of_getElem? (i := 756) (by decide +kernel), List.mem_of_getElem? (i := 1078) (by decide +kernel), List.mem_of_getElem? (i := 1079) (by decide +kernel)⟩
def lw_privs_6 : List (MethodName × Nat) := [(⟨"FeedCheckModel", "topOf", "(I)I"⟩, 25), (⟨"FeedCheckModel", "layHeads", "()V"⟩, 25), (⟨"FeedCheckModel", "head", "(I)I"⟩, 25), (⟨"FeedCheckModel", "drownedIn", "(I)I"⟩, 25), (⟨"FeedCheckModel", "tops", "()I"⟩, 25), (⟨"FeedCheckModel", "passOf", "(II)I"⟩, 25), (⟨"FeedCheckModel", "basin", "(I)I"⟩, 25), (⟨"FeedCheckModel", "isHigh", "(II)Z"⟩, 25), (⟨"FeedCheckModel", "allRisers", "()I"⟩, 25), (⟨"FeedCheckModel", "feeder", "(II)I"⟩, 25), (⟨"FeedCheckModel", "outlasts", "(III)Z"⟩, 25), (⟨"FeedCheckModel", "isRiser", "(I)Z"⟩, 25), (⟨"FeedCheckModel", "fed", "()I"⟩, 25), (⟨"FeedCheckModel", "fedBy", "(I)I"⟩, 25), (⟨"FeedCheckModel", "keepPast", "()V"⟩, 25), (⟨"FeedCheckModel", "add", "(III)I"⟩, 25)]
theorem lw_r6 : ∀ q ∈ lw_privs_6, lw_okq q := List.forall_mem_cons.mpr ⟨lw_p80, List.forall_mem_cons.mpr ⟨lw_p81, List.forall_mem_cons.mpr ⟨lw_p82, List.forall_mem_cons.mpr ⟨lw_p83, List.forall_mem_cons.mpr ⟨lw_p84, List.forall_mem_cons.mpr ⟨lw_p85, List.forall_mem_cons.mpr ⟨lw_p86, List.forall_mem_cons.mpr ⟨lw_p87, List.forall_mem_cons.mpr ⟨lw_p88, List.forall_mem_cons.mpr ⟨lw_p89, List.forall_mem_cons.mpr ⟨lw_p90, List.forall_mem_cons.mpr ⟨lw_p91, List.forall_mem_cons.mpr ⟨lw_p92, List.forall_mem_cons.mpr ⟨lw_p93, List.forall_mem_cons.mpr ⟨lw_p94, List.forall_mem_cons.mpr ⟨lw_p95, fun _ h => absurd h List.not_mem_nil⟩⟩⟩⟩⟩⟩⟩⟩⟩⟩⟩⟩⟩⟩⟩⟩
theorem lw_p96 : lw_okq (⟨"FeedCheckModel", "joints", "()I"⟩, 25) := ⟨⟨by decide +kernel, by decide +kernel⟩, List.mem_of_getElem? (i := 756) (by decide +kernel), List.mem_of_getElem? (i := 1114) (by decide +kernel), List.mem_of_getElem? (i := 1115) (by decide +kernel)⟩
theorem lw_p97 : lw_okq (⟨"FeedCheckModel", "drowned", "()I"⟩, 25) := ⟨⟨by decide +kernel, by decide +kernel⟩, List.mem_of_getElem? (i := 756) (by decide +kernel), List.mem_of_getElem? (i := 1118) (by decide +kernel), List.mem_of_getElem? (i := 1119) (by decide +kernel)⟩
theorem lw_p98 : lw_okq (⟨"FeedCheckModel", "allThings", "()I"⟩, 25) := ⟨⟨by decide +kernel, by decide +kernel⟩, List.mem_of_getElem? (i := 756) (by decide +kernel), List.mem_of_getElem? (i := 1122) (by decide +kernel), List.mem_of_getElem? (i := 1123) (by decide +kernel)⟩
def lw_privs_7 : List (MethodName × Nat) := [(⟨"FeedCheckModel", "joints", "()I"⟩, 25), (⟨"FeedCheckModel", "drowned", "()I"⟩, 25), (⟨"FeedCheckModel", "allThings", "()I"⟩, 25)]
theorem lw_r7 : ∀ q ∈ lw_privs_7, lw_okq q := List.forall_mem_cons.mpr ⟨lw_p96, List.forall_mem_cons.mpr ⟨lw_p97, List.forall_mem_cons.mpr ⟨lw_p98, fun _ h => absurd h List.not_mem_nil⟩⟩⟩
def lw_privs : List (MethodName × Nat) := lw_privs_1 ++ (lw_privs_2 ++ (lw_privs_3 ++ (lw_privs_4 ++ (lw_privs_5 ++ (lw_privs_6 ++ (lw_privs_7))))))
def lw_tbl : List Cond := k2_sels lw_privs ++ tables_1
theorem lw_privs_ok : ∀ q ∈ lw_privs, lw_okq q := by
  show ∀ q ∈ lw_privs_1 ++ (lw_privs_2 ++ (lw_privs_3 ++ (lw_privs_4 ++ (lw_privs_5 ++ (lw_privs_6 ++ (lw_privs_7)))))), lw_okq q
  exact List.forall_mem_append.mpr ⟨lw_r1, List.forall_mem_append.mpr ⟨lw_r2, List.forall_mem_append.mpr ⟨lw_r3, List.forall_mem_append.mpr ⟨lw_r4, List.forall_mem_append.mpr ⟨lw_r5, List.forall_mem_append.mpr ⟨lw_r6, lw_r7⟩⟩⟩⟩⟩⟩
end
section
def RX0 : String := "FeedCheck$Bin"
def TX0 : u_T := fun k => match k with
  | 0 => ("FeedCheck$Bin", "things", "[I", true)
  | 1 => ("FeedCheck$Bin", "missing", "Z", false)
  | 2 => ("FeedCheck$Bin", "kind", "I", false)
  | _ => ("FeedCheck$Bin", "size", "I", false)
def tyX0 : Nat → FieldType := fun k => match k with
  | 0 => .array .int
  | 1 => .boolean
  | 2 => .int
  | _ => .int
theorem nmX0 : ∀ a, a < 4 → ∀ b, b < 4 → a ≠ b → (TX0 a).2.1 ≠ (TX0 b).2.1 := by decide +kernel
theorem tyX0_ok : ∀ k, k < 4 → parseFieldDescriptor (TX0 k).2.2.1 = some (tyX0 k) := by decide +kernel
abbrev cX0_init : ByteArray := prog_2_method_1_code
def yX0_init : MethodName := ⟨RX0, "<init>", "()V"⟩
abbrev cX0_begin : ByteArray := prog_2_method_2_code
def yX0_begin : MethodName := ⟨RX0, "begin", "(I)V"⟩
abbrev cX0_vanish : ByteArray := prog_2_method_3_code
def yX0_vanish : MethodName := ⟨RX0, "vanish", "()V"⟩
abbrev cX0_addThing : ByteArray := prog_2_method_4_code
def yX0_addThing : MethodName := ⟨RX0, "addThing", "(II)I"⟩
abbrev cX0_addAll : ByteArray := prog_2_method_5_code
def yX0_addAll : MethodName := ⟨RX0, "addAll", "(LFeedCheck$Bin;)I"⟩
abbrev cX0_greatest : ByteArray := prog_2_method_6_code
def yX0_greatest : MethodName := ⟨RX0, "greatest", "()I"⟩
abbrev cX0_smallest : ByteArray := prog_2_method_7_code
def yX0_smallest : MethodName := ⟨RX0, "smallest", "()I"⟩
abbrev cX0_arrange : ByteArray := prog_2_method_8_code
def yX0_arrange : MethodName := ⟨RX0, "arrange", "()V"⟩
abbrev cX0_together : ByteArray := prog_2_method_9_code
def yX0_together : MethodName := ⟨RX0, "together", "()I"⟩
def RX1 : String := "FeedCheck$Fit"
def TX1 : u_T := fun k => match k with
  | 0 => ("FeedCheck$Fit", "chills", "[I", true)
  | 1 => ("FeedCheck$Fit", "place", "[I", true)
  | 2 => ("FeedCheck$Fit", "volume", "[I", true)
  | 3 => ("FeedCheck$Fit", "skin", "[I", true)
  | _ => ("FeedCheck$Fit", "risers", "I", false)
def tyX1 : Nat → FieldType := fun k => match k with
  | 0 => .array .int
  | 1 => .array .int
  | 2 => .array .int
  | 3 => .array .int
  | _ => .int
theorem nmX1 : ∀ a, a < 5 → ∀ b, b < 5 → a ≠ b → (TX1 a).2.1 ≠ (TX1 b).2.1 := by decide +kernel
theorem tyX1_ok : ∀ k, k < 5 → parseFieldDescriptor (TX1 k).2.2.1 = some (tyX1 k) := by decide +kernel
abbrev cX1_init : ByteArray := prog_3_method_1_code
def yX1_init : MethodName := ⟨RX1, "<init>", "()V"⟩
abbrev cX1_clear : ByteArray := prog_3_method_2_code
def yX1_clear : MethodName := ⟨RX1, "clear", "()V"⟩
abbrev cX1_copyFrom : ByteArray := prog_3_method_3_code
def yX1_copyFrom : MethodName := ⟨RX1, "copyFrom", "(LFeedCheck$Fit;)V"⟩
abbrev cX1_addRiser : ByteArray := prog_3_method_4_code
def yX1_addRiser : MethodName := ⟨RX1, "addRiser", "(III)V"⟩
abbrev cX1_removeRiser : ByteArray := prog_3_method_5_code
def yX1_removeRiser : MethodName := ⟨RX1, "removeRiser", "(I)V"⟩
def RX2 : String := "FeedCheck$History"
def TX2 : u_T := fun k => match k with
  | 0 => ("FeedCheck$History", "past", "[LFeedCheck$Fit;", true)
  | 1 => ("FeedCheck$History", "next", "I", false)
  | _ => ("FeedCheck$History", "size", "I", false)
def tyX2 : Nat → FieldType := fun k => match k with
  | 0 => .array (.object "FeedCheck$Fit")
  | 1 => .int
  | _ => .int
theorem nmX2 : ∀ a, a < 3 → ∀ b, b < 3 → a ≠ b → (TX2 a).2.1 ≠ (TX2 b).2.1 := by decide +kernel
theorem tyX2_ok : ∀ k, k < 3 → parseFieldDescriptor (TX2 k).2.2.1 = some (tyX2 k) := by decide +kernel
abbrev cX2_init : ByteArray := prog_4_method_1_code
def yX2_init : MethodName := ⟨RX2, "<init>", "()V"⟩
abbrev cX2_remember : ByteArray := prog_4_method_2_code
def yX2_remember : MethodName := ⟨RX2, "remember", "(LFeedCheck$Fit;)V"⟩
abbrev cX2_recall : ByteArray := prog_4_method_3_code
def yX2_recall : MethodName := ⟨RX2, "recall", "(LFeedCheck$Fit;)V"⟩
def RX3 : String := "FeedCheck$Melt"
def TX3 : u_T := fun k => match k with
  | 0 => ("FeedCheck$Melt", "above", "[I", true)
  | 1 => ("FeedCheck$Melt", "below", "[I", true)
  | 2 => ("FeedCheck$Melt", "summit", "[I", true)
  | 3 => ("FeedCheck$Melt", "steps", "[I", true)
  | 4 => ("FeedCheck$Melt", "drownedIn", "[I", true)
  | 5 => ("FeedCheck$Melt", "head", "[I", true)
  | 6 => ("FeedCheck$Melt", "plan", "LFeedCheck$Plan;", true)
  | 7 => ("FeedCheck$Melt", "fit", "LFeedCheck$Fit;", true)
  | _ => ("FeedCheck$Melt", "sections", "I", false)
def tyX3 : Nat → FieldType := fun k => match k with
  | 0 => .array .int
  | 1 => .array .int
  | 2 => .array .int
  | 3 => .array .int
  | 4 => .array .int
  | 5 => .array .int
  | 6 => .object "FeedCheck$Plan"
  | 7 => .object "FeedCheck$Fit"
  | _ => .int
theorem nmX3 : ∀ a, a < 9 → ∀ b, b < 9 → a ≠ b → (TX3 a).2.1 ≠ (TX3 b).2.1 := by decide +kernel
theorem tyX3_ok : ∀ k, k < 9 → parseFieldDescriptor (TX3 k).2.2.1 = some (tyX3 k) := by decide +kernel
abbrev cX3_init : ByteArray := prog_5_method_1_code
def yX3_init : MethodName := ⟨RX3, "<init>", "(LFeedCheck$Plan;LFeedCheck$Fit;)V"⟩
abbrev cX3_settle : ByteArray := prog_5_method_2_code
def yX3_settle : MethodName := ⟨RX3, "settle", "()V"⟩
abbrev cX3_belowWith : ByteArray := prog_5_method_3_code
def yX3_belowWith : MethodName := ⟨RX3, "belowWith", "(II)I"⟩
abbrev cX3_isNeighbour : ByteArray := prog_5_method_4_code
def yX3_isNeighbour : MethodName := ⟨RX3, "isNeighbour", "(II)Z"⟩
abbrev cX3_isSooner : ByteArray := prog_5_method_5_code
def yX3_isSooner : MethodName := ⟨RX3, "isSooner", "(II)Z"⟩
abbrev cX3_later : ByteArray := prog_5_method_6_code
def yX3_later : MethodName := ⟨RX3, "later", "(II)I"⟩
abbrev cX3_latestNeighbour : ByteArray := prog_5_method_7_code
def yX3_latestNeighbour : MethodName := ⟨RX3, "latestNeighbour", "(I)I"⟩
abbrev cX3_isTop : ByteArray := prog_5_method_8_code
def yX3_isTop : MethodName := ⟨RX3, "isTop", "(I)Z"⟩
abbrev cX3_climb : ByteArray := prog_5_method_9_code
def yX3_climb : MethodName := ⟨RX3, "climb", "(I)V"⟩
abbrev cX3_basin : ByteArray := prog_5_method_10_code
def yX3_basin : MethodName := ⟨RX3, "basin", "(I)I"⟩
abbrev cX3_passBetween : ByteArray := prog_5_method_11_code
def yX3_passBetween : MethodName := ⟨RX3, "passBetween", "(II)I"⟩
abbrev cX3_drowner : ByteArray := prog_5_method_12_code
def yX3_drowner : MethodName := ⟨RX3, "drowner", "(I)I"⟩
abbrev cX3_drowns : ByteArray := prog_5_method_13_code
def yX3_drowns : MethodName := ⟨RX3, "drowns", "(II)Z"⟩
abbrev cX3_headOf : ByteArray := prog_5_method_14_code
def yX3_headOf : MethodName := ⟨RX3, "headOf", "(I)I"⟩
abbrev cX3_tops : ByteArray := prog_5_method_15_code
def yX3_tops : MethodName := ⟨RX3, "tops", "()I"⟩
abbrev cX3_drownedTops : ByteArray := prog_5_method_16_code
def yX3_drownedTops : MethodName := ⟨RX3, "drownedTops", "()I"⟩
abbrev cX3_allRisers : ByteArray := prog_5_method_17_code
def yX3_allRisers : MethodName := ⟨RX3, "allRisers", "()I"⟩
abbrev cX3_outlasts : ByteArray := prog_5_method_18_code
def yX3_outlasts : MethodName := ⟨RX3, "outlasts", "(III)Z"⟩
abbrev cX3_feeder : ByteArray := prog_5_method_19_code
def yX3_feeder : MethodName := ⟨RX3, "feeder", "(II)I"⟩
abbrev cX3_fedTops : ByteArray := prog_5_method_20_code
def yX3_fedTops : MethodName := ⟨RX3, "fedTops", "(I)I"⟩
abbrev cX3_starvedBy : ByteArray := prog_5_method_21_code
def yX3_starvedBy : MethodName := ⟨RX3, "starvedBy", "(I)I"⟩
abbrev cX3_fewestRisers : ByteArray := prog_5_method_22_code
def yX3_fewestRisers : MethodName := ⟨RX3, "fewestRisers", "()I"⟩
abbrev cX3_leastVolume : ByteArray := prog_5_method_23_code
def yX3_leastVolume : MethodName := ⟨RX3, "leastVolume", "(II)I"⟩
abbrev cX3_atRank : ByteArray := prog_5_method_24_code
def yX3_atRank : MethodName := ⟨RX3, "atRank", "(I)I"⟩
abbrev cX3_rank : ByteArray := prog_5_method_25_code
def yX3_rank : MethodName := ⟨RX3, "rank", "(I)I"⟩
abbrev cX3_topsIfChilled : ByteArray := prog_5_method_26_code
def yX3_topsIfChilled : MethodName := ⟨RX3, "topsIfChilled", "(II)I"⟩
abbrev cX3_bestChilled : ByteArray := prog_5_method_27_code
def yX3_bestChilled : MethodName := ⟨RX3, "bestChilled", "(I)I"⟩
abbrev cX3_commonPart : ByteArray := prog_5_method_28_code
def yX3_commonPart : MethodName := ⟨RX3, "commonPart", "(I)I"⟩
def RX4 : String := "FeedCheck$Plan"
def TX4 : u_T := fun k => match k with
  | 0 => ("FeedCheck$Plan", "volume", "[I", true)
  | 1 => ("FeedCheck$Plan", "skin", "[I", true)
  | 2 => ("FeedCheck$Plan", "neighbours", "[I", true)
  | 3 => ("FeedCheck$Plan", "fit", "LFeedCheck$Fit;", true)
  | 4 => ("FeedCheck$Plan", "sections", "I", false)
  | 5 => ("FeedCheck$Plan", "shareA", "I", false)
  | 6 => ("FeedCheck$Plan", "shareB", "I", false)
  | _ => ("FeedCheck$Plan", "passPart", "I", false)
def tyX4 : Nat → FieldType := fun k => match k with
  | 0 => .array .int
  | 1 => .array .int
  | 2 => .array .int
  | 3 => .object "FeedCheck$Fit"
  | 4 => .int
  | 5 => .int
  | 6 => .int
  | _ => .int
theorem nmX4 : ∀ a, a < 8 → ∀ b, b < 8 → a ≠ b → (TX4 a).2.1 ≠ (TX4 b).2.1 := by decide +kernel
theorem tyX4_ok : ∀ k, k < 8 → parseFieldDescriptor (TX4 k).2.2.1 = some (tyX4 k) := by decide +kernel
abbrev cX4_init : ByteArray := prog_6_method_1_code
def yX4_init : MethodName := ⟨RX4, "<init>", "()V"⟩
abbrev cX4_clear : ByteArray := prog_6_method_2_code
def yX4_clear : MethodName := ⟨RX4, "clear", "()V"⟩
abbrev cX4_copyFrom : ByteArray := prog_6_method_3_code
def yX4_copyFrom : MethodName := ⟨RX4, "copyFrom", "(LFeedCheck$Plan;)V"⟩
abbrev cX4_setRule : ByteArray := prog_6_method_4_code
def yX4_setRule : MethodName := ⟨RX4, "setRule", "(III)V"⟩
abbrev cX4_addSection : ByteArray := prog_6_method_5_code
def yX4_addSection : MethodName := ⟨RX4, "addSection", "(II)V"⟩
abbrev cX4_join : ByteArray := prog_6_method_6_code
def yX4_join : MethodName := ⟨RX4, "join", "(II)V"⟩
abbrev cX4_joints : ByteArray := prog_6_method_7_code
def yX4_joints : MethodName := ⟨RX4, "joints", "()I"⟩
def RX5 : String := "FeedCheck$Reader"
def TX5 : u_T := fun k => match k with
  | 0 => ("FeedCheck$Reader", "text", "LFeedCheck$Text;", true)
  | 1 => ("FeedCheck$Reader", "plan", "LFeedCheck$Plan;", true)
  | 2 => ("FeedCheck$Reader", "kind", "I", false)
  | 3 => ("FeedCheck$Reader", "start", "I", false)
  | 4 => ("FeedCheck$Reader", "end", "I", false)
  | 5 => ("FeedCheck$Reader", "value", "I", false)
  | _ => ("FeedCheck$Reader", "clauses", "I", false)
def tyX5 : Nat → FieldType := fun k => match k with
  | 0 => .object "FeedCheck$Text"
  | 1 => .object "FeedCheck$Plan"
  | 2 => .int
  | 3 => .int
  | 4 => .int
  | 5 => .int
  | _ => .int
theorem nmX5 : ∀ a, a < 7 → ∀ b, b < 7 → a ≠ b → (TX5 a).2.1 ≠ (TX5 b).2.1 := by decide +kernel
theorem tyX5_ok : ∀ k, k < 7 → parseFieldDescriptor (TX5 k).2.2.1 = some (tyX5 k) := by decide +kernel
abbrev cX5_init : ByteArray := prog_7_method_1_code
def yX5_init : MethodName := ⟨RX5, "<init>", "(LFeedCheck$Text;LFeedCheck$Plan;)V"⟩
abbrev cX5_read : ByteArray := prog_7_method_2_code
def yX5_read : MethodName := ⟨RX5, "read", "(LFeedCheck$Plan;)I"⟩
abbrev cX5_clauseStands : ByteArray := prog_7_method_3_code
def yX5_clauseStands : MethodName := ⟨RX5, "clauseStands", "()Z"⟩
abbrev cX5_sectionStands : ByteArray := prog_7_method_4_code
def yX5_sectionStands : MethodName := ⟨RX5, "sectionStands", "()Z"⟩
abbrev cX5_jointStands : ByteArray := prog_7_method_5_code
def yX5_jointStands : MethodName := ⟨RX5, "jointStands", "()Z"⟩
abbrev cX5_riserStands : ByteArray := prog_7_method_6_code
def yX5_riserStands : MethodName := ⟨RX5, "riserStands", "()Z"⟩
abbrev cX5_chillStands : ByteArray := prog_7_method_7_code
def yX5_chillStands : MethodName := ⟨RX5, "chillStands", "()Z"⟩
abbrev cX5_ruleStands : ByteArray := prog_7_method_8_code
def yX5_ruleStands : MethodName := ⟨RX5, "ruleStands", "()Z"⟩
abbrev cX5_numberStands : ByteArray := prog_7_method_9_code
def yX5_numberStands : MethodName := ⟨RX5, "numberStands", "(II)Z"⟩
abbrev cX5_step : ByteArray := prog_7_method_10_code
def yX5_step : MethodName := ⟨RX5, "step", "()V"⟩
abbrev cX5_kindOf : ByteArray := prog_7_method_11_code
def yX5_kindOf : MethodName := ⟨RX5, "kindOf", "(I)I"⟩
abbrev cX5_isSemicolon : ByteArray := prog_7_method_12_code
def yX5_isSemicolon : MethodName := ⟨RX5, "isSemicolon", "()Z"⟩
abbrev cX5_isWord : ByteArray := prog_7_method_13_code
def yX5_isWord : MethodName := ⟨RX5, "isWord", "(Ljava/lang/String;)Z"⟩
def RX6 : String := "FeedCheck$Text"
def TX6 : u_T := fun k => match k with
  | 0 => ("FeedCheck$Text", "letters", "[I", true)
  | _ => ("FeedCheck$Text", "length", "I", false)
def tyX6 : Nat → FieldType := fun k => match k with
  | 0 => .array .int
  | _ => .int
theorem nmX6 : ∀ a, a < 2 → ∀ b, b < 2 → a ≠ b → (TX6 a).2.1 ≠ (TX6 b).2.1 := by decide +kernel
theorem tyX6_ok : ∀ k, k < 2 → parseFieldDescriptor (TX6 k).2.2.1 = some (tyX6 k) := by decide +kernel
abbrev cX6_init : ByteArray := prog_8_method_1_code
def yX6_init : MethodName := ⟨RX6, "<init>", "()V"⟩
abbrev cX6_letterAt : ByteArray := prog_8_method_2_code
def yX6_letterAt : MethodName := ⟨RX6, "letterAt", "(I)I"⟩
def RX7 : String := "FeedCheck"
def TX7 : u_T := fun k => match k with
  | 0 => ("FeedCheck", "text", "LFeedCheck$Text;", true)
  | 1 => ("FeedCheck", "told", "LFeedCheck$Plan;", true)
  | 2 => ("FeedCheck", "trial", "LFeedCheck$Plan;", true)
  | 3 => ("FeedCheck", "reader", "LFeedCheck$Reader;", true)
  | 4 => ("FeedCheck", "now", "LFeedCheck$Fit;", true)
  | 5 => ("FeedCheck", "history", "LFeedCheck$History;", true)
  | 6 => ("FeedCheck", "kept", "[LFeedCheck$Fit;", true)
  | 7 => ("FeedCheck", "wasKept", "[Z", true)
  | 8 => ("FeedCheck", "melt", "LFeedCheck$Melt;", true)
  | _ => ("FeedCheck", "bins", "[LFeedCheck$Bin;", true)
def tyX7 : Nat → FieldType := fun k => match k with
  | 0 => .object "FeedCheck$Text"
  | 1 => .object "FeedCheck$Plan"
  | 2 => .object "FeedCheck$Plan"
  | 3 => .object "FeedCheck$Reader"
  | 4 => .object "FeedCheck$Fit"
  | 5 => .object "FeedCheck$History"
  | 6 => .array (.object "FeedCheck$Fit")
  | 7 => .array .boolean
  | 8 => .object "FeedCheck$Melt"
  | _ => .array (.object "FeedCheck$Bin")
theorem nmX7 : ∀ a, a < 10 → ∀ b, b < 10 → a ≠ b → (TX7 a).2.1 ≠ (TX7 b).2.1 := by decide +kernel
theorem tyX7_ok : ∀ k, k < 10 → parseFieldDescriptor (TX7 k).2.2.1 = some (tyX7 k) := by decide +kernel
abbrev cX7_init : ByteArray := prog_1_method_1_code
def yX7_init : MethodName := ⟨RX7, "<init>", "()V"⟩
abbrev cX7_write : ByteArray := prog_1_method_2_code
def yX7_write : MethodName := ⟨RX7, "write", "(I)I"⟩
abbrev cX7_erase : ByteArray := prog_1_method_3_code
def yX7_erase : MethodName := ⟨RX7, "erase", "()I"⟩
abbrev cX7_fault : ByteArray := prog_1_method_4_code
def yX7_fault : MethodName := ⟨RX7, "fault", "()I"⟩
abbrev cX7_casting : ByteArray := prog_1_method_5_code
def yX7_casting : MethodName := ⟨RX7, "casting", "()I"⟩
abbrev cX7_section : ByteArray := prog_1_method_6_code
def yX7_section : MethodName := ⟨RX7, "section", "(II)I"⟩
abbrev cX7_top : ByteArray := prog_1_method_7_code
def yX7_top : MethodName := ⟨RX7, "top", "(II)I"⟩
abbrev cX7_riser : ByteArray := prog_1_method_8_code
def yX7_riser : MethodName := ⟨RX7, "riser", "(II)I"⟩
abbrev cX7_put : ByteArray := prog_1_method_9_code
def yX7_put : MethodName := ⟨RX7, "put", "(III)I"⟩
abbrev cX7_take : ByteArray := prog_1_method_10_code
def yX7_take : MethodName := ⟨RX7, "take", "(I)I"⟩
abbrev cX7_move : ByteArray := prog_1_method_11_code
def yX7_move : MethodName := ⟨RX7, "move", "(III)I"⟩
abbrev cX7_chill : ByteArray := prog_1_method_12_code
def yX7_chill : MethodName := ⟨RX7, "chill", "(II)I"⟩
abbrev cX7_undo : ByteArray := prog_1_method_13_code
def yX7_undo : MethodName := ⟨RX7, "undo", "()I"⟩
abbrev cX7_keep : ByteArray := prog_1_method_14_code
def yX7_keep : MethodName := ⟨RX7, "keep", "(I)I"⟩
abbrev cX7_back : ByteArray := prog_1_method_15_code
def yX7_back : MethodName := ⟨RX7, "back", "(I)I"⟩
abbrev cX7_order : ByteArray := prog_1_method_16_code
def yX7_order : MethodName := ⟨RX7, "order", "(I)I"⟩
abbrev cX7_pass : ByteArray := prog_1_method_17_code
def yX7_pass : MethodName := ⟨RX7, "pass", "(II)I"⟩
abbrev cX7_need : ByteArray := prog_1_method_18_code
def yX7_need : MethodName := ⟨RX7, "need", "(II)I"⟩
abbrev cX7_best : ByteArray := prog_1_method_19_code
def yX7_best : MethodName := ⟨RX7, "best", "(II)I"⟩
abbrev cX7_least : ByteArray := prog_1_method_20_code
def yX7_least : MethodName := ⟨RX7, "least", "(I)I"⟩
abbrev cX7_bin : ByteArray := prog_1_method_21_code
def yX7_bin : MethodName := ⟨RX7, "bin", "(II)I"⟩
abbrev cX7_addWhole : ByteArray := prog_1_method_22_code
def yX7_addWhole : MethodName := ⟨RX7, "addWhole", "(II)I"⟩
abbrev cX7_addPair : ByteArray := prog_1_method_23_code
def yX7_addPair : MethodName := ⟨RX7, "addPair", "(III)I"⟩
abbrev cX7_find : ByteArray := prog_1_method_24_code
def yX7_find : MethodName := ⟨RX7, "find", "(II)I"⟩
abbrev cX7_pop : ByteArray := prog_1_method_25_code
def yX7_pop : MethodName := ⟨RX7, "pop", "(I)I"⟩
abbrev cX7_sort : ByteArray := prog_1_method_26_code
def yX7_sort : MethodName := ⟨RX7, "sort", "(I)I"⟩
abbrev cX7_pour : ByteArray := prog_1_method_27_code
def yX7_pour : MethodName := ⟨RX7, "pour", "(II)I"⟩
abbrev cX7_sum : ByteArray := prog_1_method_28_code
def yX7_sum : MethodName := ⟨RX7, "sum", "(I)I"⟩
abbrev cX7_drop : ByteArray := prog_1_method_29_code
def yX7_drop : MethodName := ⟨RX7, "drop", "(I)I"⟩
abbrev cX7_count : ByteArray := prog_1_method_30_code
def yX7_count : MethodName := ⟨RX7, "count", "(I)I"⟩
abbrev cX7_isSection : ByteArray := prog_1_method_31_code
def yX7_isSection : MethodName := ⟨RX7, "isSection", "(I)Z"⟩
abbrev cX7_isRiser : ByteArray := prog_1_method_32_code
def yX7_isRiser : MethodName := ⟨RX7, "isRiser", "(I)Z"⟩
abbrev cX7_isSize : ByteArray := prog_1_method_33_code
def yX7_isSize : MethodName := ⟨RX7, "isSize", "(I)Z"⟩
abbrev cX7_isChillStep : ByteArray := prog_1_method_34_code
def yX7_isChillStep : MethodName := ⟨RX7, "isChillStep", "(I)Z"⟩
abbrev cX7_isKeepPlace : ByteArray := prog_1_method_35_code
def yX7_isKeepPlace : MethodName := ⟨RX7, "isKeepPlace", "(I)Z"⟩
abbrev cX7_isBin : ByteArray := prog_1_method_36_code
def yX7_isBin : MethodName := ⟨RX7, "isBin", "(I)Z"⟩
abbrev cX7_isPairPart : ByteArray := prog_1_method_37_code
def yX7_isPairPart : MethodName := ⟨RX7, "isPairPart", "(I)Z"⟩
abbrev cX7_oneIf : ByteArray := prog_1_method_38_code
def yX7_oneIf : MethodName := ⟨RX7, "oneIf", "(Z)I"⟩
abbrev cX7_forgetAll : ByteArray := prog_1_method_39_code
def yX7_forgetAll : MethodName := ⟨RX7, "forgetAll", "()V"⟩
abbrev cX7_countOfTops : ByteArray := prog_1_method_40_code
def yX7_countOfTops : MethodName := ⟨RX7, "countOfTops", "(I)I"⟩
abbrev cX7_thingsOfAllBins : ByteArray := prog_1_method_41_code
def yX7_thingsOfAllBins : MethodName := ⟨RX7, "thingsOfAllBins", "()I"⟩
def RX8 : String := "FeedCheckModel"
def TX8 : u_T := fun k => match k with
  | 0 => ("FeedCheckModel", "row", "[I", true)
  | 1 => ("FeedCheckModel", "sections", "I", false)
  | 2 => ("FeedCheckModel", "volumes", "[I", true)
  | 3 => ("FeedCheckModel", "skins", "[I", true)
  | 4 => ("FeedCheckModel", "joined", "[I", true)
  | 5 => ("FeedCheckModel", "above", "I", false)
  | 6 => ("FeedCheckModel", "below", "I", false)
  | 7 => ("FeedCheckModel", "pass", "I", false)
  | 8 => ("FeedCheckModel", "undos", "I", false)
  | 9 => ("FeedCheckModel", "isKept", "[Z", true)
  | 10 => ("FeedCheckModel", "text", "[I", true)
  | 11 => ("FeedCheckModel", "length", "I", false)
  | 12 => ("FeedCheckModel", "sizes", "[I", true)
  | 13 => ("FeedCheckModel", "kinds", "[I", true)
  | 14 => ("FeedCheckModel", "things", "[I", true)
  | 15 => ("FeedCheckModel", "first", "I", false)
  | 16 => ("FeedCheckModel", "behind", "I", false)
  | 17 => ("FeedCheckModel", "readSections", "I", false)
  | 18 => ("FeedCheckModel", "readRisers", "I", false)
  | 19 => ("FeedCheckModel", "clauses", "I", false)
  | 20 => ("FeedCheckModel", "doing", "Z", false)
  | 21 => ("FeedCheckModel", "numbers", "[I", true)
  | 22 => ("FeedCheckModel", "words", "[I", true)
  | 23 => ("FeedCheckModel", "steps", "I", false)
  | _ => ("FeedCheckModel", "heads", "[I", true)
def tyX8 : Nat → FieldType := fun k => match k with
  | 0 => .array .int
  | 1 => .int
  | 2 => .array .int
  | 3 => .array .int
  | 4 => .array .int
  | 5 => .int
  | 6 => .int
  | 7 => .int
  | 8 => .int
  | 9 => .array .boolean
  | 10 => .array .int
  | 11 => .int
  | 12 => .array .int
  | 13 => .array .int
  | 14 => .array .int
  | 15 => .int
  | 16 => .int
  | 17 => .int
  | 18 => .int
  | 19 => .int
  | 20 => .boolean
  | 21 => .array .int
  | 22 => .array .int
  | 23 => .int
  | _ => .array .int
theorem nmX8 : ∀ a, a < 25 → ∀ b, b < 25 → a ≠ b → (TX8 a).2.1 ≠ (TX8 b).2.1 := by decide +kernel
theorem tyX8_ok : ∀ k, k < 25 → parseFieldDescriptor (TX8 k).2.2.1 = some (tyX8 k) := by decide +kernel
abbrev cX8_init : ByteArray := prog_10_method_1_code
def yX8_init : MethodName := ⟨RX8, "<init>", "()V"⟩
abbrev cX8_in : ByteArray := prog_10_method_2_code
def yX8_in : MethodName := ⟨RX8, "in", "(JJJ)Z"⟩
abbrev cX8_has : ByteArray := prog_10_method_3_code
def yX8_has : MethodName := ⟨RX8, "has", "(II)Z"⟩
abbrev cX8_ones : ByteArray := prog_10_method_4_code
def yX8_ones : MethodName := ⟨RX8, "ones", "(I)I"⟩
abbrev cX8_copyRow : ByteArray := prog_10_method_5_code
def yX8_copyRow : MethodName := ⟨RX8, "copyRow", "(II)V"⟩
abbrev cX8_anew : ByteArray := prog_10_method_6_code
def yX8_anew : MethodName := ⟨RX8, "anew", "()V"⟩
abbrev cX8_write : ByteArray := prog_10_method_7_code
def yX8_write : MethodName := ⟨RX8, "write", "(I)I"⟩
abbrev cX8_erase : ByteArray := prog_10_method_8_code
def yX8_erase : MethodName := ⟨RX8, "erase", "()I"⟩
abbrev cX8_isSmall : ByteArray := prog_10_method_9_code
def yX8_isSmall : MethodName := ⟨RX8, "isSmall", "(I)Z"⟩
abbrev cX8_isDigit : ByteArray := prog_10_method_10_code
def yX8_isDigit : MethodName := ⟨RX8, "isDigit", "(I)Z"⟩
abbrev cX8_nextToken : ByteArray := prog_10_method_11_code
def yX8_nextToken : MethodName := ⟨RX8, "nextToken", "()V"⟩
abbrev cX8_wordHere : ByteArray := prog_10_method_12_code
def yX8_wordHere : MethodName := ⟨RX8, "wordHere", "()I"⟩
abbrev cX8_number : ByteArray := prog_10_method_13_code
def yX8_number : MethodName := ⟨RX8, "number", "(IIII)Z"⟩
abbrev cX8_readsSection : ByteArray := prog_10_method_14_code
def yX8_readsSection : MethodName := ⟨RX8, "readsSection", "(II)Z"⟩
abbrev cX8_readsRest : ByteArray := prog_10_method_15_code
def yX8_readsRest : MethodName := ⟨RX8, "readsRest", "(I)Z"⟩
abbrev cX8_addRiser : ByteArray := prog_10_method_16_code
def yX8_addRiser : MethodName := ⟨RX8, "addRiser", "(III)V"⟩
abbrev cX8_does : ByteArray := prog_10_method_17_code
def yX8_does : MethodName := ⟨RX8, "does", "(I)V"⟩
abbrev cX8_readsClause : ByteArray := prog_10_method_18_code
def yX8_readsClause : MethodName := ⟨RX8, "readsClause", "()Z"⟩
abbrev cX8_reads : ByteArray := prog_10_method_19_code
def yX8_reads : MethodName := ⟨RX8, "reads", "(Z)Z"⟩
abbrev cX8_fault : ByteArray := prog_10_method_20_code
def yX8_fault : MethodName := ⟨RX8, "fault", "()I"⟩
abbrev cX8_casting : ByteArray := prog_10_method_21_code
def yX8_casting : MethodName := ⟨RX8, "casting", "()I"⟩
abbrev cX8_isSection : ByteArray := prog_10_method_22_code
def yX8_isSection : MethodName := ⟨RX8, "isSection", "(I)Z"⟩
abbrev cX8_skinOf : ByteArray := prog_10_method_23_code
def yX8_skinOf : MethodName := ⟨RX8, "skinOf", "(I)I"⟩
abbrev cX8_isLater : ByteArray := prog_10_method_24_code
def yX8_isLater : MethodName := ⟨RX8, "isLater", "(II)Z"⟩
abbrev cX8_latest : ByteArray := prog_10_method_25_code
def yX8_latest : MethodName := ⟨RX8, "latest", "(I)I"⟩
abbrev cX8_divisor : ByteArray := prog_10_method_26_code
def yX8_divisor : MethodName := ⟨RX8, "divisor", "(II)I"⟩
abbrev cX8_isTop : ByteArray := prog_10_method_27_code
def yX8_isTop : MethodName := ⟨RX8, "isTop", "(I)Z"⟩
abbrev cX8_tops : ByteArray := prog_10_method_28_code
def yX8_tops : MethodName := ⟨RX8, "tops", "()I"⟩
abbrev cX8_topOf : ByteArray := prog_10_method_29_code
def yX8_topOf : MethodName := ⟨RX8, "topOf", "(I)I"⟩
abbrev cX8_basin : ByteArray := prog_10_method_30_code
def yX8_basin : MethodName := ⟨RX8, "basin", "(I)I"⟩
abbrev cX8_passOf : ByteArray := prog_10_method_31_code
def yX8_passOf : MethodName := ⟨RX8, "passOf", "(II)I"⟩
abbrev cX8_isHigh : ByteArray := prog_10_method_32_code
def yX8_isHigh : MethodName := ⟨RX8, "isHigh", "(II)Z"⟩
abbrev cX8_drownedIn : ByteArray := prog_10_method_33_code
def yX8_drownedIn : MethodName := ⟨RX8, "drownedIn", "(I)I"⟩
abbrev cX8_head : ByteArray := prog_10_method_34_code
def yX8_head : MethodName := ⟨RX8, "head", "(I)I"⟩
abbrev cX8_layHeads : ByteArray := prog_10_method_35_code
def yX8_layHeads : MethodName := ⟨RX8, "layHeads", "()V"⟩
abbrev cX8_outlasts : ByteArray := prog_10_method_36_code
def yX8_outlasts : MethodName := ⟨RX8, "outlasts", "(III)Z"⟩
abbrev cX8_feeder : ByteArray := prog_10_method_37_code
def yX8_feeder : MethodName := ⟨RX8, "feeder", "(II)I"⟩
abbrev cX8_fedBy : ByteArray := prog_10_method_38_code
def yX8_fedBy : MethodName := ⟨RX8, "fedBy", "(I)I"⟩
abbrev cX8_allRisers : ByteArray := prog_10_method_39_code
def yX8_allRisers : MethodName := ⟨RX8, "allRisers", "()I"⟩
abbrev cX8_fed : ByteArray := prog_10_method_40_code
def yX8_fed : MethodName := ⟨RX8, "fed", "()I"⟩
abbrev cX8_section : ByteArray := prog_10_method_41_code
def yX8_section : MethodName := ⟨RX8, "section", "(II)I"⟩
abbrev cX8_top : ByteArray := prog_10_method_42_code
def yX8_top : MethodName := ⟨RX8, "top", "(II)I"⟩
abbrev cX8_isRiser : ByteArray := prog_10_method_43_code
def yX8_isRiser : MethodName := ⟨RX8, "isRiser", "(I)Z"⟩
abbrev cX8_riser : ByteArray := prog_10_method_44_code
def yX8_riser : MethodName := ⟨RX8, "riser", "(II)I"⟩
abbrev cX8_keepPast : ByteArray := prog_10_method_45_code
def yX8_keepPast : MethodName := ⟨RX8, "keepPast", "()V"⟩
abbrev cX8_put : ByteArray := prog_10_method_46_code
def yX8_put : MethodName := ⟨RX8, "put", "(III)I"⟩
abbrev cX8_take : ByteArray := prog_10_method_47_code
def yX8_take : MethodName := ⟨RX8, "take", "(I)I"⟩
abbrev cX8_move : ByteArray := prog_10_method_48_code
def yX8_move : MethodName := ⟨RX8, "move", "(III)I"⟩
abbrev cX8_chill : ByteArray := prog_10_method_49_code
def yX8_chill : MethodName := ⟨RX8, "chill", "(II)I"⟩
abbrev cX8_undo : ByteArray := prog_10_method_50_code
def yX8_undo : MethodName := ⟨RX8, "undo", "()I"⟩
abbrev cX8_keep : ByteArray := prog_10_method_51_code
def yX8_keep : MethodName := ⟨RX8, "keep", "(I)I"⟩
abbrev cX8_back : ByteArray := prog_10_method_52_code
def yX8_back : MethodName := ⟨RX8, "back", "(I)I"⟩
abbrev cX8_order : ByteArray := prog_10_method_53_code
def yX8_order : MethodName := ⟨RX8, "order", "(I)I"⟩
abbrev cX8_pass : ByteArray := prog_10_method_54_code
def yX8_pass : MethodName := ⟨RX8, "pass", "(II)I"⟩
abbrev cX8_need : ByteArray := prog_10_method_55_code
def yX8_need : MethodName := ⟨RX8, "need", "(II)I"⟩
abbrev cX8_best : ByteArray := prog_10_method_56_code
def yX8_best : MethodName := ⟨RX8, "best", "(II)I"⟩
abbrev cX8_least : ByteArray := prog_10_method_57_code
def yX8_least : MethodName := ⟨RX8, "least", "(I)I"⟩
abbrev cX8_isBin : ByteArray := prog_10_method_58_code
def yX8_isBin : MethodName := ⟨RX8, "isBin", "(I)Z"⟩
abbrev cX8_bin : ByteArray := prog_10_method_59_code
def yX8_bin : MethodName := ⟨RX8, "bin", "(II)I"⟩
abbrev cX8_add : ByteArray := prog_10_method_60_code
def yX8_add : MethodName := ⟨RX8, "add", "(III)I"⟩
abbrev cX8_addWhole : ByteArray := prog_10_method_61_code
def yX8_addWhole : MethodName := ⟨RX8, "addWhole", "(II)I"⟩
abbrev cX8_addPair : ByteArray := prog_10_method_62_code
def yX8_addPair : MethodName := ⟨RX8, "addPair", "(III)I"⟩
abbrev cX8_find : ByteArray := prog_10_method_63_code
def yX8_find : MethodName := ⟨RX8, "find", "(II)I"⟩
abbrev cX8_pop : ByteArray := prog_10_method_64_code
def yX8_pop : MethodName := ⟨RX8, "pop", "(I)I"⟩
abbrev cX8_sort : ByteArray := prog_10_method_65_code
def yX8_sort : MethodName := ⟨RX8, "sort", "(I)I"⟩
abbrev cX8_pour : ByteArray := prog_10_method_66_code
def yX8_pour : MethodName := ⟨RX8, "pour", "(II)I"⟩
abbrev cX8_sum : ByteArray := prog_10_method_67_code
def yX8_sum : MethodName := ⟨RX8, "sum", "(I)I"⟩
abbrev cX8_drop : ByteArray := prog_10_method_68_code
def yX8_drop : MethodName := ⟨RX8, "drop", "(I)I"⟩
abbrev cX8_joints : ByteArray := prog_10_method_69_code
def yX8_joints : MethodName := ⟨RX8, "joints", "()I"⟩
abbrev cX8_drowned : ByteArray := prog_10_method_70_code
def yX8_drowned : MethodName := ⟨RX8, "drowned", "()I"⟩
abbrev cX8_allThings : ByteArray := prog_10_method_71_code
def yX8_allThings : MethodName := ⟨RX8, "allThings", "()I"⟩
abbrev cX8_count : ByteArray := prog_10_method_72_code
def yX8_count : MethodName := ⟨RX8, "count", "(I)I"⟩
def RJ6 : String := "java/lang/Integer"
abbrev cJ6_bitCount_0f7a4 : ByteArray := prog_11_method_49_code
def yJ6_bitCount_0f7a4 : MethodName := ⟨RJ6, "bitCount", "(I)I"⟩
def RJ9 : String := "java/lang/Math"
abbrev cJ9_max_7cf53 : ByteArray := prog_12_method_65_code
def yJ9_max_7cf53 : MethodName := ⟨RJ9, "max", "(II)I"⟩
abbrev cJ9_min_7cf53 : ByteArray := prog_12_method_69_code
def yJ9_min_7cf53 : MethodName := ⟨RJ9, "min", "(II)I"⟩
def RJ0 : String := "java/lang/String"
abbrev cJ0_length_8abf5 : ByteArray := prog_13_method_54_code
def yJ0_length_8abf5 : MethodName := ⟨RJ0, "length", "()I"⟩
abbrev cJ0_charAt_5068e : ByteArray := prog_13_method_56_code
def yJ0_charAt_5068e : MethodName := ⟨RJ0, "charAt", "(I)C"⟩
abbrev cJ0_coder_7d493 : ByteArray := prog_13_method_152_code
def yJ0_coder_7d493 : MethodName := ⟨RJ0, "coder", "()B"⟩
abbrev cJ0_isLatin1_aae02 : ByteArray := prog_13_method_154_code
def yJ0_isLatin1_aae02 : MethodName := ⟨RJ0, "isLatin1", "()Z"⟩
def RJ1 : String := "java/lang/StringLatin1"
abbrev cJ1_charAt_3b067 : ByteArray := prog_14_method_2_code
def yJ1_charAt_3b067 : MethodName := ⟨RJ1, "charAt", "([BI)C"⟩
def RJ7 : String := "java/util/Arrays"
abbrev cJ7_fill_53178 : ByteArray := prog_17_method_103_code
def yJ7_fill_53178 : MethodName := ⟨RJ7, "fill", "([II)V"⟩
def RL : String := "FeedCheckLaw"
abbrev cL_law : ByteArray := code
def yL_law : MethodName := ⟨RL, "law", "([I)Z"⟩
abbrev vwCl : List vw_C := [(RX0, TX0, 4), (RX1, TX1, 5), (RX2, TX2, 3), (RX3, TX3, 9), (RX4, TX4, 8), (RX5, TX5, 7), (RX6, TX6, 2), (RX7, TX7, 10), (RX8, TX8, 25)]
abbrev At (cc : ByteArray) (pc : Nat) (ins : Instr) (len nx : Nat) : Prop := decode cc pc = .ok (ins, len) ∧ pc + len = nx
end
section
theorem iX0_init_0 : At cX0_init 0 (.aload_n 0) 1 1 := ⟨by decide +kernel, rfl⟩
theorem iX0_init_1 : At cX0_init 1 (.invokespecial 3) 3 4 := ⟨by decide +kernel, rfl⟩
theorem iX0_init_4 : At cX0_init 4 (.aload_n 0) 1 5 := ⟨by decide +kernel, rfl⟩
theorem iX0_init_5 : At cX0_init 5 (.bipush 8) 2 7 := ⟨by decide +kernel, rfl⟩
theorem iX0_init_7 : At cX0_init 7 (.newarray .int) 2 9 := ⟨by decide +kernel, rfl⟩
theorem iX0_init_9 : At cX0_init 9 (.putfield 9) 3 12 := ⟨by decide +kernel, rfl⟩
theorem iX0_init_12 : At cX0_init 12 (.aload_n 0) 1 13 := ⟨by decide +kernel, rfl⟩
theorem iX0_init_13 : At cX0_init 13 (.iconst 1) 1 14 := ⟨by decide +kernel, rfl⟩
theorem iX0_init_14 : At cX0_init 14 (.putfield 15) 3 17 := ⟨by decide +kernel, rfl⟩
theorem iX0_init_17 : At cX0_init 17 (.return_) 1 18 := ⟨by decide +kernel, rfl⟩
theorem iX0_begin_0 : At cX0_begin 0 (.aload_n 0) 1 1 := ⟨by decide +kernel, rfl⟩
theorem iX0_begin_1 : At cX0_begin 1 (.iconst 0) 1 2 := ⟨by decide +kernel, rfl⟩
theorem iX0_begin_2 : At cX0_begin 2 (.putfield 15) 3 5 := ⟨by decide +kernel, rfl⟩
theorem iX0_begin_5 : At cX0_begin 5 (.aload_n 0) 1 6 := ⟨by decide +kernel, rfl⟩
theorem iX0_begin_6 : At cX0_begin 6 (.iload_n 1) 1 7 := ⟨by decide +kernel, rfl⟩
theorem iX0_begin_7 : At cX0_begin 7 (.putfield 19) 3 10 := ⟨by decide +kernel, rfl⟩
theorem iX0_begin_10 : At cX0_begin 10 (.aload_n 0) 1 11 := ⟨by decide +kernel, rfl⟩
theorem iX0_begin_11 : At cX0_begin 11 (.iconst 0) 1 12 := ⟨by decide +kernel, rfl⟩
theorem iX0_begin_12 : At cX0_begin 12 (.putfield 23) 3 15 := ⟨by decide +kernel, rfl⟩
theorem iX0_begin_15 : At cX0_begin 15 (.return_) 1 16 := ⟨by decide +kernel, rfl⟩
theorem iX0_vanish_0 : At cX0_vanish 0 (.aload_n 0) 1 1 := ⟨by decide +kernel, rfl⟩
theorem iX0_vanish_1 : At cX0_vanish 1 (.iconst 1) 1 2 := ⟨by decide +kernel, rfl⟩
theorem iX0_vanish_2 : At cX0_vanish 2 (.putfield 15) 3 5 := ⟨by decide +kernel, rfl⟩
theorem iX0_vanish_5 : At cX0_vanish 5 (.aload_n 0) 1 6 := ⟨by decide +kernel, rfl⟩
theorem iX0_vanish_6 : At cX0_vanish 6 (.iconst 0) 1 7 := ⟨by decide +kernel, rfl⟩
theorem iX0_vanish_7 : At cX0_vanish 7 (.putfield 23) 3 10 := ⟨by decide +kernel, rfl⟩
theorem iX0_vanish_10 : At cX0_vanish 10 (.return_) 1 11 := ⟨by decide +kernel, rfl⟩
theorem iX0_addThing_0 : At cX0_addThing 0 (.aload_n 0) 1 1 := ⟨by decide +kernel, rfl⟩
theorem iX0_addThing_1 : At cX0_addThing 1 (.getfield 15) 3 4 := ⟨by decide +kernel, rfl⟩
theorem iX0_addThing_4 : At cX0_addThing 4 (.ifCond .eq 6) 3 7 := ⟨by decide +kernel, rfl⟩
theorem iX0_addThing_7 : At cX0_addThing 7 (.bipush (-11)) 2 9 := ⟨by decide +kernel, rfl⟩
theorem iX0_addThing_9 : At cX0_addThing 9 (.ireturn) 1 10 := ⟨by decide +kernel, rfl⟩
theorem iX0_addThing_10 : At cX0_addThing 10 (.aload_n 0) 1 11 := ⟨by decide +kernel, rfl⟩
theorem iX0_addThing_11 : At cX0_addThing 11 (.getfield 19) 3 14 := ⟨by decide +kernel, rfl⟩
theorem iX0_addThing_14 : At cX0_addThing 14 (.iload_n 1) 1 15 := ⟨by decide +kernel, rfl⟩
theorem iX0_addThing_15 : At cX0_addThing 15 (.if_icmp .eq 6) 3 18 := ⟨by decide +kernel, rfl⟩
theorem iX0_addThing_18 : At cX0_addThing 18 (.bipush (-12)) 2 20 := ⟨by decide +kernel, rfl⟩
theorem iX0_addThing_20 : At cX0_addThing 20 (.ireturn) 1 21 := ⟨by decide +kernel, rfl⟩
theorem iX0_addThing_21 : At cX0_addThing 21 (.aload_n 0) 1 22 := ⟨by decide +kernel, rfl⟩
theorem iX0_addThing_22 : At cX0_addThing 22 (.getfield 23) 3 25 := ⟨by decide +kernel, rfl⟩
theorem iX0_addThing_25 : At cX0_addThing 25 (.bipush 8) 2 27 := ⟨by decide +kernel, rfl⟩
theorem iX0_addThing_27 : At cX0_addThing 27 (.if_icmp .lt 6) 3 30 := ⟨by decide +kernel, rfl⟩
theorem iX0_addThing_30 : At cX0_addThing 30 (.bipush (-14)) 2 32 := ⟨by decide +kernel, rfl⟩
theorem iX0_addThing_32 : At cX0_addThing 32 (.ireturn) 1 33 := ⟨by decide +kernel, rfl⟩
theorem iX0_addThing_33 : At cX0_addThing 33 (.aload_n 0) 1 34 := ⟨by decide +kernel, rfl⟩
theorem iX0_addThing_34 : At cX0_addThing 34 (.getfield 9) 3 37 := ⟨by decide +kernel, rfl⟩
theorem iX0_addThing_37 : At cX0_addThing 37 (.aload_n 0) 1 38 := ⟨by decide +kernel, rfl⟩
theorem iX0_addThing_38 : At cX0_addThing 38 (.getfield 23) 3 41 := ⟨by decide +kernel, rfl⟩
theorem iX0_addThing_41 : At cX0_addThing 41 (.iload_n 2) 1 42 := ⟨by decide +kernel, rfl⟩
theorem iX0_addThing_42 : At cX0_addThing 42 (.iastore) 1 43 := ⟨by decide +kernel, rfl⟩
theorem iX0_addThing_43 : At cX0_addThing 43 (.aload_n 0) 1 44 := ⟨by decide +kernel, rfl⟩
theorem iX0_addThing_44 : At cX0_addThing 44 (.dup) 1 45 := ⟨by decide +kernel, rfl⟩
theorem iX0_addThing_45 : At cX0_addThing 45 (.getfield 23) 3 48 := ⟨by decide +kernel, rfl⟩
theorem iX0_addThing_48 : At cX0_addThing 48 (.iconst 1) 1 49 := ⟨by decide +kernel, rfl⟩
theorem iX0_addThing_49 : At cX0_addThing 49 (.iadd) 1 50 := ⟨by decide +kernel, rfl⟩
theorem iX0_addThing_50 : At cX0_addThing 50 (.putfield 23) 3 53 := ⟨by decide +kernel, rfl⟩
theorem iX0_addThing_53 : At cX0_addThing 53 (.aload_n 0) 1 54 := ⟨by decide +kernel, rfl⟩
theorem iX0_addThing_54 : At cX0_addThing 54 (.getfield 23) 3 57 := ⟨by decide +kernel, rfl⟩
theorem iX0_addThing_57 : At cX0_addThing 57 (.ireturn) 1 58 := ⟨by decide +kernel, rfl⟩
theorem iX0_addAll_0 : At cX0_addAll 0 (.aload_n 0) 1 1 := ⟨by decide +kernel, rfl⟩
theorem iX0_addAll_1 : At cX0_addAll 1 (.getfield 15) 3 4 := ⟨by decide +kernel, rfl⟩
theorem iX0_addAll_4 : At cX0_addAll 4 (.ifCond .ne 10) 3 7 := ⟨by decide +kernel, rfl⟩
theorem iX0_addAll_7 : At cX0_addAll 7 (.aload_n 1) 1 8 := ⟨by decide +kernel, rfl⟩
theorem iX0_addAll_8 : At cX0_addAll 8 (.getfield 15) 3 11 := ⟨by decide +kernel, rfl⟩
theorem iX0_addAll_11 : At cX0_addAll 11 (.ifCond .eq 6) 3 14 := ⟨by decide +kernel, rfl⟩
theorem iX0_addAll_14 : At cX0_addAll 14 (.bipush (-11)) 2 16 := ⟨by decide +kernel, rfl⟩
theorem iX0_addAll_16 : At cX0_addAll 16 (.ireturn) 1 17 := ⟨by decide +kernel, rfl⟩
theorem iX0_addAll_17 : At cX0_addAll 17 (.aload_n 0) 1 18 := ⟨by decide +kernel, rfl⟩
theorem iX0_addAll_18 : At cX0_addAll 18 (.getfield 19) 3 21 := ⟨by decide +kernel, rfl⟩
theorem iX0_addAll_21 : At cX0_addAll 21 (.aload_n 1) 1 22 := ⟨by decide +kernel, rfl⟩
theorem iX0_addAll_22 : At cX0_addAll 22 (.getfield 19) 3 25 := ⟨by decide +kernel, rfl⟩
theorem iX0_addAll_25 : At cX0_addAll 25 (.if_icmp .eq 6) 3 28 := ⟨by decide +kernel, rfl⟩
theorem iX0_addAll_28 : At cX0_addAll 28 (.bipush (-12)) 2 30 := ⟨by decide +kernel, rfl⟩
theorem iX0_addAll_30 : At cX0_addAll 30 (.ireturn) 1 31 := ⟨by decide +kernel, rfl⟩
theorem iX0_addAll_31 : At cX0_addAll 31 (.aload_n 0) 1 32 := ⟨by decide +kernel, rfl⟩
theorem iX0_addAll_32 : At cX0_addAll 32 (.getfield 23) 3 35 := ⟨by decide +kernel, rfl⟩
theorem iX0_addAll_35 : At cX0_addAll 35 (.aload_n 1) 1 36 := ⟨by decide +kernel, rfl⟩
theorem iX0_addAll_36 : At cX0_addAll 36 (.getfield 23) 3 39 := ⟨by decide +kernel, rfl⟩
theorem iX0_addAll_39 : At cX0_addAll 39 (.iadd) 1 40 := ⟨by decide +kernel, rfl⟩
theorem iX0_addAll_40 : At cX0_addAll 40 (.bipush 8) 2 42 := ⟨by decide +kernel, rfl⟩
theorem iX0_addAll_42 : At cX0_addAll 42 (.if_icmp .le 6) 3 45 := ⟨by decide +kernel, rfl⟩
theorem iX0_addAll_45 : At cX0_addAll 45 (.bipush (-14)) 2 47 := ⟨by decide +kernel, rfl⟩
theorem iX0_addAll_47 : At cX0_addAll 47 (.ireturn) 1 48 := ⟨by decide +kernel, rfl⟩
theorem iX0_addAll_48 : At cX0_addAll 48 (.aload_n 1) 1 49 := ⟨by decide +kernel, rfl⟩
theorem iX0_addAll_49 : At cX0_addAll 49 (.getfield 9) 3 52 := ⟨by decide +kernel, rfl⟩
theorem iX0_addAll_52 : At cX0_addAll 52 (.iconst 0) 1 53 := ⟨by decide +kernel, rfl⟩
theorem iX0_addAll_53 : At cX0_addAll 53 (.aload_n 0) 1 54 := ⟨by decide +kernel, rfl⟩
theorem iX0_addAll_54 : At cX0_addAll 54 (.getfield 9) 3 57 := ⟨by decide +kernel, rfl⟩
theorem iX0_addAll_57 : At cX0_addAll 57 (.aload_n 0) 1 58 := ⟨by decide +kernel, rfl⟩
theorem iX0_addAll_58 : At cX0_addAll 58 (.getfield 23) 3 61 := ⟨by decide +kernel, rfl⟩
theorem iX0_addAll_61 : At cX0_addAll 61 (.aload_n 1) 1 62 := ⟨by decide +kernel, rfl⟩
theorem iX0_addAll_62 : At cX0_addAll 62 (.getfield 23) 3 65 := ⟨by decide +kernel, rfl⟩
theorem iX0_addAll_65 : At cX0_addAll 65 (.invokestatic 26) 3 68 := ⟨by decide +kernel, rfl⟩
theorem iX0_addAll_68 : At cX0_addAll 68 (.aload_n 0) 1 69 := ⟨by decide +kernel, rfl⟩
theorem iX0_addAll_69 : At cX0_addAll 69 (.dup) 1 70 := ⟨by decide +kernel, rfl⟩
theorem iX0_addAll_70 : At cX0_addAll 70 (.getfield 23) 3 73 := ⟨by decide +kernel, rfl⟩
theorem iX0_addAll_73 : At cX0_addAll 73 (.aload_n 1) 1 74 := ⟨by decide +kernel, rfl⟩
theorem iX0_addAll_74 : At cX0_addAll 74 (.getfield 23) 3 77 := ⟨by decide +kernel, rfl⟩
theorem iX0_addAll_77 : At cX0_addAll 77 (.iadd) 1 78 := ⟨by decide +kernel, rfl⟩
theorem iX0_addAll_78 : At cX0_addAll 78 (.putfield 23) 3 81 := ⟨by decide +kernel, rfl⟩
theorem iX0_addAll_81 : At cX0_addAll 81 (.aload_n 0) 1 82 := ⟨by decide +kernel, rfl⟩
theorem iX0_addAll_82 : At cX0_addAll 82 (.getfield 23) 3 85 := ⟨by decide +kernel, rfl⟩
theorem iX0_addAll_85 : At cX0_addAll 85 (.ireturn) 1 86 := ⟨by decide +kernel, rfl⟩
theorem iX0_greatest_0 : At cX0_greatest 0 (.aload_n 0) 1 1 := ⟨by decide +kernel, rfl⟩
theorem iX0_greatest_1 : At cX0_greatest 1 (.getfield 9) 3 4 := ⟨by decide +kernel, rfl⟩
theorem iX0_greatest_4 : At cX0_greatest 4 (.iconst 0) 1 5 := ⟨by decide +kernel, rfl⟩
theorem iX0_greatest_5 : At cX0_greatest 5 (.iaload) 1 6 := ⟨by decide +kernel, rfl⟩
theorem iX0_greatest_6 : At cX0_greatest 6 (.istore_n 1) 1 7 := ⟨by decide +kernel, rfl⟩
theorem iX0_greatest_7 : At cX0_greatest 7 (.iconst 1) 1 8 := ⟨by decide +kernel, rfl⟩
theorem iX0_greatest_8 : At cX0_greatest 8 (.istore_n 2) 1 9 := ⟨by decide +kernel, rfl⟩
theorem iX0_greatest_9 : At cX0_greatest 9 (.iload_n 2) 1 10 := ⟨by decide +kernel, rfl⟩
theorem iX0_greatest_10 : At cX0_greatest 10 (.aload_n 0) 1 11 := ⟨by decide +kernel, rfl⟩
theorem iX0_greatest_11 : At cX0_greatest 11 (.getfield 23) 3 14 := ⟨by decide +kernel, rfl⟩
theorem iX0_greatest_14 : At cX0_greatest 14 (.if_icmp .ge 20) 3 17 := ⟨by decide +kernel, rfl⟩
theorem iX0_greatest_17 : At cX0_greatest 17 (.iload_n 1) 1 18 := ⟨by decide +kernel, rfl⟩
theorem iX0_greatest_18 : At cX0_greatest 18 (.aload_n 0) 1 19 := ⟨by decide +kernel, rfl⟩
theorem iX0_greatest_19 : At cX0_greatest 19 (.getfield 9) 3 22 := ⟨by decide +kernel, rfl⟩
theorem iX0_greatest_22 : At cX0_greatest 22 (.iload_n 2) 1 23 := ⟨by decide +kernel, rfl⟩
theorem iX0_greatest_23 : At cX0_greatest 23 (.iaload) 1 24 := ⟨by decide +kernel, rfl⟩
theorem iX0_greatest_24 : At cX0_greatest 24 (.invokestatic 32) 3 27 := ⟨by decide +kernel, rfl⟩
theorem iX0_greatest_27 : At cX0_greatest 27 (.istore_n 1) 1 28 := ⟨by decide +kernel, rfl⟩
theorem iX0_greatest_28 : At cX0_greatest 28 (.iinc 2 1) 3 31 := ⟨by decide +kernel, rfl⟩
theorem iX0_greatest_31 : At cX0_greatest 31 (.goto (-22)) 3 34 := ⟨by decide +kernel, rfl⟩
theorem iX0_greatest_34 : At cX0_greatest 34 (.iload_n 1) 1 35 := ⟨by decide +kernel, rfl⟩
theorem iX0_greatest_35 : At cX0_greatest 35 (.ireturn) 1 36 := ⟨by decide +kernel, rfl⟩
theorem iX0_smallest_0 : At cX0_smallest 0 (.aload_n 0) 1 1 := ⟨by decide +kernel, rfl⟩
theorem iX0_smallest_1 : At cX0_smallest 1 (.getfield 9) 3 4 := ⟨by decide +kernel, rfl⟩
theorem iX0_smallest_4 : At cX0_smallest 4 (.iconst 0) 1 5 := ⟨by decide +kernel, rfl⟩
theorem iX0_smallest_5 : At cX0_smallest 5 (.iaload) 1 6 := ⟨by decide +kernel, rfl⟩
theorem iX0_smallest_6 : At cX0_smallest 6 (.istore_n 1) 1 7 := ⟨by decide +kernel, rfl⟩
theorem iX0_smallest_7 : At cX0_smallest 7 (.iconst 1) 1 8 := ⟨by decide +kernel, rfl⟩
theorem iX0_smallest_8 : At cX0_smallest 8 (.istore_n 2) 1 9 := ⟨by decide +kernel, rfl⟩
theorem iX0_smallest_9 : At cX0_smallest 9 (.iload_n 2) 1 10 := ⟨by decide +kernel, rfl⟩
theorem iX0_smallest_10 : At cX0_smallest 10 (.aload_n 0) 1 11 := ⟨by decide +kernel, rfl⟩
theorem iX0_smallest_11 : At cX0_smallest 11 (.getfield 23) 3 14 := ⟨by decide +kernel, rfl⟩
theorem iX0_smallest_14 : At cX0_smallest 14 (.if_icmp .ge 20) 3 17 := ⟨by decide +kernel, rfl⟩
theorem iX0_smallest_17 : At cX0_smallest 17 (.iload_n 1) 1 18 := ⟨by decide +kernel, rfl⟩
theorem iX0_smallest_18 : At cX0_smallest 18 (.aload_n 0) 1 19 := ⟨by decide +kernel, rfl⟩
theorem iX0_smallest_19 : At cX0_smallest 19 (.getfield 9) 3 22 := ⟨by decide +kernel, rfl⟩
theorem iX0_smallest_22 : At cX0_smallest 22 (.iload_n 2) 1 23 := ⟨by decide +kernel, rfl⟩
theorem iX0_smallest_23 : At cX0_smallest 23 (.iaload) 1 24 := ⟨by decide +kernel, rfl⟩
theorem iX0_smallest_24 : At cX0_smallest 24 (.invokestatic 38) 3 27 := ⟨by decide +kernel, rfl⟩
theorem iX0_smallest_27 : At cX0_smallest 27 (.istore_n 1) 1 28 := ⟨by decide +kernel, rfl⟩
theorem iX0_smallest_28 : At cX0_smallest 28 (.iinc 2 1) 3 31 := ⟨by decide +kernel, rfl⟩
theorem iX0_smallest_31 : At cX0_smallest 31 (.goto (-22)) 3 34 := ⟨by decide +kernel, rfl⟩
theorem iX0_smallest_34 : At cX0_smallest 34 (.iload_n 1) 1 35 := ⟨by decide +kernel, rfl⟩
theorem iX0_smallest_35 : At cX0_smallest 35 (.ireturn) 1 36 := ⟨by decide +kernel, rfl⟩
theorem iX0_arrange_0 : At cX0_arrange 0 (.iconst 1) 1 1 := ⟨by decide +kernel, rfl⟩
theorem iX0_arrange_1 : At cX0_arrange 1 (.istore_n 1) 1 2 := ⟨by decide +kernel, rfl⟩
theorem iX0_arrange_2 : At cX0_arrange 2 (.iload_n 1) 1 3 := ⟨by decide +kernel, rfl⟩
theorem iX0_arrange_3 : At cX0_arrange 3 (.aload_n 0) 1 4 := ⟨by decide +kernel, rfl⟩
theorem iX0_arrange_4 : At cX0_arrange 4 (.getfield 23) 3 7 := ⟨by decide +kernel, rfl⟩
theorem iX0_arrange_7 : At cX0_arrange 7 (.if_icmp .ge 61) 3 10 := ⟨by decide +kernel, rfl⟩
theorem iX0_arrange_10 : At cX0_arrange 10 (.aload_n 0) 1 11 := ⟨by decide +kernel, rfl⟩
theorem iX0_arrange_11 : At cX0_arrange 11 (.getfield 9) 3 14 := ⟨by decide +kernel, rfl⟩
theorem iX0_arrange_14 : At cX0_arrange 14 (.iload_n 1) 1 15 := ⟨by decide +kernel, rfl⟩
theorem iX0_arrange_15 : At cX0_arrange 15 (.iaload) 1 16 := ⟨by decide +kernel, rfl⟩
theorem iX0_arrange_16 : At cX0_arrange 16 (.istore_n 2) 1 17 := ⟨by decide +kernel, rfl⟩
theorem iX0_arrange_17 : At cX0_arrange 17 (.iload_n 1) 1 18 := ⟨by decide +kernel, rfl⟩
theorem iX0_arrange_18 : At cX0_arrange 18 (.istore_n 3) 1 19 := ⟨by decide +kernel, rfl⟩
theorem iX0_arrange_19 : At cX0_arrange 19 (.iload_n 3) 1 20 := ⟨by decide +kernel, rfl⟩
theorem iX0_arrange_20 : At cX0_arrange 20 (.ifCond .le 35) 3 23 := ⟨by decide +kernel, rfl⟩
theorem iX0_arrange_23 : At cX0_arrange 23 (.aload_n 0) 1 24 := ⟨by decide +kernel, rfl⟩
theorem iX0_arrange_24 : At cX0_arrange 24 (.getfield 9) 3 27 := ⟨by decide +kernel, rfl⟩
theorem iX0_arrange_27 : At cX0_arrange 27 (.iload_n 3) 1 28 := ⟨by decide +kernel, rfl⟩
theorem iX0_arrange_28 : At cX0_arrange 28 (.iconst 1) 1 29 := ⟨by decide +kernel, rfl⟩
theorem iX0_arrange_29 : At cX0_arrange 29 (.isub) 1 30 := ⟨by decide +kernel, rfl⟩
theorem iX0_arrange_30 : At cX0_arrange 30 (.iaload) 1 31 := ⟨by decide +kernel, rfl⟩
theorem iX0_arrange_31 : At cX0_arrange 31 (.iload_n 2) 1 32 := ⟨by decide +kernel, rfl⟩
theorem iX0_arrange_32 : At cX0_arrange 32 (.if_icmp .le 23) 3 35 := ⟨by decide +kernel, rfl⟩
theorem iX0_arrange_35 : At cX0_arrange 35 (.aload_n 0) 1 36 := ⟨by decide +kernel, rfl⟩
theorem iX0_arrange_36 : At cX0_arrange 36 (.getfield 9) 3 39 := ⟨by decide +kernel, rfl⟩
theorem iX0_arrange_39 : At cX0_arrange 39 (.iload_n 3) 1 40 := ⟨by decide +kernel, rfl⟩
theorem iX0_arrange_40 : At cX0_arrange 40 (.aload_n 0) 1 41 := ⟨by decide +kernel, rfl⟩
theorem iX0_arrange_41 : At cX0_arrange 41 (.getfield 9) 3 44 := ⟨by decide +kernel, rfl⟩
theorem iX0_arrange_44 : At cX0_arrange 44 (.iload_n 3) 1 45 := ⟨by decide +kernel, rfl⟩
theorem iX0_arrange_45 : At cX0_arrange 45 (.iconst 1) 1 46 := ⟨by decide +kernel, rfl⟩
theorem iX0_arrange_46 : At cX0_arrange 46 (.isub) 1 47 := ⟨by decide +kernel, rfl⟩
theorem iX0_arrange_47 : At cX0_arrange 47 (.iaload) 1 48 := ⟨by decide +kernel, rfl⟩
theorem iX0_arrange_48 : At cX0_arrange 48 (.iastore) 1 49 := ⟨by decide +kernel, rfl⟩
theorem iX0_arrange_49 : At cX0_arrange 49 (.iinc 3 (-1)) 3 52 := ⟨by decide +kernel, rfl⟩
theorem iX0_arrange_52 : At cX0_arrange 52 (.goto (-33)) 3 55 := ⟨by decide +kernel, rfl⟩
theorem iX0_arrange_55 : At cX0_arrange 55 (.aload_n 0) 1 56 := ⟨by decide +kernel, rfl⟩
theorem iX0_arrange_56 : At cX0_arrange 56 (.getfield 9) 3 59 := ⟨by decide +kernel, rfl⟩
theorem iX0_arrange_59 : At cX0_arrange 59 (.iload_n 3) 1 60 := ⟨by decide +kernel, rfl⟩
theorem iX0_arrange_60 : At cX0_arrange 60 (.iload_n 2) 1 61 := ⟨by decide +kernel, rfl⟩
theorem iX0_arrange_61 : At cX0_arrange 61 (.iastore) 1 62 := ⟨by decide +kernel, rfl⟩
theorem iX0_arrange_62 : At cX0_arrange 62 (.iinc 1 1) 3 65 := ⟨by decide +kernel, rfl⟩
theorem iX0_arrange_65 : At cX0_arrange 65 (.goto (-63)) 3 68 := ⟨by decide +kernel, rfl⟩
theorem iX0_arrange_68 : At cX0_arrange 68 (.return_) 1 69 := ⟨by decide +kernel, rfl⟩
theorem iX0_together_0 : At cX0_together 0 (.iconst 0) 1 1 := ⟨by decide +kernel, rfl⟩
theorem iX0_together_1 : At cX0_together 1 (.istore_n 1) 1 2 := ⟨by decide +kernel, rfl⟩
theorem iX0_together_2 : At cX0_together 2 (.iconst 0) 1 3 := ⟨by decide +kernel, rfl⟩
theorem iX0_together_3 : At cX0_together 3 (.istore_n 2) 1 4 := ⟨by decide +kernel, rfl⟩
theorem iX0_together_4 : At cX0_together 4 (.iload_n 2) 1 5 := ⟨by decide +kernel, rfl⟩
theorem iX0_together_5 : At cX0_together 5 (.aload_n 0) 1 6 := ⟨by decide +kernel, rfl⟩
theorem iX0_together_6 : At cX0_together 6 (.getfield 23) 3 9 := ⟨by decide +kernel, rfl⟩
theorem iX0_together_9 : At cX0_together 9 (.if_icmp .ge 18) 3 12 := ⟨by decide +kernel, rfl⟩
theorem iX0_together_12 : At cX0_together 12 (.iload_n 1) 1 13 := ⟨by decide +kernel, rfl⟩
theorem iX0_together_13 : At cX0_together 13 (.aload_n 0) 1 14 := ⟨by decide +kernel, rfl⟩
theorem iX0_together_14 : At cX0_together 14 (.getfield 9) 3 17 := ⟨by decide +kernel, rfl⟩
theorem iX0_together_17 : At cX0_together 17 (.iload_n 2) 1 18 := ⟨by decide +kernel, rfl⟩
theorem iX0_together_18 : At cX0_together 18 (.iaload) 1 19 := ⟨by decide +kernel, rfl⟩
theorem iX0_together_19 : At cX0_together 19 (.iadd) 1 20 := ⟨by decide +kernel, rfl⟩
theorem iX0_together_20 : At cX0_together 20 (.istore_n 1) 1 21 := ⟨by decide +kernel, rfl⟩
theorem iX0_together_21 : At cX0_together 21 (.iinc 2 1) 3 24 := ⟨by decide +kernel, rfl⟩
theorem iX0_together_24 : At cX0_together 24 (.goto (-20)) 3 27 := ⟨by decide +kernel, rfl⟩
theorem iX0_together_27 : At cX0_together 27 (.iload_n 1) 1 28 := ⟨by decide +kernel, rfl⟩
theorem iX0_together_28 : At cX0_together 28 (.ireturn) 1 29 := ⟨by decide +kernel, rfl⟩
theorem iX1_init_0 : At cX1_init 0 (.aload_n 0) 1 1 := ⟨by decide +kernel, rfl⟩
theorem iX1_init_1 : At cX1_init 1 (.invokespecial 3) 3 4 := ⟨by decide +kernel, rfl⟩
theorem iX1_init_4 : At cX1_init 4 (.aload_n 0) 1 5 := ⟨by decide +kernel, rfl⟩
theorem iX1_init_5 : At cX1_init 5 (.bipush 10) 2 7 := ⟨by decide +kernel, rfl⟩
theorem iX1_init_7 : At cX1_init 7 (.newarray .int) 2 9 := ⟨by decide +kernel, rfl⟩
theorem iX1_init_9 : At cX1_init 9 (.putfield 9) 3 12 := ⟨by decide +kernel, rfl⟩
theorem iX1_init_12 : At cX1_init 12 (.aload_n 0) 1 13 := ⟨by decide +kernel, rfl⟩
theorem iX1_init_13 : At cX1_init 13 (.bipush 6) 2 15 := ⟨by decide +kernel, rfl⟩
theorem iX1_init_15 : At cX1_init 15 (.newarray .int) 2 17 := ⟨by decide +kernel, rfl⟩
theorem iX1_init_17 : At cX1_init 17 (.putfield 15) 3 20 := ⟨by decide +kernel, rfl⟩
theorem iX1_init_20 : At cX1_init 20 (.aload_n 0) 1 21 := ⟨by decide +kernel, rfl⟩
theorem iX1_init_21 : At cX1_init 21 (.bipush 6) 2 23 := ⟨by decide +kernel, rfl⟩
theorem iX1_init_23 : At cX1_init 23 (.newarray .int) 2 25 := ⟨by decide +kernel, rfl⟩
theorem iX1_init_25 : At cX1_init 25 (.putfield 18) 3 28 := ⟨by decide +kernel, rfl⟩
theorem iX1_init_28 : At cX1_init 28 (.aload_n 0) 1 29 := ⟨by decide +kernel, rfl⟩
theorem iX1_init_29 : At cX1_init 29 (.bipush 6) 2 31 := ⟨by decide +kernel, rfl⟩
theorem iX1_init_31 : At cX1_init 31 (.newarray .int) 2 33 := ⟨by decide +kernel, rfl⟩
theorem iX1_init_33 : At cX1_init 33 (.putfield 21) 3 36 := ⟨by decide +kernel, rfl⟩
theorem iX1_init_36 : At cX1_init 36 (.return_) 1 37 := ⟨by decide +kernel, rfl⟩
theorem iX1_clear_0 : At cX1_clear 0 (.aload_n 0) 1 1 := ⟨by decide +kernel, rfl⟩
theorem iX1_clear_1 : At cX1_clear 1 (.getfield 9) 3 4 := ⟨by decide +kernel, rfl⟩
theorem iX1_clear_4 : At cX1_clear 4 (.iconst 0) 1 5 := ⟨by decide +kernel, rfl⟩
theorem iX1_clear_5 : At cX1_clear 5 (.invokestatic 24) 3 8 := ⟨by decide +kernel, rfl⟩
theorem iX1_clear_8 : At cX1_clear 8 (.aload_n 0) 1 9 := ⟨by decide +kernel, rfl⟩
theorem iX1_clear_9 : At cX1_clear 9 (.iconst 0) 1 10 := ⟨by decide +kernel, rfl⟩
theorem iX1_clear_10 : At cX1_clear 10 (.putfield 30) 3 13 := ⟨by decide +kernel, rfl⟩
theorem iX1_clear_13 : At cX1_clear 13 (.return_) 1 14 := ⟨by decide +kernel, rfl⟩
theorem iX1_copyFrom_0 : At cX1_copyFrom 0 (.aload_n 1) 1 1 := ⟨by decide +kernel, rfl⟩
theorem iX1_copyFrom_1 : At cX1_copyFrom 1 (.getfield 9) 3 4 := ⟨by decide +kernel, rfl⟩
theorem iX1_copyFrom_4 : At cX1_copyFrom 4 (.iconst 0) 1 5 := ⟨by decide +kernel, rfl⟩
theorem iX1_copyFrom_5 : At cX1_copyFrom 5 (.aload_n 0) 1 6 := ⟨by decide +kernel, rfl⟩
theorem iX1_copyFrom_6 : At cX1_copyFrom 6 (.getfield 9) 3 9 := ⟨by decide +kernel, rfl⟩
theorem iX1_copyFrom_9 : At cX1_copyFrom 9 (.iconst 0) 1 10 := ⟨by decide +kernel, rfl⟩
theorem iX1_copyFrom_10 : At cX1_copyFrom 10 (.bipush 10) 2 12 := ⟨by decide +kernel, rfl⟩
theorem iX1_copyFrom_12 : At cX1_copyFrom 12 (.invokestatic 34) 3 15 := ⟨by decide +kernel, rfl⟩
theorem iX1_copyFrom_15 : At cX1_copyFrom 15 (.aload_n 1) 1 16 := ⟨by decide +kernel, rfl⟩
theorem iX1_copyFrom_16 : At cX1_copyFrom 16 (.getfield 15) 3 19 := ⟨by decide +kernel, rfl⟩
theorem iX1_copyFrom_19 : At cX1_copyFrom 19 (.iconst 0) 1 20 := ⟨by decide +kernel, rfl⟩
theorem iX1_copyFrom_20 : At cX1_copyFrom 20 (.aload_n 0) 1 21 := ⟨by decide +kernel, rfl⟩
theorem iX1_copyFrom_21 : At cX1_copyFrom 21 (.getfield 15) 3 24 := ⟨by decide +kernel, rfl⟩
theorem iX1_copyFrom_24 : At cX1_copyFrom 24 (.iconst 0) 1 25 := ⟨by decide +kernel, rfl⟩
theorem iX1_copyFrom_25 : At cX1_copyFrom 25 (.bipush 6) 2 27 := ⟨by decide +kernel, rfl⟩
theorem iX1_copyFrom_27 : At cX1_copyFrom 27 (.invokestatic 34) 3 30 := ⟨by decide +kernel, rfl⟩
theorem iX1_copyFrom_30 : At cX1_copyFrom 30 (.aload_n 1) 1 31 := ⟨by decide +kernel, rfl⟩
theorem iX1_copyFrom_31 : At cX1_copyFrom 31 (.getfield 18) 3 34 := ⟨by decide +kernel, rfl⟩
theorem iX1_copyFrom_34 : At cX1_copyFrom 34 (.iconst 0) 1 35 := ⟨by decide +kernel, rfl⟩
theorem iX1_copyFrom_35 : At cX1_copyFrom 35 (.aload_n 0) 1 36 := ⟨by decide +kernel, rfl⟩
theorem iX1_copyFrom_36 : At cX1_copyFrom 36 (.getfield 18) 3 39 := ⟨by decide +kernel, rfl⟩
theorem iX1_copyFrom_39 : At cX1_copyFrom 39 (.iconst 0) 1 40 := ⟨by decide +kernel, rfl⟩
theorem iX1_copyFrom_40 : At cX1_copyFrom 40 (.bipush 6) 2 42 := ⟨by decide +kernel, rfl⟩
theorem iX1_copyFrom_42 : At cX1_copyFrom 42 (.invokestatic 34) 3 45 := ⟨by decide +kernel, rfl⟩
theorem iX1_copyFrom_45 : At cX1_copyFrom 45 (.aload_n 1) 1 46 := ⟨by decide +kernel, rfl⟩
theorem iX1_copyFrom_46 : At cX1_copyFrom 46 (.getfield 21) 3 49 := ⟨by decide +kernel, rfl⟩
theorem iX1_copyFrom_49 : At cX1_copyFrom 49 (.iconst 0) 1 50 := ⟨by decide +kernel, rfl⟩
theorem iX1_copyFrom_50 : At cX1_copyFrom 50 (.aload_n 0) 1 51 := ⟨by decide +kernel, rfl⟩
theorem iX1_copyFrom_51 : At cX1_copyFrom 51 (.getfield 21) 3 54 := ⟨by decide +kernel, rfl⟩
theorem iX1_copyFrom_54 : At cX1_copyFrom 54 (.iconst 0) 1 55 := ⟨by decide +kernel, rfl⟩
theorem iX1_copyFrom_55 : At cX1_copyFrom 55 (.bipush 6) 2 57 := ⟨by decide +kernel, rfl⟩
theorem iX1_copyFrom_57 : At cX1_copyFrom 57 (.invokestatic 34) 3 60 := ⟨by decide +kernel, rfl⟩
theorem iX1_copyFrom_60 : At cX1_copyFrom 60 (.aload_n 0) 1 61 := ⟨by decide +kernel, rfl⟩
theorem iX1_copyFrom_61 : At cX1_copyFrom 61 (.aload_n 1) 1 62 := ⟨by decide +kernel, rfl⟩
theorem iX1_copyFrom_62 : At cX1_copyFrom 62 (.getfield 30) 3 65 := ⟨by decide +kernel, rfl⟩
theorem iX1_copyFrom_65 : At cX1_copyFrom 65 (.putfield 30) 3 68 := ⟨by decide +kernel, rfl⟩
theorem iX1_copyFrom_68 : At cX1_copyFrom 68 (.return_) 1 69 := ⟨by decide +kernel, rfl⟩
theorem iX1_addRiser_0 : At cX1_addRiser 0 (.aload_n 0) 1 1 := ⟨by decide +kernel, rfl⟩
theorem iX1_addRiser_1 : At cX1_addRiser 1 (.getfield 30) 3 4 := ⟨by decide +kernel, rfl⟩
theorem iX1_addRiser_4 : At cX1_addRiser 4 (.bipush 6) 2 6 := ⟨by decide +kernel, rfl⟩
theorem iX1_addRiser_6 : At cX1_addRiser 6 (.if_icmp .lt 4) 3 9 := ⟨by decide +kernel, rfl⟩
theorem iX1_addRiser_9 : At cX1_addRiser 9 (.return_) 1 10 := ⟨by decide +kernel, rfl⟩
theorem iX1_addRiser_10 : At cX1_addRiser 10 (.aload_n 0) 1 11 := ⟨by decide +kernel, rfl⟩
theorem iX1_addRiser_11 : At cX1_addRiser 11 (.getfield 15) 3 14 := ⟨by decide +kernel, rfl⟩
theorem iX1_addRiser_14 : At cX1_addRiser 14 (.aload_n 0) 1 15 := ⟨by decide +kernel, rfl⟩
theorem iX1_addRiser_15 : At cX1_addRiser 15 (.getfield 30) 3 18 := ⟨by decide +kernel, rfl⟩
theorem iX1_addRiser_18 : At cX1_addRiser 18 (.iload_n 1) 1 19 := ⟨by decide +kernel, rfl⟩
theorem iX1_addRiser_19 : At cX1_addRiser 19 (.iastore) 1 20 := ⟨by decide +kernel, rfl⟩
theorem iX1_addRiser_20 : At cX1_addRiser 20 (.aload_n 0) 1 21 := ⟨by decide +kernel, rfl⟩
theorem iX1_addRiser_21 : At cX1_addRiser 21 (.getfield 18) 3 24 := ⟨by decide +kernel, rfl⟩
theorem iX1_addRiser_24 : At cX1_addRiser 24 (.aload_n 0) 1 25 := ⟨by decide +kernel, rfl⟩
theorem iX1_addRiser_25 : At cX1_addRiser 25 (.getfield 30) 3 28 := ⟨by decide +kernel, rfl⟩
theorem iX1_addRiser_28 : At cX1_addRiser 28 (.iload_n 2) 1 29 := ⟨by decide +kernel, rfl⟩
theorem iX1_addRiser_29 : At cX1_addRiser 29 (.iastore) 1 30 := ⟨by decide +kernel, rfl⟩
theorem iX1_addRiser_30 : At cX1_addRiser 30 (.aload_n 0) 1 31 := ⟨by decide +kernel, rfl⟩
theorem iX1_addRiser_31 : At cX1_addRiser 31 (.getfield 21) 3 34 := ⟨by decide +kernel, rfl⟩
theorem iX1_addRiser_34 : At cX1_addRiser 34 (.aload_n 0) 1 35 := ⟨by decide +kernel, rfl⟩
theorem iX1_addRiser_35 : At cX1_addRiser 35 (.getfield 30) 3 38 := ⟨by decide +kernel, rfl⟩
theorem iX1_addRiser_38 : At cX1_addRiser 38 (.iload_n 3) 1 39 := ⟨by decide +kernel, rfl⟩
theorem iX1_addRiser_39 : At cX1_addRiser 39 (.iastore) 1 40 := ⟨by decide +kernel, rfl⟩
theorem iX1_addRiser_40 : At cX1_addRiser 40 (.aload_n 0) 1 41 := ⟨by decide +kernel, rfl⟩
theorem iX1_addRiser_41 : At cX1_addRiser 41 (.dup) 1 42 := ⟨by decide +kernel, rfl⟩
theorem iX1_addRiser_42 : At cX1_addRiser 42 (.getfield 30) 3 45 := ⟨by decide +kernel, rfl⟩
theorem iX1_addRiser_45 : At cX1_addRiser 45 (.iconst 1) 1 46 := ⟨by decide +kernel, rfl⟩
theorem iX1_addRiser_46 : At cX1_addRiser 46 (.iadd) 1 47 := ⟨by decide +kernel, rfl⟩
theorem iX1_addRiser_47 : At cX1_addRiser 47 (.putfield 30) 3 50 := ⟨by decide +kernel, rfl⟩
theorem iX1_addRiser_50 : At cX1_addRiser 50 (.return_) 1 51 := ⟨by decide +kernel, rfl⟩
theorem iX1_removeRiser_0 : At cX1_removeRiser 0 (.iload_n 1) 1 1 := ⟨by decide +kernel, rfl⟩
theorem iX1_removeRiser_1 : At cX1_removeRiser 1 (.istore_n 2) 1 2 := ⟨by decide +kernel, rfl⟩
theorem iX1_removeRiser_2 : At cX1_removeRiser 2 (.iload_n 2) 1 3 := ⟨by decide +kernel, rfl⟩
theorem iX1_removeRiser_3 : At cX1_removeRiser 3 (.iconst 1) 1 4 := ⟨by decide +kernel, rfl⟩
theorem iX1_removeRiser_4 : At cX1_removeRiser 4 (.iadd) 1 5 := ⟨by decide +kernel, rfl⟩
theorem iX1_removeRiser_5 : At cX1_removeRiser 5 (.aload_n 0) 1 6 := ⟨by decide +kernel, rfl⟩
theorem iX1_removeRiser_6 : At cX1_removeRiser 6 (.getfield 30) 3 9 := ⟨by decide +kernel, rfl⟩
theorem iX1_removeRiser_9 : At cX1_removeRiser 9 (.if_icmp .ge 51) 3 12 := ⟨by decide +kernel, rfl⟩
theorem iX1_removeRiser_12 : At cX1_removeRiser 12 (.aload_n 0) 1 13 := ⟨by decide +kernel, rfl⟩
theorem iX1_removeRiser_13 : At cX1_removeRiser 13 (.getfield 15) 3 16 := ⟨by decide +kernel, rfl⟩
theorem iX1_removeRiser_16 : At cX1_removeRiser 16 (.iload_n 2) 1 17 := ⟨by decide +kernel, rfl⟩
theorem iX1_removeRiser_17 : At cX1_removeRiser 17 (.aload_n 0) 1 18 := ⟨by decide +kernel, rfl⟩
theorem iX1_removeRiser_18 : At cX1_removeRiser 18 (.getfield 15) 3 21 := ⟨by decide +kernel, rfl⟩
theorem iX1_removeRiser_21 : At cX1_removeRiser 21 (.iload_n 2) 1 22 := ⟨by decide +kernel, rfl⟩
theorem iX1_removeRiser_22 : At cX1_removeRiser 22 (.iconst 1) 1 23 := ⟨by decide +kernel, rfl⟩
theorem iX1_removeRiser_23 : At cX1_removeRiser 23 (.iadd) 1 24 := ⟨by decide +kernel, rfl⟩
theorem iX1_removeRiser_24 : At cX1_removeRiser 24 (.iaload) 1 25 := ⟨by decide +kernel, rfl⟩
theorem iX1_removeRiser_25 : At cX1_removeRiser 25 (.iastore) 1 26 := ⟨by decide +kernel, rfl⟩
theorem iX1_removeRiser_26 : At cX1_removeRiser 26 (.aload_n 0) 1 27 := ⟨by decide +kernel, rfl⟩
theorem iX1_removeRiser_27 : At cX1_removeRiser 27 (.getfield 18) 3 30 := ⟨by decide +kernel, rfl⟩
theorem iX1_removeRiser_30 : At cX1_removeRiser 30 (.iload_n 2) 1 31 := ⟨by decide +kernel, rfl⟩
theorem iX1_removeRiser_31 : At cX1_removeRiser 31 (.aload_n 0) 1 32 := ⟨by decide +kernel, rfl⟩
theorem iX1_removeRiser_32 : At cX1_removeRiser 32 (.getfield 18) 3 35 := ⟨by decide +kernel, rfl⟩
theorem iX1_removeRiser_35 : At cX1_removeRiser 35 (.iload_n 2) 1 36 := ⟨by decide +kernel, rfl⟩
theorem iX1_removeRiser_36 : At cX1_removeRiser 36 (.iconst 1) 1 37 := ⟨by decide +kernel, rfl⟩
theorem iX1_removeRiser_37 : At cX1_removeRiser 37 (.iadd) 1 38 := ⟨by decide +kernel, rfl⟩
theorem iX1_removeRiser_38 : At cX1_removeRiser 38 (.iaload) 1 39 := ⟨by decide +kernel, rfl⟩
theorem iX1_removeRiser_39 : At cX1_removeRiser 39 (.iastore) 1 40 := ⟨by decide +kernel, rfl⟩
theorem iX1_removeRiser_40 : At cX1_removeRiser 40 (.aload_n 0) 1 41 := ⟨by decide +kernel, rfl⟩
theorem iX1_removeRiser_41 : At cX1_removeRiser 41 (.getfield 21) 3 44 := ⟨by decide +kernel, rfl⟩
theorem iX1_removeRiser_44 : At cX1_removeRiser 44 (.iload_n 2) 1 45 := ⟨by decide +kernel, rfl⟩
theorem iX1_removeRiser_45 : At cX1_removeRiser 45 (.aload_n 0) 1 46 := ⟨by decide +kernel, rfl⟩
theorem iX1_removeRiser_46 : At cX1_removeRiser 46 (.getfield 21) 3 49 := ⟨by decide +kernel, rfl⟩
theorem iX1_removeRiser_49 : At cX1_removeRiser 49 (.iload_n 2) 1 50 := ⟨by decide +kernel, rfl⟩
theorem iX1_removeRiser_50 : At cX1_removeRiser 50 (.iconst 1) 1 51 := ⟨by decide +kernel, rfl⟩
theorem iX1_removeRiser_51 : At cX1_removeRiser 51 (.iadd) 1 52 := ⟨by decide +kernel, rfl⟩
theorem iX1_removeRiser_52 : At cX1_removeRiser 52 (.iaload) 1 53 := ⟨by decide +kernel, rfl⟩
theorem iX1_removeRiser_53 : At cX1_removeRiser 53 (.iastore) 1 54 := ⟨by decide +kernel, rfl⟩
theorem iX1_removeRiser_54 : At cX1_removeRiser 54 (.iinc 2 1) 3 57 := ⟨by decide +kernel, rfl⟩
theorem iX1_removeRiser_57 : At cX1_removeRiser 57 (.goto (-55)) 3 60 := ⟨by decide +kernel, rfl⟩
theorem iX1_removeRiser_60 : At cX1_removeRiser 60 (.aload_n 0) 1 61 := ⟨by decide +kernel, rfl⟩
theorem iX1_removeRiser_61 : At cX1_removeRiser 61 (.dup) 1 62 := ⟨by decide +kernel, rfl⟩
theorem iX1_removeRiser_62 : At cX1_removeRiser 62 (.getfield 30) 3 65 := ⟨by decide +kernel, rfl⟩
theorem iX1_removeRiser_65 : At cX1_removeRiser 65 (.iconst 1) 1 66 := ⟨by decide +kernel, rfl⟩
theorem iX1_removeRiser_66 : At cX1_removeRiser 66 (.isub) 1 67 := ⟨by decide +kernel, rfl⟩
theorem iX1_removeRiser_67 : At cX1_removeRiser 67 (.putfield 30) 3 70 := ⟨by decide +kernel, rfl⟩
theorem iX1_removeRiser_70 : At cX1_removeRiser 70 (.return_) 1 71 := ⟨by decide +kernel, rfl⟩
theorem iX2_init_0 : At cX2_init 0 (.aload_n 0) 1 1 := ⟨by decide +kernel, rfl⟩
theorem iX2_init_1 : At cX2_init 1 (.invokespecial 3) 3 4 := ⟨by decide +kernel, rfl⟩
theorem iX2_init_4 : At cX2_init 4 (.aload_n 0) 1 5 := ⟨by decide +kernel, rfl⟩
theorem iX2_init_5 : At cX2_init 5 (.bipush 8) 2 7 := ⟨by decide +kernel, rfl⟩
theorem iX2_init_7 : At cX2_init 7 (.anewarray 9) 3 10 := ⟨by decide +kernel, rfl⟩
theorem iX2_init_10 : At cX2_init 10 (.putfield 11) 3 13 := ⟨by decide +kernel, rfl⟩
theorem iX2_init_13 : At cX2_init 13 (.iconst 0) 1 14 := ⟨by decide +kernel, rfl⟩
theorem iX2_init_14 : At cX2_init 14 (.istore_n 1) 1 15 := ⟨by decide +kernel, rfl⟩
theorem iX2_init_15 : At cX2_init 15 (.iload_n 1) 1 16 := ⟨by decide +kernel, rfl⟩
theorem iX2_init_16 : At cX2_init 16 (.bipush 8) 2 18 := ⟨by decide +kernel, rfl⟩
theorem iX2_init_18 : At cX2_init 18 (.if_icmp .ge 22) 3 21 := ⟨by decide +kernel, rfl⟩
theorem iX2_init_21 : At cX2_init 21 (.aload_n 0) 1 22 := ⟨by decide +kernel, rfl⟩
theorem iX2_init_22 : At cX2_init 22 (.getfield 11) 3 25 := ⟨by decide +kernel, rfl⟩
theorem iX2_init_25 : At cX2_init 25 (.iload_n 1) 1 26 := ⟨by decide +kernel, rfl⟩
theorem iX2_init_26 : At cX2_init 26 (.new 9) 3 29 := ⟨by decide +kernel, rfl⟩
theorem iX2_init_29 : At cX2_init 29 (.dup) 1 30 := ⟨by decide +kernel, rfl⟩
theorem iX2_init_30 : At cX2_init 30 (.invokespecial 17) 3 33 := ⟨by decide +kernel, rfl⟩
theorem iX2_init_33 : At cX2_init 33 (.aastore) 1 34 := ⟨by decide +kernel, rfl⟩
theorem iX2_init_34 : At cX2_init 34 (.iinc 1 1) 3 37 := ⟨by decide +kernel, rfl⟩
theorem iX2_init_37 : At cX2_init 37 (.goto (-22)) 3 40 := ⟨by decide +kernel, rfl⟩
theorem iX2_init_40 : At cX2_init 40 (.return_) 1 41 := ⟨by decide +kernel, rfl⟩
theorem iX2_remember_0 : At cX2_remember 0 (.aload_n 0) 1 1 := ⟨by decide +kernel, rfl⟩
theorem iX2_remember_1 : At cX2_remember 1 (.getfield 11) 3 4 := ⟨by decide +kernel, rfl⟩
theorem iX2_remember_4 : At cX2_remember 4 (.aload_n 0) 1 5 := ⟨by decide +kernel, rfl⟩
theorem iX2_remember_5 : At cX2_remember 5 (.getfield 18) 3 8 := ⟨by decide +kernel, rfl⟩
theorem iX2_remember_8 : At cX2_remember 8 (.aaload) 1 9 := ⟨by decide +kernel, rfl⟩
theorem iX2_remember_9 : At cX2_remember 9 (.aload_n 1) 1 10 := ⟨by decide +kernel, rfl⟩
theorem iX2_remember_10 : At cX2_remember 10 (.invokevirtual 22) 3 13 := ⟨by decide +kernel, rfl⟩
theorem iX2_remember_13 : At cX2_remember 13 (.aload_n 0) 1 14 := ⟨by decide +kernel, rfl⟩
theorem iX2_remember_14 : At cX2_remember 14 (.aload_n 0) 1 15 := ⟨by decide +kernel, rfl⟩
theorem iX2_remember_15 : At cX2_remember 15 (.getfield 18) 3 18 := ⟨by decide +kernel, rfl⟩
theorem iX2_remember_18 : At cX2_remember 18 (.iconst 1) 1 19 := ⟨by decide +kernel, rfl⟩
theorem iX2_remember_19 : At cX2_remember 19 (.iadd) 1 20 := ⟨by decide +kernel, rfl⟩
theorem iX2_remember_20 : At cX2_remember 20 (.bipush 8) 2 22 := ⟨by decide +kernel, rfl⟩
theorem iX2_remember_22 : At cX2_remember 22 (.irem) 1 23 := ⟨by decide +kernel, rfl⟩
theorem iX2_remember_23 : At cX2_remember 23 (.putfield 18) 3 26 := ⟨by decide +kernel, rfl⟩
theorem iX2_remember_26 : At cX2_remember 26 (.aload_n 0) 1 27 := ⟨by decide +kernel, rfl⟩
theorem iX2_remember_27 : At cX2_remember 27 (.aload_n 0) 1 28 := ⟨by decide +kernel, rfl⟩
theorem iX2_remember_28 : At cX2_remember 28 (.getfield 26) 3 31 := ⟨by decide +kernel, rfl⟩
theorem iX2_remember_31 : At cX2_remember 31 (.iconst 1) 1 32 := ⟨by decide +kernel, rfl⟩
theorem iX2_remember_32 : At cX2_remember 32 (.iadd) 1 33 := ⟨by decide +kernel, rfl⟩
theorem iX2_remember_33 : At cX2_remember 33 (.bipush 8) 2 35 := ⟨by decide +kernel, rfl⟩
theorem iX2_remember_35 : At cX2_remember 35 (.invokestatic 29) 3 38 := ⟨by decide +kernel, rfl⟩
theorem iX2_remember_38 : At cX2_remember 38 (.putfield 26) 3 41 := ⟨by decide +kernel, rfl⟩
theorem iX2_remember_41 : At cX2_remember 41 (.return_) 1 42 := ⟨by decide +kernel, rfl⟩
theorem iX2_recall_0 : At cX2_recall 0 (.aload_n 0) 1 1 := ⟨by decide +kernel, rfl⟩
theorem iX2_recall_1 : At cX2_recall 1 (.aload_n 0) 1 2 := ⟨by decide +kernel, rfl⟩
theorem iX2_recall_2 : At cX2_recall 2 (.getfield 18) 3 5 := ⟨by decide +kernel, rfl⟩
theorem iX2_recall_5 : At cX2_recall 5 (.bipush 8) 2 7 := ⟨by decide +kernel, rfl⟩
theorem iX2_recall_7 : At cX2_recall 7 (.iadd) 1 8 := ⟨by decide +kernel, rfl⟩
theorem iX2_recall_8 : At cX2_recall 8 (.iconst 1) 1 9 := ⟨by decide +kernel, rfl⟩
theorem iX2_recall_9 : At cX2_recall 9 (.isub) 1 10 := ⟨by decide +kernel, rfl⟩
theorem iX2_recall_10 : At cX2_recall 10 (.bipush 8) 2 12 := ⟨by decide +kernel, rfl⟩
theorem iX2_recall_12 : At cX2_recall 12 (.irem) 1 13 := ⟨by decide +kernel, rfl⟩
theorem iX2_recall_13 : At cX2_recall 13 (.putfield 18) 3 16 := ⟨by decide +kernel, rfl⟩
theorem iX2_recall_16 : At cX2_recall 16 (.aload_n 0) 1 17 := ⟨by decide +kernel, rfl⟩
theorem iX2_recall_17 : At cX2_recall 17 (.dup) 1 18 := ⟨by decide +kernel, rfl⟩
theorem iX2_recall_18 : At cX2_recall 18 (.getfield 26) 3 21 := ⟨by decide +kernel, rfl⟩
theorem iX2_recall_21 : At cX2_recall 21 (.iconst 1) 1 22 := ⟨by decide +kernel, rfl⟩
theorem iX2_recall_22 : At cX2_recall 22 (.isub) 1 23 := ⟨by decide +kernel, rfl⟩
theorem iX2_recall_23 : At cX2_recall 23 (.putfield 26) 3 26 := ⟨by decide +kernel, rfl⟩
theorem iX2_recall_26 : At cX2_recall 26 (.aload_n 1) 1 27 := ⟨by decide +kernel, rfl⟩
theorem iX2_recall_27 : At cX2_recall 27 (.aload_n 0) 1 28 := ⟨by decide +kernel, rfl⟩
theorem iX2_recall_28 : At cX2_recall 28 (.getfield 11) 3 31 := ⟨by decide +kernel, rfl⟩
theorem iX2_recall_31 : At cX2_recall 31 (.aload_n 0) 1 32 := ⟨by decide +kernel, rfl⟩
theorem iX2_recall_32 : At cX2_recall 32 (.getfield 18) 3 35 := ⟨by decide +kernel, rfl⟩
theorem iX2_recall_35 : At cX2_recall 35 (.aaload) 1 36 := ⟨by decide +kernel, rfl⟩
theorem iX2_recall_36 : At cX2_recall 36 (.invokevirtual 22) 3 39 := ⟨by decide +kernel, rfl⟩
theorem iX2_recall_39 : At cX2_recall 39 (.return_) 1 40 := ⟨by decide +kernel, rfl⟩
theorem iX3_init_0 : At cX3_init 0 (.aload_n 0) 1 1 := ⟨by decide +kernel, rfl⟩
theorem iX3_init_1 : At cX3_init 1 (.invokespecial 3) 3 4 := ⟨by decide +kernel, rfl⟩
theorem iX3_init_4 : At cX3_init 4 (.aload_n 0) 1 5 := ⟨by decide +kernel, rfl⟩
theorem iX3_init_5 : At cX3_init 5 (.bipush 10) 2 7 := ⟨by decide +kernel, rfl⟩
theorem iX3_init_7 : At cX3_init 7 (.newarray .int) 2 9 := ⟨by decide +kernel, rfl⟩
theorem iX3_init_9 : At cX3_init 9 (.putfield 9) 3 12 := ⟨by decide +kernel, rfl⟩
theorem iX3_init_12 : At cX3_init 12 (.aload_n 0) 1 13 := ⟨by decide +kernel, rfl⟩
theorem iX3_init_13 : At cX3_init 13 (.bipush 10) 2 15 := ⟨by decide +kernel, rfl⟩
theorem iX3_init_15 : At cX3_init 15 (.newarray .int) 2 17 := ⟨by decide +kernel, rfl⟩
theorem iX3_init_17 : At cX3_init 17 (.putfield 15) 3 20 := ⟨by decide +kernel, rfl⟩
theorem iX3_init_20 : At cX3_init 20 (.aload_n 0) 1 21 := ⟨by decide +kernel, rfl⟩
theorem iX3_init_21 : At cX3_init 21 (.bipush 10) 2 23 := ⟨by decide +kernel, rfl⟩
theorem iX3_init_23 : At cX3_init 23 (.newarray .int) 2 25 := ⟨by decide +kernel, rfl⟩
theorem iX3_init_25 : At cX3_init 25 (.putfield 18) 3 28 := ⟨by decide +kernel, rfl⟩
theorem iX3_init_28 : At cX3_init 28 (.aload_n 0) 1 29 := ⟨by decide +kernel, rfl⟩
theorem iX3_init_29 : At cX3_init 29 (.bipush 10) 2 31 := ⟨by decide +kernel, rfl⟩
theorem iX3_init_31 : At cX3_init 31 (.newarray .int) 2 33 := ⟨by decide +kernel, rfl⟩
theorem iX3_init_33 : At cX3_init 33 (.putfield 21) 3 36 := ⟨by decide +kernel, rfl⟩
theorem iX3_init_36 : At cX3_init 36 (.aload_n 0) 1 37 := ⟨by decide +kernel, rfl⟩
theorem iX3_init_37 : At cX3_init 37 (.bipush 10) 2 39 := ⟨by decide +kernel, rfl⟩
theorem iX3_init_39 : At cX3_init 39 (.newarray .int) 2 41 := ⟨by decide +kernel, rfl⟩
theorem iX3_init_41 : At cX3_init 41 (.putfield 24) 3 44 := ⟨by decide +kernel, rfl⟩
theorem iX3_init_44 : At cX3_init 44 (.aload_n 0) 1 45 := ⟨by decide +kernel, rfl⟩
theorem iX3_init_45 : At cX3_init 45 (.bipush 10) 2 47 := ⟨by decide +kernel, rfl⟩
theorem iX3_init_47 : At cX3_init 47 (.newarray .int) 2 49 := ⟨by decide +kernel, rfl⟩
theorem iX3_init_49 : At cX3_init 49 (.putfield 27) 3 52 := ⟨by decide +kernel, rfl⟩
theorem iX3_init_52 : At cX3_init 52 (.aload_n 0) 1 53 := ⟨by decide +kernel, rfl⟩
theorem iX3_init_53 : At cX3_init 53 (.aload_n 1) 1 54 := ⟨by decide +kernel, rfl⟩
theorem iX3_init_54 : At cX3_init 54 (.putfield 30) 3 57 := ⟨by decide +kernel, rfl⟩
theorem iX3_init_57 : At cX3_init 57 (.aload_n 0) 1 58 := ⟨by decide +kernel, rfl⟩
theorem iX3_init_58 : At cX3_init 58 (.aload_n 2) 1 59 := ⟨by decide +kernel, rfl⟩
theorem iX3_init_59 : At cX3_init 59 (.putfield 34) 3 62 := ⟨by decide +kernel, rfl⟩
theorem iX3_init_62 : At cX3_init 62 (.return_) 1 63 := ⟨by decide +kernel, rfl⟩
theorem iX3_settle_0 : At cX3_settle 0 (.aload_n 0) 1 1 := ⟨by decide +kernel, rfl⟩
theorem iX3_settle_1 : At cX3_settle 1 (.aload_n 0) 1 2 := ⟨by decide +kernel, rfl⟩
theorem iX3_settle_2 : At cX3_settle 2 (.getfield 30) 3 5 := ⟨by decide +kernel, rfl⟩
theorem iX3_settle_5 : At cX3_settle 5 (.getfield 38) 3 8 := ⟨by decide +kernel, rfl⟩
theorem iX3_settle_8 : At cX3_settle 8 (.putfield 44) 3 11 := ⟨by decide +kernel, rfl⟩
theorem iX3_settle_11 : At cX3_settle 11 (.iconst 0) 1 12 := ⟨by decide +kernel, rfl⟩
theorem iX3_settle_12 : At cX3_settle 12 (.istore_n 1) 1 13 := ⟨by decide +kernel, rfl⟩
theorem iX3_settle_13 : At cX3_settle 13 (.iload_n 1) 1 14 := ⟨by decide +kernel, rfl⟩
theorem iX3_settle_14 : At cX3_settle 14 (.aload_n 0) 1 15 := ⟨by decide +kernel, rfl⟩
theorem iX3_settle_15 : At cX3_settle 15 (.getfield 44) 3 18 := ⟨by decide +kernel, rfl⟩
theorem iX3_settle_18 : At cX3_settle 18 (.if_icmp .ge 44) 3 21 := ⟨by decide +kernel, rfl⟩
theorem iX3_settle_21 : At cX3_settle 21 (.aload_n 0) 1 22 := ⟨by decide +kernel, rfl⟩
theorem iX3_settle_22 : At cX3_settle 22 (.getfield 9) 3 25 := ⟨by decide +kernel, rfl⟩
theorem iX3_settle_25 : At cX3_settle 25 (.iload_n 1) 1 26 := ⟨by decide +kernel, rfl⟩
theorem iX3_settle_26 : At cX3_settle 26 (.aload_n 0) 1 27 := ⟨by decide +kernel, rfl⟩
theorem iX3_settle_27 : At cX3_settle 27 (.getfield 30) 3 30 := ⟨by decide +kernel, rfl⟩
theorem iX3_settle_30 : At cX3_settle 30 (.getfield 45) 3 33 := ⟨by decide +kernel, rfl⟩
theorem iX3_settle_33 : At cX3_settle 33 (.iload_n 1) 1 34 := ⟨by decide +kernel, rfl⟩
theorem iX3_settle_34 : At cX3_settle 34 (.iaload) 1 35 := ⟨by decide +kernel, rfl⟩
theorem iX3_settle_35 : At cX3_settle 35 (.iastore) 1 36 := ⟨by decide +kernel, rfl⟩
theorem iX3_settle_36 : At cX3_settle 36 (.aload_n 0) 1 37 := ⟨by decide +kernel, rfl⟩
theorem iX3_settle_37 : At cX3_settle 37 (.getfield 15) 3 40 := ⟨by decide +kernel, rfl⟩
theorem iX3_settle_40 : At cX3_settle 40 (.iload_n 1) 1 41 := ⟨by decide +kernel, rfl⟩
theorem iX3_settle_41 : At cX3_settle 41 (.aload_n 0) 1 42 := ⟨by decide +kernel, rfl⟩
theorem iX3_settle_42 : At cX3_settle 42 (.iload_n 1) 1 43 := ⟨by decide +kernel, rfl⟩
theorem iX3_settle_43 : At cX3_settle 43 (.aload_n 0) 1 44 := ⟨by decide +kernel, rfl⟩
theorem iX3_settle_44 : At cX3_settle 44 (.getfield 34) 3 47 := ⟨by decide +kernel, rfl⟩
theorem iX3_settle_47 : At cX3_settle 47 (.getfield 48) 3 50 := ⟨by decide +kernel, rfl⟩
theorem iX3_settle_50 : At cX3_settle 50 (.iload_n 1) 1 51 := ⟨by decide +kernel, rfl⟩
theorem iX3_settle_51 : At cX3_settle 51 (.iaload) 1 52 := ⟨by decide +kernel, rfl⟩
theorem iX3_settle_52 : At cX3_settle 52 (.invokevirtual 53) 3 55 := ⟨by decide +kernel, rfl⟩
theorem iX3_settle_55 : At cX3_settle 55 (.iastore) 1 56 := ⟨by decide +kernel, rfl⟩
theorem iX3_settle_56 : At cX3_settle 56 (.iinc 1 1) 3 59 := ⟨by decide +kernel, rfl⟩
theorem iX3_settle_59 : At cX3_settle 59 (.goto (-46)) 3 62 := ⟨by decide +kernel, rfl⟩
theorem iX3_settle_62 : At cX3_settle 62 (.iconst 0) 1 63 := ⟨by decide +kernel, rfl⟩
theorem iX3_settle_63 : At cX3_settle 63 (.istore_n 1) 1 64 := ⟨by decide +kernel, rfl⟩
theorem iX3_settle_64 : At cX3_settle 64 (.iload_n 1) 1 65 := ⟨by decide +kernel, rfl⟩
theorem iX3_settle_65 : At cX3_settle 65 (.aload_n 0) 1 66 := ⟨by decide +kernel, rfl⟩
theorem iX3_settle_66 : At cX3_settle 66 (.getfield 44) 3 69 := ⟨by decide +kernel, rfl⟩
theorem iX3_settle_69 : At cX3_settle 69 (.if_icmp .ge 14) 3 72 := ⟨by decide +kernel, rfl⟩
theorem iX3_settle_72 : At cX3_settle 72 (.aload_n 0) 1 73 := ⟨by decide +kernel, rfl⟩
theorem iX3_settle_73 : At cX3_settle 73 (.iload_n 1) 1 74 := ⟨by decide +kernel, rfl⟩
theorem iX3_settle_74 : At cX3_settle 74 (.invokevirtual 57) 3 77 := ⟨by decide +kernel, rfl⟩
theorem iX3_settle_77 : At cX3_settle 77 (.iinc 1 1) 3 80 := ⟨by decide +kernel, rfl⟩
theorem iX3_settle_80 : At cX3_settle 80 (.goto (-16)) 3 83 := ⟨by decide +kernel, rfl⟩
theorem iX3_settle_83 : At cX3_settle 83 (.iconst 0) 1 84 := ⟨by decide +kernel, rfl⟩
theorem iX3_settle_84 : At cX3_settle 84 (.istore_n 1) 1 85 := ⟨by decide +kernel, rfl⟩
theorem iX3_settle_85 : At cX3_settle 85 (.iload_n 1) 1 86 := ⟨by decide +kernel, rfl⟩
theorem iX3_settle_86 : At cX3_settle 86 (.aload_n 0) 1 87 := ⟨by decide +kernel, rfl⟩
theorem iX3_settle_87 : At cX3_settle 87 (.getfield 44) 3 90 := ⟨by decide +kernel, rfl⟩
theorem iX3_settle_90 : At cX3_settle 90 (.if_icmp .ge 32) 3 93 := ⟨by decide +kernel, rfl⟩
theorem iX3_settle_93 : At cX3_settle 93 (.aload_n 0) 1 94 := ⟨by decide +kernel, rfl⟩
theorem iX3_settle_94 : At cX3_settle 94 (.getfield 24) 3 97 := ⟨by decide +kernel, rfl⟩
theorem iX3_settle_97 : At cX3_settle 97 (.iload_n 1) 1 98 := ⟨by decide +kernel, rfl⟩
theorem iX3_settle_98 : At cX3_settle 98 (.aload_n 0) 1 99 := ⟨by decide +kernel, rfl⟩
theorem iX3_settle_99 : At cX3_settle 99 (.iload_n 1) 1 100 := ⟨by decide +kernel, rfl⟩
theorem iX3_settle_100 : At cX3_settle 100 (.invokevirtual 61) 3 103 := ⟨by decide +kernel, rfl⟩
theorem iX3_settle_103 : At cX3_settle 103 (.ifCond .eq 11) 3 106 := ⟨by decide +kernel, rfl⟩
theorem iX3_settle_106 : At cX3_settle 106 (.aload_n 0) 1 107 := ⟨by decide +kernel, rfl⟩
theorem iX3_settle_107 : At cX3_settle 107 (.iload_n 1) 1 108 := ⟨by decide +kernel, rfl⟩
theorem iX3_settle_108 : At cX3_settle 108 (.invokevirtual 65) 3 111 := ⟨by decide +kernel, rfl⟩
theorem iX3_settle_111 : At cX3_settle 111 (.goto 4) 3 114 := ⟨by decide +kernel, rfl⟩
theorem iX3_settle_114 : At cX3_settle 114 (.iconst (-1)) 1 115 := ⟨by decide +kernel, rfl⟩
theorem iX3_settle_115 : At cX3_settle 115 (.iastore) 1 116 := ⟨by decide +kernel, rfl⟩
theorem iX3_settle_116 : At cX3_settle 116 (.iinc 1 1) 3 119 := ⟨by decide +kernel, rfl⟩
theorem iX3_settle_119 : At cX3_settle 119 (.goto (-34)) 3 122 := ⟨by decide +kernel, rfl⟩
theorem iX3_settle_122 : At cX3_settle 122 (.iconst 0) 1 123 := ⟨by decide +kernel, rfl⟩
theorem iX3_settle_123 : At cX3_settle 123 (.istore_n 1) 1 124 := ⟨by decide +kernel, rfl⟩
theorem iX3_settle_124 : At cX3_settle 124 (.iload_n 1) 1 125 := ⟨by decide +kernel, rfl⟩
theorem iX3_settle_125 : At cX3_settle 125 (.aload_n 0) 1 126 := ⟨by decide +kernel, rfl⟩
theorem iX3_settle_126 : At cX3_settle 126 (.getfield 44) 3 129 := ⟨by decide +kernel, rfl⟩
theorem iX3_settle_129 : At cX3_settle 129 (.if_icmp .ge 20) 3 132 := ⟨by decide +kernel, rfl⟩
theorem iX3_settle_132 : At cX3_settle 132 (.aload_n 0) 1 133 := ⟨by decide +kernel, rfl⟩
theorem iX3_settle_133 : At cX3_settle 133 (.getfield 27) 3 136 := ⟨by decide +kernel, rfl⟩
theorem iX3_settle_136 : At cX3_settle 136 (.iload_n 1) 1 137 := ⟨by decide +kernel, rfl⟩
theorem iX3_settle_137 : At cX3_settle 137 (.aload_n 0) 1 138 := ⟨by decide +kernel, rfl⟩
theorem iX3_settle_138 : At cX3_settle 138 (.iload_n 1) 1 139 := ⟨by decide +kernel, rfl⟩
theorem iX3_settle_139 : At cX3_settle 139 (.invokevirtual 69) 3 142 := ⟨by decide +kernel, rfl⟩
theorem iX3_settle_142 : At cX3_settle 142 (.iastore) 1 143 := ⟨by decide +kernel, rfl⟩
theorem iX3_settle_143 : At cX3_settle 143 (.iinc 1 1) 3 146 := ⟨by decide +kernel, rfl⟩
theorem iX3_settle_146 : At cX3_settle 146 (.goto (-22)) 3 149 := ⟨by decide +kernel, rfl⟩
theorem iX3_settle_149 : At cX3_settle 149 (.return_) 1 150 := ⟨by decide +kernel, rfl⟩
theorem iX3_belowWith_0 : At cX3_belowWith 0 (.aload_n 0) 1 1 := ⟨by decide +kernel, rfl⟩
theorem iX3_belowWith_1 : At cX3_belowWith 1 (.getfield 30) 3 4 := ⟨by decide +kernel, rfl⟩
theorem iX3_belowWith_4 : At cX3_belowWith 4 (.getfield 72) 3 7 := ⟨by decide +kernel, rfl⟩
theorem iX3_belowWith_7 : At cX3_belowWith 7 (.iload_n 1) 1 8 := ⟨by decide +kernel, rfl⟩
theorem iX3_belowWith_8 : At cX3_belowWith 8 (.iaload) 1 9 := ⟨by decide +kernel, rfl⟩
theorem iX3_belowWith_9 : At cX3_belowWith 9 (.bipush 10) 2 11 := ⟨by decide +kernel, rfl⟩
theorem iX3_belowWith_11 : At cX3_belowWith 11 (.iload_n 2) 1 12 := ⟨by decide +kernel, rfl⟩
theorem iX3_belowWith_12 : At cX3_belowWith 12 (.imul) 1 13 := ⟨by decide +kernel, rfl⟩
theorem iX3_belowWith_13 : At cX3_belowWith 13 (.iadd) 1 14 := ⟨by decide +kernel, rfl⟩
theorem iX3_belowWith_14 : At cX3_belowWith 14 (.ireturn) 1 15 := ⟨by decide +kernel, rfl⟩
theorem iX3_isNeighbour_0 : At cX3_isNeighbour 0 (.aload_n 0) 1 1 := ⟨by decide +kernel, rfl⟩
theorem iX3_isNeighbour_1 : At cX3_isNeighbour 1 (.getfield 30) 3 4 := ⟨by decide +kernel, rfl⟩
theorem iX3_isNeighbour_4 : At cX3_isNeighbour 4 (.getfield 75) 3 7 := ⟨by decide +kernel, rfl⟩
theorem iX3_isNeighbour_7 : At cX3_isNeighbour 7 (.iload_n 1) 1 8 := ⟨by decide +kernel, rfl⟩
theorem iX3_isNeighbour_8 : At cX3_isNeighbour 8 (.iaload) 1 9 := ⟨by decide +kernel, rfl⟩
theorem iX3_isNeighbour_9 : At cX3_isNeighbour 9 (.iload_n 2) 1 10 := ⟨by decide +kernel, rfl⟩
theorem iX3_isNeighbour_10 : At cX3_isNeighbour 10 (.ishr) 1 11 := ⟨by decide +kernel, rfl⟩
theorem iX3_isNeighbour_11 : At cX3_isNeighbour 11 (.iconst 1) 1 12 := ⟨by decide +kernel, rfl⟩
theorem iX3_isNeighbour_12 : At cX3_isNeighbour 12 (.iand) 1 13 := ⟨by decide +kernel, rfl⟩
theorem iX3_isNeighbour_13 : At cX3_isNeighbour 13 (.ifCond .eq 7) 3 16 := ⟨by decide +kernel, rfl⟩
theorem iX3_isNeighbour_16 : At cX3_isNeighbour 16 (.iconst 1) 1 17 := ⟨by decide +kernel, rfl⟩
theorem iX3_isNeighbour_17 : At cX3_isNeighbour 17 (.goto 4) 3 20 := ⟨by decide +kernel, rfl⟩
theorem iX3_isNeighbour_20 : At cX3_isNeighbour 20 (.iconst 0) 1 21 := ⟨by decide +kernel, rfl⟩
theorem iX3_isNeighbour_21 : At cX3_isNeighbour 21 (.ireturn) 1 22 := ⟨by decide +kernel, rfl⟩
theorem iX3_isSooner_0 : At cX3_isSooner 0 (.aload_n 0) 1 1 := ⟨by decide +kernel, rfl⟩
theorem iX3_isSooner_1 : At cX3_isSooner 1 (.getfield 9) 3 4 := ⟨by decide +kernel, rfl⟩
theorem iX3_isSooner_4 : At cX3_isSooner 4 (.iload_n 1) 1 5 := ⟨by decide +kernel, rfl⟩
theorem iX3_isSooner_5 : At cX3_isSooner 5 (.iaload) 1 6 := ⟨by decide +kernel, rfl⟩
theorem iX3_isSooner_6 : At cX3_isSooner 6 (.aload_n 0) 1 7 := ⟨by decide +kernel, rfl⟩
theorem iX3_isSooner_7 : At cX3_isSooner 7 (.getfield 15) 3 10 := ⟨by decide +kernel, rfl⟩
theorem iX3_isSooner_10 : At cX3_isSooner 10 (.iload_n 2) 1 11 := ⟨by decide +kernel, rfl⟩
theorem iX3_isSooner_11 : At cX3_isSooner 11 (.iaload) 1 12 := ⟨by decide +kernel, rfl⟩
theorem iX3_isSooner_12 : At cX3_isSooner 12 (.imul) 1 13 := ⟨by decide +kernel, rfl⟩
theorem iX3_isSooner_13 : At cX3_isSooner 13 (.istore_n 3) 1 14 := ⟨by decide +kernel, rfl⟩
theorem iX3_isSooner_14 : At cX3_isSooner 14 (.aload_n 0) 1 15 := ⟨by decide +kernel, rfl⟩
theorem iX3_isSooner_15 : At cX3_isSooner 15 (.getfield 9) 3 18 := ⟨by decide +kernel, rfl⟩
theorem iX3_isSooner_18 : At cX3_isSooner 18 (.iload_n 2) 1 19 := ⟨by decide +kernel, rfl⟩
theorem iX3_isSooner_19 : At cX3_isSooner 19 (.iaload) 1 20 := ⟨by decide +kernel, rfl⟩
theorem iX3_isSooner_20 : At cX3_isSooner 20 (.aload_n 0) 1 21 := ⟨by decide +kernel, rfl⟩
theorem iX3_isSooner_21 : At cX3_isSooner 21 (.getfield 15) 3 24 := ⟨by decide +kernel, rfl⟩
theorem iX3_isSooner_24 : At cX3_isSooner 24 (.iload_n 1) 1 25 := ⟨by decide +kernel, rfl⟩
theorem iX3_isSooner_25 : At cX3_isSooner 25 (.iaload) 1 26 := ⟨by decide +kernel, rfl⟩
theorem iX3_isSooner_26 : At cX3_isSooner 26 (.imul) 1 27 := ⟨by decide +kernel, rfl⟩
theorem iX3_isSooner_27 : At cX3_isSooner 27 (.istore 4) 2 29 := ⟨by decide +kernel, rfl⟩
theorem iX3_isSooner_29 : At cX3_isSooner 29 (.iload_n 3) 1 30 := ⟨by decide +kernel, rfl⟩
theorem iX3_isSooner_30 : At cX3_isSooner 30 (.iload 4) 2 32 := ⟨by decide +kernel, rfl⟩
theorem iX3_isSooner_32 : At cX3_isSooner 32 (.if_icmp .lt 14) 3 35 := ⟨by decide +kernel, rfl⟩
theorem iX3_isSooner_35 : At cX3_isSooner 35 (.iload_n 3) 1 36 := ⟨by decide +kernel, rfl⟩
theorem iX3_isSooner_36 : At cX3_isSooner 36 (.iload 4) 2 38 := ⟨by decide +kernel, rfl⟩
theorem iX3_isSooner_38 : At cX3_isSooner 38 (.if_icmp .ne 12) 3 41 := ⟨by decide +kernel, rfl⟩
theorem iX3_isSooner_41 : At cX3_isSooner 41 (.iload_n 1) 1 42 := ⟨by decide +kernel, rfl⟩
theorem iX3_isSooner_42 : At cX3_isSooner 42 (.iload_n 2) 1 43 := ⟨by decide +kernel, rfl⟩
theorem iX3_isSooner_43 : At cX3_isSooner 43 (.if_icmp .le 7) 3 46 := ⟨by decide +kernel, rfl⟩
theorem iX3_isSooner_46 : At cX3_isSooner 46 (.iconst 1) 1 47 := ⟨by decide +kernel, rfl⟩
theorem iX3_isSooner_47 : At cX3_isSooner 47 (.goto 4) 3 50 := ⟨by decide +kernel, rfl⟩
theorem iX3_isSooner_50 : At cX3_isSooner 50 (.iconst 0) 1 51 := ⟨by decide +kernel, rfl⟩
theorem iX3_isSooner_51 : At cX3_isSooner 51 (.ireturn) 1 52 := ⟨by decide +kernel, rfl⟩
theorem iX3_later_0 : At cX3_later 0 (.iload_n 1) 1 1 := ⟨by decide +kernel, rfl⟩
theorem iX3_later_1 : At cX3_later 1 (.iconst (-1)) 1 2 := ⟨by decide +kernel, rfl⟩
theorem iX3_later_2 : At cX3_later 2 (.if_icmp .eq 17) 3 5 := ⟨by decide +kernel, rfl⟩
theorem iX3_later_5 : At cX3_later 5 (.iload_n 2) 1 6 := ⟨by decide +kernel, rfl⟩
theorem iX3_later_6 : At cX3_later 6 (.iconst (-1)) 1 7 := ⟨by decide +kernel, rfl⟩
theorem iX3_later_7 : At cX3_later 7 (.if_icmp .eq 16) 3 10 := ⟨by decide +kernel, rfl⟩
theorem iX3_later_10 : At cX3_later 10 (.aload_n 0) 1 11 := ⟨by decide +kernel, rfl⟩
theorem iX3_later_11 : At cX3_later 11 (.iload_n 1) 1 12 := ⟨by decide +kernel, rfl⟩
theorem iX3_later_12 : At cX3_later 12 (.iload_n 2) 1 13 := ⟨by decide +kernel, rfl⟩
theorem iX3_later_13 : At cX3_later 13 (.invokevirtual 78) 3 16 := ⟨by decide +kernel, rfl⟩
theorem iX3_later_16 : At cX3_later 16 (.ifCond .eq 7) 3 19 := ⟨by decide +kernel, rfl⟩
theorem iX3_later_19 : At cX3_later 19 (.iload_n 2) 1 20 := ⟨by decide +kernel, rfl⟩
theorem iX3_later_20 : At cX3_later 20 (.goto 4) 3 23 := ⟨by decide +kernel, rfl⟩
theorem iX3_later_23 : At cX3_later 23 (.iload_n 1) 1 24 := ⟨by decide +kernel, rfl⟩
theorem iX3_later_24 : At cX3_later 24 (.ireturn) 1 25 := ⟨by decide +kernel, rfl⟩
theorem iX3_latestNeighbour_0 : At cX3_latestNeighbour 0 (.iconst (-1)) 1 1 := ⟨by decide +kernel, rfl⟩
theorem iX3_latestNeighbour_1 : At cX3_latestNeighbour 1 (.istore_n 2) 1 2 := ⟨by decide +kernel, rfl⟩
theorem iX3_latestNeighbour_2 : At cX3_latestNeighbour 2 (.iconst 0) 1 3 := ⟨by decide +kernel, rfl⟩
theorem iX3_latestNeighbour_3 : At cX3_latestNeighbour 3 (.istore_n 3) 1 4 := ⟨by decide +kernel, rfl⟩
theorem iX3_latestNeighbour_4 : At cX3_latestNeighbour 4 (.iload_n 3) 1 5 := ⟨by decide +kernel, rfl⟩
theorem iX3_latestNeighbour_5 : At cX3_latestNeighbour 5 (.aload_n 0) 1 6 := ⟨by decide +kernel, rfl⟩
theorem iX3_latestNeighbour_6 : At cX3_latestNeighbour 6 (.getfield 44) 3 9 := ⟨by decide +kernel, rfl⟩
theorem iX3_latestNeighbour_9 : At cX3_latestNeighbour 9 (.if_icmp .ge 25) 3 12 := ⟨by decide +kernel, rfl⟩
theorem iX3_latestNeighbour_12 : At cX3_latestNeighbour 12 (.aload_n 0) 1 13 := ⟨by decide +kernel, rfl⟩
theorem iX3_latestNeighbour_13 : At cX3_latestNeighbour 13 (.iload_n 1) 1 14 := ⟨by decide +kernel, rfl⟩
theorem iX3_latestNeighbour_14 : At cX3_latestNeighbour 14 (.iload_n 3) 1 15 := ⟨by decide +kernel, rfl⟩
theorem iX3_latestNeighbour_15 : At cX3_latestNeighbour 15 (.invokevirtual 82) 3 18 := ⟨by decide +kernel, rfl⟩
theorem iX3_latestNeighbour_18 : At cX3_latestNeighbour 18 (.ifCond .eq 10) 3 21 := ⟨by decide +kernel, rfl⟩
theorem iX3_latestNeighbour_21 : At cX3_latestNeighbour 21 (.aload_n 0) 1 22 := ⟨by decide +kernel, rfl⟩
theorem iX3_latestNeighbour_22 : At cX3_latestNeighbour 22 (.iload_n 2) 1 23 := ⟨by decide +kernel, rfl⟩
theorem iX3_latestNeighbour_23 : At cX3_latestNeighbour 23 (.iload_n 3) 1 24 := ⟨by decide +kernel, rfl⟩
theorem iX3_latestNeighbour_24 : At cX3_latestNeighbour 24 (.invokevirtual 85) 3 27 := ⟨by decide +kernel, rfl⟩
theorem iX3_latestNeighbour_27 : At cX3_latestNeighbour 27 (.istore_n 2) 1 28 := ⟨by decide +kernel, rfl⟩
theorem iX3_latestNeighbour_28 : At cX3_latestNeighbour 28 (.iinc 3 1) 3 31 := ⟨by decide +kernel, rfl⟩
theorem iX3_latestNeighbour_31 : At cX3_latestNeighbour 31 (.goto (-27)) 3 34 := ⟨by decide +kernel, rfl⟩
theorem iX3_latestNeighbour_34 : At cX3_latestNeighbour 34 (.iload_n 2) 1 35 := ⟨by decide +kernel, rfl⟩
theorem iX3_latestNeighbour_35 : At cX3_latestNeighbour 35 (.ireturn) 1 36 := ⟨by decide +kernel, rfl⟩
theorem iX3_isTop_0 : At cX3_isTop 0 (.iconst 0) 1 1 := ⟨by decide +kernel, rfl⟩
theorem iX3_isTop_1 : At cX3_isTop 1 (.istore_n 2) 1 2 := ⟨by decide +kernel, rfl⟩
theorem iX3_isTop_2 : At cX3_isTop 2 (.iload_n 2) 1 3 := ⟨by decide +kernel, rfl⟩
theorem iX3_isTop_3 : At cX3_isTop 3 (.aload_n 0) 1 4 := ⟨by decide +kernel, rfl⟩
theorem iX3_isTop_4 : At cX3_isTop 4 (.getfield 44) 3 7 := ⟨by decide +kernel, rfl⟩
theorem iX3_isTop_7 : At cX3_isTop 7 (.if_icmp .ge 29) 3 10 := ⟨by decide +kernel, rfl⟩
theorem iX3_isTop_10 : At cX3_isTop 10 (.aload_n 0) 1 11 := ⟨by decide +kernel, rfl⟩
theorem iX3_isTop_11 : At cX3_isTop 11 (.iload_n 1) 1 12 := ⟨by decide +kernel, rfl⟩
theorem iX3_isTop_12 : At cX3_isTop 12 (.iload_n 2) 1 13 := ⟨by decide +kernel, rfl⟩
theorem iX3_isTop_13 : At cX3_isTop 13 (.invokevirtual 82) 3 16 := ⟨by decide +kernel, rfl⟩
theorem iX3_isTop_16 : At cX3_isTop 16 (.ifCond .eq 14) 3 19 := ⟨by decide +kernel, rfl⟩
theorem iX3_isTop_19 : At cX3_isTop 19 (.aload_n 0) 1 20 := ⟨by decide +kernel, rfl⟩
theorem iX3_isTop_20 : At cX3_isTop 20 (.iload_n 1) 1 21 := ⟨by decide +kernel, rfl⟩
theorem iX3_isTop_21 : At cX3_isTop 21 (.iload_n 2) 1 22 := ⟨by decide +kernel, rfl⟩
theorem iX3_isTop_22 : At cX3_isTop 22 (.invokevirtual 78) 3 25 := ⟨by decide +kernel, rfl⟩
theorem iX3_isTop_25 : At cX3_isTop 25 (.ifCond .eq 5) 3 28 := ⟨by decide +kernel, rfl⟩
theorem iX3_isTop_28 : At cX3_isTop 28 (.iconst 0) 1 29 := ⟨by decide +kernel, rfl⟩
theorem iX3_isTop_29 : At cX3_isTop 29 (.ireturn) 1 30 := ⟨by decide +kernel, rfl⟩
theorem iX3_isTop_30 : At cX3_isTop 30 (.iinc 2 1) 3 33 := ⟨by decide +kernel, rfl⟩
theorem iX3_isTop_33 : At cX3_isTop 33 (.goto (-31)) 3 36 := ⟨by decide +kernel, rfl⟩
theorem iX3_isTop_36 : At cX3_isTop 36 (.iconst 1) 1 37 := ⟨by decide +kernel, rfl⟩
theorem iX3_isTop_37 : At cX3_isTop 37 (.ireturn) 1 38 := ⟨by decide +kernel, rfl⟩
theorem iX3_climb_0 : At cX3_climb 0 (.iload_n 1) 1 1 := ⟨by decide +kernel, rfl⟩
theorem iX3_climb_1 : At cX3_climb 1 (.istore_n 2) 1 2 := ⟨by decide +kernel, rfl⟩
theorem iX3_climb_2 : At cX3_climb 2 (.iconst 0) 1 3 := ⟨by decide +kernel, rfl⟩
theorem iX3_climb_3 : At cX3_climb 3 (.istore_n 3) 1 4 := ⟨by decide +kernel, rfl⟩
theorem iX3_climb_4 : At cX3_climb 4 (.iload_n 3) 1 5 := ⟨by decide +kernel, rfl⟩
theorem iX3_climb_5 : At cX3_climb 5 (.bipush 10) 2 7 := ⟨by decide +kernel, rfl⟩
theorem iX3_climb_7 : At cX3_climb 7 (.if_icmp .ge 23) 3 10 := ⟨by decide +kernel, rfl⟩
theorem iX3_climb_10 : At cX3_climb 10 (.aload_n 0) 1 11 := ⟨by decide +kernel, rfl⟩
theorem iX3_climb_11 : At cX3_climb 11 (.iload_n 2) 1 12 := ⟨by decide +kernel, rfl⟩
theorem iX3_climb_12 : At cX3_climb 12 (.invokevirtual 61) 3 15 := ⟨by decide +kernel, rfl⟩
theorem iX3_climb_15 : At cX3_climb 15 (.ifCond .ne 15) 3 18 := ⟨by decide +kernel, rfl⟩
theorem iX3_climb_18 : At cX3_climb 18 (.aload_n 0) 1 19 := ⟨by decide +kernel, rfl⟩
theorem iX3_climb_19 : At cX3_climb 19 (.iload_n 2) 1 20 := ⟨by decide +kernel, rfl⟩
theorem iX3_climb_20 : At cX3_climb 20 (.invokevirtual 88) 3 23 := ⟨by decide +kernel, rfl⟩
theorem iX3_climb_23 : At cX3_climb 23 (.istore_n 2) 1 24 := ⟨by decide +kernel, rfl⟩
theorem iX3_climb_24 : At cX3_climb 24 (.iinc 3 1) 3 27 := ⟨by decide +kernel, rfl⟩
theorem iX3_climb_27 : At cX3_climb 27 (.goto (-23)) 3 30 := ⟨by decide +kernel, rfl⟩
theorem iX3_climb_30 : At cX3_climb 30 (.aload_n 0) 1 31 := ⟨by decide +kernel, rfl⟩
theorem iX3_climb_31 : At cX3_climb 31 (.getfield 18) 3 34 := ⟨by decide +kernel, rfl⟩
theorem iX3_climb_34 : At cX3_climb 34 (.iload_n 1) 1 35 := ⟨by decide +kernel, rfl⟩
theorem iX3_climb_35 : At cX3_climb 35 (.iload_n 2) 1 36 := ⟨by decide +kernel, rfl⟩
theorem iX3_climb_36 : At cX3_climb 36 (.iastore) 1 37 := ⟨by decide +kernel, rfl⟩
theorem iX3_climb_37 : At cX3_climb 37 (.aload_n 0) 1 38 := ⟨by decide +kernel, rfl⟩
theorem iX3_climb_38 : At cX3_climb 38 (.getfield 21) 3 41 := ⟨by decide +kernel, rfl⟩
theorem iX3_climb_41 : At cX3_climb 41 (.iload_n 1) 1 42 := ⟨by decide +kernel, rfl⟩
theorem iX3_climb_42 : At cX3_climb 42 (.iload_n 3) 1 43 := ⟨by decide +kernel, rfl⟩
theorem iX3_climb_43 : At cX3_climb 43 (.iastore) 1 44 := ⟨by decide +kernel, rfl⟩
theorem iX3_climb_44 : At cX3_climb 44 (.return_) 1 45 := ⟨by decide +kernel, rfl⟩
theorem iX3_basin_0 : At cX3_basin 0 (.iconst 0) 1 1 := ⟨by decide +kernel, rfl⟩
theorem iX3_basin_1 : At cX3_basin 1 (.istore_n 2) 1 2 := ⟨by decide +kernel, rfl⟩
theorem iX3_basin_2 : At cX3_basin 2 (.iconst 0) 1 3 := ⟨by decide +kernel, rfl⟩
theorem iX3_basin_3 : At cX3_basin 3 (.istore_n 3) 1 4 := ⟨by decide +kernel, rfl⟩
theorem iX3_basin_4 : At cX3_basin 4 (.iload_n 3) 1 5 := ⟨by decide +kernel, rfl⟩
theorem iX3_basin_5 : At cX3_basin 5 (.aload_n 0) 1 6 := ⟨by decide +kernel, rfl⟩
theorem iX3_basin_6 : At cX3_basin 6 (.getfield 44) 3 9 := ⟨by decide +kernel, rfl⟩
theorem iX3_basin_9 : At cX3_basin 9 (.if_icmp .ge 25) 3 12 := ⟨by decide +kernel, rfl⟩
theorem iX3_basin_12 : At cX3_basin 12 (.aload_n 0) 1 13 := ⟨by decide +kernel, rfl⟩
theorem iX3_basin_13 : At cX3_basin 13 (.getfield 18) 3 16 := ⟨by decide +kernel, rfl⟩
theorem iX3_basin_16 : At cX3_basin 16 (.iload_n 3) 1 17 := ⟨by decide +kernel, rfl⟩
theorem iX3_basin_17 : At cX3_basin 17 (.iaload) 1 18 := ⟨by decide +kernel, rfl⟩
theorem iX3_basin_18 : At cX3_basin 18 (.iload_n 1) 1 19 := ⟨by decide +kernel, rfl⟩
theorem iX3_basin_19 : At cX3_basin 19 (.if_icmp .ne 9) 3 22 := ⟨by decide +kernel, rfl⟩
theorem iX3_basin_22 : At cX3_basin 22 (.iload_n 2) 1 23 := ⟨by decide +kernel, rfl⟩
theorem iX3_basin_23 : At cX3_basin 23 (.iconst 1) 1 24 := ⟨by decide +kernel, rfl⟩
theorem iX3_basin_24 : At cX3_basin 24 (.iload_n 3) 1 25 := ⟨by decide +kernel, rfl⟩
theorem iX3_basin_25 : At cX3_basin 25 (.ishl) 1 26 := ⟨by decide +kernel, rfl⟩
theorem iX3_basin_26 : At cX3_basin 26 (.ior) 1 27 := ⟨by decide +kernel, rfl⟩
theorem iX3_basin_27 : At cX3_basin 27 (.istore_n 2) 1 28 := ⟨by decide +kernel, rfl⟩
theorem iX3_basin_28 : At cX3_basin 28 (.iinc 3 1) 3 31 := ⟨by decide +kernel, rfl⟩
theorem iX3_basin_31 : At cX3_basin 31 (.goto (-27)) 3 34 := ⟨by decide +kernel, rfl⟩
theorem iX3_basin_34 : At cX3_basin 34 (.iload_n 2) 1 35 := ⟨by decide +kernel, rfl⟩
theorem iX3_basin_35 : At cX3_basin 35 (.ireturn) 1 36 := ⟨by decide +kernel, rfl⟩
theorem iX3_passBetween_0 : At cX3_passBetween 0 (.iconst (-1)) 1 1 := ⟨by decide +kernel, rfl⟩
theorem iX3_passBetween_1 : At cX3_passBetween 1 (.istore_n 3) 1 2 := ⟨by decide +kernel, rfl⟩
theorem iX3_passBetween_2 : At cX3_passBetween 2 (.iload_n 1) 1 3 := ⟨by decide +kernel, rfl⟩
theorem iX3_passBetween_3 : At cX3_passBetween 3 (.iload_n 2) 1 4 := ⟨by decide +kernel, rfl⟩
theorem iX3_passBetween_4 : At cX3_passBetween 4 (.if_icmp .ne 5) 3 7 := ⟨by decide +kernel, rfl⟩
theorem iX3_passBetween_7 : At cX3_passBetween 7 (.iload_n 3) 1 8 := ⟨by decide +kernel, rfl⟩
theorem iX3_passBetween_8 : At cX3_passBetween 8 (.ireturn) 1 9 := ⟨by decide +kernel, rfl⟩
theorem iX3_passBetween_9 : At cX3_passBetween 9 (.iconst 0) 1 10 := ⟨by decide +kernel, rfl⟩
theorem iX3_passBetween_10 : At cX3_passBetween 10 (.istore 4) 2 12 := ⟨by decide +kernel, rfl⟩
theorem iX3_passBetween_12 : At cX3_passBetween 12 (.iload 4) 2 14 := ⟨by decide +kernel, rfl⟩
theorem iX3_passBetween_14 : At cX3_passBetween 14 (.aload_n 0) 1 15 := ⟨by decide +kernel, rfl⟩
theorem iX3_passBetween_15 : At cX3_passBetween 15 (.getfield 44) 3 18 := ⟨by decide +kernel, rfl⟩
theorem iX3_passBetween_18 : At cX3_passBetween 18 (.if_icmp .ge 84) 3 21 := ⟨by decide +kernel, rfl⟩
theorem iX3_passBetween_21 : At cX3_passBetween 21 (.iconst 0) 1 22 := ⟨by decide +kernel, rfl⟩
theorem iX3_passBetween_22 : At cX3_passBetween 22 (.istore 5) 2 24 := ⟨by decide +kernel, rfl⟩
theorem iX3_passBetween_24 : At cX3_passBetween 24 (.iload 5) 2 26 := ⟨by decide +kernel, rfl⟩
theorem iX3_passBetween_26 : At cX3_passBetween 26 (.aload_n 0) 1 27 := ⟨by decide +kernel, rfl⟩
theorem iX3_passBetween_27 : At cX3_passBetween 27 (.getfield 44) 3 30 := ⟨by decide +kernel, rfl⟩
theorem iX3_passBetween_30 : At cX3_passBetween 30 (.if_icmp .ge 66) 3 33 := ⟨by decide +kernel, rfl⟩
theorem iX3_passBetween_33 : At cX3_passBetween 33 (.aload_n 0) 1 34 := ⟨by decide +kernel, rfl⟩
theorem iX3_passBetween_34 : At cX3_passBetween 34 (.getfield 18) 3 37 := ⟨by decide +kernel, rfl⟩
theorem iX3_passBetween_37 : At cX3_passBetween 37 (.iload 4) 2 39 := ⟨by decide +kernel, rfl⟩
theorem iX3_passBetween_39 : At cX3_passBetween 39 (.iaload) 1 40 := ⟨by decide +kernel, rfl⟩
theorem iX3_passBetween_40 : At cX3_passBetween 40 (.iload_n 1) 1 41 := ⟨by decide +kernel, rfl⟩
theorem iX3_passBetween_41 : At cX3_passBetween 41 (.if_icmp .ne 49) 3 44 := ⟨by decide +kernel, rfl⟩
theorem iX3_passBetween_44 : At cX3_passBetween 44 (.aload_n 0) 1 45 := ⟨by decide +kernel, rfl⟩
theorem iX3_passBetween_45 : At cX3_passBetween 45 (.getfield 18) 3 48 := ⟨by decide +kernel, rfl⟩
theorem iX3_passBetween_48 : At cX3_passBetween 48 (.iload 5) 2 50 := ⟨by decide +kernel, rfl⟩
theorem iX3_passBetween_50 : At cX3_passBetween 50 (.iaload) 1 51 := ⟨by decide +kernel, rfl⟩
theorem iX3_passBetween_51 : At cX3_passBetween 51 (.iload_n 2) 1 52 := ⟨by decide +kernel, rfl⟩
theorem iX3_passBetween_52 : At cX3_passBetween 52 (.if_icmp .ne 38) 3 55 := ⟨by decide +kernel, rfl⟩
theorem iX3_passBetween_55 : At cX3_passBetween 55 (.aload_n 0) 1 56 := ⟨by decide +kernel, rfl⟩
theorem iX3_passBetween_56 : At cX3_passBetween 56 (.iload 4) 2 58 := ⟨by decide +kernel, rfl⟩
theorem iX3_passBetween_58 : At cX3_passBetween 58 (.iload 5) 2 60 := ⟨by decide +kernel, rfl⟩
theorem iX3_passBetween_60 : At cX3_passBetween 60 (.invokevirtual 82) 3 63 := ⟨by decide +kernel, rfl⟩
theorem iX3_passBetween_63 : At cX3_passBetween 63 (.ifCond .eq 27) 3 66 := ⟨by decide +kernel, rfl⟩
theorem iX3_passBetween_66 : At cX3_passBetween 66 (.aload_n 0) 1 67 := ⟨by decide +kernel, rfl⟩
theorem iX3_passBetween_67 : At cX3_passBetween 67 (.iload_n 3) 1 68 := ⟨by decide +kernel, rfl⟩
theorem iX3_passBetween_68 : At cX3_passBetween 68 (.aload_n 0) 1 69 := ⟨by decide +kernel, rfl⟩
theorem iX3_passBetween_69 : At cX3_passBetween 69 (.iload 4) 2 71 := ⟨by decide +kernel, rfl⟩
theorem iX3_passBetween_71 : At cX3_passBetween 71 (.iload 5) 2 73 := ⟨by decide +kernel, rfl⟩
theorem iX3_passBetween_73 : At cX3_passBetween 73 (.invokevirtual 78) 3 76 := ⟨by decide +kernel, rfl⟩
theorem iX3_passBetween_76 : At cX3_passBetween 76 (.ifCond .eq 8) 3 79 := ⟨by decide +kernel, rfl⟩
theorem iX3_passBetween_79 : At cX3_passBetween 79 (.iload 4) 2 81 := ⟨by decide +kernel, rfl⟩
theorem iX3_passBetween_81 : At cX3_passBetween 81 (.goto 5) 3 84 := ⟨by decide +kernel, rfl⟩
theorem iX3_passBetween_84 : At cX3_passBetween 84 (.iload 5) 2 86 := ⟨by decide +kernel, rfl⟩
theorem iX3_passBetween_86 : At cX3_passBetween 86 (.invokevirtual 85) 3 89 := ⟨by decide +kernel, rfl⟩
theorem iX3_passBetween_89 : At cX3_passBetween 89 (.istore_n 3) 1 90 := ⟨by decide +kernel, rfl⟩
theorem iX3_passBetween_90 : At cX3_passBetween 90 (.iinc 5 1) 3 93 := ⟨by decide +kernel, rfl⟩
theorem iX3_passBetween_93 : At cX3_passBetween 93 (.goto (-69)) 3 96 := ⟨by decide +kernel, rfl⟩
theorem iX3_passBetween_96 : At cX3_passBetween 96 (.iinc 4 1) 3 99 := ⟨by decide +kernel, rfl⟩
theorem iX3_passBetween_99 : At cX3_passBetween 99 (.goto (-87)) 3 102 := ⟨by decide +kernel, rfl⟩
theorem iX3_passBetween_102 : At cX3_passBetween 102 (.iload_n 3) 1 103 := ⟨by decide +kernel, rfl⟩
theorem iX3_passBetween_103 : At cX3_passBetween 103 (.ireturn) 1 104 := ⟨by decide +kernel, rfl⟩
theorem iX3_drowner_0 : At cX3_drowner 0 (.iconst (-1)) 1 1 := ⟨by decide +kernel, rfl⟩
theorem iX3_drowner_1 : At cX3_drowner 1 (.istore_n 2) 1 2 := ⟨by decide +kernel, rfl⟩
theorem iX3_drowner_2 : At cX3_drowner 2 (.iconst 0) 1 3 := ⟨by decide +kernel, rfl⟩
theorem iX3_drowner_3 : At cX3_drowner 3 (.istore_n 3) 1 4 := ⟨by decide +kernel, rfl⟩
theorem iX3_drowner_4 : At cX3_drowner 4 (.iload_n 3) 1 5 := ⟨by decide +kernel, rfl⟩
theorem iX3_drowner_5 : At cX3_drowner 5 (.aload_n 0) 1 6 := ⟨by decide +kernel, rfl⟩
theorem iX3_drowner_6 : At cX3_drowner 6 (.getfield 44) 3 9 := ⟨by decide +kernel, rfl⟩
theorem iX3_drowner_9 : At cX3_drowner 9 (.if_icmp .ge 47) 3 12 := ⟨by decide +kernel, rfl⟩
theorem iX3_drowner_12 : At cX3_drowner 12 (.aload_n 0) 1 13 := ⟨by decide +kernel, rfl⟩
theorem iX3_drowner_13 : At cX3_drowner 13 (.iload_n 3) 1 14 := ⟨by decide +kernel, rfl⟩
theorem iX3_drowner_14 : At cX3_drowner 14 (.invokevirtual 61) 3 17 := ⟨by decide +kernel, rfl⟩
theorem iX3_drowner_17 : At cX3_drowner 17 (.ifCond .eq 33) 3 20 := ⟨by decide +kernel, rfl⟩
theorem iX3_drowner_20 : At cX3_drowner 20 (.aload_n 0) 1 21 := ⟨by decide +kernel, rfl⟩
theorem iX3_drowner_21 : At cX3_drowner 21 (.iload_n 1) 1 22 := ⟨by decide +kernel, rfl⟩
theorem iX3_drowner_22 : At cX3_drowner 22 (.iload_n 3) 1 23 := ⟨by decide +kernel, rfl⟩
theorem iX3_drowner_23 : At cX3_drowner 23 (.invokevirtual 78) 3 26 := ⟨by decide +kernel, rfl⟩
theorem iX3_drowner_26 : At cX3_drowner 26 (.ifCond .eq 24) 3 29 := ⟨by decide +kernel, rfl⟩
theorem iX3_drowner_29 : At cX3_drowner 29 (.aload_n 0) 1 30 := ⟨by decide +kernel, rfl⟩
theorem iX3_drowner_30 : At cX3_drowner 30 (.iload_n 1) 1 31 := ⟨by decide +kernel, rfl⟩
theorem iX3_drowner_31 : At cX3_drowner 31 (.aload_n 0) 1 32 := ⟨by decide +kernel, rfl⟩
theorem iX3_drowner_32 : At cX3_drowner 32 (.iload_n 1) 1 33 := ⟨by decide +kernel, rfl⟩
theorem iX3_drowner_33 : At cX3_drowner 33 (.iload_n 3) 1 34 := ⟨by decide +kernel, rfl⟩
theorem iX3_drowner_34 : At cX3_drowner 34 (.invokevirtual 91) 3 37 := ⟨by decide +kernel, rfl⟩
theorem iX3_drowner_37 : At cX3_drowner 37 (.invokevirtual 94) 3 40 := ⟨by decide +kernel, rfl⟩
theorem iX3_drowner_40 : At cX3_drowner 40 (.ifCond .eq 10) 3 43 := ⟨by decide +kernel, rfl⟩
theorem iX3_drowner_43 : At cX3_drowner 43 (.aload_n 0) 1 44 := ⟨by decide +kernel, rfl⟩
theorem iX3_drowner_44 : At cX3_drowner 44 (.iload_n 2) 1 45 := ⟨by decide +kernel, rfl⟩
theorem iX3_drowner_45 : At cX3_drowner 45 (.iload_n 3) 1 46 := ⟨by decide +kernel, rfl⟩
theorem iX3_drowner_46 : At cX3_drowner 46 (.invokevirtual 85) 3 49 := ⟨by decide +kernel, rfl⟩
theorem iX3_drowner_49 : At cX3_drowner 49 (.istore_n 2) 1 50 := ⟨by decide +kernel, rfl⟩
theorem iX3_drowner_50 : At cX3_drowner 50 (.iinc 3 1) 3 53 := ⟨by decide +kernel, rfl⟩
theorem iX3_drowner_53 : At cX3_drowner 53 (.goto (-49)) 3 56 := ⟨by decide +kernel, rfl⟩
theorem iX3_drowner_56 : At cX3_drowner 56 (.iload_n 2) 1 57 := ⟨by decide +kernel, rfl⟩
theorem iX3_drowner_57 : At cX3_drowner 57 (.ireturn) 1 58 := ⟨by decide +kernel, rfl⟩
theorem iX3_drowns_0 : At cX3_drowns 0 (.iload_n 2) 1 1 := ⟨by decide +kernel, rfl⟩
theorem iX3_drowns_1 : At cX3_drowns 1 (.iconst (-1)) 1 2 := ⟨by decide +kernel, rfl⟩
theorem iX3_drowns_2 : At cX3_drowns 2 (.if_icmp .eq 47) 3 5 := ⟨by decide +kernel, rfl⟩
theorem iX3_drowns_5 : At cX3_drowns 5 (.bipush 100) 2 7 := ⟨by decide +kernel, rfl⟩
theorem iX3_drowns_7 : At cX3_drowns 7 (.aload_n 0) 1 8 := ⟨by decide +kernel, rfl⟩
theorem iX3_drowns_8 : At cX3_drowns 8 (.getfield 9) 3 11 := ⟨by decide +kernel, rfl⟩
theorem iX3_drowns_11 : At cX3_drowns 11 (.iload_n 2) 1 12 := ⟨by decide +kernel, rfl⟩
theorem iX3_drowns_12 : At cX3_drowns 12 (.iaload) 1 13 := ⟨by decide +kernel, rfl⟩
theorem iX3_drowns_13 : At cX3_drowns 13 (.imul) 1 14 := ⟨by decide +kernel, rfl⟩
theorem iX3_drowns_14 : At cX3_drowns 14 (.aload_n 0) 1 15 := ⟨by decide +kernel, rfl⟩
theorem iX3_drowns_15 : At cX3_drowns 15 (.getfield 15) 3 18 := ⟨by decide +kernel, rfl⟩
theorem iX3_drowns_18 : At cX3_drowns 18 (.iload_n 1) 1 19 := ⟨by decide +kernel, rfl⟩
theorem iX3_drowns_19 : At cX3_drowns 19 (.iaload) 1 20 := ⟨by decide +kernel, rfl⟩
theorem iX3_drowns_20 : At cX3_drowns 20 (.imul) 1 21 := ⟨by decide +kernel, rfl⟩
theorem iX3_drowns_21 : At cX3_drowns 21 (.aload_n 0) 1 22 := ⟨by decide +kernel, rfl⟩
theorem iX3_drowns_22 : At cX3_drowns 22 (.getfield 30) 3 25 := ⟨by decide +kernel, rfl⟩
theorem iX3_drowns_25 : At cX3_drowns 25 (.getfield 97) 3 28 := ⟨by decide +kernel, rfl⟩
theorem iX3_drowns_28 : At cX3_drowns 28 (.aload_n 0) 1 29 := ⟨by decide +kernel, rfl⟩
theorem iX3_drowns_29 : At cX3_drowns 29 (.getfield 9) 3 32 := ⟨by decide +kernel, rfl⟩
theorem iX3_drowns_32 : At cX3_drowns 32 (.iload_n 1) 1 33 := ⟨by decide +kernel, rfl⟩
theorem iX3_drowns_33 : At cX3_drowns 33 (.iaload) 1 34 := ⟨by decide +kernel, rfl⟩
theorem iX3_drowns_34 : At cX3_drowns 34 (.imul) 1 35 := ⟨by decide +kernel, rfl⟩
theorem iX3_drowns_35 : At cX3_drowns 35 (.aload_n 0) 1 36 := ⟨by decide +kernel, rfl⟩
theorem iX3_drowns_36 : At cX3_drowns 36 (.getfield 15) 3 39 := ⟨by decide +kernel, rfl⟩
theorem iX3_drowns_39 : At cX3_drowns 39 (.iload_n 2) 1 40 := ⟨by decide +kernel, rfl⟩
theorem iX3_drowns_40 : At cX3_drowns 40 (.iaload) 1 41 := ⟨by decide +kernel, rfl⟩
theorem iX3_drowns_41 : At cX3_drowns 41 (.imul) 1 42 := ⟨by decide +kernel, rfl⟩
theorem iX3_drowns_42 : At cX3_drowns 42 (.if_icmp .lt 7) 3 45 := ⟨by decide +kernel, rfl⟩
theorem iX3_drowns_45 : At cX3_drowns 45 (.iconst 1) 1 46 := ⟨by decide +kernel, rfl⟩
theorem iX3_drowns_46 : At cX3_drowns 46 (.goto 4) 3 49 := ⟨by decide +kernel, rfl⟩
theorem iX3_drowns_49 : At cX3_drowns 49 (.iconst 0) 1 50 := ⟨by decide +kernel, rfl⟩
theorem iX3_drowns_50 : At cX3_drowns 50 (.ireturn) 1 51 := ⟨by decide +kernel, rfl⟩
theorem iX3_headOf_0 : At cX3_headOf 0 (.iload_n 1) 1 1 := ⟨by decide +kernel, rfl⟩
theorem iX3_headOf_1 : At cX3_headOf 1 (.istore_n 2) 1 2 := ⟨by decide +kernel, rfl⟩
theorem iX3_headOf_2 : At cX3_headOf 2 (.iconst 0) 1 3 := ⟨by decide +kernel, rfl⟩
theorem iX3_headOf_3 : At cX3_headOf 3 (.istore_n 3) 1 4 := ⟨by decide +kernel, rfl⟩
theorem iX3_headOf_4 : At cX3_headOf 4 (.iload_n 3) 1 5 := ⟨by decide +kernel, rfl⟩
theorem iX3_headOf_5 : At cX3_headOf 5 (.bipush 10) 2 7 := ⟨by decide +kernel, rfl⟩
theorem iX3_headOf_7 : At cX3_headOf 7 (.if_icmp .ge 26) 3 10 := ⟨by decide +kernel, rfl⟩
theorem iX3_headOf_10 : At cX3_headOf 10 (.aload_n 0) 1 11 := ⟨by decide +kernel, rfl⟩
theorem iX3_headOf_11 : At cX3_headOf 11 (.getfield 24) 3 14 := ⟨by decide +kernel, rfl⟩
theorem iX3_headOf_14 : At cX3_headOf 14 (.iload_n 2) 1 15 := ⟨by decide +kernel, rfl⟩
theorem iX3_headOf_15 : At cX3_headOf 15 (.iaload) 1 16 := ⟨by decide +kernel, rfl⟩
theorem iX3_headOf_16 : At cX3_headOf 16 (.iconst (-1)) 1 17 := ⟨by decide +kernel, rfl⟩
theorem iX3_headOf_17 : At cX3_headOf 17 (.if_icmp .eq 16) 3 20 := ⟨by decide +kernel, rfl⟩
theorem iX3_headOf_20 : At cX3_headOf 20 (.aload_n 0) 1 21 := ⟨by decide +kernel, rfl⟩
theorem iX3_headOf_21 : At cX3_headOf 21 (.getfield 24) 3 24 := ⟨by decide +kernel, rfl⟩
theorem iX3_headOf_24 : At cX3_headOf 24 (.iload_n 2) 1 25 := ⟨by decide +kernel, rfl⟩
theorem iX3_headOf_25 : At cX3_headOf 25 (.iaload) 1 26 := ⟨by decide +kernel, rfl⟩
theorem iX3_headOf_26 : At cX3_headOf 26 (.istore_n 2) 1 27 := ⟨by decide +kernel, rfl⟩
theorem iX3_headOf_27 : At cX3_headOf 27 (.iinc 3 1) 3 30 := ⟨by decide +kernel, rfl⟩
theorem iX3_headOf_30 : At cX3_headOf 30 (.goto (-26)) 3 33 := ⟨by decide +kernel, rfl⟩
theorem iX3_headOf_33 : At cX3_headOf 33 (.iload_n 2) 1 34 := ⟨by decide +kernel, rfl⟩
theorem iX3_headOf_34 : At cX3_headOf 34 (.ireturn) 1 35 := ⟨by decide +kernel, rfl⟩
theorem iX3_tops_0 : At cX3_tops 0 (.iconst 0) 1 1 := ⟨by decide +kernel, rfl⟩
theorem iX3_tops_1 : At cX3_tops 1 (.istore_n 1) 1 2 := ⟨by decide +kernel, rfl⟩
theorem iX3_tops_2 : At cX3_tops 2 (.iconst 0) 1 3 := ⟨by decide +kernel, rfl⟩
theorem iX3_tops_3 : At cX3_tops 3 (.istore_n 2) 1 4 := ⟨by decide +kernel, rfl⟩
theorem iX3_tops_4 : At cX3_tops 4 (.iload_n 2) 1 5 := ⟨by decide +kernel, rfl⟩
theorem iX3_tops_5 : At cX3_tops 5 (.aload_n 0) 1 6 := ⟨by decide +kernel, rfl⟩
theorem iX3_tops_6 : At cX3_tops 6 (.getfield 44) 3 9 := ⟨by decide +kernel, rfl⟩
theorem iX3_tops_9 : At cX3_tops 9 (.if_icmp .ge 23) 3 12 := ⟨by decide +kernel, rfl⟩
theorem iX3_tops_12 : At cX3_tops 12 (.aload_n 0) 1 13 := ⟨by decide +kernel, rfl⟩
theorem iX3_tops_13 : At cX3_tops 13 (.iload_n 2) 1 14 := ⟨by decide +kernel, rfl⟩
theorem iX3_tops_14 : At cX3_tops 14 (.invokevirtual 61) 3 17 := ⟨by decide +kernel, rfl⟩
theorem iX3_tops_17 : At cX3_tops 17 (.ifCond .eq 9) 3 20 := ⟨by decide +kernel, rfl⟩
theorem iX3_tops_20 : At cX3_tops 20 (.iload_n 1) 1 21 := ⟨by decide +kernel, rfl⟩
theorem iX3_tops_21 : At cX3_tops 21 (.iconst 1) 1 22 := ⟨by decide +kernel, rfl⟩
theorem iX3_tops_22 : At cX3_tops 22 (.iload_n 2) 1 23 := ⟨by decide +kernel, rfl⟩
theorem iX3_tops_23 : At cX3_tops 23 (.ishl) 1 24 := ⟨by decide +kernel, rfl⟩
theorem iX3_tops_24 : At cX3_tops 24 (.ior) 1 25 := ⟨by decide +kernel, rfl⟩
theorem iX3_tops_25 : At cX3_tops 25 (.istore_n 1) 1 26 := ⟨by decide +kernel, rfl⟩
theorem iX3_tops_26 : At cX3_tops 26 (.iinc 2 1) 3 29 := ⟨by decide +kernel, rfl⟩
theorem iX3_tops_29 : At cX3_tops 29 (.goto (-25)) 3 32 := ⟨by decide +kernel, rfl⟩
theorem iX3_tops_32 : At cX3_tops 32 (.iload_n 1) 1 33 := ⟨by decide +kernel, rfl⟩
theorem iX3_tops_33 : At cX3_tops 33 (.ireturn) 1 34 := ⟨by decide +kernel, rfl⟩
theorem iX3_drownedTops_0 : At cX3_drownedTops 0 (.iconst 0) 1 1 := ⟨by decide +kernel, rfl⟩
theorem iX3_drownedTops_1 : At cX3_drownedTops 1 (.istore_n 1) 1 2 := ⟨by decide +kernel, rfl⟩
theorem iX3_drownedTops_2 : At cX3_drownedTops 2 (.iconst 0) 1 3 := ⟨by decide +kernel, rfl⟩
theorem iX3_drownedTops_3 : At cX3_drownedTops 3 (.istore_n 2) 1 4 := ⟨by decide +kernel, rfl⟩
theorem iX3_drownedTops_4 : At cX3_drownedTops 4 (.iload_n 2) 1 5 := ⟨by decide +kernel, rfl⟩
theorem iX3_drownedTops_5 : At cX3_drownedTops 5 (.aload_n 0) 1 6 := ⟨by decide +kernel, rfl⟩
theorem iX3_drownedTops_6 : At cX3_drownedTops 6 (.getfield 44) 3 9 := ⟨by decide +kernel, rfl⟩
theorem iX3_drownedTops_9 : At cX3_drownedTops 9 (.if_icmp .ge 25) 3 12 := ⟨by decide +kernel, rfl⟩
theorem iX3_drownedTops_12 : At cX3_drownedTops 12 (.aload_n 0) 1 13 := ⟨by decide +kernel, rfl⟩
theorem iX3_drownedTops_13 : At cX3_drownedTops 13 (.getfield 24) 3 16 := ⟨by decide +kernel, rfl⟩
theorem iX3_drownedTops_16 : At cX3_drownedTops 16 (.iload_n 2) 1 17 := ⟨by decide +kernel, rfl⟩
theorem iX3_drownedTops_17 : At cX3_drownedTops 17 (.iaload) 1 18 := ⟨by decide +kernel, rfl⟩
theorem iX3_drownedTops_18 : At cX3_drownedTops 18 (.iconst (-1)) 1 19 := ⟨by decide +kernel, rfl⟩
theorem iX3_drownedTops_19 : At cX3_drownedTops 19 (.if_icmp .eq 9) 3 22 := ⟨by decide +kernel, rfl⟩
theorem iX3_drownedTops_22 : At cX3_drownedTops 22 (.iload_n 1) 1 23 := ⟨by decide +kernel, rfl⟩
theorem iX3_drownedTops_23 : At cX3_drownedTops 23 (.iconst 1) 1 24 := ⟨by decide +kernel, rfl⟩
theorem iX3_drownedTops_24 : At cX3_drownedTops 24 (.iload_n 2) 1 25 := ⟨by decide +kernel, rfl⟩
theorem iX3_drownedTops_25 : At cX3_drownedTops 25 (.ishl) 1 26 := ⟨by decide +kernel, rfl⟩
theorem iX3_drownedTops_26 : At cX3_drownedTops 26 (.ior) 1 27 := ⟨by decide +kernel, rfl⟩
theorem iX3_drownedTops_27 : At cX3_drownedTops 27 (.istore_n 1) 1 28 := ⟨by decide +kernel, rfl⟩
theorem iX3_drownedTops_28 : At cX3_drownedTops 28 (.iinc 2 1) 3 31 := ⟨by decide +kernel, rfl⟩
theorem iX3_drownedTops_31 : At cX3_drownedTops 31 (.goto (-27)) 3 34 := ⟨by decide +kernel, rfl⟩
theorem iX3_drownedTops_34 : At cX3_drownedTops 34 (.iload_n 1) 1 35 := ⟨by decide +kernel, rfl⟩
theorem iX3_drownedTops_35 : At cX3_drownedTops 35 (.ireturn) 1 36 := ⟨by decide +kernel, rfl⟩
theorem iX3_allRisers_0 : At cX3_allRisers 0 (.iconst 1) 1 1 := ⟨by decide +kernel, rfl⟩
theorem iX3_allRisers_1 : At cX3_allRisers 1 (.aload_n 0) 1 2 := ⟨by decide +kernel, rfl⟩
theorem iX3_allRisers_2 : At cX3_allRisers 2 (.getfield 34) 3 5 := ⟨by decide +kernel, rfl⟩
theorem iX3_allRisers_5 : At cX3_allRisers 5 (.getfield 100) 3 8 := ⟨by decide +kernel, rfl⟩
theorem iX3_allRisers_8 : At cX3_allRisers 8 (.ishl) 1 9 := ⟨by decide +kernel, rfl⟩
theorem iX3_allRisers_9 : At cX3_allRisers 9 (.iconst 1) 1 10 := ⟨by decide +kernel, rfl⟩
theorem iX3_allRisers_10 : At cX3_allRisers 10 (.isub) 1 11 := ⟨by decide +kernel, rfl⟩
theorem iX3_allRisers_11 : At cX3_allRisers 11 (.ireturn) 1 12 := ⟨by decide +kernel, rfl⟩
theorem iX3_outlasts_0 : At cX3_outlasts 0 (.iload_n 1) 1 1 := ⟨by decide +kernel, rfl⟩
theorem iX3_outlasts_1 : At cX3_outlasts 1 (.aload_n 0) 1 2 := ⟨by decide +kernel, rfl⟩
theorem iX3_outlasts_2 : At cX3_outlasts 2 (.getfield 30) 3 5 := ⟨by decide +kernel, rfl⟩
theorem iX3_outlasts_5 : At cX3_outlasts 5 (.getfield 103) 3 8 := ⟨by decide +kernel, rfl⟩
theorem iX3_outlasts_8 : At cX3_outlasts 8 (.imul) 1 9 := ⟨by decide +kernel, rfl⟩
theorem iX3_outlasts_9 : At cX3_outlasts 9 (.aload_n 0) 1 10 := ⟨by decide +kernel, rfl⟩
theorem iX3_outlasts_10 : At cX3_outlasts 10 (.getfield 15) 3 13 := ⟨by decide +kernel, rfl⟩
theorem iX3_outlasts_13 : At cX3_outlasts 13 (.iload_n 3) 1 14 := ⟨by decide +kernel, rfl⟩
theorem iX3_outlasts_14 : At cX3_outlasts 14 (.iaload) 1 15 := ⟨by decide +kernel, rfl⟩
theorem iX3_outlasts_15 : At cX3_outlasts 15 (.imul) 1 16 := ⟨by decide +kernel, rfl⟩
theorem iX3_outlasts_16 : At cX3_outlasts 16 (.aload_n 0) 1 17 := ⟨by decide +kernel, rfl⟩
theorem iX3_outlasts_17 : At cX3_outlasts 17 (.getfield 9) 3 20 := ⟨by decide +kernel, rfl⟩
theorem iX3_outlasts_20 : At cX3_outlasts 20 (.iload_n 3) 1 21 := ⟨by decide +kernel, rfl⟩
theorem iX3_outlasts_21 : At cX3_outlasts 21 (.iaload) 1 22 := ⟨by decide +kernel, rfl⟩
theorem iX3_outlasts_22 : At cX3_outlasts 22 (.aload_n 0) 1 23 := ⟨by decide +kernel, rfl⟩
theorem iX3_outlasts_23 : At cX3_outlasts 23 (.getfield 30) 3 26 := ⟨by decide +kernel, rfl⟩
theorem iX3_outlasts_26 : At cX3_outlasts 26 (.getfield 106) 3 29 := ⟨by decide +kernel, rfl⟩
theorem iX3_outlasts_29 : At cX3_outlasts 29 (.imul) 1 30 := ⟨by decide +kernel, rfl⟩
theorem iX3_outlasts_30 : At cX3_outlasts 30 (.iload_n 2) 1 31 := ⟨by decide +kernel, rfl⟩
theorem iX3_outlasts_31 : At cX3_outlasts 31 (.imul) 1 32 := ⟨by decide +kernel, rfl⟩
theorem iX3_outlasts_32 : At cX3_outlasts 32 (.if_icmp .lt 7) 3 35 := ⟨by decide +kernel, rfl⟩
theorem iX3_outlasts_35 : At cX3_outlasts 35 (.iconst 1) 1 36 := ⟨by decide +kernel, rfl⟩
theorem iX3_outlasts_36 : At cX3_outlasts 36 (.goto 4) 3 39 := ⟨by decide +kernel, rfl⟩
theorem iX3_outlasts_39 : At cX3_outlasts 39 (.iconst 0) 1 40 := ⟨by decide +kernel, rfl⟩
theorem iX3_outlasts_40 : At cX3_outlasts 40 (.ireturn) 1 41 := ⟨by decide +kernel, rfl⟩
theorem iX3_feeder_0 : At cX3_feeder 0 (.iconst 0) 1 1 := ⟨by decide +kernel, rfl⟩
theorem iX3_feeder_1 : At cX3_feeder 1 (.istore_n 3) 1 2 := ⟨by decide +kernel, rfl⟩
theorem iX3_feeder_2 : At cX3_feeder 2 (.iload_n 3) 1 3 := ⟨by decide +kernel, rfl⟩
theorem iX3_feeder_3 : At cX3_feeder 3 (.aload_n 0) 1 4 := ⟨by decide +kernel, rfl⟩
theorem iX3_feeder_4 : At cX3_feeder 4 (.getfield 34) 3 7 := ⟨by decide +kernel, rfl⟩
theorem iX3_feeder_7 : At cX3_feeder 7 (.getfield 100) 3 10 := ⟨by decide +kernel, rfl⟩
theorem iX3_feeder_10 : At cX3_feeder 10 (.if_icmp .ge 73) 3 13 := ⟨by decide +kernel, rfl⟩
theorem iX3_feeder_13 : At cX3_feeder 13 (.iload_n 2) 1 14 := ⟨by decide +kernel, rfl⟩
theorem iX3_feeder_14 : At cX3_feeder 14 (.iload_n 3) 1 15 := ⟨by decide +kernel, rfl⟩
theorem iX3_feeder_15 : At cX3_feeder 15 (.ishr) 1 16 := ⟨by decide +kernel, rfl⟩
theorem iX3_feeder_16 : At cX3_feeder 16 (.iconst 1) 1 17 := ⟨by decide +kernel, rfl⟩
theorem iX3_feeder_17 : At cX3_feeder 17 (.iand) 1 18 := ⟨by decide +kernel, rfl⟩
theorem iX3_feeder_18 : At cX3_feeder 18 (.ifCond .eq 59) 3 21 := ⟨by decide +kernel, rfl⟩
theorem iX3_feeder_21 : At cX3_feeder 21 (.aload_n 0) 1 22 := ⟨by decide +kernel, rfl⟩
theorem iX3_feeder_22 : At cX3_feeder 22 (.getfield 27) 3 25 := ⟨by decide +kernel, rfl⟩
theorem iX3_feeder_25 : At cX3_feeder 25 (.aload_n 0) 1 26 := ⟨by decide +kernel, rfl⟩
theorem iX3_feeder_26 : At cX3_feeder 26 (.getfield 18) 3 29 := ⟨by decide +kernel, rfl⟩
theorem iX3_feeder_29 : At cX3_feeder 29 (.aload_n 0) 1 30 := ⟨by decide +kernel, rfl⟩
theorem iX3_feeder_30 : At cX3_feeder 30 (.getfield 34) 3 33 := ⟨by decide +kernel, rfl⟩
theorem iX3_feeder_33 : At cX3_feeder 33 (.getfield 109) 3 36 := ⟨by decide +kernel, rfl⟩
theorem iX3_feeder_36 : At cX3_feeder 36 (.iload_n 3) 1 37 := ⟨by decide +kernel, rfl⟩
theorem iX3_feeder_37 : At cX3_feeder 37 (.iaload) 1 38 := ⟨by decide +kernel, rfl⟩
theorem iX3_feeder_38 : At cX3_feeder 38 (.iaload) 1 39 := ⟨by decide +kernel, rfl⟩
theorem iX3_feeder_39 : At cX3_feeder 39 (.iaload) 1 40 := ⟨by decide +kernel, rfl⟩
theorem iX3_feeder_40 : At cX3_feeder 40 (.aload_n 0) 1 41 := ⟨by decide +kernel, rfl⟩
theorem iX3_feeder_41 : At cX3_feeder 41 (.getfield 27) 3 44 := ⟨by decide +kernel, rfl⟩
theorem iX3_feeder_44 : At cX3_feeder 44 (.iload_n 1) 1 45 := ⟨by decide +kernel, rfl⟩
theorem iX3_feeder_45 : At cX3_feeder 45 (.iaload) 1 46 := ⟨by decide +kernel, rfl⟩
theorem iX3_feeder_46 : At cX3_feeder 46 (.if_icmp .ne 31) 3 49 := ⟨by decide +kernel, rfl⟩
theorem iX3_feeder_49 : At cX3_feeder 49 (.aload_n 0) 1 50 := ⟨by decide +kernel, rfl⟩
theorem iX3_feeder_50 : At cX3_feeder 50 (.aload_n 0) 1 51 := ⟨by decide +kernel, rfl⟩
theorem iX3_feeder_51 : At cX3_feeder 51 (.getfield 34) 3 54 := ⟨by decide +kernel, rfl⟩
theorem iX3_feeder_54 : At cX3_feeder 54 (.getfield 112) 3 57 := ⟨by decide +kernel, rfl⟩
theorem iX3_feeder_57 : At cX3_feeder 57 (.iload_n 3) 1 58 := ⟨by decide +kernel, rfl⟩
theorem iX3_feeder_58 : At cX3_feeder 58 (.iaload) 1 59 := ⟨by decide +kernel, rfl⟩
theorem iX3_feeder_59 : At cX3_feeder 59 (.aload_n 0) 1 60 := ⟨by decide +kernel, rfl⟩
theorem iX3_feeder_60 : At cX3_feeder 60 (.getfield 34) 3 63 := ⟨by decide +kernel, rfl⟩
theorem iX3_feeder_63 : At cX3_feeder 63 (.getfield 113) 3 66 := ⟨by decide +kernel, rfl⟩
theorem iX3_feeder_66 : At cX3_feeder 66 (.iload_n 3) 1 67 := ⟨by decide +kernel, rfl⟩
theorem iX3_feeder_67 : At cX3_feeder 67 (.iaload) 1 68 := ⟨by decide +kernel, rfl⟩
theorem iX3_feeder_68 : At cX3_feeder 68 (.iload_n 1) 1 69 := ⟨by decide +kernel, rfl⟩
theorem iX3_feeder_69 : At cX3_feeder 69 (.invokevirtual 114) 3 72 := ⟨by decide +kernel, rfl⟩
theorem iX3_feeder_72 : At cX3_feeder 72 (.ifCond .eq 5) 3 75 := ⟨by decide +kernel, rfl⟩
theorem iX3_feeder_75 : At cX3_feeder 75 (.iload_n 3) 1 76 := ⟨by decide +kernel, rfl⟩
theorem iX3_feeder_76 : At cX3_feeder 76 (.ireturn) 1 77 := ⟨by decide +kernel, rfl⟩
theorem iX3_feeder_77 : At cX3_feeder 77 (.iinc 3 1) 3 80 := ⟨by decide +kernel, rfl⟩
theorem iX3_feeder_80 : At cX3_feeder 80 (.goto (-78)) 3 83 := ⟨by decide +kernel, rfl⟩
theorem iX3_feeder_83 : At cX3_feeder 83 (.iconst (-1)) 1 84 := ⟨by decide +kernel, rfl⟩
theorem iX3_feeder_84 : At cX3_feeder 84 (.ireturn) 1 85 := ⟨by decide +kernel, rfl⟩
theorem iX3_fedTops_0 : At cX3_fedTops 0 (.iconst 0) 1 1 := ⟨by decide +kernel, rfl⟩
theorem iX3_fedTops_1 : At cX3_fedTops 1 (.istore_n 2) 1 2 := ⟨by decide +kernel, rfl⟩
theorem iX3_fedTops_2 : At cX3_fedTops 2 (.iconst 0) 1 3 := ⟨by decide +kernel, rfl⟩
theorem iX3_fedTops_3 : At cX3_fedTops 3 (.istore_n 3) 1 4 := ⟨by decide +kernel, rfl⟩
theorem iX3_fedTops_4 : At cX3_fedTops 4 (.iload_n 3) 1 5 := ⟨by decide +kernel, rfl⟩
theorem iX3_fedTops_5 : At cX3_fedTops 5 (.aload_n 0) 1 6 := ⟨by decide +kernel, rfl⟩
theorem iX3_fedTops_6 : At cX3_fedTops 6 (.getfield 44) 3 9 := ⟨by decide +kernel, rfl⟩
theorem iX3_fedTops_9 : At cX3_fedTops 9 (.if_icmp .ge 33) 3 12 := ⟨by decide +kernel, rfl⟩
theorem iX3_fedTops_12 : At cX3_fedTops 12 (.aload_n 0) 1 13 := ⟨by decide +kernel, rfl⟩
theorem iX3_fedTops_13 : At cX3_fedTops 13 (.iload_n 3) 1 14 := ⟨by decide +kernel, rfl⟩
theorem iX3_fedTops_14 : At cX3_fedTops 14 (.invokevirtual 61) 3 17 := ⟨by decide +kernel, rfl⟩
theorem iX3_fedTops_17 : At cX3_fedTops 17 (.ifCond .eq 19) 3 20 := ⟨by decide +kernel, rfl⟩
theorem iX3_fedTops_20 : At cX3_fedTops 20 (.aload_n 0) 1 21 := ⟨by decide +kernel, rfl⟩
theorem iX3_fedTops_21 : At cX3_fedTops 21 (.iload_n 3) 1 22 := ⟨by decide +kernel, rfl⟩
theorem iX3_fedTops_22 : At cX3_fedTops 22 (.iload_n 1) 1 23 := ⟨by decide +kernel, rfl⟩
theorem iX3_fedTops_23 : At cX3_fedTops 23 (.invokevirtual 118) 3 26 := ⟨by decide +kernel, rfl⟩
theorem iX3_fedTops_26 : At cX3_fedTops 26 (.iconst (-1)) 1 27 := ⟨by decide +kernel, rfl⟩
theorem iX3_fedTops_27 : At cX3_fedTops 27 (.if_icmp .eq 9) 3 30 := ⟨by decide +kernel, rfl⟩
theorem iX3_fedTops_30 : At cX3_fedTops 30 (.iload_n 2) 1 31 := ⟨by decide +kernel, rfl⟩
theorem iX3_fedTops_31 : At cX3_fedTops 31 (.iconst 1) 1 32 := ⟨by decide +kernel, rfl⟩
theorem iX3_fedTops_32 : At cX3_fedTops 32 (.iload_n 3) 1 33 := ⟨by decide +kernel, rfl⟩
theorem iX3_fedTops_33 : At cX3_fedTops 33 (.ishl) 1 34 := ⟨by decide +kernel, rfl⟩
theorem iX3_fedTops_34 : At cX3_fedTops 34 (.ior) 1 35 := ⟨by decide +kernel, rfl⟩
theorem iX3_fedTops_35 : At cX3_fedTops 35 (.istore_n 2) 1 36 := ⟨by decide +kernel, rfl⟩
theorem iX3_fedTops_36 : At cX3_fedTops 36 (.iinc 3 1) 3 39 := ⟨by decide +kernel, rfl⟩
theorem iX3_fedTops_39 : At cX3_fedTops 39 (.goto (-35)) 3 42 := ⟨by decide +kernel, rfl⟩
theorem iX3_fedTops_42 : At cX3_fedTops 42 (.iload_n 2) 1 43 := ⟨by decide +kernel, rfl⟩
theorem iX3_fedTops_43 : At cX3_fedTops 43 (.ireturn) 1 44 := ⟨by decide +kernel, rfl⟩
theorem iX3_starvedBy_0 : At cX3_starvedBy 0 (.aload_n 0) 1 1 := ⟨by decide +kernel, rfl⟩
theorem iX3_starvedBy_1 : At cX3_starvedBy 1 (.invokevirtual 121) 3 4 := ⟨by decide +kernel, rfl⟩
theorem iX3_starvedBy_4 : At cX3_starvedBy 4 (.istore_n 2) 1 5 := ⟨by decide +kernel, rfl⟩
theorem iX3_starvedBy_5 : At cX3_starvedBy 5 (.aload_n 0) 1 6 := ⟨by decide +kernel, rfl⟩
theorem iX3_starvedBy_6 : At cX3_starvedBy 6 (.iload_n 2) 1 7 := ⟨by decide +kernel, rfl⟩
theorem iX3_starvedBy_7 : At cX3_starvedBy 7 (.invokevirtual 125) 3 10 := ⟨by decide +kernel, rfl⟩
theorem iX3_starvedBy_10 : At cX3_starvedBy 10 (.aload_n 0) 1 11 := ⟨by decide +kernel, rfl⟩
theorem iX3_starvedBy_11 : At cX3_starvedBy 11 (.iload_n 2) 1 12 := ⟨by decide +kernel, rfl⟩
theorem iX3_starvedBy_12 : At cX3_starvedBy 12 (.iconst 1) 1 13 := ⟨by decide +kernel, rfl⟩
theorem iX3_starvedBy_13 : At cX3_starvedBy 13 (.iload_n 1) 1 14 := ⟨by decide +kernel, rfl⟩
theorem iX3_starvedBy_14 : At cX3_starvedBy 14 (.ishl) 1 15 := ⟨by decide +kernel, rfl⟩
theorem iX3_starvedBy_15 : At cX3_starvedBy 15 (.iconst (-1)) 1 16 := ⟨by decide +kernel, rfl⟩
theorem iX3_starvedBy_16 : At cX3_starvedBy 16 (.ixor) 1 17 := ⟨by decide +kernel, rfl⟩
theorem iX3_starvedBy_17 : At cX3_starvedBy 17 (.iand) 1 18 := ⟨by decide +kernel, rfl⟩
theorem iX3_starvedBy_18 : At cX3_starvedBy 18 (.invokevirtual 125) 3 21 := ⟨by decide +kernel, rfl⟩
theorem iX3_starvedBy_21 : At cX3_starvedBy 21 (.iconst (-1)) 1 22 := ⟨by decide +kernel, rfl⟩
theorem iX3_starvedBy_22 : At cX3_starvedBy 22 (.ixor) 1 23 := ⟨by decide +kernel, rfl⟩
theorem iX3_starvedBy_23 : At cX3_starvedBy 23 (.iand) 1 24 := ⟨by decide +kernel, rfl⟩
theorem iX3_starvedBy_24 : At cX3_starvedBy 24 (.ireturn) 1 25 := ⟨by decide +kernel, rfl⟩
theorem iX3_fewestRisers_0 : At cX3_fewestRisers 0 (.aload_n 0) 1 1 := ⟨by decide +kernel, rfl⟩
theorem iX3_fewestRisers_1 : At cX3_fewestRisers 1 (.invokevirtual 121) 3 4 := ⟨by decide +kernel, rfl⟩
theorem iX3_fewestRisers_4 : At cX3_fewestRisers 4 (.istore_n 1) 1 5 := ⟨by decide +kernel, rfl⟩
theorem iX3_fewestRisers_5 : At cX3_fewestRisers 5 (.aload_n 0) 1 6 := ⟨by decide +kernel, rfl⟩
theorem iX3_fewestRisers_6 : At cX3_fewestRisers 6 (.iload_n 1) 1 7 := ⟨by decide +kernel, rfl⟩
theorem iX3_fewestRisers_7 : At cX3_fewestRisers 7 (.invokevirtual 125) 3 10 := ⟨by decide +kernel, rfl⟩
theorem iX3_fewestRisers_10 : At cX3_fewestRisers 10 (.invokestatic 128) 3 13 := ⟨by decide +kernel, rfl⟩
theorem iX3_fewestRisers_13 : At cX3_fewestRisers 13 (.istore_n 2) 1 14 := ⟨by decide +kernel, rfl⟩
theorem iX3_fewestRisers_14 : At cX3_fewestRisers 14 (.iload_n 1) 1 15 := ⟨by decide +kernel, rfl⟩
theorem iX3_fewestRisers_15 : At cX3_fewestRisers 15 (.istore_n 3) 1 16 := ⟨by decide +kernel, rfl⟩
theorem iX3_fewestRisers_16 : At cX3_fewestRisers 16 (.iconst 0) 1 17 := ⟨by decide +kernel, rfl⟩
theorem iX3_fewestRisers_17 : At cX3_fewestRisers 17 (.istore 4) 2 19 := ⟨by decide +kernel, rfl⟩
theorem iX3_fewestRisers_19 : At cX3_fewestRisers 19 (.iload 4) 2 21 := ⟨by decide +kernel, rfl⟩
theorem iX3_fewestRisers_21 : At cX3_fewestRisers 21 (.iload_n 1) 1 22 := ⟨by decide +kernel, rfl⟩
theorem iX3_fewestRisers_22 : At cX3_fewestRisers 22 (.if_icmp .ge 37) 3 25 := ⟨by decide +kernel, rfl⟩
theorem iX3_fewestRisers_25 : At cX3_fewestRisers 25 (.iload 4) 2 27 := ⟨by decide +kernel, rfl⟩
theorem iX3_fewestRisers_27 : At cX3_fewestRisers 27 (.invokestatic 128) 3 30 := ⟨by decide +kernel, rfl⟩
theorem iX3_fewestRisers_30 : At cX3_fewestRisers 30 (.iload_n 3) 1 31 := ⟨by decide +kernel, rfl⟩
theorem iX3_fewestRisers_31 : At cX3_fewestRisers 31 (.invokestatic 128) 3 34 := ⟨by decide +kernel, rfl⟩
theorem iX3_fewestRisers_34 : At cX3_fewestRisers 34 (.if_icmp .ge 19) 3 37 := ⟨by decide +kernel, rfl⟩
theorem iX3_fewestRisers_37 : At cX3_fewestRisers 37 (.aload_n 0) 1 38 := ⟨by decide +kernel, rfl⟩
theorem iX3_fewestRisers_38 : At cX3_fewestRisers 38 (.iload 4) 2 40 := ⟨by decide +kernel, rfl⟩
theorem iX3_fewestRisers_40 : At cX3_fewestRisers 40 (.invokevirtual 125) 3 43 := ⟨by decide +kernel, rfl⟩
theorem iX3_fewestRisers_43 : At cX3_fewestRisers 43 (.invokestatic 128) 3 46 := ⟨by decide +kernel, rfl⟩
theorem iX3_fewestRisers_46 : At cX3_fewestRisers 46 (.iload_n 2) 1 47 := ⟨by decide +kernel, rfl⟩
theorem iX3_fewestRisers_47 : At cX3_fewestRisers 47 (.if_icmp .ne 6) 3 50 := ⟨by decide +kernel, rfl⟩
theorem iX3_fewestRisers_50 : At cX3_fewestRisers 50 (.iload 4) 2 52 := ⟨by decide +kernel, rfl⟩
theorem iX3_fewestRisers_52 : At cX3_fewestRisers 52 (.istore_n 3) 1 53 := ⟨by decide +kernel, rfl⟩
theorem iX3_fewestRisers_53 : At cX3_fewestRisers 53 (.iinc 4 1) 3 56 := ⟨by decide +kernel, rfl⟩
theorem iX3_fewestRisers_56 : At cX3_fewestRisers 56 (.goto (-37)) 3 59 := ⟨by decide +kernel, rfl⟩
theorem iX3_fewestRisers_59 : At cX3_fewestRisers 59 (.iload_n 3) 1 60 := ⟨by decide +kernel, rfl⟩
theorem iX3_fewestRisers_60 : At cX3_fewestRisers 60 (.ireturn) 1 61 := ⟨by decide +kernel, rfl⟩
theorem iX3_leastVolume_0 : At cX3_leastVolume 0 (.iconst 1) 1 1 := ⟨by decide +kernel, rfl⟩
theorem iX3_leastVolume_1 : At cX3_leastVolume 1 (.istore_n 3) 1 2 := ⟨by decide +kernel, rfl⟩
theorem iX3_leastVolume_2 : At cX3_leastVolume 2 (.iload_n 3) 1 3 := ⟨by decide +kernel, rfl⟩
theorem iX3_leastVolume_3 : At cX3_leastVolume 3 (.sipush 999) 3 6 := ⟨by decide +kernel, rfl⟩
theorem iX3_leastVolume_6 : At cX3_leastVolume 6 (.if_icmp .gt 21) 3 9 := ⟨by decide +kernel, rfl⟩
theorem iX3_leastVolume_9 : At cX3_leastVolume 9 (.aload_n 0) 1 10 := ⟨by decide +kernel, rfl⟩
theorem iX3_leastVolume_10 : At cX3_leastVolume 10 (.iload_n 3) 1 11 := ⟨by decide +kernel, rfl⟩
theorem iX3_leastVolume_11 : At cX3_leastVolume 11 (.iload_n 2) 1 12 := ⟨by decide +kernel, rfl⟩
theorem iX3_leastVolume_12 : At cX3_leastVolume 12 (.iload_n 1) 1 13 := ⟨by decide +kernel, rfl⟩
theorem iX3_leastVolume_13 : At cX3_leastVolume 13 (.invokevirtual 114) 3 16 := ⟨by decide +kernel, rfl⟩
theorem iX3_leastVolume_16 : At cX3_leastVolume 16 (.ifCond .eq 5) 3 19 := ⟨by decide +kernel, rfl⟩
theorem iX3_leastVolume_19 : At cX3_leastVolume 19 (.iload_n 3) 1 20 := ⟨by decide +kernel, rfl⟩
theorem iX3_leastVolume_20 : At cX3_leastVolume 20 (.ireturn) 1 21 := ⟨by decide +kernel, rfl⟩
theorem iX3_leastVolume_21 : At cX3_leastVolume 21 (.iinc 3 1) 3 24 := ⟨by decide +kernel, rfl⟩
theorem iX3_leastVolume_24 : At cX3_leastVolume 24 (.goto (-22)) 3 27 := ⟨by decide +kernel, rfl⟩
theorem iX3_leastVolume_27 : At cX3_leastVolume 27 (.iconst (-1)) 1 28 := ⟨by decide +kernel, rfl⟩
theorem iX3_leastVolume_28 : At cX3_leastVolume 28 (.ireturn) 1 29 := ⟨by decide +kernel, rfl⟩
theorem iX3_atRank_0 : At cX3_atRank 0 (.iconst 0) 1 1 := ⟨by decide +kernel, rfl⟩
theorem iX3_atRank_1 : At cX3_atRank 1 (.istore_n 2) 1 2 := ⟨by decide +kernel, rfl⟩
theorem iX3_atRank_2 : At cX3_atRank 2 (.iload_n 2) 1 3 := ⟨by decide +kernel, rfl⟩
theorem iX3_atRank_3 : At cX3_atRank 3 (.aload_n 0) 1 4 := ⟨by decide +kernel, rfl⟩
theorem iX3_atRank_4 : At cX3_atRank 4 (.getfield 44) 3 7 := ⟨by decide +kernel, rfl⟩
theorem iX3_atRank_7 : At cX3_atRank 7 (.if_icmp .ge 20) 3 10 := ⟨by decide +kernel, rfl⟩
theorem iX3_atRank_10 : At cX3_atRank 10 (.aload_n 0) 1 11 := ⟨by decide +kernel, rfl⟩
theorem iX3_atRank_11 : At cX3_atRank 11 (.iload_n 2) 1 12 := ⟨by decide +kernel, rfl⟩
theorem iX3_atRank_12 : At cX3_atRank 12 (.invokevirtual 133) 3 15 := ⟨by decide +kernel, rfl⟩
theorem iX3_atRank_15 : At cX3_atRank 15 (.iload_n 1) 1 16 := ⟨by decide +kernel, rfl⟩
theorem iX3_atRank_16 : At cX3_atRank 16 (.if_icmp .ne 5) 3 19 := ⟨by decide +kernel, rfl⟩
theorem iX3_atRank_19 : At cX3_atRank 19 (.iload_n 2) 1 20 := ⟨by decide +kernel, rfl⟩
theorem iX3_atRank_20 : At cX3_atRank 20 (.ireturn) 1 21 := ⟨by decide +kernel, rfl⟩
theorem iX3_atRank_21 : At cX3_atRank 21 (.iinc 2 1) 3 24 := ⟨by decide +kernel, rfl⟩
theorem iX3_atRank_24 : At cX3_atRank 24 (.goto (-22)) 3 27 := ⟨by decide +kernel, rfl⟩
theorem iX3_atRank_27 : At cX3_atRank 27 (.iconst (-1)) 1 28 := ⟨by decide +kernel, rfl⟩
theorem iX3_atRank_28 : At cX3_atRank 28 (.ireturn) 1 29 := ⟨by decide +kernel, rfl⟩
theorem iX3_rank_0 : At cX3_rank 0 (.iconst 0) 1 1 := ⟨by decide +kernel, rfl⟩
theorem iX3_rank_1 : At cX3_rank 1 (.istore_n 2) 1 2 := ⟨by decide +kernel, rfl⟩
theorem iX3_rank_2 : At cX3_rank 2 (.iconst 0) 1 3 := ⟨by decide +kernel, rfl⟩
theorem iX3_rank_3 : At cX3_rank 3 (.istore_n 3) 1 4 := ⟨by decide +kernel, rfl⟩
theorem iX3_rank_4 : At cX3_rank 4 (.iload_n 3) 1 5 := ⟨by decide +kernel, rfl⟩
theorem iX3_rank_5 : At cX3_rank 5 (.aload_n 0) 1 6 := ⟨by decide +kernel, rfl⟩
theorem iX3_rank_6 : At cX3_rank 6 (.getfield 44) 3 9 := ⟨by decide +kernel, rfl⟩
theorem iX3_rank_9 : At cX3_rank 9 (.if_icmp .ge 26) 3 12 := ⟨by decide +kernel, rfl⟩
theorem iX3_rank_12 : At cX3_rank 12 (.iload_n 3) 1 13 := ⟨by decide +kernel, rfl⟩
theorem iX3_rank_13 : At cX3_rank 13 (.iload_n 1) 1 14 := ⟨by decide +kernel, rfl⟩
theorem iX3_rank_14 : At cX3_rank 14 (.if_icmp .eq 15) 3 17 := ⟨by decide +kernel, rfl⟩
theorem iX3_rank_17 : At cX3_rank 17 (.aload_n 0) 1 18 := ⟨by decide +kernel, rfl⟩
theorem iX3_rank_18 : At cX3_rank 18 (.iload_n 3) 1 19 := ⟨by decide +kernel, rfl⟩
theorem iX3_rank_19 : At cX3_rank 19 (.iload_n 1) 1 20 := ⟨by decide +kernel, rfl⟩
theorem iX3_rank_20 : At cX3_rank 20 (.invokevirtual 78) 3 23 := ⟨by decide +kernel, rfl⟩
theorem iX3_rank_23 : At cX3_rank 23 (.ifCond .eq 6) 3 26 := ⟨by decide +kernel, rfl⟩
theorem iX3_rank_26 : At cX3_rank 26 (.iinc 2 1) 3 29 := ⟨by decide +kernel, rfl⟩
theorem iX3_rank_29 : At cX3_rank 29 (.iinc 3 1) 3 32 := ⟨by decide +kernel, rfl⟩
theorem iX3_rank_32 : At cX3_rank 32 (.goto (-28)) 3 35 := ⟨by decide +kernel, rfl⟩
theorem iX3_rank_35 : At cX3_rank 35 (.iload_n 2) 1 36 := ⟨by decide +kernel, rfl⟩
theorem iX3_rank_36 : At cX3_rank 36 (.ireturn) 1 37 := ⟨by decide +kernel, rfl⟩
theorem iX3_topsIfChilled_0 : At cX3_topsIfChilled 0 (.aload_n 0) 1 1 := ⟨by decide +kernel, rfl⟩
theorem iX3_topsIfChilled_1 : At cX3_topsIfChilled 1 (.getfield 15) 3 4 := ⟨by decide +kernel, rfl⟩
theorem iX3_topsIfChilled_4 : At cX3_topsIfChilled 4 (.iload_n 1) 1 5 := ⟨by decide +kernel, rfl⟩
theorem iX3_topsIfChilled_5 : At cX3_topsIfChilled 5 (.iaload) 1 6 := ⟨by decide +kernel, rfl⟩
theorem iX3_topsIfChilled_6 : At cX3_topsIfChilled 6 (.istore_n 3) 1 7 := ⟨by decide +kernel, rfl⟩
theorem iX3_topsIfChilled_7 : At cX3_topsIfChilled 7 (.aload_n 0) 1 8 := ⟨by decide +kernel, rfl⟩
theorem iX3_topsIfChilled_8 : At cX3_topsIfChilled 8 (.getfield 15) 3 11 := ⟨by decide +kernel, rfl⟩
theorem iX3_topsIfChilled_11 : At cX3_topsIfChilled 11 (.iload_n 1) 1 12 := ⟨by decide +kernel, rfl⟩
theorem iX3_topsIfChilled_12 : At cX3_topsIfChilled 12 (.aload_n 0) 1 13 := ⟨by decide +kernel, rfl⟩
theorem iX3_topsIfChilled_13 : At cX3_topsIfChilled 13 (.iload_n 1) 1 14 := ⟨by decide +kernel, rfl⟩
theorem iX3_topsIfChilled_14 : At cX3_topsIfChilled 14 (.aload_n 0) 1 15 := ⟨by decide +kernel, rfl⟩
theorem iX3_topsIfChilled_15 : At cX3_topsIfChilled 15 (.getfield 34) 3 18 := ⟨by decide +kernel, rfl⟩
theorem iX3_topsIfChilled_18 : At cX3_topsIfChilled 18 (.getfield 48) 3 21 := ⟨by decide +kernel, rfl⟩
theorem iX3_topsIfChilled_21 : At cX3_topsIfChilled 21 (.iload_n 1) 1 22 := ⟨by decide +kernel, rfl⟩
theorem iX3_topsIfChilled_22 : At cX3_topsIfChilled 22 (.iaload) 1 23 := ⟨by decide +kernel, rfl⟩
theorem iX3_topsIfChilled_23 : At cX3_topsIfChilled 23 (.iload_n 2) 1 24 := ⟨by decide +kernel, rfl⟩
theorem iX3_topsIfChilled_24 : At cX3_topsIfChilled 24 (.iadd) 1 25 := ⟨by decide +kernel, rfl⟩
theorem iX3_topsIfChilled_25 : At cX3_topsIfChilled 25 (.bipush 9) 2 27 := ⟨by decide +kernel, rfl⟩
theorem iX3_topsIfChilled_27 : At cX3_topsIfChilled 27 (.invokestatic 136) 3 30 := ⟨by decide +kernel, rfl⟩
theorem iX3_topsIfChilled_30 : At cX3_topsIfChilled 30 (.invokevirtual 53) 3 33 := ⟨by decide +kernel, rfl⟩
theorem iX3_topsIfChilled_33 : At cX3_topsIfChilled 33 (.iastore) 1 34 := ⟨by decide +kernel, rfl⟩
theorem iX3_topsIfChilled_34 : At cX3_topsIfChilled 34 (.aload_n 0) 1 35 := ⟨by decide +kernel, rfl⟩
theorem iX3_topsIfChilled_35 : At cX3_topsIfChilled 35 (.invokevirtual 141) 3 38 := ⟨by decide +kernel, rfl⟩
theorem iX3_topsIfChilled_38 : At cX3_topsIfChilled 38 (.invokestatic 128) 3 41 := ⟨by decide +kernel, rfl⟩
theorem iX3_topsIfChilled_41 : At cX3_topsIfChilled 41 (.istore 4) 2 43 := ⟨by decide +kernel, rfl⟩
theorem iX3_topsIfChilled_43 : At cX3_topsIfChilled 43 (.aload_n 0) 1 44 := ⟨by decide +kernel, rfl⟩
theorem iX3_topsIfChilled_44 : At cX3_topsIfChilled 44 (.getfield 15) 3 47 := ⟨by decide +kernel, rfl⟩
theorem iX3_topsIfChilled_47 : At cX3_topsIfChilled 47 (.iload_n 1) 1 48 := ⟨by decide +kernel, rfl⟩
theorem iX3_topsIfChilled_48 : At cX3_topsIfChilled 48 (.iload_n 3) 1 49 := ⟨by decide +kernel, rfl⟩
theorem iX3_topsIfChilled_49 : At cX3_topsIfChilled 49 (.iastore) 1 50 := ⟨by decide +kernel, rfl⟩
theorem iX3_topsIfChilled_50 : At cX3_topsIfChilled 50 (.iload 4) 2 52 := ⟨by decide +kernel, rfl⟩
theorem iX3_topsIfChilled_52 : At cX3_topsIfChilled 52 (.ireturn) 1 53 := ⟨by decide +kernel, rfl⟩
theorem iX3_bestChilled_0 : At cX3_bestChilled 0 (.iconst (-1)) 1 1 := ⟨by decide +kernel, rfl⟩
theorem iX3_bestChilled_1 : At cX3_bestChilled 1 (.istore_n 2) 1 2 := ⟨by decide +kernel, rfl⟩
theorem iX3_bestChilled_2 : At cX3_bestChilled 2 (.bipush 11) 2 4 := ⟨by decide +kernel, rfl⟩
theorem iX3_bestChilled_4 : At cX3_bestChilled 4 (.istore_n 3) 1 5 := ⟨by decide +kernel, rfl⟩
theorem iX3_bestChilled_5 : At cX3_bestChilled 5 (.iconst 0) 1 6 := ⟨by decide +kernel, rfl⟩
theorem iX3_bestChilled_6 : At cX3_bestChilled 6 (.istore 4) 2 8 := ⟨by decide +kernel, rfl⟩
theorem iX3_bestChilled_8 : At cX3_bestChilled 8 (.iload 4) 2 10 := ⟨by decide +kernel, rfl⟩
theorem iX3_bestChilled_10 : At cX3_bestChilled 10 (.aload_n 0) 1 11 := ⟨by decide +kernel, rfl⟩
theorem iX3_bestChilled_11 : At cX3_bestChilled 11 (.getfield 44) 3 14 := ⟨by decide +kernel, rfl⟩
theorem iX3_bestChilled_14 : At cX3_bestChilled 14 (.if_icmp .ge 30) 3 17 := ⟨by decide +kernel, rfl⟩
theorem iX3_bestChilled_17 : At cX3_bestChilled 17 (.aload_n 0) 1 18 := ⟨by decide +kernel, rfl⟩
theorem iX3_bestChilled_18 : At cX3_bestChilled 18 (.iload 4) 2 20 := ⟨by decide +kernel, rfl⟩
theorem iX3_bestChilled_20 : At cX3_bestChilled 20 (.iload_n 1) 1 21 := ⟨by decide +kernel, rfl⟩
theorem iX3_bestChilled_21 : At cX3_bestChilled 21 (.invokevirtual 144) 3 24 := ⟨by decide +kernel, rfl⟩
theorem iX3_bestChilled_24 : At cX3_bestChilled 24 (.istore 5) 2 26 := ⟨by decide +kernel, rfl⟩
theorem iX3_bestChilled_26 : At cX3_bestChilled 26 (.iload 5) 2 28 := ⟨by decide +kernel, rfl⟩
theorem iX3_bestChilled_28 : At cX3_bestChilled 28 (.iload_n 3) 1 29 := ⟨by decide +kernel, rfl⟩
theorem iX3_bestChilled_29 : At cX3_bestChilled 29 (.if_icmp .ge 9) 3 32 := ⟨by decide +kernel, rfl⟩
theorem iX3_bestChilled_32 : At cX3_bestChilled 32 (.iload 5) 2 34 := ⟨by decide +kernel, rfl⟩
theorem iX3_bestChilled_34 : At cX3_bestChilled 34 (.istore_n 3) 1 35 := ⟨by decide +kernel, rfl⟩
theorem iX3_bestChilled_35 : At cX3_bestChilled 35 (.iload 4) 2 37 := ⟨by decide +kernel, rfl⟩
theorem iX3_bestChilled_37 : At cX3_bestChilled 37 (.istore_n 2) 1 38 := ⟨by decide +kernel, rfl⟩
theorem iX3_bestChilled_38 : At cX3_bestChilled 38 (.iinc 4 1) 3 41 := ⟨by decide +kernel, rfl⟩
theorem iX3_bestChilled_41 : At cX3_bestChilled 41 (.goto (-33)) 3 44 := ⟨by decide +kernel, rfl⟩
theorem iX3_bestChilled_44 : At cX3_bestChilled 44 (.iload_n 2) 1 45 := ⟨by decide +kernel, rfl⟩
theorem iX3_bestChilled_45 : At cX3_bestChilled 45 (.ireturn) 1 46 := ⟨by decide +kernel, rfl⟩
theorem iX3_commonPart_0 : At cX3_commonPart 0 (.aload_n 0) 1 1 := ⟨by decide +kernel, rfl⟩
theorem iX3_commonPart_1 : At cX3_commonPart 1 (.getfield 9) 3 4 := ⟨by decide +kernel, rfl⟩
theorem iX3_commonPart_4 : At cX3_commonPart 4 (.iload_n 1) 1 5 := ⟨by decide +kernel, rfl⟩
theorem iX3_commonPart_5 : At cX3_commonPart 5 (.iaload) 1 6 := ⟨by decide +kernel, rfl⟩
theorem iX3_commonPart_6 : At cX3_commonPart 6 (.istore_n 2) 1 7 := ⟨by decide +kernel, rfl⟩
theorem iX3_commonPart_7 : At cX3_commonPart 7 (.iload_n 2) 1 8 := ⟨by decide +kernel, rfl⟩
theorem iX3_commonPart_8 : At cX3_commonPart 8 (.iconst 1) 1 9 := ⟨by decide +kernel, rfl⟩
theorem iX3_commonPart_9 : At cX3_commonPart 9 (.if_icmp .le 33) 3 12 := ⟨by decide +kernel, rfl⟩
theorem iX3_commonPart_12 : At cX3_commonPart 12 (.aload_n 0) 1 13 := ⟨by decide +kernel, rfl⟩
theorem iX3_commonPart_13 : At cX3_commonPart 13 (.getfield 9) 3 16 := ⟨by decide +kernel, rfl⟩
theorem iX3_commonPart_16 : At cX3_commonPart 16 (.iload_n 1) 1 17 := ⟨by decide +kernel, rfl⟩
theorem iX3_commonPart_17 : At cX3_commonPart 17 (.iaload) 1 18 := ⟨by decide +kernel, rfl⟩
theorem iX3_commonPart_18 : At cX3_commonPart 18 (.iload_n 2) 1 19 := ⟨by decide +kernel, rfl⟩
theorem iX3_commonPart_19 : At cX3_commonPart 19 (.irem) 1 20 := ⟨by decide +kernel, rfl⟩
theorem iX3_commonPart_20 : At cX3_commonPart 20 (.ifCond .ne 16) 3 23 := ⟨by decide +kernel, rfl⟩
theorem iX3_commonPart_23 : At cX3_commonPart 23 (.aload_n 0) 1 24 := ⟨by decide +kernel, rfl⟩
theorem iX3_commonPart_24 : At cX3_commonPart 24 (.getfield 15) 3 27 := ⟨by decide +kernel, rfl⟩
theorem iX3_commonPart_27 : At cX3_commonPart 27 (.iload_n 1) 1 28 := ⟨by decide +kernel, rfl⟩
theorem iX3_commonPart_28 : At cX3_commonPart 28 (.iaload) 1 29 := ⟨by decide +kernel, rfl⟩
theorem iX3_commonPart_29 : At cX3_commonPart 29 (.iload_n 2) 1 30 := ⟨by decide +kernel, rfl⟩
theorem iX3_commonPart_30 : At cX3_commonPart 30 (.irem) 1 31 := ⟨by decide +kernel, rfl⟩
theorem iX3_commonPart_31 : At cX3_commonPart 31 (.ifCond .ne 5) 3 34 := ⟨by decide +kernel, rfl⟩
theorem iX3_commonPart_34 : At cX3_commonPart 34 (.iload_n 2) 1 35 := ⟨by decide +kernel, rfl⟩
theorem iX3_commonPart_35 : At cX3_commonPart 35 (.ireturn) 1 36 := ⟨by decide +kernel, rfl⟩
theorem iX3_commonPart_36 : At cX3_commonPart 36 (.iinc 2 (-1)) 3 39 := ⟨by decide +kernel, rfl⟩
theorem iX3_commonPart_39 : At cX3_commonPart 39 (.goto (-32)) 3 42 := ⟨by decide +kernel, rfl⟩
theorem iX3_commonPart_42 : At cX3_commonPart 42 (.iconst 1) 1 43 := ⟨by decide +kernel, rfl⟩
theorem iX3_commonPart_43 : At cX3_commonPart 43 (.ireturn) 1 44 := ⟨by decide +kernel, rfl⟩
theorem iX4_init_0 : At cX4_init 0 (.aload_n 0) 1 1 := ⟨by decide +kernel, rfl⟩
theorem iX4_init_1 : At cX4_init 1 (.invokespecial 3) 3 4 := ⟨by decide +kernel, rfl⟩
theorem iX4_init_4 : At cX4_init 4 (.aload_n 0) 1 5 := ⟨by decide +kernel, rfl⟩
theorem iX4_init_5 : At cX4_init 5 (.bipush 10) 2 7 := ⟨by decide +kernel, rfl⟩
theorem iX4_init_7 : At cX4_init 7 (.newarray .int) 2 9 := ⟨by decide +kernel, rfl⟩
theorem iX4_init_9 : At cX4_init 9 (.putfield 9) 3 12 := ⟨by decide +kernel, rfl⟩
theorem iX4_init_12 : At cX4_init 12 (.aload_n 0) 1 13 := ⟨by decide +kernel, rfl⟩
theorem iX4_init_13 : At cX4_init 13 (.bipush 10) 2 15 := ⟨by decide +kernel, rfl⟩
theorem iX4_init_15 : At cX4_init 15 (.newarray .int) 2 17 := ⟨by decide +kernel, rfl⟩
theorem iX4_init_17 : At cX4_init 17 (.putfield 15) 3 20 := ⟨by decide +kernel, rfl⟩
theorem iX4_init_20 : At cX4_init 20 (.aload_n 0) 1 21 := ⟨by decide +kernel, rfl⟩
theorem iX4_init_21 : At cX4_init 21 (.bipush 10) 2 23 := ⟨by decide +kernel, rfl⟩
theorem iX4_init_23 : At cX4_init 23 (.newarray .int) 2 25 := ⟨by decide +kernel, rfl⟩
theorem iX4_init_25 : At cX4_init 25 (.putfield 18) 3 28 := ⟨by decide +kernel, rfl⟩
theorem iX4_init_28 : At cX4_init 28 (.aload_n 0) 1 29 := ⟨by decide +kernel, rfl⟩
theorem iX4_init_29 : At cX4_init 29 (.new 21) 3 32 := ⟨by decide +kernel, rfl⟩
theorem iX4_init_32 : At cX4_init 32 (.dup) 1 33 := ⟨by decide +kernel, rfl⟩
theorem iX4_init_33 : At cX4_init 33 (.invokespecial 23) 3 36 := ⟨by decide +kernel, rfl⟩
theorem iX4_init_36 : At cX4_init 36 (.putfield 24) 3 39 := ⟨by decide +kernel, rfl⟩
theorem iX4_init_39 : At cX4_init 39 (.aload_n 0) 1 40 := ⟨by decide +kernel, rfl⟩
theorem iX4_init_40 : At cX4_init 40 (.bipush 6) 2 42 := ⟨by decide +kernel, rfl⟩
theorem iX4_init_42 : At cX4_init 42 (.putfield 28) 3 45 := ⟨by decide +kernel, rfl⟩
theorem iX4_init_45 : At cX4_init 45 (.aload_n 0) 1 46 := ⟨by decide +kernel, rfl⟩
theorem iX4_init_46 : At cX4_init 46 (.iconst 5) 1 47 := ⟨by decide +kernel, rfl⟩
theorem iX4_init_47 : At cX4_init 47 (.putfield 32) 3 50 := ⟨by decide +kernel, rfl⟩
theorem iX4_init_50 : At cX4_init 50 (.aload_n 0) 1 51 := ⟨by decide +kernel, rfl⟩
theorem iX4_init_51 : At cX4_init 51 (.bipush 50) 2 53 := ⟨by decide +kernel, rfl⟩
theorem iX4_init_53 : At cX4_init 53 (.putfield 35) 3 56 := ⟨by decide +kernel, rfl⟩
theorem iX4_init_56 : At cX4_init 56 (.return_) 1 57 := ⟨by decide +kernel, rfl⟩
theorem iX4_clear_0 : At cX4_clear 0 (.aload_n 0) 1 1 := ⟨by decide +kernel, rfl⟩
theorem iX4_clear_1 : At cX4_clear 1 (.iconst 0) 1 2 := ⟨by decide +kernel, rfl⟩
theorem iX4_clear_2 : At cX4_clear 2 (.putfield 38) 3 5 := ⟨by decide +kernel, rfl⟩
theorem iX4_clear_5 : At cX4_clear 5 (.aload_n 0) 1 6 := ⟨by decide +kernel, rfl⟩
theorem iX4_clear_6 : At cX4_clear 6 (.getfield 24) 3 9 := ⟨by decide +kernel, rfl⟩
theorem iX4_clear_9 : At cX4_clear 9 (.invokevirtual 41) 3 12 := ⟨by decide +kernel, rfl⟩
theorem iX4_clear_12 : At cX4_clear 12 (.aload_n 0) 1 13 := ⟨by decide +kernel, rfl⟩
theorem iX4_clear_13 : At cX4_clear 13 (.bipush 6) 2 15 := ⟨by decide +kernel, rfl⟩
theorem iX4_clear_15 : At cX4_clear 15 (.iconst 5) 1 16 := ⟨by decide +kernel, rfl⟩
theorem iX4_clear_16 : At cX4_clear 16 (.bipush 50) 2 18 := ⟨by decide +kernel, rfl⟩
theorem iX4_clear_18 : At cX4_clear 18 (.invokevirtual 44) 3 21 := ⟨by decide +kernel, rfl⟩
theorem iX4_clear_21 : At cX4_clear 21 (.return_) 1 22 := ⟨by decide +kernel, rfl⟩
theorem iX4_copyFrom_0 : At cX4_copyFrom 0 (.aload_n 1) 1 1 := ⟨by decide +kernel, rfl⟩
theorem iX4_copyFrom_1 : At cX4_copyFrom 1 (.getfield 9) 3 4 := ⟨by decide +kernel, rfl⟩
theorem iX4_copyFrom_4 : At cX4_copyFrom 4 (.iconst 0) 1 5 := ⟨by decide +kernel, rfl⟩
theorem iX4_copyFrom_5 : At cX4_copyFrom 5 (.aload_n 0) 1 6 := ⟨by decide +kernel, rfl⟩
theorem iX4_copyFrom_6 : At cX4_copyFrom 6 (.getfield 9) 3 9 := ⟨by decide +kernel, rfl⟩
theorem iX4_copyFrom_9 : At cX4_copyFrom 9 (.iconst 0) 1 10 := ⟨by decide +kernel, rfl⟩
theorem iX4_copyFrom_10 : At cX4_copyFrom 10 (.bipush 10) 2 12 := ⟨by decide +kernel, rfl⟩
theorem iX4_copyFrom_12 : At cX4_copyFrom 12 (.invokestatic 48) 3 15 := ⟨by decide +kernel, rfl⟩
theorem iX4_copyFrom_15 : At cX4_copyFrom 15 (.aload_n 1) 1 16 := ⟨by decide +kernel, rfl⟩
theorem iX4_copyFrom_16 : At cX4_copyFrom 16 (.getfield 15) 3 19 := ⟨by decide +kernel, rfl⟩
theorem iX4_copyFrom_19 : At cX4_copyFrom 19 (.iconst 0) 1 20 := ⟨by decide +kernel, rfl⟩
theorem iX4_copyFrom_20 : At cX4_copyFrom 20 (.aload_n 0) 1 21 := ⟨by decide +kernel, rfl⟩
theorem iX4_copyFrom_21 : At cX4_copyFrom 21 (.getfield 15) 3 24 := ⟨by decide +kernel, rfl⟩
theorem iX4_copyFrom_24 : At cX4_copyFrom 24 (.iconst 0) 1 25 := ⟨by decide +kernel, rfl⟩
theorem iX4_copyFrom_25 : At cX4_copyFrom 25 (.bipush 10) 2 27 := ⟨by decide +kernel, rfl⟩
theorem iX4_copyFrom_27 : At cX4_copyFrom 27 (.invokestatic 48) 3 30 := ⟨by decide +kernel, rfl⟩
theorem iX4_copyFrom_30 : At cX4_copyFrom 30 (.aload_n 1) 1 31 := ⟨by decide +kernel, rfl⟩
end
section
theorem iX4_copyFrom_31 : At cX4_copyFrom 31 (.getfield 18) 3 34 := ⟨by decide +kernel, rfl⟩
theorem iX4_copyFrom_34 : At cX4_copyFrom 34 (.iconst 0) 1 35 := ⟨by decide +kernel, rfl⟩
theorem iX4_copyFrom_35 : At cX4_copyFrom 35 (.aload_n 0) 1 36 := ⟨by decide +kernel, rfl⟩
theorem iX4_copyFrom_36 : At cX4_copyFrom 36 (.getfield 18) 3 39 := ⟨by decide +kernel, rfl⟩
theorem iX4_copyFrom_39 : At cX4_copyFrom 39 (.iconst 0) 1 40 := ⟨by decide +kernel, rfl⟩
theorem iX4_copyFrom_40 : At cX4_copyFrom 40 (.bipush 10) 2 42 := ⟨by decide +kernel, rfl⟩
theorem iX4_copyFrom_42 : At cX4_copyFrom 42 (.invokestatic 48) 3 45 := ⟨by decide +kernel, rfl⟩
theorem iX4_copyFrom_45 : At cX4_copyFrom 45 (.aload_n 0) 1 46 := ⟨by decide +kernel, rfl⟩
theorem iX4_copyFrom_46 : At cX4_copyFrom 46 (.getfield 24) 3 49 := ⟨by decide +kernel, rfl⟩
theorem iX4_copyFrom_49 : At cX4_copyFrom 49 (.aload_n 1) 1 50 := ⟨by decide +kernel, rfl⟩
theorem iX4_copyFrom_50 : At cX4_copyFrom 50 (.getfield 24) 3 53 := ⟨by decide +kernel, rfl⟩
theorem iX4_copyFrom_53 : At cX4_copyFrom 53 (.invokevirtual 54) 3 56 := ⟨by decide +kernel, rfl⟩
theorem iX4_copyFrom_56 : At cX4_copyFrom 56 (.aload_n 0) 1 57 := ⟨by decide +kernel, rfl⟩
theorem iX4_copyFrom_57 : At cX4_copyFrom 57 (.aload_n 1) 1 58 := ⟨by decide +kernel, rfl⟩
theorem iX4_copyFrom_58 : At cX4_copyFrom 58 (.getfield 38) 3 61 := ⟨by decide +kernel, rfl⟩
theorem iX4_copyFrom_61 : At cX4_copyFrom 61 (.putfield 38) 3 64 := ⟨by decide +kernel, rfl⟩
theorem iX4_copyFrom_64 : At cX4_copyFrom 64 (.aload_n 0) 1 65 := ⟨by decide +kernel, rfl⟩
theorem iX4_copyFrom_65 : At cX4_copyFrom 65 (.aload_n 1) 1 66 := ⟨by decide +kernel, rfl⟩
theorem iX4_copyFrom_66 : At cX4_copyFrom 66 (.getfield 28) 3 69 := ⟨by decide +kernel, rfl⟩
theorem iX4_copyFrom_69 : At cX4_copyFrom 69 (.aload_n 1) 1 70 := ⟨by decide +kernel, rfl⟩
theorem iX4_copyFrom_70 : At cX4_copyFrom 70 (.getfield 32) 3 73 := ⟨by decide +kernel, rfl⟩
theorem iX4_copyFrom_73 : At cX4_copyFrom 73 (.aload_n 1) 1 74 := ⟨by decide +kernel, rfl⟩
theorem iX4_copyFrom_74 : At cX4_copyFrom 74 (.getfield 35) 3 77 := ⟨by decide +kernel, rfl⟩
theorem iX4_copyFrom_77 : At cX4_copyFrom 77 (.invokevirtual 44) 3 80 := ⟨by decide +kernel, rfl⟩
theorem iX4_copyFrom_80 : At cX4_copyFrom 80 (.return_) 1 81 := ⟨by decide +kernel, rfl⟩
theorem iX4_setRule_0 : At cX4_setRule 0 (.aload_n 0) 1 1 := ⟨by decide +kernel, rfl⟩
theorem iX4_setRule_1 : At cX4_setRule 1 (.iload_n 1) 1 2 := ⟨by decide +kernel, rfl⟩
theorem iX4_setRule_2 : At cX4_setRule 2 (.putfield 28) 3 5 := ⟨by decide +kernel, rfl⟩
theorem iX4_setRule_5 : At cX4_setRule 5 (.aload_n 0) 1 6 := ⟨by decide +kernel, rfl⟩
theorem iX4_setRule_6 : At cX4_setRule 6 (.iload_n 2) 1 7 := ⟨by decide +kernel, rfl⟩
theorem iX4_setRule_7 : At cX4_setRule 7 (.putfield 32) 3 10 := ⟨by decide +kernel, rfl⟩
theorem iX4_setRule_10 : At cX4_setRule 10 (.aload_n 0) 1 11 := ⟨by decide +kernel, rfl⟩
theorem iX4_setRule_11 : At cX4_setRule 11 (.iload_n 3) 1 12 := ⟨by decide +kernel, rfl⟩
theorem iX4_setRule_12 : At cX4_setRule 12 (.putfield 35) 3 15 := ⟨by decide +kernel, rfl⟩
theorem iX4_setRule_15 : At cX4_setRule 15 (.return_) 1 16 := ⟨by decide +kernel, rfl⟩
theorem iX4_addSection_0 : At cX4_addSection 0 (.aload_n 0) 1 1 := ⟨by decide +kernel, rfl⟩
theorem iX4_addSection_1 : At cX4_addSection 1 (.getfield 38) 3 4 := ⟨by decide +kernel, rfl⟩
theorem iX4_addSection_4 : At cX4_addSection 4 (.bipush 10) 2 6 := ⟨by decide +kernel, rfl⟩
theorem iX4_addSection_6 : At cX4_addSection 6 (.if_icmp .lt 4) 3 9 := ⟨by decide +kernel, rfl⟩
theorem iX4_addSection_9 : At cX4_addSection 9 (.return_) 1 10 := ⟨by decide +kernel, rfl⟩
theorem iX4_addSection_10 : At cX4_addSection 10 (.aload_n 0) 1 11 := ⟨by decide +kernel, rfl⟩
theorem iX4_addSection_11 : At cX4_addSection 11 (.getfield 9) 3 14 := ⟨by decide +kernel, rfl⟩
theorem iX4_addSection_14 : At cX4_addSection 14 (.aload_n 0) 1 15 := ⟨by decide +kernel, rfl⟩
theorem iX4_addSection_15 : At cX4_addSection 15 (.getfield 38) 3 18 := ⟨by decide +kernel, rfl⟩
theorem iX4_addSection_18 : At cX4_addSection 18 (.iload_n 1) 1 19 := ⟨by decide +kernel, rfl⟩
theorem iX4_addSection_19 : At cX4_addSection 19 (.iastore) 1 20 := ⟨by decide +kernel, rfl⟩
theorem iX4_addSection_20 : At cX4_addSection 20 (.aload_n 0) 1 21 := ⟨by decide +kernel, rfl⟩
theorem iX4_addSection_21 : At cX4_addSection 21 (.getfield 15) 3 24 := ⟨by decide +kernel, rfl⟩
theorem iX4_addSection_24 : At cX4_addSection 24 (.aload_n 0) 1 25 := ⟨by decide +kernel, rfl⟩
theorem iX4_addSection_25 : At cX4_addSection 25 (.getfield 38) 3 28 := ⟨by decide +kernel, rfl⟩
theorem iX4_addSection_28 : At cX4_addSection 28 (.iload_n 2) 1 29 := ⟨by decide +kernel, rfl⟩
theorem iX4_addSection_29 : At cX4_addSection 29 (.iastore) 1 30 := ⟨by decide +kernel, rfl⟩
theorem iX4_addSection_30 : At cX4_addSection 30 (.aload_n 0) 1 31 := ⟨by decide +kernel, rfl⟩
theorem iX4_addSection_31 : At cX4_addSection 31 (.getfield 18) 3 34 := ⟨by decide +kernel, rfl⟩
theorem iX4_addSection_34 : At cX4_addSection 34 (.aload_n 0) 1 35 := ⟨by decide +kernel, rfl⟩
theorem iX4_addSection_35 : At cX4_addSection 35 (.getfield 38) 3 38 := ⟨by decide +kernel, rfl⟩
theorem iX4_addSection_38 : At cX4_addSection 38 (.iconst 0) 1 39 := ⟨by decide +kernel, rfl⟩
theorem iX4_addSection_39 : At cX4_addSection 39 (.iastore) 1 40 := ⟨by decide +kernel, rfl⟩
theorem iX4_addSection_40 : At cX4_addSection 40 (.aload_n 0) 1 41 := ⟨by decide +kernel, rfl⟩
theorem iX4_addSection_41 : At cX4_addSection 41 (.dup) 1 42 := ⟨by decide +kernel, rfl⟩
theorem iX4_addSection_42 : At cX4_addSection 42 (.getfield 38) 3 45 := ⟨by decide +kernel, rfl⟩
theorem iX4_addSection_45 : At cX4_addSection 45 (.iconst 1) 1 46 := ⟨by decide +kernel, rfl⟩
theorem iX4_addSection_46 : At cX4_addSection 46 (.iadd) 1 47 := ⟨by decide +kernel, rfl⟩
theorem iX4_addSection_47 : At cX4_addSection 47 (.putfield 38) 3 50 := ⟨by decide +kernel, rfl⟩
theorem iX4_addSection_50 : At cX4_addSection 50 (.return_) 1 51 := ⟨by decide +kernel, rfl⟩
theorem iX4_join_0 : At cX4_join 0 (.aload_n 0) 1 1 := ⟨by decide +kernel, rfl⟩
theorem iX4_join_1 : At cX4_join 1 (.getfield 18) 3 4 := ⟨by decide +kernel, rfl⟩
theorem iX4_join_4 : At cX4_join 4 (.iload_n 1) 1 5 := ⟨by decide +kernel, rfl⟩
theorem iX4_join_5 : At cX4_join 5 (.dup2) 1 6 := ⟨by decide +kernel, rfl⟩
theorem iX4_join_6 : At cX4_join 6 (.iaload) 1 7 := ⟨by decide +kernel, rfl⟩
theorem iX4_join_7 : At cX4_join 7 (.iconst 1) 1 8 := ⟨by decide +kernel, rfl⟩
theorem iX4_join_8 : At cX4_join 8 (.iload_n 2) 1 9 := ⟨by decide +kernel, rfl⟩
theorem iX4_join_9 : At cX4_join 9 (.ishl) 1 10 := ⟨by decide +kernel, rfl⟩
theorem iX4_join_10 : At cX4_join 10 (.ior) 1 11 := ⟨by decide +kernel, rfl⟩
theorem iX4_join_11 : At cX4_join 11 (.iastore) 1 12 := ⟨by decide +kernel, rfl⟩
theorem iX4_join_12 : At cX4_join 12 (.aload_n 0) 1 13 := ⟨by decide +kernel, rfl⟩
theorem iX4_join_13 : At cX4_join 13 (.getfield 18) 3 16 := ⟨by decide +kernel, rfl⟩
theorem iX4_join_16 : At cX4_join 16 (.iload_n 2) 1 17 := ⟨by decide +kernel, rfl⟩
theorem iX4_join_17 : At cX4_join 17 (.dup2) 1 18 := ⟨by decide +kernel, rfl⟩
theorem iX4_join_18 : At cX4_join 18 (.iaload) 1 19 := ⟨by decide +kernel, rfl⟩
theorem iX4_join_19 : At cX4_join 19 (.iconst 1) 1 20 := ⟨by decide +kernel, rfl⟩
theorem iX4_join_20 : At cX4_join 20 (.iload_n 1) 1 21 := ⟨by decide +kernel, rfl⟩
theorem iX4_join_21 : At cX4_join 21 (.ishl) 1 22 := ⟨by decide +kernel, rfl⟩
theorem iX4_join_22 : At cX4_join 22 (.ior) 1 23 := ⟨by decide +kernel, rfl⟩
theorem iX4_join_23 : At cX4_join 23 (.iastore) 1 24 := ⟨by decide +kernel, rfl⟩
theorem iX4_join_24 : At cX4_join 24 (.return_) 1 25 := ⟨by decide +kernel, rfl⟩
theorem iX4_joints_0 : At cX4_joints 0 (.iconst 0) 1 1 := ⟨by decide +kernel, rfl⟩
theorem iX4_joints_1 : At cX4_joints 1 (.istore_n 1) 1 2 := ⟨by decide +kernel, rfl⟩
theorem iX4_joints_2 : At cX4_joints 2 (.iconst 0) 1 3 := ⟨by decide +kernel, rfl⟩
theorem iX4_joints_3 : At cX4_joints 3 (.istore_n 2) 1 4 := ⟨by decide +kernel, rfl⟩
theorem iX4_joints_4 : At cX4_joints 4 (.iload_n 2) 1 5 := ⟨by decide +kernel, rfl⟩
theorem iX4_joints_5 : At cX4_joints 5 (.aload_n 0) 1 6 := ⟨by decide +kernel, rfl⟩
theorem iX4_joints_6 : At cX4_joints 6 (.getfield 38) 3 9 := ⟨by decide +kernel, rfl⟩
theorem iX4_joints_9 : At cX4_joints 9 (.if_icmp .ge 21) 3 12 := ⟨by decide +kernel, rfl⟩
theorem iX4_joints_12 : At cX4_joints 12 (.iload_n 1) 1 13 := ⟨by decide +kernel, rfl⟩
theorem iX4_joints_13 : At cX4_joints 13 (.aload_n 0) 1 14 := ⟨by decide +kernel, rfl⟩
theorem iX4_joints_14 : At cX4_joints 14 (.getfield 18) 3 17 := ⟨by decide +kernel, rfl⟩
theorem iX4_joints_17 : At cX4_joints 17 (.iload_n 2) 1 18 := ⟨by decide +kernel, rfl⟩
theorem iX4_joints_18 : At cX4_joints 18 (.iaload) 1 19 := ⟨by decide +kernel, rfl⟩
theorem iX4_joints_19 : At cX4_joints 19 (.invokestatic 58) 3 22 := ⟨by decide +kernel, rfl⟩
theorem iX4_joints_22 : At cX4_joints 22 (.iadd) 1 23 := ⟨by decide +kernel, rfl⟩
theorem iX4_joints_23 : At cX4_joints 23 (.istore_n 1) 1 24 := ⟨by decide +kernel, rfl⟩
theorem iX4_joints_24 : At cX4_joints 24 (.iinc 2 1) 3 27 := ⟨by decide +kernel, rfl⟩
theorem iX4_joints_27 : At cX4_joints 27 (.goto (-23)) 3 30 := ⟨by decide +kernel, rfl⟩
theorem iX4_joints_30 : At cX4_joints 30 (.iload_n 1) 1 31 := ⟨by decide +kernel, rfl⟩
theorem iX4_joints_31 : At cX4_joints 31 (.iconst 2) 1 32 := ⟨by decide +kernel, rfl⟩
theorem iX4_joints_32 : At cX4_joints 32 (.idiv) 1 33 := ⟨by decide +kernel, rfl⟩
theorem iX4_joints_33 : At cX4_joints 33 (.ireturn) 1 34 := ⟨by decide +kernel, rfl⟩
theorem iX5_init_0 : At cX5_init 0 (.aload_n 0) 1 1 := ⟨by decide +kernel, rfl⟩
theorem iX5_init_1 : At cX5_init 1 (.invokespecial 3) 3 4 := ⟨by decide +kernel, rfl⟩
theorem iX5_init_4 : At cX5_init 4 (.aload_n 0) 1 5 := ⟨by decide +kernel, rfl⟩
theorem iX5_init_5 : At cX5_init 5 (.aload_n 1) 1 6 := ⟨by decide +kernel, rfl⟩
theorem iX5_init_6 : At cX5_init 6 (.putfield 9) 3 9 := ⟨by decide +kernel, rfl⟩
theorem iX5_init_9 : At cX5_init 9 (.aload_n 0) 1 10 := ⟨by decide +kernel, rfl⟩
theorem iX5_init_10 : At cX5_init 10 (.aload_n 2) 1 11 := ⟨by decide +kernel, rfl⟩
theorem iX5_init_11 : At cX5_init 11 (.putfield 15) 3 14 := ⟨by decide +kernel, rfl⟩
theorem iX5_init_14 : At cX5_init 14 (.return_) 1 15 := ⟨by decide +kernel, rfl⟩
theorem iX5_read_0 : At cX5_read 0 (.aload_n 0) 1 1 := ⟨by decide +kernel, rfl⟩
theorem iX5_read_1 : At cX5_read 1 (.getfield 15) 3 4 := ⟨by decide +kernel, rfl⟩
theorem iX5_read_4 : At cX5_read 4 (.aload_n 1) 1 5 := ⟨by decide +kernel, rfl⟩
theorem iX5_read_5 : At cX5_read 5 (.invokevirtual 19) 3 8 := ⟨by decide +kernel, rfl⟩
theorem iX5_read_8 : At cX5_read 8 (.aload_n 0) 1 9 := ⟨by decide +kernel, rfl⟩
theorem iX5_read_9 : At cX5_read 9 (.iconst 0) 1 10 := ⟨by decide +kernel, rfl⟩
theorem iX5_read_10 : At cX5_read 10 (.putfield 25) 3 13 := ⟨by decide +kernel, rfl⟩
theorem iX5_read_13 : At cX5_read 13 (.aload_n 0) 1 14 := ⟨by decide +kernel, rfl⟩
theorem iX5_read_14 : At cX5_read 14 (.iconst 0) 1 15 := ⟨by decide +kernel, rfl⟩
theorem iX5_read_15 : At cX5_read 15 (.putfield 29) 3 18 := ⟨by decide +kernel, rfl⟩
theorem iX5_read_18 : At cX5_read 18 (.iconst 0) 1 19 := ⟨by decide +kernel, rfl⟩
theorem iX5_read_19 : At cX5_read 19 (.istore_n 2) 1 20 := ⟨by decide +kernel, rfl⟩
theorem iX5_read_20 : At cX5_read 20 (.iload_n 2) 1 21 := ⟨by decide +kernel, rfl⟩
theorem iX5_read_21 : At cX5_read 21 (.bipush 24) 2 23 := ⟨by decide +kernel, rfl⟩
theorem iX5_read_23 : At cX5_read 23 (.if_icmp .ge 60) 3 26 := ⟨by decide +kernel, rfl⟩
theorem iX5_read_26 : At cX5_read 26 (.aload_n 0) 1 27 := ⟨by decide +kernel, rfl⟩
theorem iX5_read_27 : At cX5_read 27 (.invokevirtual 32) 3 30 := ⟨by decide +kernel, rfl⟩
theorem iX5_read_30 : At cX5_read 30 (.aload_n 0) 1 31 := ⟨by decide +kernel, rfl⟩
theorem iX5_read_31 : At cX5_read 31 (.invokevirtual 35) 3 34 := ⟨by decide +kernel, rfl⟩
theorem iX5_read_34 : At cX5_read 34 (.ifCond .ne 8) 3 37 := ⟨by decide +kernel, rfl⟩
theorem iX5_read_37 : At cX5_read 37 (.aload_n 0) 1 38 := ⟨by decide +kernel, rfl⟩
theorem iX5_read_38 : At cX5_read 38 (.getfield 39) 3 41 := ⟨by decide +kernel, rfl⟩
theorem iX5_read_41 : At cX5_read 41 (.ireturn) 1 42 := ⟨by decide +kernel, rfl⟩
theorem iX5_read_42 : At cX5_read 42 (.aload_n 0) 1 43 := ⟨by decide +kernel, rfl⟩
theorem iX5_read_43 : At cX5_read 43 (.dup) 1 44 := ⟨by decide +kernel, rfl⟩
theorem iX5_read_44 : At cX5_read 44 (.getfield 29) 3 47 := ⟨by decide +kernel, rfl⟩
theorem iX5_read_47 : At cX5_read 47 (.iconst 1) 1 48 := ⟨by decide +kernel, rfl⟩
theorem iX5_read_48 : At cX5_read 48 (.iadd) 1 49 := ⟨by decide +kernel, rfl⟩
theorem iX5_read_49 : At cX5_read 49 (.putfield 29) 3 52 := ⟨by decide +kernel, rfl⟩
theorem iX5_read_52 : At cX5_read 52 (.aload_n 0) 1 53 := ⟨by decide +kernel, rfl⟩
theorem iX5_read_53 : At cX5_read 53 (.invokevirtual 32) 3 56 := ⟨by decide +kernel, rfl⟩
theorem iX5_read_56 : At cX5_read 56 (.aload_n 0) 1 57 := ⟨by decide +kernel, rfl⟩
theorem iX5_read_57 : At cX5_read 57 (.getfield 42) 3 60 := ⟨by decide +kernel, rfl⟩
theorem iX5_read_60 : At cX5_read 60 (.ifCond .ne 5) 3 63 := ⟨by decide +kernel, rfl⟩
theorem iX5_read_63 : At cX5_read 63 (.iconst (-1)) 1 64 := ⟨by decide +kernel, rfl⟩
theorem iX5_read_64 : At cX5_read 64 (.ireturn) 1 65 := ⟨by decide +kernel, rfl⟩
theorem iX5_read_65 : At cX5_read 65 (.aload_n 0) 1 66 := ⟨by decide +kernel, rfl⟩
theorem iX5_read_66 : At cX5_read 66 (.invokevirtual 45) 3 69 := ⟨by decide +kernel, rfl⟩
theorem iX5_read_69 : At cX5_read 69 (.ifCond .ne 8) 3 72 := ⟨by decide +kernel, rfl⟩
theorem iX5_read_72 : At cX5_read 72 (.aload_n 0) 1 73 := ⟨by decide +kernel, rfl⟩
theorem iX5_read_73 : At cX5_read 73 (.getfield 39) 3 76 := ⟨by decide +kernel, rfl⟩
theorem iX5_read_76 : At cX5_read 76 (.ireturn) 1 77 := ⟨by decide +kernel, rfl⟩
theorem iX5_read_77 : At cX5_read 77 (.iinc 2 1) 3 80 := ⟨by decide +kernel, rfl⟩
theorem iX5_read_80 : At cX5_read 80 (.goto (-60)) 3 83 := ⟨by decide +kernel, rfl⟩
theorem iX5_read_83 : At cX5_read 83 (.aload_n 0) 1 84 := ⟨by decide +kernel, rfl⟩
theorem iX5_read_84 : At cX5_read 84 (.getfield 39) 3 87 := ⟨by decide +kernel, rfl⟩
theorem iX5_read_87 : At cX5_read 87 (.ireturn) 1 88 := ⟨by decide +kernel, rfl⟩
theorem iX5_clauseStands_0 : At cX5_clauseStands 0 (.aload_n 0) 1 1 := ⟨by decide +kernel, rfl⟩
theorem iX5_clauseStands_1 : At cX5_clauseStands 1 (.getfield 42) 3 4 := ⟨by decide +kernel, rfl⟩
theorem iX5_clauseStands_4 : At cX5_clauseStands 4 (.iconst 1) 1 5 := ⟨by decide +kernel, rfl⟩
theorem iX5_clauseStands_5 : At cX5_clauseStands 5 (.if_icmp .eq 5) 3 8 := ⟨by decide +kernel, rfl⟩
theorem iX5_clauseStands_8 : At cX5_clauseStands 8 (.iconst 0) 1 9 := ⟨by decide +kernel, rfl⟩
theorem iX5_clauseStands_9 : At cX5_clauseStands 9 (.ireturn) 1 10 := ⟨by decide +kernel, rfl⟩
theorem iX5_clauseStands_10 : At cX5_clauseStands 10 (.aload_n 0) 1 11 := ⟨by decide +kernel, rfl⟩
theorem iX5_clauseStands_11 : At cX5_clauseStands 11 (.ldc 48) 2 13 := ⟨by decide +kernel, rfl⟩
theorem iX5_clauseStands_13 : At cX5_clauseStands 13 (.invokevirtual 50) 3 16 := ⟨by decide +kernel, rfl⟩
theorem iX5_clauseStands_16 : At cX5_clauseStands 16 (.ifCond .eq 12) 3 19 := ⟨by decide +kernel, rfl⟩
theorem iX5_clauseStands_19 : At cX5_clauseStands 19 (.aload_n 0) 1 20 := ⟨by decide +kernel, rfl⟩
theorem iX5_clauseStands_20 : At cX5_clauseStands 20 (.getfield 15) 3 23 := ⟨by decide +kernel, rfl⟩
theorem iX5_clauseStands_23 : At cX5_clauseStands 23 (.invokevirtual 54) 3 26 := ⟨by decide +kernel, rfl⟩
theorem iX5_clauseStands_26 : At cX5_clauseStands 26 (.iconst 1) 1 27 := ⟨by decide +kernel, rfl⟩
theorem iX5_clauseStands_27 : At cX5_clauseStands 27 (.ireturn) 1 28 := ⟨by decide +kernel, rfl⟩
theorem iX5_clauseStands_28 : At cX5_clauseStands 28 (.aload_n 0) 1 29 := ⟨by decide +kernel, rfl⟩
theorem iX5_clauseStands_29 : At cX5_clauseStands 29 (.ldc 57) 2 31 := ⟨by decide +kernel, rfl⟩
theorem iX5_clauseStands_31 : At cX5_clauseStands 31 (.invokevirtual 50) 3 34 := ⟨by decide +kernel, rfl⟩
theorem iX5_clauseStands_34 : At cX5_clauseStands 34 (.ifCond .eq 8) 3 37 := ⟨by decide +kernel, rfl⟩
theorem iX5_clauseStands_37 : At cX5_clauseStands 37 (.aload_n 0) 1 38 := ⟨by decide +kernel, rfl⟩
theorem iX5_clauseStands_38 : At cX5_clauseStands 38 (.invokevirtual 59) 3 41 := ⟨by decide +kernel, rfl⟩
theorem iX5_clauseStands_41 : At cX5_clauseStands 41 (.ireturn) 1 42 := ⟨by decide +kernel, rfl⟩
theorem iX5_clauseStands_42 : At cX5_clauseStands 42 (.aload_n 0) 1 43 := ⟨by decide +kernel, rfl⟩
theorem iX5_clauseStands_43 : At cX5_clauseStands 43 (.ldc 62) 2 45 := ⟨by decide +kernel, rfl⟩
theorem iX5_clauseStands_45 : At cX5_clauseStands 45 (.invokevirtual 50) 3 48 := ⟨by decide +kernel, rfl⟩
theorem iX5_clauseStands_48 : At cX5_clauseStands 48 (.ifCond .eq 8) 3 51 := ⟨by decide +kernel, rfl⟩
theorem iX5_clauseStands_51 : At cX5_clauseStands 51 (.aload_n 0) 1 52 := ⟨by decide +kernel, rfl⟩
theorem iX5_clauseStands_52 : At cX5_clauseStands 52 (.invokevirtual 64) 3 55 := ⟨by decide +kernel, rfl⟩
theorem iX5_clauseStands_55 : At cX5_clauseStands 55 (.ireturn) 1 56 := ⟨by decide +kernel, rfl⟩
theorem iX5_clauseStands_56 : At cX5_clauseStands 56 (.aload_n 0) 1 57 := ⟨by decide +kernel, rfl⟩
theorem iX5_clauseStands_57 : At cX5_clauseStands 57 (.ldc 67) 2 59 := ⟨by decide +kernel, rfl⟩
theorem iX5_clauseStands_59 : At cX5_clauseStands 59 (.invokevirtual 50) 3 62 := ⟨by decide +kernel, rfl⟩
theorem iX5_clauseStands_62 : At cX5_clauseStands 62 (.ifCond .eq 8) 3 65 := ⟨by decide +kernel, rfl⟩
theorem iX5_clauseStands_65 : At cX5_clauseStands 65 (.aload_n 0) 1 66 := ⟨by decide +kernel, rfl⟩
theorem iX5_clauseStands_66 : At cX5_clauseStands 66 (.invokevirtual 69) 3 69 := ⟨by decide +kernel, rfl⟩
theorem iX5_clauseStands_69 : At cX5_clauseStands 69 (.ireturn) 1 70 := ⟨by decide +kernel, rfl⟩
theorem iX5_clauseStands_70 : At cX5_clauseStands 70 (.aload_n 0) 1 71 := ⟨by decide +kernel, rfl⟩
theorem iX5_clauseStands_71 : At cX5_clauseStands 71 (.ldc 72) 2 73 := ⟨by decide +kernel, rfl⟩
theorem iX5_clauseStands_73 : At cX5_clauseStands 73 (.invokevirtual 50) 3 76 := ⟨by decide +kernel, rfl⟩
theorem iX5_clauseStands_76 : At cX5_clauseStands 76 (.ifCond .eq 8) 3 79 := ⟨by decide +kernel, rfl⟩
theorem iX5_clauseStands_79 : At cX5_clauseStands 79 (.aload_n 0) 1 80 := ⟨by decide +kernel, rfl⟩
theorem iX5_clauseStands_80 : At cX5_clauseStands 80 (.invokevirtual 74) 3 83 := ⟨by decide +kernel, rfl⟩
theorem iX5_clauseStands_83 : At cX5_clauseStands 83 (.ireturn) 1 84 := ⟨by decide +kernel, rfl⟩
theorem iX5_clauseStands_84 : At cX5_clauseStands 84 (.aload_n 0) 1 85 := ⟨by decide +kernel, rfl⟩
theorem iX5_clauseStands_85 : At cX5_clauseStands 85 (.ldc 77) 2 87 := ⟨by decide +kernel, rfl⟩
theorem iX5_clauseStands_87 : At cX5_clauseStands 87 (.invokevirtual 50) 3 90 := ⟨by decide +kernel, rfl⟩
theorem iX5_clauseStands_90 : At cX5_clauseStands 90 (.ifCond .eq 14) 3 93 := ⟨by decide +kernel, rfl⟩
theorem iX5_clauseStands_93 : At cX5_clauseStands 93 (.aload_n 0) 1 94 := ⟨by decide +kernel, rfl⟩
theorem iX5_clauseStands_94 : At cX5_clauseStands 94 (.invokevirtual 79) 3 97 := ⟨by decide +kernel, rfl⟩
theorem iX5_clauseStands_97 : At cX5_clauseStands 97 (.ifCond .eq 7) 3 100 := ⟨by decide +kernel, rfl⟩
theorem iX5_clauseStands_100 : At cX5_clauseStands 100 (.iconst 1) 1 101 := ⟨by decide +kernel, rfl⟩
theorem iX5_clauseStands_101 : At cX5_clauseStands 101 (.goto 4) 3 104 := ⟨by decide +kernel, rfl⟩
theorem iX5_clauseStands_104 : At cX5_clauseStands 104 (.iconst 0) 1 105 := ⟨by decide +kernel, rfl⟩
theorem iX5_clauseStands_105 : At cX5_clauseStands 105 (.ireturn) 1 106 := ⟨by decide +kernel, rfl⟩
theorem iX5_sectionStands_0 : At cX5_sectionStands 0 (.aload_n 0) 1 1 := ⟨by decide +kernel, rfl⟩
theorem iX5_sectionStands_1 : At cX5_sectionStands 1 (.getfield 15) 3 4 := ⟨by decide +kernel, rfl⟩
theorem iX5_sectionStands_4 : At cX5_sectionStands 4 (.getfield 82) 3 7 := ⟨by decide +kernel, rfl⟩
theorem iX5_sectionStands_7 : At cX5_sectionStands 7 (.bipush 10) 2 9 := ⟨by decide +kernel, rfl⟩
theorem iX5_sectionStands_9 : At cX5_sectionStands 9 (.if_icmp .ge 13) 3 12 := ⟨by decide +kernel, rfl⟩
theorem iX5_sectionStands_12 : At cX5_sectionStands 12 (.aload_n 0) 1 13 := ⟨by decide +kernel, rfl⟩
theorem iX5_sectionStands_13 : At cX5_sectionStands 13 (.iconst 1) 1 14 := ⟨by decide +kernel, rfl⟩
theorem iX5_sectionStands_14 : At cX5_sectionStands 14 (.bipush 99) 2 16 := ⟨by decide +kernel, rfl⟩
theorem iX5_sectionStands_16 : At cX5_sectionStands 16 (.invokevirtual 85) 3 19 := ⟨by decide +kernel, rfl⟩
theorem iX5_sectionStands_19 : At cX5_sectionStands 19 (.ifCond .ne 5) 3 22 := ⟨by decide +kernel, rfl⟩
theorem iX5_sectionStands_22 : At cX5_sectionStands 22 (.iconst 0) 1 23 := ⟨by decide +kernel, rfl⟩
theorem iX5_sectionStands_23 : At cX5_sectionStands 23 (.ireturn) 1 24 := ⟨by decide +kernel, rfl⟩
theorem iX5_sectionStands_24 : At cX5_sectionStands 24 (.aload_n 0) 1 25 := ⟨by decide +kernel, rfl⟩
theorem iX5_sectionStands_25 : At cX5_sectionStands 25 (.getfield 89) 3 28 := ⟨by decide +kernel, rfl⟩
theorem iX5_sectionStands_28 : At cX5_sectionStands 28 (.istore_n 1) 1 29 := ⟨by decide +kernel, rfl⟩
theorem iX5_sectionStands_29 : At cX5_sectionStands 29 (.aload_n 0) 1 30 := ⟨by decide +kernel, rfl⟩
theorem iX5_sectionStands_30 : At cX5_sectionStands 30 (.iconst 1) 1 31 := ⟨by decide +kernel, rfl⟩
theorem iX5_sectionStands_31 : At cX5_sectionStands 31 (.bipush 99) 2 33 := ⟨by decide +kernel, rfl⟩
theorem iX5_sectionStands_33 : At cX5_sectionStands 33 (.invokevirtual 85) 3 36 := ⟨by decide +kernel, rfl⟩
theorem iX5_sectionStands_36 : At cX5_sectionStands 36 (.ifCond .ne 5) 3 39 := ⟨by decide +kernel, rfl⟩
theorem iX5_sectionStands_39 : At cX5_sectionStands 39 (.iconst 0) 1 40 := ⟨by decide +kernel, rfl⟩
theorem iX5_sectionStands_40 : At cX5_sectionStands 40 (.ireturn) 1 41 := ⟨by decide +kernel, rfl⟩
theorem iX5_sectionStands_41 : At cX5_sectionStands 41 (.aload_n 0) 1 42 := ⟨by decide +kernel, rfl⟩
theorem iX5_sectionStands_42 : At cX5_sectionStands 42 (.getfield 15) 3 45 := ⟨by decide +kernel, rfl⟩
theorem iX5_sectionStands_45 : At cX5_sectionStands 45 (.iload_n 1) 1 46 := ⟨by decide +kernel, rfl⟩
theorem iX5_sectionStands_46 : At cX5_sectionStands 46 (.aload_n 0) 1 47 := ⟨by decide +kernel, rfl⟩
theorem iX5_sectionStands_47 : At cX5_sectionStands 47 (.getfield 89) 3 50 := ⟨by decide +kernel, rfl⟩
theorem iX5_sectionStands_50 : At cX5_sectionStands 50 (.invokevirtual 92) 3 53 := ⟨by decide +kernel, rfl⟩
theorem iX5_sectionStands_53 : At cX5_sectionStands 53 (.iconst 1) 1 54 := ⟨by decide +kernel, rfl⟩
theorem iX5_sectionStands_54 : At cX5_sectionStands 54 (.ireturn) 1 55 := ⟨by decide +kernel, rfl⟩
theorem iX5_jointStands_0 : At cX5_jointStands 0 (.aload_n 0) 1 1 := ⟨by decide +kernel, rfl⟩
theorem iX5_jointStands_1 : At cX5_jointStands 1 (.iconst 0) 1 2 := ⟨by decide +kernel, rfl⟩
theorem iX5_jointStands_2 : At cX5_jointStands 2 (.aload_n 0) 1 3 := ⟨by decide +kernel, rfl⟩
theorem iX5_jointStands_3 : At cX5_jointStands 3 (.getfield 15) 3 6 := ⟨by decide +kernel, rfl⟩
theorem iX5_jointStands_6 : At cX5_jointStands 6 (.getfield 82) 3 9 := ⟨by decide +kernel, rfl⟩
theorem iX5_jointStands_9 : At cX5_jointStands 9 (.iconst 1) 1 10 := ⟨by decide +kernel, rfl⟩
theorem iX5_jointStands_10 : At cX5_jointStands 10 (.isub) 1 11 := ⟨by decide +kernel, rfl⟩
theorem iX5_jointStands_11 : At cX5_jointStands 11 (.invokevirtual 85) 3 14 := ⟨by decide +kernel, rfl⟩
theorem iX5_jointStands_14 : At cX5_jointStands 14 (.ifCond .ne 5) 3 17 := ⟨by decide +kernel, rfl⟩
theorem iX5_jointStands_17 : At cX5_jointStands 17 (.iconst 0) 1 18 := ⟨by decide +kernel, rfl⟩
theorem iX5_jointStands_18 : At cX5_jointStands 18 (.ireturn) 1 19 := ⟨by decide +kernel, rfl⟩
theorem iX5_jointStands_19 : At cX5_jointStands 19 (.aload_n 0) 1 20 := ⟨by decide +kernel, rfl⟩
theorem iX5_jointStands_20 : At cX5_jointStands 20 (.getfield 89) 3 23 := ⟨by decide +kernel, rfl⟩
theorem iX5_jointStands_23 : At cX5_jointStands 23 (.istore_n 1) 1 24 := ⟨by decide +kernel, rfl⟩
theorem iX5_jointStands_24 : At cX5_jointStands 24 (.aload_n 0) 1 25 := ⟨by decide +kernel, rfl⟩
theorem iX5_jointStands_25 : At cX5_jointStands 25 (.iconst 0) 1 26 := ⟨by decide +kernel, rfl⟩
theorem iX5_jointStands_26 : At cX5_jointStands 26 (.aload_n 0) 1 27 := ⟨by decide +kernel, rfl⟩
theorem iX5_jointStands_27 : At cX5_jointStands 27 (.getfield 15) 3 30 := ⟨by decide +kernel, rfl⟩
theorem iX5_jointStands_30 : At cX5_jointStands 30 (.getfield 82) 3 33 := ⟨by decide +kernel, rfl⟩
theorem iX5_jointStands_33 : At cX5_jointStands 33 (.iconst 1) 1 34 := ⟨by decide +kernel, rfl⟩
theorem iX5_jointStands_34 : At cX5_jointStands 34 (.isub) 1 35 := ⟨by decide +kernel, rfl⟩
theorem iX5_jointStands_35 : At cX5_jointStands 35 (.invokevirtual 85) 3 38 := ⟨by decide +kernel, rfl⟩
theorem iX5_jointStands_38 : At cX5_jointStands 38 (.ifCond .eq 11) 3 41 := ⟨by decide +kernel, rfl⟩
theorem iX5_jointStands_41 : At cX5_jointStands 41 (.aload_n 0) 1 42 := ⟨by decide +kernel, rfl⟩
theorem iX5_jointStands_42 : At cX5_jointStands 42 (.getfield 89) 3 45 := ⟨by decide +kernel, rfl⟩
theorem iX5_jointStands_45 : At cX5_jointStands 45 (.iload_n 1) 1 46 := ⟨by decide +kernel, rfl⟩
theorem iX5_jointStands_46 : At cX5_jointStands 46 (.if_icmp .ne 5) 3 49 := ⟨by decide +kernel, rfl⟩
theorem iX5_jointStands_49 : At cX5_jointStands 49 (.iconst 0) 1 50 := ⟨by decide +kernel, rfl⟩
theorem iX5_jointStands_50 : At cX5_jointStands 50 (.ireturn) 1 51 := ⟨by decide +kernel, rfl⟩
theorem iX5_jointStands_51 : At cX5_jointStands 51 (.aload_n 0) 1 52 := ⟨by decide +kernel, rfl⟩
theorem iX5_jointStands_52 : At cX5_jointStands 52 (.getfield 15) 3 55 := ⟨by decide +kernel, rfl⟩
theorem iX5_jointStands_55 : At cX5_jointStands 55 (.iload_n 1) 1 56 := ⟨by decide +kernel, rfl⟩
theorem iX5_jointStands_56 : At cX5_jointStands 56 (.aload_n 0) 1 57 := ⟨by decide +kernel, rfl⟩
theorem iX5_jointStands_57 : At cX5_jointStands 57 (.getfield 89) 3 60 := ⟨by decide +kernel, rfl⟩
theorem iX5_jointStands_60 : At cX5_jointStands 60 (.invokevirtual 96) 3 63 := ⟨by decide +kernel, rfl⟩
theorem iX5_jointStands_63 : At cX5_jointStands 63 (.iconst 1) 1 64 := ⟨by decide +kernel, rfl⟩
theorem iX5_jointStands_64 : At cX5_jointStands 64 (.ireturn) 1 65 := ⟨by decide +kernel, rfl⟩
theorem iX5_riserStands_0 : At cX5_riserStands 0 (.aload_n 0) 1 1 := ⟨by decide +kernel, rfl⟩
theorem iX5_riserStands_1 : At cX5_riserStands 1 (.getfield 15) 3 4 := ⟨by decide +kernel, rfl⟩
theorem iX5_riserStands_4 : At cX5_riserStands 4 (.getfield 99) 3 7 := ⟨by decide +kernel, rfl⟩
theorem iX5_riserStands_7 : At cX5_riserStands 7 (.getfield 103) 3 10 := ⟨by decide +kernel, rfl⟩
theorem iX5_riserStands_10 : At cX5_riserStands 10 (.bipush 6) 2 12 := ⟨by decide +kernel, rfl⟩
theorem iX5_riserStands_12 : At cX5_riserStands 12 (.if_icmp .ge 20) 3 15 := ⟨by decide +kernel, rfl⟩
theorem iX5_riserStands_15 : At cX5_riserStands 15 (.aload_n 0) 1 16 := ⟨by decide +kernel, rfl⟩
theorem iX5_riserStands_16 : At cX5_riserStands 16 (.iconst 0) 1 17 := ⟨by decide +kernel, rfl⟩
theorem iX5_riserStands_17 : At cX5_riserStands 17 (.aload_n 0) 1 18 := ⟨by decide +kernel, rfl⟩
theorem iX5_riserStands_18 : At cX5_riserStands 18 (.getfield 15) 3 21 := ⟨by decide +kernel, rfl⟩
theorem iX5_riserStands_21 : At cX5_riserStands 21 (.getfield 82) 3 24 := ⟨by decide +kernel, rfl⟩
theorem iX5_riserStands_24 : At cX5_riserStands 24 (.iconst 1) 1 25 := ⟨by decide +kernel, rfl⟩
theorem iX5_riserStands_25 : At cX5_riserStands 25 (.isub) 1 26 := ⟨by decide +kernel, rfl⟩
theorem iX5_riserStands_26 : At cX5_riserStands 26 (.invokevirtual 85) 3 29 := ⟨by decide +kernel, rfl⟩
theorem iX5_riserStands_29 : At cX5_riserStands 29 (.ifCond .ne 5) 3 32 := ⟨by decide +kernel, rfl⟩
theorem iX5_riserStands_32 : At cX5_riserStands 32 (.iconst 0) 1 33 := ⟨by decide +kernel, rfl⟩
theorem iX5_riserStands_33 : At cX5_riserStands 33 (.ireturn) 1 34 := ⟨by decide +kernel, rfl⟩
theorem iX5_riserStands_34 : At cX5_riserStands 34 (.aload_n 0) 1 35 := ⟨by decide +kernel, rfl⟩
theorem iX5_riserStands_35 : At cX5_riserStands 35 (.getfield 89) 3 38 := ⟨by decide +kernel, rfl⟩
theorem iX5_riserStands_38 : At cX5_riserStands 38 (.istore_n 1) 1 39 := ⟨by decide +kernel, rfl⟩
theorem iX5_riserStands_39 : At cX5_riserStands 39 (.aload_n 0) 1 40 := ⟨by decide +kernel, rfl⟩
theorem iX5_riserStands_40 : At cX5_riserStands 40 (.iconst 1) 1 41 := ⟨by decide +kernel, rfl⟩
theorem iX5_riserStands_41 : At cX5_riserStands 41 (.bipush 99) 2 43 := ⟨by decide +kernel, rfl⟩
theorem iX5_riserStands_43 : At cX5_riserStands 43 (.invokevirtual 85) 3 46 := ⟨by decide +kernel, rfl⟩
theorem iX5_riserStands_46 : At cX5_riserStands 46 (.ifCond .ne 5) 3 49 := ⟨by decide +kernel, rfl⟩
theorem iX5_riserStands_49 : At cX5_riserStands 49 (.iconst 0) 1 50 := ⟨by decide +kernel, rfl⟩
theorem iX5_riserStands_50 : At cX5_riserStands 50 (.ireturn) 1 51 := ⟨by decide +kernel, rfl⟩
theorem iX5_riserStands_51 : At cX5_riserStands 51 (.aload_n 0) 1 52 := ⟨by decide +kernel, rfl⟩
theorem iX5_riserStands_52 : At cX5_riserStands 52 (.getfield 89) 3 55 := ⟨by decide +kernel, rfl⟩
theorem iX5_riserStands_55 : At cX5_riserStands 55 (.istore_n 2) 1 56 := ⟨by decide +kernel, rfl⟩
theorem iX5_riserStands_56 : At cX5_riserStands 56 (.aload_n 0) 1 57 := ⟨by decide +kernel, rfl⟩
theorem iX5_riserStands_57 : At cX5_riserStands 57 (.iconst 1) 1 58 := ⟨by decide +kernel, rfl⟩
theorem iX5_riserStands_58 : At cX5_riserStands 58 (.bipush 99) 2 60 := ⟨by decide +kernel, rfl⟩
theorem iX5_riserStands_60 : At cX5_riserStands 60 (.invokevirtual 85) 3 63 := ⟨by decide +kernel, rfl⟩
theorem iX5_riserStands_63 : At cX5_riserStands 63 (.ifCond .ne 5) 3 66 := ⟨by decide +kernel, rfl⟩
theorem iX5_riserStands_66 : At cX5_riserStands 66 (.iconst 0) 1 67 := ⟨by decide +kernel, rfl⟩
theorem iX5_riserStands_67 : At cX5_riserStands 67 (.ireturn) 1 68 := ⟨by decide +kernel, rfl⟩
theorem iX5_riserStands_68 : At cX5_riserStands 68 (.aload_n 0) 1 69 := ⟨by decide +kernel, rfl⟩
theorem iX5_riserStands_69 : At cX5_riserStands 69 (.getfield 15) 3 72 := ⟨by decide +kernel, rfl⟩
theorem iX5_riserStands_72 : At cX5_riserStands 72 (.getfield 99) 3 75 := ⟨by decide +kernel, rfl⟩
theorem iX5_riserStands_75 : At cX5_riserStands 75 (.iload_n 1) 1 76 := ⟨by decide +kernel, rfl⟩
theorem iX5_riserStands_76 : At cX5_riserStands 76 (.iload_n 2) 1 77 := ⟨by decide +kernel, rfl⟩
theorem iX5_riserStands_77 : At cX5_riserStands 77 (.aload_n 0) 1 78 := ⟨by decide +kernel, rfl⟩
theorem iX5_riserStands_78 : At cX5_riserStands 78 (.getfield 89) 3 81 := ⟨by decide +kernel, rfl⟩
theorem iX5_riserStands_81 : At cX5_riserStands 81 (.invokevirtual 108) 3 84 := ⟨by decide +kernel, rfl⟩
theorem iX5_riserStands_84 : At cX5_riserStands 84 (.iconst 1) 1 85 := ⟨by decide +kernel, rfl⟩
theorem iX5_riserStands_85 : At cX5_riserStands 85 (.ireturn) 1 86 := ⟨by decide +kernel, rfl⟩
theorem iX5_chillStands_0 : At cX5_chillStands 0 (.aload_n 0) 1 1 := ⟨by decide +kernel, rfl⟩
theorem iX5_chillStands_1 : At cX5_chillStands 1 (.iconst 0) 1 2 := ⟨by decide +kernel, rfl⟩
theorem iX5_chillStands_2 : At cX5_chillStands 2 (.aload_n 0) 1 3 := ⟨by decide +kernel, rfl⟩
theorem iX5_chillStands_3 : At cX5_chillStands 3 (.getfield 15) 3 6 := ⟨by decide +kernel, rfl⟩
theorem iX5_chillStands_6 : At cX5_chillStands 6 (.getfield 82) 3 9 := ⟨by decide +kernel, rfl⟩
theorem iX5_chillStands_9 : At cX5_chillStands 9 (.iconst 1) 1 10 := ⟨by decide +kernel, rfl⟩
theorem iX5_chillStands_10 : At cX5_chillStands 10 (.isub) 1 11 := ⟨by decide +kernel, rfl⟩
theorem iX5_chillStands_11 : At cX5_chillStands 11 (.invokevirtual 85) 3 14 := ⟨by decide +kernel, rfl⟩
theorem iX5_chillStands_14 : At cX5_chillStands 14 (.ifCond .ne 5) 3 17 := ⟨by decide +kernel, rfl⟩
theorem iX5_chillStands_17 : At cX5_chillStands 17 (.iconst 0) 1 18 := ⟨by decide +kernel, rfl⟩
theorem iX5_chillStands_18 : At cX5_chillStands 18 (.ireturn) 1 19 := ⟨by decide +kernel, rfl⟩
theorem iX5_chillStands_19 : At cX5_chillStands 19 (.aload_n 0) 1 20 := ⟨by decide +kernel, rfl⟩
theorem iX5_chillStands_20 : At cX5_chillStands 20 (.getfield 89) 3 23 := ⟨by decide +kernel, rfl⟩
theorem iX5_chillStands_23 : At cX5_chillStands 23 (.istore_n 1) 1 24 := ⟨by decide +kernel, rfl⟩
theorem iX5_chillStands_24 : At cX5_chillStands 24 (.aload_n 0) 1 25 := ⟨by decide +kernel, rfl⟩
theorem iX5_chillStands_25 : At cX5_chillStands 25 (.iconst 0) 1 26 := ⟨by decide +kernel, rfl⟩
theorem iX5_chillStands_26 : At cX5_chillStands 26 (.bipush 9) 2 28 := ⟨by decide +kernel, rfl⟩
theorem iX5_chillStands_28 : At cX5_chillStands 28 (.invokevirtual 85) 3 31 := ⟨by decide +kernel, rfl⟩
theorem iX5_chillStands_31 : At cX5_chillStands 31 (.ifCond .ne 5) 3 34 := ⟨by decide +kernel, rfl⟩
theorem iX5_chillStands_34 : At cX5_chillStands 34 (.iconst 0) 1 35 := ⟨by decide +kernel, rfl⟩
theorem iX5_chillStands_35 : At cX5_chillStands 35 (.ireturn) 1 36 := ⟨by decide +kernel, rfl⟩
theorem iX5_chillStands_36 : At cX5_chillStands 36 (.aload_n 0) 1 37 := ⟨by decide +kernel, rfl⟩
theorem iX5_chillStands_37 : At cX5_chillStands 37 (.getfield 15) 3 40 := ⟨by decide +kernel, rfl⟩
theorem iX5_chillStands_40 : At cX5_chillStands 40 (.getfield 99) 3 43 := ⟨by decide +kernel, rfl⟩
theorem iX5_chillStands_43 : At cX5_chillStands 43 (.getfield 112) 3 46 := ⟨by decide +kernel, rfl⟩
theorem iX5_chillStands_46 : At cX5_chillStands 46 (.iload_n 1) 1 47 := ⟨by decide +kernel, rfl⟩
theorem iX5_chillStands_47 : At cX5_chillStands 47 (.aload_n 0) 1 48 := ⟨by decide +kernel, rfl⟩
theorem iX5_chillStands_48 : At cX5_chillStands 48 (.getfield 89) 3 51 := ⟨by decide +kernel, rfl⟩
theorem iX5_chillStands_51 : At cX5_chillStands 51 (.iastore) 1 52 := ⟨by decide +kernel, rfl⟩
theorem iX5_chillStands_52 : At cX5_chillStands 52 (.iconst 1) 1 53 := ⟨by decide +kernel, rfl⟩
theorem iX5_chillStands_53 : At cX5_chillStands 53 (.ireturn) 1 54 := ⟨by decide +kernel, rfl⟩
theorem iX5_ruleStands_0 : At cX5_ruleStands 0 (.aload_n 0) 1 1 := ⟨by decide +kernel, rfl⟩
theorem iX5_ruleStands_1 : At cX5_ruleStands 1 (.iconst 1) 1 2 := ⟨by decide +kernel, rfl⟩
theorem iX5_ruleStands_2 : At cX5_ruleStands 2 (.bipush 99) 2 4 := ⟨by decide +kernel, rfl⟩
theorem iX5_ruleStands_4 : At cX5_ruleStands 4 (.invokevirtual 85) 3 7 := ⟨by decide +kernel, rfl⟩
theorem iX5_ruleStands_7 : At cX5_ruleStands 7 (.ifCond .ne 5) 3 10 := ⟨by decide +kernel, rfl⟩
theorem iX5_ruleStands_10 : At cX5_ruleStands 10 (.iconst 0) 1 11 := ⟨by decide +kernel, rfl⟩
theorem iX5_ruleStands_11 : At cX5_ruleStands 11 (.ireturn) 1 12 := ⟨by decide +kernel, rfl⟩
theorem iX5_ruleStands_12 : At cX5_ruleStands 12 (.aload_n 0) 1 13 := ⟨by decide +kernel, rfl⟩
theorem iX5_ruleStands_13 : At cX5_ruleStands 13 (.getfield 89) 3 16 := ⟨by decide +kernel, rfl⟩
theorem iX5_ruleStands_16 : At cX5_ruleStands 16 (.istore_n 1) 1 17 := ⟨by decide +kernel, rfl⟩
theorem iX5_ruleStands_17 : At cX5_ruleStands 17 (.aload_n 0) 1 18 := ⟨by decide +kernel, rfl⟩
theorem iX5_ruleStands_18 : At cX5_ruleStands 18 (.iconst 1) 1 19 := ⟨by decide +kernel, rfl⟩
theorem iX5_ruleStands_19 : At cX5_ruleStands 19 (.bipush 99) 2 21 := ⟨by decide +kernel, rfl⟩
theorem iX5_ruleStands_21 : At cX5_ruleStands 21 (.invokevirtual 85) 3 24 := ⟨by decide +kernel, rfl⟩
theorem iX5_ruleStands_24 : At cX5_ruleStands 24 (.ifCond .ne 5) 3 27 := ⟨by decide +kernel, rfl⟩
theorem iX5_ruleStands_27 : At cX5_ruleStands 27 (.iconst 0) 1 28 := ⟨by decide +kernel, rfl⟩
theorem iX5_ruleStands_28 : At cX5_ruleStands 28 (.ireturn) 1 29 := ⟨by decide +kernel, rfl⟩
theorem iX5_ruleStands_29 : At cX5_ruleStands 29 (.aload_n 0) 1 30 := ⟨by decide +kernel, rfl⟩
theorem iX5_ruleStands_30 : At cX5_ruleStands 30 (.getfield 89) 3 33 := ⟨by decide +kernel, rfl⟩
theorem iX5_ruleStands_33 : At cX5_ruleStands 33 (.istore_n 2) 1 34 := ⟨by decide +kernel, rfl⟩
theorem iX5_ruleStands_34 : At cX5_ruleStands 34 (.aload_n 0) 1 35 := ⟨by decide +kernel, rfl⟩
theorem iX5_ruleStands_35 : At cX5_ruleStands 35 (.iconst 0) 1 36 := ⟨by decide +kernel, rfl⟩
theorem iX5_ruleStands_36 : At cX5_ruleStands 36 (.bipush 100) 2 38 := ⟨by decide +kernel, rfl⟩
theorem iX5_ruleStands_38 : At cX5_ruleStands 38 (.invokevirtual 85) 3 41 := ⟨by decide +kernel, rfl⟩
theorem iX5_ruleStands_41 : At cX5_ruleStands 41 (.ifCond .ne 5) 3 44 := ⟨by decide +kernel, rfl⟩
theorem iX5_ruleStands_44 : At cX5_ruleStands 44 (.iconst 0) 1 45 := ⟨by decide +kernel, rfl⟩
theorem iX5_ruleStands_45 : At cX5_ruleStands 45 (.ireturn) 1 46 := ⟨by decide +kernel, rfl⟩
theorem iX5_ruleStands_46 : At cX5_ruleStands 46 (.aload_n 0) 1 47 := ⟨by decide +kernel, rfl⟩
theorem iX5_ruleStands_47 : At cX5_ruleStands 47 (.getfield 15) 3 50 := ⟨by decide +kernel, rfl⟩
theorem iX5_ruleStands_50 : At cX5_ruleStands 50 (.iload_n 1) 1 51 := ⟨by decide +kernel, rfl⟩
theorem iX5_ruleStands_51 : At cX5_ruleStands 51 (.iload_n 2) 1 52 := ⟨by decide +kernel, rfl⟩
theorem iX5_ruleStands_52 : At cX5_ruleStands 52 (.aload_n 0) 1 53 := ⟨by decide +kernel, rfl⟩
theorem iX5_ruleStands_53 : At cX5_ruleStands 53 (.getfield 89) 3 56 := ⟨by decide +kernel, rfl⟩
theorem iX5_ruleStands_56 : At cX5_ruleStands 56 (.invokevirtual 116) 3 59 := ⟨by decide +kernel, rfl⟩
theorem iX5_ruleStands_59 : At cX5_ruleStands 59 (.iconst 1) 1 60 := ⟨by decide +kernel, rfl⟩
theorem iX5_ruleStands_60 : At cX5_ruleStands 60 (.ireturn) 1 61 := ⟨by decide +kernel, rfl⟩
theorem iX5_numberStands_0 : At cX5_numberStands 0 (.aload_n 0) 1 1 := ⟨by decide +kernel, rfl⟩
theorem iX5_numberStands_1 : At cX5_numberStands 1 (.invokevirtual 32) 3 4 := ⟨by decide +kernel, rfl⟩
theorem iX5_numberStands_4 : At cX5_numberStands 4 (.aload_n 0) 1 5 := ⟨by decide +kernel, rfl⟩
theorem iX5_numberStands_5 : At cX5_numberStands 5 (.getfield 42) 3 8 := ⟨by decide +kernel, rfl⟩
theorem iX5_numberStands_8 : At cX5_numberStands 8 (.iconst 2) 1 9 := ⟨by decide +kernel, rfl⟩
theorem iX5_numberStands_9 : At cX5_numberStands 9 (.if_icmp .ne 16) 3 12 := ⟨by decide +kernel, rfl⟩
theorem iX5_numberStands_12 : At cX5_numberStands 12 (.aload_n 0) 1 13 := ⟨by decide +kernel, rfl⟩
theorem iX5_numberStands_13 : At cX5_numberStands 13 (.getfield 25) 3 16 := ⟨by decide +kernel, rfl⟩
theorem iX5_numberStands_16 : At cX5_numberStands 16 (.aload_n 0) 1 17 := ⟨by decide +kernel, rfl⟩
theorem iX5_numberStands_17 : At cX5_numberStands 17 (.getfield 39) 3 20 := ⟨by decide +kernel, rfl⟩
theorem iX5_numberStands_20 : At cX5_numberStands 20 (.isub) 1 21 := ⟨by decide +kernel, rfl⟩
theorem iX5_numberStands_21 : At cX5_numberStands 21 (.iconst 3) 1 22 := ⟨by decide +kernel, rfl⟩
theorem iX5_numberStands_22 : At cX5_numberStands 22 (.if_icmp .le 5) 3 25 := ⟨by decide +kernel, rfl⟩
theorem iX5_numberStands_25 : At cX5_numberStands 25 (.iconst 0) 1 26 := ⟨by decide +kernel, rfl⟩
theorem iX5_numberStands_26 : At cX5_numberStands 26 (.ireturn) 1 27 := ⟨by decide +kernel, rfl⟩
theorem iX5_numberStands_27 : At cX5_numberStands 27 (.aload_n 0) 1 28 := ⟨by decide +kernel, rfl⟩
theorem iX5_numberStands_28 : At cX5_numberStands 28 (.iconst 0) 1 29 := ⟨by decide +kernel, rfl⟩
theorem iX5_numberStands_29 : At cX5_numberStands 29 (.putfield 89) 3 32 := ⟨by decide +kernel, rfl⟩
theorem iX5_numberStands_32 : At cX5_numberStands 32 (.aload_n 0) 1 33 := ⟨by decide +kernel, rfl⟩
theorem iX5_numberStands_33 : At cX5_numberStands 33 (.getfield 39) 3 36 := ⟨by decide +kernel, rfl⟩
theorem iX5_numberStands_36 : At cX5_numberStands 36 (.istore_n 3) 1 37 := ⟨by decide +kernel, rfl⟩
theorem iX5_numberStands_37 : At cX5_numberStands 37 (.iload_n 3) 1 38 := ⟨by decide +kernel, rfl⟩
theorem iX5_numberStands_38 : At cX5_numberStands 38 (.aload_n 0) 1 39 := ⟨by decide +kernel, rfl⟩
theorem iX5_numberStands_39 : At cX5_numberStands 39 (.getfield 25) 3 42 := ⟨by decide +kernel, rfl⟩
theorem iX5_numberStands_42 : At cX5_numberStands 42 (.if_icmp .ge 32) 3 45 := ⟨by decide +kernel, rfl⟩
theorem iX5_numberStands_45 : At cX5_numberStands 45 (.aload_n 0) 1 46 := ⟨by decide +kernel, rfl⟩
theorem iX5_numberStands_46 : At cX5_numberStands 46 (.aload_n 0) 1 47 := ⟨by decide +kernel, rfl⟩
theorem iX5_numberStands_47 : At cX5_numberStands 47 (.getfield 89) 3 50 := ⟨by decide +kernel, rfl⟩
theorem iX5_numberStands_50 : At cX5_numberStands 50 (.bipush 10) 2 52 := ⟨by decide +kernel, rfl⟩
theorem iX5_numberStands_52 : At cX5_numberStands 52 (.imul) 1 53 := ⟨by decide +kernel, rfl⟩
theorem iX5_numberStands_53 : At cX5_numberStands 53 (.aload_n 0) 1 54 := ⟨by decide +kernel, rfl⟩
theorem iX5_numberStands_54 : At cX5_numberStands 54 (.getfield 9) 3 57 := ⟨by decide +kernel, rfl⟩
theorem iX5_numberStands_57 : At cX5_numberStands 57 (.iload_n 3) 1 58 := ⟨by decide +kernel, rfl⟩
theorem iX5_numberStands_58 : At cX5_numberStands 58 (.invokevirtual 119) 3 61 := ⟨by decide +kernel, rfl⟩
theorem iX5_numberStands_61 : At cX5_numberStands 61 (.iadd) 1 62 := ⟨by decide +kernel, rfl⟩
theorem iX5_numberStands_62 : At cX5_numberStands 62 (.bipush 48) 2 64 := ⟨by decide +kernel, rfl⟩
theorem iX5_numberStands_64 : At cX5_numberStands 64 (.isub) 1 65 := ⟨by decide +kernel, rfl⟩
theorem iX5_numberStands_65 : At cX5_numberStands 65 (.putfield 89) 3 68 := ⟨by decide +kernel, rfl⟩
theorem iX5_numberStands_68 : At cX5_numberStands 68 (.iinc 3 1) 3 71 := ⟨by decide +kernel, rfl⟩
theorem iX5_numberStands_71 : At cX5_numberStands 71 (.goto (-34)) 3 74 := ⟨by decide +kernel, rfl⟩
theorem iX5_numberStands_74 : At cX5_numberStands 74 (.aload_n 0) 1 75 := ⟨by decide +kernel, rfl⟩
theorem iX5_numberStands_75 : At cX5_numberStands 75 (.getfield 89) 3 78 := ⟨by decide +kernel, rfl⟩
theorem iX5_numberStands_78 : At cX5_numberStands 78 (.iload_n 1) 1 79 := ⟨by decide +kernel, rfl⟩
theorem iX5_numberStands_79 : At cX5_numberStands 79 (.if_icmp .lt 15) 3 82 := ⟨by decide +kernel, rfl⟩
theorem iX5_numberStands_82 : At cX5_numberStands 82 (.aload_n 0) 1 83 := ⟨by decide +kernel, rfl⟩
theorem iX5_numberStands_83 : At cX5_numberStands 83 (.getfield 89) 3 86 := ⟨by decide +kernel, rfl⟩
theorem iX5_numberStands_86 : At cX5_numberStands 86 (.iload_n 2) 1 87 := ⟨by decide +kernel, rfl⟩
theorem iX5_numberStands_87 : At cX5_numberStands 87 (.if_icmp .gt 7) 3 90 := ⟨by decide +kernel, rfl⟩
theorem iX5_numberStands_90 : At cX5_numberStands 90 (.iconst 1) 1 91 := ⟨by decide +kernel, rfl⟩
theorem iX5_numberStands_91 : At cX5_numberStands 91 (.goto 4) 3 94 := ⟨by decide +kernel, rfl⟩
theorem iX5_numberStands_94 : At cX5_numberStands 94 (.iconst 0) 1 95 := ⟨by decide +kernel, rfl⟩
theorem iX5_numberStands_95 : At cX5_numberStands 95 (.ireturn) 1 96 := ⟨by decide +kernel, rfl⟩
theorem iX5_step_0 : At cX5_step 0 (.aload_n 0) 1 1 := ⟨by decide +kernel, rfl⟩
theorem iX5_step_1 : At cX5_step 1 (.aload_n 0) 1 2 := ⟨by decide +kernel, rfl⟩
theorem iX5_step_2 : At cX5_step 2 (.getfield 25) 3 5 := ⟨by decide +kernel, rfl⟩
theorem iX5_step_5 : At cX5_step 5 (.putfield 39) 3 8 := ⟨by decide +kernel, rfl⟩
theorem iX5_step_8 : At cX5_step 8 (.aload_n 0) 1 9 := ⟨by decide +kernel, rfl⟩
theorem iX5_step_9 : At cX5_step 9 (.getfield 39) 3 12 := ⟨by decide +kernel, rfl⟩
theorem iX5_step_12 : At cX5_step 12 (.aload_n 0) 1 13 := ⟨by decide +kernel, rfl⟩
theorem iX5_step_13 : At cX5_step 13 (.getfield 9) 3 16 := ⟨by decide +kernel, rfl⟩
theorem iX5_step_16 : At cX5_step 16 (.getfield 125) 3 19 := ⟨by decide +kernel, rfl⟩
theorem iX5_step_19 : At cX5_step 19 (.if_icmp .ge 32) 3 22 := ⟨by decide +kernel, rfl⟩
theorem iX5_step_22 : At cX5_step 22 (.aload_n 0) 1 23 := ⟨by decide +kernel, rfl⟩
theorem iX5_step_23 : At cX5_step 23 (.getfield 9) 3 26 := ⟨by decide +kernel, rfl⟩
theorem iX5_step_26 : At cX5_step 26 (.aload_n 0) 1 27 := ⟨by decide +kernel, rfl⟩
theorem iX5_step_27 : At cX5_step 27 (.getfield 39) 3 30 := ⟨by decide +kernel, rfl⟩
theorem iX5_step_30 : At cX5_step 30 (.invokevirtual 119) 3 33 := ⟨by decide +kernel, rfl⟩
theorem iX5_step_33 : At cX5_step 33 (.bipush 32) 2 35 := ⟨by decide +kernel, rfl⟩
theorem iX5_step_35 : At cX5_step 35 (.if_icmp .ne 16) 3 38 := ⟨by decide +kernel, rfl⟩
theorem iX5_step_38 : At cX5_step 38 (.aload_n 0) 1 39 := ⟨by decide +kernel, rfl⟩
theorem iX5_step_39 : At cX5_step 39 (.dup) 1 40 := ⟨by decide +kernel, rfl⟩
theorem iX5_step_40 : At cX5_step 40 (.getfield 39) 3 43 := ⟨by decide +kernel, rfl⟩
theorem iX5_step_43 : At cX5_step 43 (.iconst 1) 1 44 := ⟨by decide +kernel, rfl⟩
theorem iX5_step_44 : At cX5_step 44 (.iadd) 1 45 := ⟨by decide +kernel, rfl⟩
theorem iX5_step_45 : At cX5_step 45 (.putfield 39) 3 48 := ⟨by decide +kernel, rfl⟩
theorem iX5_step_48 : At cX5_step 48 (.goto (-40)) 3 51 := ⟨by decide +kernel, rfl⟩
theorem iX5_step_51 : At cX5_step 51 (.aload_n 0) 1 52 := ⟨by decide +kernel, rfl⟩
theorem iX5_step_52 : At cX5_step 52 (.aload_n 0) 1 53 := ⟨by decide +kernel, rfl⟩
theorem iX5_step_53 : At cX5_step 53 (.getfield 39) 3 56 := ⟨by decide +kernel, rfl⟩
theorem iX5_step_56 : At cX5_step 56 (.putfield 25) 3 59 := ⟨by decide +kernel, rfl⟩
theorem iX5_step_59 : At cX5_step 59 (.aload_n 0) 1 60 := ⟨by decide +kernel, rfl⟩
theorem iX5_step_60 : At cX5_step 60 (.getfield 39) 3 63 := ⟨by decide +kernel, rfl⟩
theorem iX5_step_63 : At cX5_step 63 (.aload_n 0) 1 64 := ⟨by decide +kernel, rfl⟩
theorem iX5_step_64 : At cX5_step 64 (.getfield 9) 3 67 := ⟨by decide +kernel, rfl⟩
theorem iX5_step_67 : At cX5_step 67 (.getfield 125) 3 70 := ⟨by decide +kernel, rfl⟩
theorem iX5_step_70 : At cX5_step 70 (.if_icmp .lt 9) 3 73 := ⟨by decide +kernel, rfl⟩
theorem iX5_step_73 : At cX5_step 73 (.aload_n 0) 1 74 := ⟨by decide +kernel, rfl⟩
theorem iX5_step_74 : At cX5_step 74 (.iconst 0) 1 75 := ⟨by decide +kernel, rfl⟩
theorem iX5_step_75 : At cX5_step 75 (.putfield 42) 3 78 := ⟨by decide +kernel, rfl⟩
theorem iX5_step_78 : At cX5_step 78 (.return_) 1 79 := ⟨by decide +kernel, rfl⟩
theorem iX5_step_79 : At cX5_step 79 (.aload_n 0) 1 80 := ⟨by decide +kernel, rfl⟩
theorem iX5_step_80 : At cX5_step 80 (.aload_n 0) 1 81 := ⟨by decide +kernel, rfl⟩
theorem iX5_step_81 : At cX5_step 81 (.getfield 9) 3 84 := ⟨by decide +kernel, rfl⟩
theorem iX5_step_84 : At cX5_step 84 (.aload_n 0) 1 85 := ⟨by decide +kernel, rfl⟩
theorem iX5_step_85 : At cX5_step 85 (.getfield 39) 3 88 := ⟨by decide +kernel, rfl⟩
theorem iX5_step_88 : At cX5_step 88 (.invokevirtual 119) 3 91 := ⟨by decide +kernel, rfl⟩
theorem iX5_step_91 : At cX5_step 91 (.invokestatic 128) 3 94 := ⟨by decide +kernel, rfl⟩
theorem iX5_step_94 : At cX5_step 94 (.putfield 42) 3 97 := ⟨by decide +kernel, rfl⟩
theorem iX5_step_97 : At cX5_step 97 (.aload_n 0) 1 98 := ⟨by decide +kernel, rfl⟩
theorem iX5_step_98 : At cX5_step 98 (.dup) 1 99 := ⟨by decide +kernel, rfl⟩
theorem iX5_step_99 : At cX5_step 99 (.getfield 25) 3 102 := ⟨by decide +kernel, rfl⟩
theorem iX5_step_102 : At cX5_step 102 (.iconst 1) 1 103 := ⟨by decide +kernel, rfl⟩
theorem iX5_step_103 : At cX5_step 103 (.iadd) 1 104 := ⟨by decide +kernel, rfl⟩
theorem iX5_step_104 : At cX5_step 104 (.putfield 25) 3 107 := ⟨by decide +kernel, rfl⟩
theorem iX5_step_107 : At cX5_step 107 (.aload_n 0) 1 108 := ⟨by decide +kernel, rfl⟩
theorem iX5_step_108 : At cX5_step 108 (.getfield 42) 3 111 := ⟨by decide +kernel, rfl⟩
theorem iX5_step_111 : At cX5_step 111 (.iconst 3) 1 112 := ⟨by decide +kernel, rfl⟩
theorem iX5_step_112 : At cX5_step 112 (.if_icmp .eq 51) 3 115 := ⟨by decide +kernel, rfl⟩
theorem iX5_step_115 : At cX5_step 115 (.aload_n 0) 1 116 := ⟨by decide +kernel, rfl⟩
theorem iX5_step_116 : At cX5_step 116 (.getfield 25) 3 119 := ⟨by decide +kernel, rfl⟩
theorem iX5_step_119 : At cX5_step 119 (.aload_n 0) 1 120 := ⟨by decide +kernel, rfl⟩
theorem iX5_step_120 : At cX5_step 120 (.getfield 9) 3 123 := ⟨by decide +kernel, rfl⟩
theorem iX5_step_123 : At cX5_step 123 (.getfield 125) 3 126 := ⟨by decide +kernel, rfl⟩
theorem iX5_step_126 : At cX5_step 126 (.if_icmp .ge 37) 3 129 := ⟨by decide +kernel, rfl⟩
theorem iX5_step_129 : At cX5_step 129 (.aload_n 0) 1 130 := ⟨by decide +kernel, rfl⟩
theorem iX5_step_130 : At cX5_step 130 (.getfield 9) 3 133 := ⟨by decide +kernel, rfl⟩
theorem iX5_step_133 : At cX5_step 133 (.aload_n 0) 1 134 := ⟨by decide +kernel, rfl⟩
theorem iX5_step_134 : At cX5_step 134 (.getfield 25) 3 137 := ⟨by decide +kernel, rfl⟩
theorem iX5_step_137 : At cX5_step 137 (.invokevirtual 119) 3 140 := ⟨by decide +kernel, rfl⟩
theorem iX5_step_140 : At cX5_step 140 (.invokestatic 128) 3 143 := ⟨by decide +kernel, rfl⟩
theorem iX5_step_143 : At cX5_step 143 (.aload_n 0) 1 144 := ⟨by decide +kernel, rfl⟩
theorem iX5_step_144 : At cX5_step 144 (.getfield 42) 3 147 := ⟨by decide +kernel, rfl⟩
theorem iX5_step_147 : At cX5_step 147 (.if_icmp .ne 16) 3 150 := ⟨by decide +kernel, rfl⟩
theorem iX5_step_150 : At cX5_step 150 (.aload_n 0) 1 151 := ⟨by decide +kernel, rfl⟩
theorem iX5_step_151 : At cX5_step 151 (.dup) 1 152 := ⟨by decide +kernel, rfl⟩
theorem iX5_step_152 : At cX5_step 152 (.getfield 25) 3 155 := ⟨by decide +kernel, rfl⟩
theorem iX5_step_155 : At cX5_step 155 (.iconst 1) 1 156 := ⟨by decide +kernel, rfl⟩
theorem iX5_step_156 : At cX5_step 156 (.iadd) 1 157 := ⟨by decide +kernel, rfl⟩
theorem iX5_step_157 : At cX5_step 157 (.putfield 25) 3 160 := ⟨by decide +kernel, rfl⟩
theorem iX5_step_160 : At cX5_step 160 (.goto (-53)) 3 163 := ⟨by decide +kernel, rfl⟩
theorem iX5_step_163 : At cX5_step 163 (.return_) 1 164 := ⟨by decide +kernel, rfl⟩
theorem iX5_kindOf_0 : At cX5_kindOf 0 (.iload_n 0) 1 1 := ⟨by decide +kernel, rfl⟩
theorem iX5_kindOf_1 : At cX5_kindOf 1 (.bipush 97) 2 3 := ⟨by decide +kernel, rfl⟩
theorem iX5_kindOf_3 : At cX5_kindOf 3 (.if_icmp .lt 11) 3 6 := ⟨by decide +kernel, rfl⟩
theorem iX5_kindOf_6 : At cX5_kindOf 6 (.iload_n 0) 1 7 := ⟨by decide +kernel, rfl⟩
theorem iX5_kindOf_7 : At cX5_kindOf 7 (.bipush 122) 2 9 := ⟨by decide +kernel, rfl⟩
theorem iX5_kindOf_9 : At cX5_kindOf 9 (.if_icmp .gt 5) 3 12 := ⟨by decide +kernel, rfl⟩
theorem iX5_kindOf_12 : At cX5_kindOf 12 (.iconst 1) 1 13 := ⟨by decide +kernel, rfl⟩
theorem iX5_kindOf_13 : At cX5_kindOf 13 (.ireturn) 1 14 := ⟨by decide +kernel, rfl⟩
theorem iX5_kindOf_14 : At cX5_kindOf 14 (.iload_n 0) 1 15 := ⟨by decide +kernel, rfl⟩
theorem iX5_kindOf_15 : At cX5_kindOf 15 (.bipush 48) 2 17 := ⟨by decide +kernel, rfl⟩
theorem iX5_kindOf_17 : At cX5_kindOf 17 (.if_icmp .lt 13) 3 20 := ⟨by decide +kernel, rfl⟩
theorem iX5_kindOf_20 : At cX5_kindOf 20 (.iload_n 0) 1 21 := ⟨by decide +kernel, rfl⟩
theorem iX5_kindOf_21 : At cX5_kindOf 21 (.bipush 57) 2 23 := ⟨by decide +kernel, rfl⟩
theorem iX5_kindOf_23 : At cX5_kindOf 23 (.if_icmp .gt 7) 3 26 := ⟨by decide +kernel, rfl⟩
theorem iX5_kindOf_26 : At cX5_kindOf 26 (.iconst 2) 1 27 := ⟨by decide +kernel, rfl⟩
theorem iX5_kindOf_27 : At cX5_kindOf 27 (.goto 4) 3 30 := ⟨by decide +kernel, rfl⟩
theorem iX5_kindOf_30 : At cX5_kindOf 30 (.iconst 3) 1 31 := ⟨by decide +kernel, rfl⟩
theorem iX5_kindOf_31 : At cX5_kindOf 31 (.ireturn) 1 32 := ⟨by decide +kernel, rfl⟩
theorem iX5_isSemicolon_0 : At cX5_isSemicolon 0 (.aload_n 0) 1 1 := ⟨by decide +kernel, rfl⟩
theorem iX5_isSemicolon_1 : At cX5_isSemicolon 1 (.getfield 42) 3 4 := ⟨by decide +kernel, rfl⟩
theorem iX5_isSemicolon_4 : At cX5_isSemicolon 4 (.iconst 3) 1 5 := ⟨by decide +kernel, rfl⟩
theorem iX5_isSemicolon_5 : At cX5_isSemicolon 5 (.if_icmp .ne 23) 3 8 := ⟨by decide +kernel, rfl⟩
theorem iX5_isSemicolon_8 : At cX5_isSemicolon 8 (.aload_n 0) 1 9 := ⟨by decide +kernel, rfl⟩
theorem iX5_isSemicolon_9 : At cX5_isSemicolon 9 (.getfield 9) 3 12 := ⟨by decide +kernel, rfl⟩
theorem iX5_isSemicolon_12 : At cX5_isSemicolon 12 (.aload_n 0) 1 13 := ⟨by decide +kernel, rfl⟩
theorem iX5_isSemicolon_13 : At cX5_isSemicolon 13 (.getfield 39) 3 16 := ⟨by decide +kernel, rfl⟩
theorem iX5_isSemicolon_16 : At cX5_isSemicolon 16 (.invokevirtual 119) 3 19 := ⟨by decide +kernel, rfl⟩
theorem iX5_isSemicolon_19 : At cX5_isSemicolon 19 (.bipush 59) 2 21 := ⟨by decide +kernel, rfl⟩
theorem iX5_isSemicolon_21 : At cX5_isSemicolon 21 (.if_icmp .ne 7) 3 24 := ⟨by decide +kernel, rfl⟩
theorem iX5_isSemicolon_24 : At cX5_isSemicolon 24 (.iconst 1) 1 25 := ⟨by decide +kernel, rfl⟩
theorem iX5_isSemicolon_25 : At cX5_isSemicolon 25 (.goto 4) 3 28 := ⟨by decide +kernel, rfl⟩
theorem iX5_isSemicolon_28 : At cX5_isSemicolon 28 (.iconst 0) 1 29 := ⟨by decide +kernel, rfl⟩
theorem iX5_isSemicolon_29 : At cX5_isSemicolon 29 (.ireturn) 1 30 := ⟨by decide +kernel, rfl⟩
theorem iX5_isWord_0 : At cX5_isWord 0 (.aload_n 0) 1 1 := ⟨by decide +kernel, rfl⟩
theorem iX5_isWord_1 : At cX5_isWord 1 (.getfield 25) 3 4 := ⟨by decide +kernel, rfl⟩
theorem iX5_isWord_4 : At cX5_isWord 4 (.aload_n 0) 1 5 := ⟨by decide +kernel, rfl⟩
theorem iX5_isWord_5 : At cX5_isWord 5 (.getfield 39) 3 8 := ⟨by decide +kernel, rfl⟩
theorem iX5_isWord_8 : At cX5_isWord 8 (.isub) 1 9 := ⟨by decide +kernel, rfl⟩
theorem iX5_isWord_9 : At cX5_isWord 9 (.aload_n 1) 1 10 := ⟨by decide +kernel, rfl⟩
theorem iX5_isWord_10 : At cX5_isWord 10 (.invokevirtual 131) 3 13 := ⟨by decide +kernel, rfl⟩
theorem iX5_isWord_13 : At cX5_isWord 13 (.if_icmp .eq 5) 3 16 := ⟨by decide +kernel, rfl⟩
theorem iX5_isWord_16 : At cX5_isWord 16 (.iconst 0) 1 17 := ⟨by decide +kernel, rfl⟩
theorem iX5_isWord_17 : At cX5_isWord 17 (.ireturn) 1 18 := ⟨by decide +kernel, rfl⟩
theorem iX5_isWord_18 : At cX5_isWord 18 (.iconst 0) 1 19 := ⟨by decide +kernel, rfl⟩
theorem iX5_isWord_19 : At cX5_isWord 19 (.istore_n 2) 1 20 := ⟨by decide +kernel, rfl⟩
theorem iX5_isWord_20 : At cX5_isWord 20 (.iload_n 2) 1 21 := ⟨by decide +kernel, rfl⟩
theorem iX5_isWord_21 : At cX5_isWord 21 (.aload_n 1) 1 22 := ⟨by decide +kernel, rfl⟩
theorem iX5_isWord_22 : At cX5_isWord 22 (.invokevirtual 131) 3 25 := ⟨by decide +kernel, rfl⟩
theorem iX5_isWord_25 : At cX5_isWord 25 (.if_icmp .ge 32) 3 28 := ⟨by decide +kernel, rfl⟩
theorem iX5_isWord_28 : At cX5_isWord 28 (.aload_n 0) 1 29 := ⟨by decide +kernel, rfl⟩
theorem iX5_isWord_29 : At cX5_isWord 29 (.getfield 9) 3 32 := ⟨by decide +kernel, rfl⟩
theorem iX5_isWord_32 : At cX5_isWord 32 (.aload_n 0) 1 33 := ⟨by decide +kernel, rfl⟩
theorem iX5_isWord_33 : At cX5_isWord 33 (.getfield 39) 3 36 := ⟨by decide +kernel, rfl⟩
theorem iX5_isWord_36 : At cX5_isWord 36 (.iload_n 2) 1 37 := ⟨by decide +kernel, rfl⟩
theorem iX5_isWord_37 : At cX5_isWord 37 (.iadd) 1 38 := ⟨by decide +kernel, rfl⟩
theorem iX5_isWord_38 : At cX5_isWord 38 (.invokevirtual 119) 3 41 := ⟨by decide +kernel, rfl⟩
theorem iX5_isWord_41 : At cX5_isWord 41 (.aload_n 1) 1 42 := ⟨by decide +kernel, rfl⟩
theorem iX5_isWord_42 : At cX5_isWord 42 (.iload_n 2) 1 43 := ⟨by decide +kernel, rfl⟩
theorem iX5_isWord_43 : At cX5_isWord 43 (.invokevirtual 136) 3 46 := ⟨by decide +kernel, rfl⟩
theorem iX5_isWord_46 : At cX5_isWord 46 (.if_icmp .eq 5) 3 49 := ⟨by decide +kernel, rfl⟩
theorem iX5_isWord_49 : At cX5_isWord 49 (.iconst 0) 1 50 := ⟨by decide +kernel, rfl⟩
theorem iX5_isWord_50 : At cX5_isWord 50 (.ireturn) 1 51 := ⟨by decide +kernel, rfl⟩
theorem iX5_isWord_51 : At cX5_isWord 51 (.iinc 2 1) 3 54 := ⟨by decide +kernel, rfl⟩
theorem iX5_isWord_54 : At cX5_isWord 54 (.goto (-34)) 3 57 := ⟨by decide +kernel, rfl⟩
theorem iX5_isWord_57 : At cX5_isWord 57 (.iconst 1) 1 58 := ⟨by decide +kernel, rfl⟩
theorem iX5_isWord_58 : At cX5_isWord 58 (.ireturn) 1 59 := ⟨by decide +kernel, rfl⟩
theorem iX6_init_0 : At cX6_init 0 (.aload_n 0) 1 1 := ⟨by decide +kernel, rfl⟩
theorem iX6_init_1 : At cX6_init 1 (.invokespecial 3) 3 4 := ⟨by decide +kernel, rfl⟩
theorem iX6_init_4 : At cX6_init 4 (.aload_n 0) 1 5 := ⟨by decide +kernel, rfl⟩
theorem iX6_init_5 : At cX6_init 5 (.sipush 200) 3 8 := ⟨by decide +kernel, rfl⟩
theorem iX6_init_8 : At cX6_init 8 (.newarray .int) 2 10 := ⟨by decide +kernel, rfl⟩
theorem iX6_init_10 : At cX6_init 10 (.putfield 9) 3 13 := ⟨by decide +kernel, rfl⟩
theorem iX6_init_13 : At cX6_init 13 (.return_) 1 14 := ⟨by decide +kernel, rfl⟩
theorem iX6_letterAt_0 : At cX6_letterAt 0 (.iload_n 1) 1 1 := ⟨by decide +kernel, rfl⟩
theorem iX6_letterAt_1 : At cX6_letterAt 1 (.ifCond .lt 20) 3 4 := ⟨by decide +kernel, rfl⟩
theorem iX6_letterAt_4 : At cX6_letterAt 4 (.iload_n 1) 1 5 := ⟨by decide +kernel, rfl⟩
theorem iX6_letterAt_5 : At cX6_letterAt 5 (.aload_n 0) 1 6 := ⟨by decide +kernel, rfl⟩
theorem iX6_letterAt_6 : At cX6_letterAt 6 (.getfield 15) 3 9 := ⟨by decide +kernel, rfl⟩
theorem iX6_letterAt_9 : At cX6_letterAt 9 (.if_icmp .ge 12) 3 12 := ⟨by decide +kernel, rfl⟩
theorem iX6_letterAt_12 : At cX6_letterAt 12 (.aload_n 0) 1 13 := ⟨by decide +kernel, rfl⟩
theorem iX6_letterAt_13 : At cX6_letterAt 13 (.getfield 9) 3 16 := ⟨by decide +kernel, rfl⟩
theorem iX6_letterAt_16 : At cX6_letterAt 16 (.iload_n 1) 1 17 := ⟨by decide +kernel, rfl⟩
theorem iX6_letterAt_17 : At cX6_letterAt 17 (.iaload) 1 18 := ⟨by decide +kernel, rfl⟩
theorem iX6_letterAt_18 : At cX6_letterAt 18 (.goto 4) 3 21 := ⟨by decide +kernel, rfl⟩
theorem iX6_letterAt_21 : At cX6_letterAt 21 (.iconst 0) 1 22 := ⟨by decide +kernel, rfl⟩
theorem iX6_letterAt_22 : At cX6_letterAt 22 (.ireturn) 1 23 := ⟨by decide +kernel, rfl⟩
theorem iX7_init_0 : At cX7_init 0 (.aload_n 0) 1 1 := ⟨by decide +kernel, rfl⟩
theorem iX7_init_1 : At cX7_init 1 (.invokespecial 1) 3 4 := ⟨by decide +kernel, rfl⟩
theorem iX7_init_4 : At cX7_init 4 (.aload_n 0) 1 5 := ⟨by decide +kernel, rfl⟩
theorem iX7_init_5 : At cX7_init 5 (.new 7) 3 8 := ⟨by decide +kernel, rfl⟩
theorem iX7_init_8 : At cX7_init 8 (.dup) 1 9 := ⟨by decide +kernel, rfl⟩
theorem iX7_init_9 : At cX7_init 9 (.invokespecial 9) 3 12 := ⟨by decide +kernel, rfl⟩
theorem iX7_init_12 : At cX7_init 12 (.putfield 10) 3 15 := ⟨by decide +kernel, rfl⟩
theorem iX7_init_15 : At cX7_init 15 (.aload_n 0) 1 16 := ⟨by decide +kernel, rfl⟩
theorem iX7_init_16 : At cX7_init 16 (.new 16) 3 19 := ⟨by decide +kernel, rfl⟩
theorem iX7_init_19 : At cX7_init 19 (.dup) 1 20 := ⟨by decide +kernel, rfl⟩
theorem iX7_init_20 : At cX7_init 20 (.invokespecial 18) 3 23 := ⟨by decide +kernel, rfl⟩
theorem iX7_init_23 : At cX7_init 23 (.putfield 19) 3 26 := ⟨by decide +kernel, rfl⟩
theorem iX7_init_26 : At cX7_init 26 (.aload_n 0) 1 27 := ⟨by decide +kernel, rfl⟩
theorem iX7_init_27 : At cX7_init 27 (.new 16) 3 30 := ⟨by decide +kernel, rfl⟩
theorem iX7_init_30 : At cX7_init 30 (.dup) 1 31 := ⟨by decide +kernel, rfl⟩
theorem iX7_init_31 : At cX7_init 31 (.invokespecial 18) 3 34 := ⟨by decide +kernel, rfl⟩
theorem iX7_init_34 : At cX7_init 34 (.putfield 23) 3 37 := ⟨by decide +kernel, rfl⟩
theorem iX7_init_37 : At cX7_init 37 (.aload_n 0) 1 38 := ⟨by decide +kernel, rfl⟩
theorem iX7_init_38 : At cX7_init 38 (.new 26) 3 41 := ⟨by decide +kernel, rfl⟩
theorem iX7_init_41 : At cX7_init 41 (.dup) 1 42 := ⟨by decide +kernel, rfl⟩
theorem iX7_init_42 : At cX7_init 42 (.aload_n 0) 1 43 := ⟨by decide +kernel, rfl⟩
theorem iX7_init_43 : At cX7_init 43 (.getfield 10) 3 46 := ⟨by decide +kernel, rfl⟩
theorem iX7_init_46 : At cX7_init 46 (.aload_n 0) 1 47 := ⟨by decide +kernel, rfl⟩
theorem iX7_init_47 : At cX7_init 47 (.getfield 23) 3 50 := ⟨by decide +kernel, rfl⟩
theorem iX7_init_50 : At cX7_init 50 (.invokespecial 28) 3 53 := ⟨by decide +kernel, rfl⟩
theorem iX7_init_53 : At cX7_init 53 (.putfield 31) 3 56 := ⟨by decide +kernel, rfl⟩
theorem iX7_init_56 : At cX7_init 56 (.aload_n 0) 1 57 := ⟨by decide +kernel, rfl⟩
theorem iX7_init_57 : At cX7_init 57 (.new 35) 3 60 := ⟨by decide +kernel, rfl⟩
theorem iX7_init_60 : At cX7_init 60 (.dup) 1 61 := ⟨by decide +kernel, rfl⟩
theorem iX7_init_61 : At cX7_init 61 (.invokespecial 37) 3 64 := ⟨by decide +kernel, rfl⟩
theorem iX7_init_64 : At cX7_init 64 (.putfield 38) 3 67 := ⟨by decide +kernel, rfl⟩
theorem iX7_init_67 : At cX7_init 67 (.aload_n 0) 1 68 := ⟨by decide +kernel, rfl⟩
theorem iX7_init_68 : At cX7_init 68 (.new 42) 3 71 := ⟨by decide +kernel, rfl⟩
theorem iX7_init_71 : At cX7_init 71 (.dup) 1 72 := ⟨by decide +kernel, rfl⟩
theorem iX7_init_72 : At cX7_init 72 (.invokespecial 44) 3 75 := ⟨by decide +kernel, rfl⟩
theorem iX7_init_75 : At cX7_init 75 (.putfield 45) 3 78 := ⟨by decide +kernel, rfl⟩
theorem iX7_init_78 : At cX7_init 78 (.aload_n 0) 1 79 := ⟨by decide +kernel, rfl⟩
theorem iX7_init_79 : At cX7_init 79 (.iconst 2) 1 80 := ⟨by decide +kernel, rfl⟩
theorem iX7_init_80 : At cX7_init 80 (.anewarray 35) 3 83 := ⟨by decide +kernel, rfl⟩
theorem iX7_init_83 : At cX7_init 83 (.putfield 49) 3 86 := ⟨by decide +kernel, rfl⟩
theorem iX7_init_86 : At cX7_init 86 (.aload_n 0) 1 87 := ⟨by decide +kernel, rfl⟩
theorem iX7_init_87 : At cX7_init 87 (.iconst 2) 1 88 := ⟨by decide +kernel, rfl⟩
theorem iX7_init_88 : At cX7_init 88 (.newarray .boolean) 2 90 := ⟨by decide +kernel, rfl⟩
theorem iX7_init_90 : At cX7_init 90 (.putfield 53) 3 93 := ⟨by decide +kernel, rfl⟩
theorem iX7_init_93 : At cX7_init 93 (.aload_n 0) 1 94 := ⟨by decide +kernel, rfl⟩
theorem iX7_init_94 : At cX7_init 94 (.new 57) 3 97 := ⟨by decide +kernel, rfl⟩
theorem iX7_init_97 : At cX7_init 97 (.dup) 1 98 := ⟨by decide +kernel, rfl⟩
theorem iX7_init_98 : At cX7_init 98 (.aload_n 0) 1 99 := ⟨by decide +kernel, rfl⟩
theorem iX7_init_99 : At cX7_init 99 (.getfield 19) 3 102 := ⟨by decide +kernel, rfl⟩
theorem iX7_init_102 : At cX7_init 102 (.aload_n 0) 1 103 := ⟨by decide +kernel, rfl⟩
theorem iX7_init_103 : At cX7_init 103 (.getfield 38) 3 106 := ⟨by decide +kernel, rfl⟩
theorem iX7_init_106 : At cX7_init 106 (.invokespecial 59) 3 109 := ⟨by decide +kernel, rfl⟩
theorem iX7_init_109 : At cX7_init 109 (.putfield 62) 3 112 := ⟨by decide +kernel, rfl⟩
theorem iX7_init_112 : At cX7_init 112 (.aload_n 0) 1 113 := ⟨by decide +kernel, rfl⟩
theorem iX7_init_113 : At cX7_init 113 (.iconst 3) 1 114 := ⟨by decide +kernel, rfl⟩
theorem iX7_init_114 : At cX7_init 114 (.anewarray 66) 3 117 := ⟨by decide +kernel, rfl⟩
theorem iX7_init_117 : At cX7_init 117 (.putfield 68) 3 120 := ⟨by decide +kernel, rfl⟩
theorem iX7_init_120 : At cX7_init 120 (.iconst 0) 1 121 := ⟨by decide +kernel, rfl⟩
theorem iX7_init_121 : At cX7_init 121 (.istore_n 1) 1 122 := ⟨by decide +kernel, rfl⟩
theorem iX7_init_122 : At cX7_init 122 (.iload_n 1) 1 123 := ⟨by decide +kernel, rfl⟩
theorem iX7_init_123 : At cX7_init 123 (.iconst 2) 1 124 := ⟨by decide +kernel, rfl⟩
theorem iX7_init_124 : At cX7_init 124 (.if_icmp .ge 22) 3 127 := ⟨by decide +kernel, rfl⟩
theorem iX7_init_127 : At cX7_init 127 (.aload_n 0) 1 128 := ⟨by decide +kernel, rfl⟩
theorem iX7_init_128 : At cX7_init 128 (.getfield 49) 3 131 := ⟨by decide +kernel, rfl⟩
theorem iX7_init_131 : At cX7_init 131 (.iload_n 1) 1 132 := ⟨by decide +kernel, rfl⟩
theorem iX7_init_132 : At cX7_init 132 (.new 35) 3 135 := ⟨by decide +kernel, rfl⟩
theorem iX7_init_135 : At cX7_init 135 (.dup) 1 136 := ⟨by decide +kernel, rfl⟩
theorem iX7_init_136 : At cX7_init 136 (.invokespecial 37) 3 139 := ⟨by decide +kernel, rfl⟩
theorem iX7_init_139 : At cX7_init 139 (.aastore) 1 140 := ⟨by decide +kernel, rfl⟩
theorem iX7_init_140 : At cX7_init 140 (.iinc 1 1) 3 143 := ⟨by decide +kernel, rfl⟩
theorem iX7_init_143 : At cX7_init 143 (.goto (-21)) 3 146 := ⟨by decide +kernel, rfl⟩
theorem iX7_init_146 : At cX7_init 146 (.iconst 0) 1 147 := ⟨by decide +kernel, rfl⟩
theorem iX7_init_147 : At cX7_init 147 (.istore_n 1) 1 148 := ⟨by decide +kernel, rfl⟩
theorem iX7_init_148 : At cX7_init 148 (.iload_n 1) 1 149 := ⟨by decide +kernel, rfl⟩
theorem iX7_init_149 : At cX7_init 149 (.iconst 3) 1 150 := ⟨by decide +kernel, rfl⟩
theorem iX7_init_150 : At cX7_init 150 (.if_icmp .ge 22) 3 153 := ⟨by decide +kernel, rfl⟩
theorem iX7_init_153 : At cX7_init 153 (.aload_n 0) 1 154 := ⟨by decide +kernel, rfl⟩
theorem iX7_init_154 : At cX7_init 154 (.getfield 68) 3 157 := ⟨by decide +kernel, rfl⟩
theorem iX7_init_157 : At cX7_init 157 (.iload_n 1) 1 158 := ⟨by decide +kernel, rfl⟩
theorem iX7_init_158 : At cX7_init 158 (.new 66) 3 161 := ⟨by decide +kernel, rfl⟩
theorem iX7_init_161 : At cX7_init 161 (.dup) 1 162 := ⟨by decide +kernel, rfl⟩
theorem iX7_init_162 : At cX7_init 162 (.invokespecial 72) 3 165 := ⟨by decide +kernel, rfl⟩
theorem iX7_init_165 : At cX7_init 165 (.aastore) 1 166 := ⟨by decide +kernel, rfl⟩
theorem iX7_init_166 : At cX7_init 166 (.iinc 1 1) 3 169 := ⟨by decide +kernel, rfl⟩
theorem iX7_init_169 : At cX7_init 169 (.goto (-21)) 3 172 := ⟨by decide +kernel, rfl⟩
theorem iX7_init_172 : At cX7_init 172 (.return_) 1 173 := ⟨by decide +kernel, rfl⟩
theorem iX7_write_0 : At cX7_write 0 (.iload_n 1) 1 1 := ⟨by decide +kernel, rfl⟩
theorem iX7_write_1 : At cX7_write 1 (.ifCond .lt 10) 3 4 := ⟨by decide +kernel, rfl⟩
theorem iX7_write_4 : At cX7_write 4 (.iload_n 1) 1 5 := ⟨by decide +kernel, rfl⟩
theorem iX7_write_5 : At cX7_write 5 (.sipush 255) 3 8 := ⟨by decide +kernel, rfl⟩
theorem iX7_write_8 : At cX7_write 8 (.if_icmp .le 6) 3 11 := ⟨by decide +kernel, rfl⟩
theorem iX7_write_11 : At cX7_write 11 (.bipush (-3)) 2 13 := ⟨by decide +kernel, rfl⟩
theorem iX7_write_13 : At cX7_write 13 (.ireturn) 1 14 := ⟨by decide +kernel, rfl⟩
theorem iX7_write_14 : At cX7_write 14 (.aload_n 0) 1 15 := ⟨by decide +kernel, rfl⟩
theorem iX7_write_15 : At cX7_write 15 (.getfield 10) 3 18 := ⟨by decide +kernel, rfl⟩
theorem iX7_write_18 : At cX7_write 18 (.getfield 73) 3 21 := ⟨by decide +kernel, rfl⟩
theorem iX7_write_21 : At cX7_write 21 (.sipush 200) 3 24 := ⟨by decide +kernel, rfl⟩
theorem iX7_write_24 : At cX7_write 24 (.if_icmp .lt 6) 3 27 := ⟨by decide +kernel, rfl⟩
theorem iX7_write_27 : At cX7_write 27 (.bipush (-5)) 2 29 := ⟨by decide +kernel, rfl⟩
theorem iX7_write_29 : At cX7_write 29 (.ireturn) 1 30 := ⟨by decide +kernel, rfl⟩
theorem iX7_write_30 : At cX7_write 30 (.aload_n 0) 1 31 := ⟨by decide +kernel, rfl⟩
theorem iX7_write_31 : At cX7_write 31 (.getfield 10) 3 34 := ⟨by decide +kernel, rfl⟩
theorem iX7_write_34 : At cX7_write 34 (.getfield 77) 3 37 := ⟨by decide +kernel, rfl⟩
theorem iX7_write_37 : At cX7_write 37 (.aload_n 0) 1 38 := ⟨by decide +kernel, rfl⟩
theorem iX7_write_38 : At cX7_write 38 (.getfield 10) 3 41 := ⟨by decide +kernel, rfl⟩
theorem iX7_write_41 : At cX7_write 41 (.getfield 73) 3 44 := ⟨by decide +kernel, rfl⟩
theorem iX7_write_44 : At cX7_write 44 (.iload_n 1) 1 45 := ⟨by decide +kernel, rfl⟩
theorem iX7_write_45 : At cX7_write 45 (.iastore) 1 46 := ⟨by decide +kernel, rfl⟩
theorem iX7_write_46 : At cX7_write 46 (.aload_n 0) 1 47 := ⟨by decide +kernel, rfl⟩
theorem iX7_write_47 : At cX7_write 47 (.getfield 10) 3 50 := ⟨by decide +kernel, rfl⟩
theorem iX7_write_50 : At cX7_write 50 (.dup) 1 51 := ⟨by decide +kernel, rfl⟩
theorem iX7_write_51 : At cX7_write 51 (.getfield 73) 3 54 := ⟨by decide +kernel, rfl⟩
theorem iX7_write_54 : At cX7_write 54 (.iconst 1) 1 55 := ⟨by decide +kernel, rfl⟩
theorem iX7_write_55 : At cX7_write 55 (.iadd) 1 56 := ⟨by decide +kernel, rfl⟩
theorem iX7_write_56 : At cX7_write 56 (.putfield 73) 3 59 := ⟨by decide +kernel, rfl⟩
theorem iX7_write_59 : At cX7_write 59 (.aload_n 0) 1 60 := ⟨by decide +kernel, rfl⟩
theorem iX7_write_60 : At cX7_write 60 (.getfield 10) 3 63 := ⟨by decide +kernel, rfl⟩
theorem iX7_write_63 : At cX7_write 63 (.getfield 73) 3 66 := ⟨by decide +kernel, rfl⟩
theorem iX7_write_66 : At cX7_write 66 (.ireturn) 1 67 := ⟨by decide +kernel, rfl⟩
theorem iX7_erase_0 : At cX7_erase 0 (.aload_n 0) 1 1 := ⟨by decide +kernel, rfl⟩
theorem iX7_erase_1 : At cX7_erase 1 (.getfield 10) 3 4 := ⟨by decide +kernel, rfl⟩
theorem iX7_erase_4 : At cX7_erase 4 (.getfield 73) 3 7 := ⟨by decide +kernel, rfl⟩
theorem iX7_erase_7 : At cX7_erase 7 (.istore_n 1) 1 8 := ⟨by decide +kernel, rfl⟩
theorem iX7_erase_8 : At cX7_erase 8 (.aload_n 0) 1 9 := ⟨by decide +kernel, rfl⟩
theorem iX7_erase_9 : At cX7_erase 9 (.getfield 10) 3 12 := ⟨by decide +kernel, rfl⟩
theorem iX7_erase_12 : At cX7_erase 12 (.iconst 0) 1 13 := ⟨by decide +kernel, rfl⟩
theorem iX7_erase_13 : At cX7_erase 13 (.putfield 73) 3 16 := ⟨by decide +kernel, rfl⟩
theorem iX7_erase_16 : At cX7_erase 16 (.iload_n 1) 1 17 := ⟨by decide +kernel, rfl⟩
theorem iX7_erase_17 : At cX7_erase 17 (.ireturn) 1 18 := ⟨by decide +kernel, rfl⟩
theorem iX7_fault_0 : At cX7_fault 0 (.aload_n 0) 1 1 := ⟨by decide +kernel, rfl⟩
theorem iX7_fault_1 : At cX7_fault 1 (.getfield 31) 3 4 := ⟨by decide +kernel, rfl⟩
theorem iX7_fault_4 : At cX7_fault 4 (.aload_n 0) 1 5 := ⟨by decide +kernel, rfl⟩
theorem iX7_fault_5 : At cX7_fault 5 (.getfield 19) 3 8 := ⟨by decide +kernel, rfl⟩
theorem iX7_fault_8 : At cX7_fault 8 (.invokevirtual 81) 3 11 := ⟨by decide +kernel, rfl⟩
theorem iX7_fault_11 : At cX7_fault 11 (.ireturn) 1 12 := ⟨by decide +kernel, rfl⟩
theorem iX7_casting_0 : At cX7_casting 0 (.aload_n 0) 1 1 := ⟨by decide +kernel, rfl⟩
theorem iX7_casting_1 : At cX7_casting 1 (.getfield 31) 3 4 := ⟨by decide +kernel, rfl⟩
theorem iX7_casting_4 : At cX7_casting 4 (.aload_n 0) 1 5 := ⟨by decide +kernel, rfl⟩
theorem iX7_casting_5 : At cX7_casting 5 (.getfield 19) 3 8 := ⟨by decide +kernel, rfl⟩
theorem iX7_casting_8 : At cX7_casting 8 (.invokevirtual 81) 3 11 := ⟨by decide +kernel, rfl⟩
theorem iX7_casting_11 : At cX7_casting 11 (.iconst (-1)) 1 12 := ⟨by decide +kernel, rfl⟩
theorem iX7_casting_12 : At cX7_casting 12 (.if_icmp .eq 6) 3 15 := ⟨by decide +kernel, rfl⟩
theorem iX7_casting_15 : At cX7_casting 15 (.bipush (-4)) 2 17 := ⟨by decide +kernel, rfl⟩
theorem iX7_casting_17 : At cX7_casting 17 (.ireturn) 1 18 := ⟨by decide +kernel, rfl⟩
theorem iX7_casting_18 : At cX7_casting 18 (.aload_n 0) 1 19 := ⟨by decide +kernel, rfl⟩
theorem iX7_casting_19 : At cX7_casting 19 (.getfield 19) 3 22 := ⟨by decide +kernel, rfl⟩
theorem iX7_casting_22 : At cX7_casting 22 (.aload_n 0) 1 23 := ⟨by decide +kernel, rfl⟩
theorem iX7_casting_23 : At cX7_casting 23 (.getfield 23) 3 26 := ⟨by decide +kernel, rfl⟩
theorem iX7_casting_26 : At cX7_casting 26 (.invokevirtual 85) 3 29 := ⟨by decide +kernel, rfl⟩
theorem iX7_casting_29 : At cX7_casting 29 (.aload_n 0) 1 30 := ⟨by decide +kernel, rfl⟩
theorem iX7_casting_30 : At cX7_casting 30 (.getfield 38) 3 33 := ⟨by decide +kernel, rfl⟩
theorem iX7_casting_33 : At cX7_casting 33 (.aload_n 0) 1 34 := ⟨by decide +kernel, rfl⟩
theorem iX7_casting_34 : At cX7_casting 34 (.getfield 19) 3 37 := ⟨by decide +kernel, rfl⟩
theorem iX7_casting_37 : At cX7_casting 37 (.getfield 89) 3 40 := ⟨by decide +kernel, rfl⟩
theorem iX7_casting_40 : At cX7_casting 40 (.invokevirtual 92) 3 43 := ⟨by decide +kernel, rfl⟩
theorem iX7_casting_43 : At cX7_casting 43 (.aload_n 0) 1 44 := ⟨by decide +kernel, rfl⟩
theorem iX7_casting_44 : At cX7_casting 44 (.invokevirtual 95) 3 47 := ⟨by decide +kernel, rfl⟩
theorem iX7_casting_47 : At cX7_casting 47 (.aload_n 0) 1 48 := ⟨by decide +kernel, rfl⟩
theorem iX7_casting_48 : At cX7_casting 48 (.getfield 10) 3 51 := ⟨by decide +kernel, rfl⟩
theorem iX7_casting_51 : At cX7_casting 51 (.iconst 0) 1 52 := ⟨by decide +kernel, rfl⟩
theorem iX7_casting_52 : At cX7_casting 52 (.putfield 73) 3 55 := ⟨by decide +kernel, rfl⟩
theorem iX7_casting_55 : At cX7_casting 55 (.aload_n 0) 1 56 := ⟨by decide +kernel, rfl⟩
theorem iX7_casting_56 : At cX7_casting 56 (.getfield 31) 3 59 := ⟨by decide +kernel, rfl⟩
theorem iX7_casting_59 : At cX7_casting 59 (.getfield 98) 3 62 := ⟨by decide +kernel, rfl⟩
theorem iX7_casting_62 : At cX7_casting 62 (.ireturn) 1 63 := ⟨by decide +kernel, rfl⟩
theorem iX7_section_0 : At cX7_section 0 (.aload_n 0) 1 1 := ⟨by decide +kernel, rfl⟩
theorem iX7_section_1 : At cX7_section 1 (.iload_n 1) 1 2 := ⟨by decide +kernel, rfl⟩
theorem iX7_section_2 : At cX7_section 2 (.invokevirtual 101) 3 5 := ⟨by decide +kernel, rfl⟩
theorem iX7_section_5 : At cX7_section 5 (.ifCond .ne 6) 3 8 := ⟨by decide +kernel, rfl⟩
theorem iX7_section_8 : At cX7_section 8 (.bipush (-2)) 2 10 := ⟨by decide +kernel, rfl⟩
theorem iX7_section_10 : At cX7_section 10 (.ireturn) 1 11 := ⟨by decide +kernel, rfl⟩
theorem iX7_section_11 : At cX7_section 11 (.iload_n 2) 1 12 := ⟨by decide +kernel, rfl⟩
theorem iX7_section_12 : At cX7_section 12 (.ifCond .lt 9) 3 15 := ⟨by decide +kernel, rfl⟩
theorem iX7_section_15 : At cX7_section 15 (.iload_n 2) 1 16 := ⟨by decide +kernel, rfl⟩
theorem iX7_section_16 : At cX7_section 16 (.bipush 8) 2 18 := ⟨by decide +kernel, rfl⟩
theorem iX7_section_18 : At cX7_section 18 (.if_icmp .le 6) 3 21 := ⟨by decide +kernel, rfl⟩
theorem iX7_section_21 : At cX7_section 21 (.bipush (-3)) 2 23 := ⟨by decide +kernel, rfl⟩
theorem iX7_section_23 : At cX7_section 23 (.ireturn) 1 24 := ⟨by decide +kernel, rfl⟩
theorem iX7_section_24 : At cX7_section 24 (.aload_n 0) 1 25 := ⟨by decide +kernel, rfl⟩
theorem iX7_section_25 : At cX7_section 25 (.getfield 62) 3 28 := ⟨by decide +kernel, rfl⟩
theorem iX7_section_28 : At cX7_section 28 (.invokevirtual 105) 3 31 := ⟨by decide +kernel, rfl⟩
theorem iX7_section_31 : At cX7_section 31 (.iload_n 2) 1 32 := ⟨by decide +kernel, rfl⟩
theorem iX7_section_32 : At cX7_section 32 (.tableswitch 148 0 7 #[48, 58, 68, 78, 88, 107, 126, 138]) 48 80 := ⟨by decide +kernel, rfl⟩
theorem iX7_section_80 : At cX7_section 80 (.aload_n 0) 1 81 := ⟨by decide +kernel, rfl⟩
theorem iX7_section_81 : At cX7_section 81 (.getfield 19) 3 84 := ⟨by decide +kernel, rfl⟩
theorem iX7_section_84 : At cX7_section 84 (.getfield 108) 3 87 := ⟨by decide +kernel, rfl⟩
theorem iX7_section_87 : At cX7_section 87 (.iload_n 1) 1 88 := ⟨by decide +kernel, rfl⟩
theorem iX7_section_88 : At cX7_section 88 (.iaload) 1 89 := ⟨by decide +kernel, rfl⟩
theorem iX7_section_89 : At cX7_section 89 (.ireturn) 1 90 := ⟨by decide +kernel, rfl⟩
theorem iX7_section_90 : At cX7_section 90 (.aload_n 0) 1 91 := ⟨by decide +kernel, rfl⟩
theorem iX7_section_91 : At cX7_section 91 (.getfield 19) 3 94 := ⟨by decide +kernel, rfl⟩
theorem iX7_section_94 : At cX7_section 94 (.getfield 111) 3 97 := ⟨by decide +kernel, rfl⟩
theorem iX7_section_97 : At cX7_section 97 (.iload_n 1) 1 98 := ⟨by decide +kernel, rfl⟩
theorem iX7_section_98 : At cX7_section 98 (.iaload) 1 99 := ⟨by decide +kernel, rfl⟩
theorem iX7_section_99 : At cX7_section 99 (.ireturn) 1 100 := ⟨by decide +kernel, rfl⟩
theorem iX7_section_100 : At cX7_section 100 (.aload_n 0) 1 101 := ⟨by decide +kernel, rfl⟩
theorem iX7_section_101 : At cX7_section 101 (.getfield 38) 3 104 := ⟨by decide +kernel, rfl⟩
theorem iX7_section_104 : At cX7_section 104 (.getfield 114) 3 107 := ⟨by decide +kernel, rfl⟩
theorem iX7_section_107 : At cX7_section 107 (.iload_n 1) 1 108 := ⟨by decide +kernel, rfl⟩
theorem iX7_section_108 : At cX7_section 108 (.iaload) 1 109 := ⟨by decide +kernel, rfl⟩
theorem iX7_section_109 : At cX7_section 109 (.ireturn) 1 110 := ⟨by decide +kernel, rfl⟩
theorem iX7_section_110 : At cX7_section 110 (.aload_n 0) 1 111 := ⟨by decide +kernel, rfl⟩
theorem iX7_section_111 : At cX7_section 111 (.getfield 19) 3 114 := ⟨by decide +kernel, rfl⟩
theorem iX7_section_114 : At cX7_section 114 (.getfield 117) 3 117 := ⟨by decide +kernel, rfl⟩
theorem iX7_section_117 : At cX7_section 117 (.iload_n 1) 1 118 := ⟨by decide +kernel, rfl⟩
theorem iX7_section_118 : At cX7_section 118 (.iaload) 1 119 := ⟨by decide +kernel, rfl⟩
theorem iX7_section_119 : At cX7_section 119 (.ireturn) 1 120 := ⟨by decide +kernel, rfl⟩
theorem iX7_section_120 : At cX7_section 120 (.aload_n 0) 1 121 := ⟨by decide +kernel, rfl⟩
theorem iX7_section_121 : At cX7_section 121 (.getfield 62) 3 124 := ⟨by decide +kernel, rfl⟩
theorem iX7_section_124 : At cX7_section 124 (.getfield 120) 3 127 := ⟨by decide +kernel, rfl⟩
theorem iX7_section_127 : At cX7_section 127 (.iload_n 1) 1 128 := ⟨by decide +kernel, rfl⟩
theorem iX7_section_128 : At cX7_section 128 (.iaload) 1 129 := ⟨by decide +kernel, rfl⟩
theorem iX7_section_129 : At cX7_section 129 (.aload_n 0) 1 130 := ⟨by decide +kernel, rfl⟩
theorem iX7_section_130 : At cX7_section 130 (.getfield 62) 3 133 := ⟨by decide +kernel, rfl⟩
theorem iX7_section_133 : At cX7_section 133 (.iload_n 1) 1 134 := ⟨by decide +kernel, rfl⟩
theorem iX7_section_134 : At cX7_section 134 (.invokevirtual 123) 3 137 := ⟨by decide +kernel, rfl⟩
theorem iX7_section_137 : At cX7_section 137 (.idiv) 1 138 := ⟨by decide +kernel, rfl⟩
theorem iX7_section_138 : At cX7_section 138 (.ireturn) 1 139 := ⟨by decide +kernel, rfl⟩
theorem iX7_section_139 : At cX7_section 139 (.aload_n 0) 1 140 := ⟨by decide +kernel, rfl⟩
theorem iX7_section_140 : At cX7_section 140 (.getfield 62) 3 143 := ⟨by decide +kernel, rfl⟩
theorem iX7_section_143 : At cX7_section 143 (.getfield 127) 3 146 := ⟨by decide +kernel, rfl⟩
theorem iX7_section_146 : At cX7_section 146 (.iload_n 1) 1 147 := ⟨by decide +kernel, rfl⟩
theorem iX7_section_147 : At cX7_section 147 (.iaload) 1 148 := ⟨by decide +kernel, rfl⟩
theorem iX7_section_148 : At cX7_section 148 (.aload_n 0) 1 149 := ⟨by decide +kernel, rfl⟩
theorem iX7_section_149 : At cX7_section 149 (.getfield 62) 3 152 := ⟨by decide +kernel, rfl⟩
theorem iX7_section_152 : At cX7_section 152 (.iload_n 1) 1 153 := ⟨by decide +kernel, rfl⟩
theorem iX7_section_153 : At cX7_section 153 (.invokevirtual 123) 3 156 := ⟨by decide +kernel, rfl⟩
theorem iX7_section_156 : At cX7_section 156 (.idiv) 1 157 := ⟨by decide +kernel, rfl⟩
theorem iX7_section_157 : At cX7_section 157 (.ireturn) 1 158 := ⟨by decide +kernel, rfl⟩
theorem iX7_section_158 : At cX7_section 158 (.aload_n 0) 1 159 := ⟨by decide +kernel, rfl⟩
theorem iX7_section_159 : At cX7_section 159 (.getfield 62) 3 162 := ⟨by decide +kernel, rfl⟩
theorem iX7_section_162 : At cX7_section 162 (.iload_n 1) 1 163 := ⟨by decide +kernel, rfl⟩
theorem iX7_section_163 : At cX7_section 163 (.invokevirtual 130) 3 166 := ⟨by decide +kernel, rfl⟩
theorem iX7_section_166 : At cX7_section 166 (.invokestatic 133) 3 169 := ⟨by decide +kernel, rfl⟩
theorem iX7_section_169 : At cX7_section 169 (.ireturn) 1 170 := ⟨by decide +kernel, rfl⟩
theorem iX7_section_170 : At cX7_section 170 (.aload_n 0) 1 171 := ⟨by decide +kernel, rfl⟩
theorem iX7_section_171 : At cX7_section 171 (.getfield 62) 3 174 := ⟨by decide +kernel, rfl⟩
theorem iX7_section_174 : At cX7_section 174 (.getfield 137) 3 177 := ⟨by decide +kernel, rfl⟩
theorem iX7_section_177 : At cX7_section 177 (.iload_n 1) 1 178 := ⟨by decide +kernel, rfl⟩
theorem iX7_section_178 : At cX7_section 178 (.iaload) 1 179 := ⟨by decide +kernel, rfl⟩
theorem iX7_section_179 : At cX7_section 179 (.ireturn) 1 180 := ⟨by decide +kernel, rfl⟩
theorem iX7_section_180 : At cX7_section 180 (.aload_n 0) 1 181 := ⟨by decide +kernel, rfl⟩
theorem iX7_section_181 : At cX7_section 181 (.getfield 62) 3 184 := ⟨by decide +kernel, rfl⟩
theorem iX7_section_184 : At cX7_section 184 (.getfield 140) 3 187 := ⟨by decide +kernel, rfl⟩
theorem iX7_section_187 : At cX7_section 187 (.iload_n 1) 1 188 := ⟨by decide +kernel, rfl⟩
theorem iX7_section_188 : At cX7_section 188 (.iaload) 1 189 := ⟨by decide +kernel, rfl⟩
theorem iX7_section_189 : At cX7_section 189 (.ireturn) 1 190 := ⟨by decide +kernel, rfl⟩
theorem iX7_top_0 : At cX7_top 0 (.aload_n 0) 1 1 := ⟨by decide +kernel, rfl⟩
theorem iX7_top_1 : At cX7_top 1 (.iload_n 1) 1 2 := ⟨by decide +kernel, rfl⟩
theorem iX7_top_2 : At cX7_top 2 (.invokevirtual 101) 3 5 := ⟨by decide +kernel, rfl⟩
theorem iX7_top_5 : At cX7_top 5 (.ifCond .ne 6) 3 8 := ⟨by decide +kernel, rfl⟩
theorem iX7_top_8 : At cX7_top 8 (.bipush (-2)) 2 10 := ⟨by decide +kernel, rfl⟩
theorem iX7_top_10 : At cX7_top 10 (.ireturn) 1 11 := ⟨by decide +kernel, rfl⟩
theorem iX7_top_11 : At cX7_top 11 (.iload_n 2) 1 12 := ⟨by decide +kernel, rfl⟩
theorem iX7_top_12 : At cX7_top 12 (.ifCond .lt 8) 3 15 := ⟨by decide +kernel, rfl⟩
theorem iX7_top_15 : At cX7_top 15 (.iload_n 2) 1 16 := ⟨by decide +kernel, rfl⟩
theorem iX7_top_16 : At cX7_top 16 (.iconst 4) 1 17 := ⟨by decide +kernel, rfl⟩
theorem iX7_top_17 : At cX7_top 17 (.if_icmp .le 6) 3 20 := ⟨by decide +kernel, rfl⟩
theorem iX7_top_20 : At cX7_top 20 (.bipush (-3)) 2 22 := ⟨by decide +kernel, rfl⟩
theorem iX7_top_22 : At cX7_top 22 (.ireturn) 1 23 := ⟨by decide +kernel, rfl⟩
theorem iX7_top_23 : At cX7_top 23 (.aload_n 0) 1 24 := ⟨by decide +kernel, rfl⟩
theorem iX7_top_24 : At cX7_top 24 (.getfield 62) 3 27 := ⟨by decide +kernel, rfl⟩
theorem iX7_top_27 : At cX7_top 27 (.invokevirtual 105) 3 30 := ⟨by decide +kernel, rfl⟩
theorem iX7_top_30 : At cX7_top 30 (.aload_n 0) 1 31 := ⟨by decide +kernel, rfl⟩
theorem iX7_top_31 : At cX7_top 31 (.getfield 62) 3 34 := ⟨by decide +kernel, rfl⟩
theorem iX7_top_34 : At cX7_top 34 (.iload_n 1) 1 35 := ⟨by decide +kernel, rfl⟩
theorem iX7_top_35 : At cX7_top 35 (.invokevirtual 130) 3 38 := ⟨by decide +kernel, rfl⟩
theorem iX7_top_38 : At cX7_top 38 (.ifCond .ne 6) 3 41 := ⟨by decide +kernel, rfl⟩
theorem iX7_top_41 : At cX7_top 41 (.bipush (-4)) 2 43 := ⟨by decide +kernel, rfl⟩
theorem iX7_top_43 : At cX7_top 43 (.ireturn) 1 44 := ⟨by decide +kernel, rfl⟩
theorem iX7_top_44 : At cX7_top 44 (.iload_n 2) 1 45 := ⟨by decide +kernel, rfl⟩
theorem iX7_top_45 : At cX7_top 45 (.tableswitch 88 0 3 #[31, 40, 50, 60]) 31 76 := ⟨by decide +kernel, rfl⟩
theorem iX7_top_76 : At cX7_top 76 (.aload_n 0) 1 77 := ⟨by decide +kernel, rfl⟩
theorem iX7_top_77 : At cX7_top 77 (.getfield 62) 3 80 := ⟨by decide +kernel, rfl⟩
theorem iX7_top_80 : At cX7_top 80 (.iload_n 1) 1 81 := ⟨by decide +kernel, rfl⟩
theorem iX7_top_81 : At cX7_top 81 (.invokevirtual 143) 3 84 := ⟨by decide +kernel, rfl⟩
theorem iX7_top_84 : At cX7_top 84 (.ireturn) 1 85 := ⟨by decide +kernel, rfl⟩
theorem iX7_top_85 : At cX7_top 85 (.aload_n 0) 1 86 := ⟨by decide +kernel, rfl⟩
theorem iX7_top_86 : At cX7_top 86 (.getfield 62) 3 89 := ⟨by decide +kernel, rfl⟩
theorem iX7_top_89 : At cX7_top 89 (.getfield 146) 3 92 := ⟨by decide +kernel, rfl⟩
theorem iX7_top_92 : At cX7_top 92 (.iload_n 1) 1 93 := ⟨by decide +kernel, rfl⟩
theorem iX7_top_93 : At cX7_top 93 (.iaload) 1 94 := ⟨by decide +kernel, rfl⟩
theorem iX7_top_94 : At cX7_top 94 (.ireturn) 1 95 := ⟨by decide +kernel, rfl⟩
theorem iX7_top_95 : At cX7_top 95 (.aload_n 0) 1 96 := ⟨by decide +kernel, rfl⟩
theorem iX7_top_96 : At cX7_top 96 (.getfield 62) 3 99 := ⟨by decide +kernel, rfl⟩
theorem iX7_top_99 : At cX7_top 99 (.getfield 149) 3 102 := ⟨by decide +kernel, rfl⟩
theorem iX7_top_102 : At cX7_top 102 (.iload_n 1) 1 103 := ⟨by decide +kernel, rfl⟩
theorem iX7_top_103 : At cX7_top 103 (.iaload) 1 104 := ⟨by decide +kernel, rfl⟩
theorem iX7_top_104 : At cX7_top 104 (.ireturn) 1 105 := ⟨by decide +kernel, rfl⟩
theorem iX7_top_105 : At cX7_top 105 (.aload_n 0) 1 106 := ⟨by decide +kernel, rfl⟩
theorem iX7_top_106 : At cX7_top 106 (.getfield 62) 3 109 := ⟨by decide +kernel, rfl⟩
theorem iX7_top_109 : At cX7_top 109 (.iload_n 1) 1 110 := ⟨by decide +kernel, rfl⟩
theorem iX7_top_110 : At cX7_top 110 (.aload_n 0) 1 111 := ⟨by decide +kernel, rfl⟩
theorem iX7_top_111 : At cX7_top 111 (.getfield 62) 3 114 := ⟨by decide +kernel, rfl⟩
theorem iX7_top_114 : At cX7_top 114 (.invokevirtual 152) 3 117 := ⟨by decide +kernel, rfl⟩
theorem iX7_top_117 : At cX7_top 117 (.invokevirtual 156) 3 120 := ⟨by decide +kernel, rfl⟩
theorem iX7_top_120 : At cX7_top 120 (.iconst (-1)) 1 121 := ⟨by decide +kernel, rfl⟩
theorem iX7_top_121 : At cX7_top 121 (.if_icmp .eq 7) 3 124 := ⟨by decide +kernel, rfl⟩
theorem iX7_top_124 : At cX7_top 124 (.iconst 1) 1 125 := ⟨by decide +kernel, rfl⟩
theorem iX7_top_125 : At cX7_top 125 (.goto 4) 3 128 := ⟨by decide +kernel, rfl⟩
theorem iX7_top_128 : At cX7_top 128 (.iconst 0) 1 129 := ⟨by decide +kernel, rfl⟩
theorem iX7_top_129 : At cX7_top 129 (.invokestatic 133) 3 132 := ⟨by decide +kernel, rfl⟩
theorem iX7_top_132 : At cX7_top 132 (.ireturn) 1 133 := ⟨by decide +kernel, rfl⟩
theorem iX7_top_133 : At cX7_top 133 (.aload_n 0) 1 134 := ⟨by decide +kernel, rfl⟩
theorem iX7_top_134 : At cX7_top 134 (.getfield 62) 3 137 := ⟨by decide +kernel, rfl⟩
theorem iX7_top_137 : At cX7_top 137 (.iload_n 1) 1 138 := ⟨by decide +kernel, rfl⟩
theorem iX7_top_138 : At cX7_top 138 (.aload_n 0) 1 139 := ⟨by decide +kernel, rfl⟩
theorem iX7_top_139 : At cX7_top 139 (.getfield 62) 3 142 := ⟨by decide +kernel, rfl⟩
theorem iX7_top_142 : At cX7_top 142 (.invokevirtual 152) 3 145 := ⟨by decide +kernel, rfl⟩
theorem iX7_top_145 : At cX7_top 145 (.invokevirtual 156) 3 148 := ⟨by decide +kernel, rfl⟩
theorem iX7_top_148 : At cX7_top 148 (.ireturn) 1 149 := ⟨by decide +kernel, rfl⟩
theorem iX7_riser_0 : At cX7_riser 0 (.aload_n 0) 1 1 := ⟨by decide +kernel, rfl⟩
theorem iX7_riser_1 : At cX7_riser 1 (.iload_n 1) 1 2 := ⟨by decide +kernel, rfl⟩
theorem iX7_riser_2 : At cX7_riser 2 (.invokevirtual 160) 3 5 := ⟨by decide +kernel, rfl⟩
theorem iX7_riser_5 : At cX7_riser 5 (.ifCond .ne 6) 3 8 := ⟨by decide +kernel, rfl⟩
theorem iX7_riser_8 : At cX7_riser 8 (.bipush (-2)) 2 10 := ⟨by decide +kernel, rfl⟩
theorem iX7_riser_10 : At cX7_riser 10 (.ireturn) 1 11 := ⟨by decide +kernel, rfl⟩
theorem iX7_riser_11 : At cX7_riser 11 (.iload_n 2) 1 12 := ⟨by decide +kernel, rfl⟩
theorem iX7_riser_12 : At cX7_riser 12 (.tableswitch 78 0 3 #[32, 42, 52, 62]) 32 44 := ⟨by decide +kernel, rfl⟩
theorem iX7_riser_44 : At cX7_riser 44 (.aload_n 0) 1 45 := ⟨by decide +kernel, rfl⟩
theorem iX7_riser_45 : At cX7_riser 45 (.getfield 38) 3 48 := ⟨by decide +kernel, rfl⟩
theorem iX7_riser_48 : At cX7_riser 48 (.getfield 163) 3 51 := ⟨by decide +kernel, rfl⟩
theorem iX7_riser_51 : At cX7_riser 51 (.iload_n 1) 1 52 := ⟨by decide +kernel, rfl⟩
theorem iX7_riser_52 : At cX7_riser 52 (.iaload) 1 53 := ⟨by decide +kernel, rfl⟩
theorem iX7_riser_53 : At cX7_riser 53 (.ireturn) 1 54 := ⟨by decide +kernel, rfl⟩
theorem iX7_riser_54 : At cX7_riser 54 (.aload_n 0) 1 55 := ⟨by decide +kernel, rfl⟩
theorem iX7_riser_55 : At cX7_riser 55 (.getfield 38) 3 58 := ⟨by decide +kernel, rfl⟩
theorem iX7_riser_58 : At cX7_riser 58 (.getfield 166) 3 61 := ⟨by decide +kernel, rfl⟩
theorem iX7_riser_61 : At cX7_riser 61 (.iload_n 1) 1 62 := ⟨by decide +kernel, rfl⟩
theorem iX7_riser_62 : At cX7_riser 62 (.iaload) 1 63 := ⟨by decide +kernel, rfl⟩
theorem iX7_riser_63 : At cX7_riser 63 (.ireturn) 1 64 := ⟨by decide +kernel, rfl⟩
theorem iX7_riser_64 : At cX7_riser 64 (.aload_n 0) 1 65 := ⟨by decide +kernel, rfl⟩
theorem iX7_riser_65 : At cX7_riser 65 (.getfield 38) 3 68 := ⟨by decide +kernel, rfl⟩
theorem iX7_riser_68 : At cX7_riser 68 (.getfield 167) 3 71 := ⟨by decide +kernel, rfl⟩
theorem iX7_riser_71 : At cX7_riser 71 (.iload_n 1) 1 72 := ⟨by decide +kernel, rfl⟩
theorem iX7_riser_72 : At cX7_riser 72 (.iaload) 1 73 := ⟨by decide +kernel, rfl⟩
theorem iX7_riser_73 : At cX7_riser 73 (.ireturn) 1 74 := ⟨by decide +kernel, rfl⟩
theorem iX7_riser_74 : At cX7_riser 74 (.aload_n 0) 1 75 := ⟨by decide +kernel, rfl⟩
theorem iX7_riser_75 : At cX7_riser 75 (.getfield 62) 3 78 := ⟨by decide +kernel, rfl⟩
theorem iX7_riser_78 : At cX7_riser 78 (.invokevirtual 105) 3 81 := ⟨by decide +kernel, rfl⟩
theorem iX7_riser_81 : At cX7_riser 81 (.aload_n 0) 1 82 := ⟨by decide +kernel, rfl⟩
theorem iX7_riser_82 : At cX7_riser 82 (.getfield 62) 3 85 := ⟨by decide +kernel, rfl⟩
theorem iX7_riser_85 : At cX7_riser 85 (.iload_n 1) 1 86 := ⟨by decide +kernel, rfl⟩
theorem iX7_riser_86 : At cX7_riser 86 (.invokevirtual 168) 3 89 := ⟨by decide +kernel, rfl⟩
theorem iX7_riser_89 : At cX7_riser 89 (.ireturn) 1 90 := ⟨by decide +kernel, rfl⟩
theorem iX7_riser_90 : At cX7_riser 90 (.bipush (-3)) 2 92 := ⟨by decide +kernel, rfl⟩
theorem iX7_riser_92 : At cX7_riser 92 (.ireturn) 1 93 := ⟨by decide +kernel, rfl⟩
theorem iX7_put_0 : At cX7_put 0 (.aload_n 0) 1 1 := ⟨by decide +kernel, rfl⟩
theorem iX7_put_1 : At cX7_put 1 (.iload_n 1) 1 2 := ⟨by decide +kernel, rfl⟩
theorem iX7_put_2 : At cX7_put 2 (.invokevirtual 101) 3 5 := ⟨by decide +kernel, rfl⟩
theorem iX7_put_5 : At cX7_put 5 (.ifCond .ne 6) 3 8 := ⟨by decide +kernel, rfl⟩
theorem iX7_put_8 : At cX7_put 8 (.bipush (-2)) 2 10 := ⟨by decide +kernel, rfl⟩
theorem iX7_put_10 : At cX7_put 10 (.ireturn) 1 11 := ⟨by decide +kernel, rfl⟩
theorem iX7_put_11 : At cX7_put 11 (.iload_n 2) 1 12 := ⟨by decide +kernel, rfl⟩
theorem iX7_put_12 : At cX7_put 12 (.invokestatic 171) 3 15 := ⟨by decide +kernel, rfl⟩
theorem iX7_put_15 : At cX7_put 15 (.ifCond .eq 10) 3 18 := ⟨by decide +kernel, rfl⟩
theorem iX7_put_18 : At cX7_put 18 (.iload_n 3) 1 19 := ⟨by decide +kernel, rfl⟩
theorem iX7_put_19 : At cX7_put 19 (.invokestatic 171) 3 22 := ⟨by decide +kernel, rfl⟩
theorem iX7_put_22 : At cX7_put 22 (.ifCond .ne 6) 3 25 := ⟨by decide +kernel, rfl⟩
theorem iX7_put_25 : At cX7_put 25 (.bipush (-3)) 2 27 := ⟨by decide +kernel, rfl⟩
theorem iX7_put_27 : At cX7_put 27 (.ireturn) 1 28 := ⟨by decide +kernel, rfl⟩
theorem iX7_put_28 : At cX7_put 28 (.aload_n 0) 1 29 := ⟨by decide +kernel, rfl⟩
theorem iX7_put_29 : At cX7_put 29 (.getfield 38) 3 32 := ⟨by decide +kernel, rfl⟩
theorem iX7_put_32 : At cX7_put 32 (.getfield 174) 3 35 := ⟨by decide +kernel, rfl⟩
theorem iX7_put_35 : At cX7_put 35 (.bipush 6) 2 37 := ⟨by decide +kernel, rfl⟩
theorem iX7_put_37 : At cX7_put 37 (.if_icmp .lt 6) 3 40 := ⟨by decide +kernel, rfl⟩
theorem iX7_put_40 : At cX7_put 40 (.bipush (-5)) 2 42 := ⟨by decide +kernel, rfl⟩
theorem iX7_put_42 : At cX7_put 42 (.ireturn) 1 43 := ⟨by decide +kernel, rfl⟩
theorem iX7_put_43 : At cX7_put 43 (.aload_n 0) 1 44 := ⟨by decide +kernel, rfl⟩
theorem iX7_put_44 : At cX7_put 44 (.getfield 45) 3 47 := ⟨by decide +kernel, rfl⟩
theorem iX7_put_47 : At cX7_put 47 (.aload_n 0) 1 48 := ⟨by decide +kernel, rfl⟩
theorem iX7_put_48 : At cX7_put 48 (.getfield 38) 3 51 := ⟨by decide +kernel, rfl⟩
theorem iX7_put_51 : At cX7_put 51 (.invokevirtual 177) 3 54 := ⟨by decide +kernel, rfl⟩
theorem iX7_put_54 : At cX7_put 54 (.aload_n 0) 1 55 := ⟨by decide +kernel, rfl⟩
theorem iX7_put_55 : At cX7_put 55 (.getfield 38) 3 58 := ⟨by decide +kernel, rfl⟩
theorem iX7_put_58 : At cX7_put 58 (.iload_n 1) 1 59 := ⟨by decide +kernel, rfl⟩
theorem iX7_put_59 : At cX7_put 59 (.iload_n 2) 1 60 := ⟨by decide +kernel, rfl⟩
theorem iX7_put_60 : At cX7_put 60 (.iload_n 3) 1 61 := ⟨by decide +kernel, rfl⟩
theorem iX7_put_61 : At cX7_put 61 (.invokevirtual 180) 3 64 := ⟨by decide +kernel, rfl⟩
theorem iX7_put_64 : At cX7_put 64 (.aload_n 0) 1 65 := ⟨by decide +kernel, rfl⟩
theorem iX7_put_65 : At cX7_put 65 (.getfield 38) 3 68 := ⟨by decide +kernel, rfl⟩
theorem iX7_put_68 : At cX7_put 68 (.getfield 174) 3 71 := ⟨by decide +kernel, rfl⟩
theorem iX7_put_71 : At cX7_put 71 (.iconst 1) 1 72 := ⟨by decide +kernel, rfl⟩
theorem iX7_put_72 : At cX7_put 72 (.isub) 1 73 := ⟨by decide +kernel, rfl⟩
theorem iX7_put_73 : At cX7_put 73 (.ireturn) 1 74 := ⟨by decide +kernel, rfl⟩
theorem iX7_take_0 : At cX7_take 0 (.aload_n 0) 1 1 := ⟨by decide +kernel, rfl⟩
theorem iX7_take_1 : At cX7_take 1 (.iload_n 1) 1 2 := ⟨by decide +kernel, rfl⟩
theorem iX7_take_2 : At cX7_take 2 (.invokevirtual 160) 3 5 := ⟨by decide +kernel, rfl⟩
theorem iX7_take_5 : At cX7_take 5 (.ifCond .ne 6) 3 8 := ⟨by decide +kernel, rfl⟩
theorem iX7_take_8 : At cX7_take 8 (.bipush (-2)) 2 10 := ⟨by decide +kernel, rfl⟩
theorem iX7_take_10 : At cX7_take 10 (.ireturn) 1 11 := ⟨by decide +kernel, rfl⟩
theorem iX7_take_11 : At cX7_take 11 (.aload_n 0) 1 12 := ⟨by decide +kernel, rfl⟩
theorem iX7_take_12 : At cX7_take 12 (.getfield 45) 3 15 := ⟨by decide +kernel, rfl⟩
theorem iX7_take_15 : At cX7_take 15 (.aload_n 0) 1 16 := ⟨by decide +kernel, rfl⟩
theorem iX7_take_16 : At cX7_take 16 (.getfield 38) 3 19 := ⟨by decide +kernel, rfl⟩
theorem iX7_take_19 : At cX7_take 19 (.invokevirtual 177) 3 22 := ⟨by decide +kernel, rfl⟩
theorem iX7_take_22 : At cX7_take 22 (.aload_n 0) 1 23 := ⟨by decide +kernel, rfl⟩
theorem iX7_take_23 : At cX7_take 23 (.getfield 38) 3 26 := ⟨by decide +kernel, rfl⟩
theorem iX7_take_26 : At cX7_take 26 (.iload_n 1) 1 27 := ⟨by decide +kernel, rfl⟩
theorem iX7_take_27 : At cX7_take 27 (.invokevirtual 184) 3 30 := ⟨by decide +kernel, rfl⟩
theorem iX7_take_30 : At cX7_take 30 (.aload_n 0) 1 31 := ⟨by decide +kernel, rfl⟩
theorem iX7_take_31 : At cX7_take 31 (.getfield 38) 3 34 := ⟨by decide +kernel, rfl⟩
theorem iX7_take_34 : At cX7_take 34 (.getfield 174) 3 37 := ⟨by decide +kernel, rfl⟩
theorem iX7_take_37 : At cX7_take 37 (.ireturn) 1 38 := ⟨by decide +kernel, rfl⟩
theorem iX7_move_0 : At cX7_move 0 (.aload_n 0) 1 1 := ⟨by decide +kernel, rfl⟩
theorem iX7_move_1 : At cX7_move 1 (.iload_n 1) 1 2 := ⟨by decide +kernel, rfl⟩
theorem iX7_move_2 : At cX7_move 2 (.invokevirtual 101) 3 5 := ⟨by decide +kernel, rfl⟩
theorem iX7_move_5 : At cX7_move 5 (.ifCond .eq 16) 3 8 := ⟨by decide +kernel, rfl⟩
theorem iX7_move_8 : At cX7_move 8 (.aload_n 0) 1 9 := ⟨by decide +kernel, rfl⟩
theorem iX7_move_9 : At cX7_move 9 (.iload_n 2) 1 10 := ⟨by decide +kernel, rfl⟩
theorem iX7_move_10 : At cX7_move 10 (.invokevirtual 101) 3 13 := ⟨by decide +kernel, rfl⟩
theorem iX7_move_13 : At cX7_move 13 (.ifCond .eq 8) 3 16 := ⟨by decide +kernel, rfl⟩
theorem iX7_move_16 : At cX7_move 16 (.iload_n 1) 1 17 := ⟨by decide +kernel, rfl⟩
theorem iX7_move_17 : At cX7_move 17 (.iload_n 2) 1 18 := ⟨by decide +kernel, rfl⟩
theorem iX7_move_18 : At cX7_move 18 (.if_icmp .ne 6) 3 21 := ⟨by decide +kernel, rfl⟩
theorem iX7_move_21 : At cX7_move 21 (.bipush (-2)) 2 23 := ⟨by decide +kernel, rfl⟩
theorem iX7_move_23 : At cX7_move 23 (.ireturn) 1 24 := ⟨by decide +kernel, rfl⟩
theorem iX7_move_24 : At cX7_move 24 (.iload_n 3) 1 25 := ⟨by decide +kernel, rfl⟩
theorem iX7_move_25 : At cX7_move 25 (.invokestatic 188) 3 28 := ⟨by decide +kernel, rfl⟩
theorem iX7_move_28 : At cX7_move 28 (.ifCond .ne 6) 3 31 := ⟨by decide +kernel, rfl⟩
theorem iX7_move_31 : At cX7_move 31 (.bipush (-3)) 2 33 := ⟨by decide +kernel, rfl⟩
theorem iX7_move_33 : At cX7_move 33 (.ireturn) 1 34 := ⟨by decide +kernel, rfl⟩
theorem iX7_move_34 : At cX7_move 34 (.aload_n 0) 1 35 := ⟨by decide +kernel, rfl⟩
theorem iX7_move_35 : At cX7_move 35 (.getfield 38) 3 38 := ⟨by decide +kernel, rfl⟩
theorem iX7_move_38 : At cX7_move 38 (.getfield 114) 3 41 := ⟨by decide +kernel, rfl⟩
theorem iX7_move_41 : At cX7_move 41 (.iload_n 1) 1 42 := ⟨by decide +kernel, rfl⟩
theorem iX7_move_42 : At cX7_move 42 (.iaload) 1 43 := ⟨by decide +kernel, rfl⟩
theorem iX7_move_43 : At cX7_move 43 (.iload_n 3) 1 44 := ⟨by decide +kernel, rfl⟩
theorem iX7_move_44 : At cX7_move 44 (.if_icmp .lt 19) 3 47 := ⟨by decide +kernel, rfl⟩
theorem iX7_move_47 : At cX7_move 47 (.aload_n 0) 1 48 := ⟨by decide +kernel, rfl⟩
theorem iX7_move_48 : At cX7_move 48 (.getfield 38) 3 51 := ⟨by decide +kernel, rfl⟩
theorem iX7_move_51 : At cX7_move 51 (.getfield 114) 3 54 := ⟨by decide +kernel, rfl⟩
theorem iX7_move_54 : At cX7_move 54 (.iload_n 2) 1 55 := ⟨by decide +kernel, rfl⟩
theorem iX7_move_55 : At cX7_move 55 (.iaload) 1 56 := ⟨by decide +kernel, rfl⟩
theorem iX7_move_56 : At cX7_move 56 (.iload_n 3) 1 57 := ⟨by decide +kernel, rfl⟩
theorem iX7_move_57 : At cX7_move 57 (.iadd) 1 58 := ⟨by decide +kernel, rfl⟩
theorem iX7_move_58 : At cX7_move 58 (.bipush 9) 2 60 := ⟨by decide +kernel, rfl⟩
theorem iX7_move_60 : At cX7_move 60 (.if_icmp .le 6) 3 63 := ⟨by decide +kernel, rfl⟩
theorem iX7_move_63 : At cX7_move 63 (.bipush (-4)) 2 65 := ⟨by decide +kernel, rfl⟩
theorem iX7_move_65 : At cX7_move 65 (.ireturn) 1 66 := ⟨by decide +kernel, rfl⟩
theorem iX7_move_66 : At cX7_move 66 (.aload_n 0) 1 67 := ⟨by decide +kernel, rfl⟩
theorem iX7_move_67 : At cX7_move 67 (.getfield 45) 3 70 := ⟨by decide +kernel, rfl⟩
theorem iX7_move_70 : At cX7_move 70 (.aload_n 0) 1 71 := ⟨by decide +kernel, rfl⟩
theorem iX7_move_71 : At cX7_move 71 (.getfield 38) 3 74 := ⟨by decide +kernel, rfl⟩
theorem iX7_move_74 : At cX7_move 74 (.invokevirtual 177) 3 77 := ⟨by decide +kernel, rfl⟩
theorem iX7_move_77 : At cX7_move 77 (.aload_n 0) 1 78 := ⟨by decide +kernel, rfl⟩
theorem iX7_move_78 : At cX7_move 78 (.getfield 38) 3 81 := ⟨by decide +kernel, rfl⟩
theorem iX7_move_81 : At cX7_move 81 (.getfield 114) 3 84 := ⟨by decide +kernel, rfl⟩
theorem iX7_move_84 : At cX7_move 84 (.iload_n 1) 1 85 := ⟨by decide +kernel, rfl⟩
theorem iX7_move_85 : At cX7_move 85 (.dup2) 1 86 := ⟨by decide +kernel, rfl⟩
theorem iX7_move_86 : At cX7_move 86 (.iaload) 1 87 := ⟨by decide +kernel, rfl⟩
theorem iX7_move_87 : At cX7_move 87 (.iload_n 3) 1 88 := ⟨by decide +kernel, rfl⟩
theorem iX7_move_88 : At cX7_move 88 (.isub) 1 89 := ⟨by decide +kernel, rfl⟩
theorem iX7_move_89 : At cX7_move 89 (.iastore) 1 90 := ⟨by decide +kernel, rfl⟩
theorem iX7_move_90 : At cX7_move 90 (.aload_n 0) 1 91 := ⟨by decide +kernel, rfl⟩
theorem iX7_move_91 : At cX7_move 91 (.getfield 38) 3 94 := ⟨by decide +kernel, rfl⟩
theorem iX7_move_94 : At cX7_move 94 (.getfield 114) 3 97 := ⟨by decide +kernel, rfl⟩
theorem iX7_move_97 : At cX7_move 97 (.iload_n 2) 1 98 := ⟨by decide +kernel, rfl⟩
theorem iX7_move_98 : At cX7_move 98 (.dup2) 1 99 := ⟨by decide +kernel, rfl⟩
theorem iX7_move_99 : At cX7_move 99 (.iaload) 1 100 := ⟨by decide +kernel, rfl⟩
theorem iX7_move_100 : At cX7_move 100 (.iload_n 3) 1 101 := ⟨by decide +kernel, rfl⟩
theorem iX7_move_101 : At cX7_move 101 (.iadd) 1 102 := ⟨by decide +kernel, rfl⟩
theorem iX7_move_102 : At cX7_move 102 (.iastore) 1 103 := ⟨by decide +kernel, rfl⟩
theorem iX7_move_103 : At cX7_move 103 (.aload_n 0) 1 104 := ⟨by decide +kernel, rfl⟩
theorem iX7_move_104 : At cX7_move 104 (.getfield 38) 3 107 := ⟨by decide +kernel, rfl⟩
theorem iX7_move_107 : At cX7_move 107 (.getfield 114) 3 110 := ⟨by decide +kernel, rfl⟩
theorem iX7_move_110 : At cX7_move 110 (.iload_n 2) 1 111 := ⟨by decide +kernel, rfl⟩
theorem iX7_move_111 : At cX7_move 111 (.iaload) 1 112 := ⟨by decide +kernel, rfl⟩
theorem iX7_move_112 : At cX7_move 112 (.ireturn) 1 113 := ⟨by decide +kernel, rfl⟩
theorem iX7_chill_0 : At cX7_chill 0 (.aload_n 0) 1 1 := ⟨by decide +kernel, rfl⟩
theorem iX7_chill_1 : At cX7_chill 1 (.iload_n 1) 1 2 := ⟨by decide +kernel, rfl⟩
theorem iX7_chill_2 : At cX7_chill 2 (.invokevirtual 101) 3 5 := ⟨by decide +kernel, rfl⟩
theorem iX7_chill_5 : At cX7_chill 5 (.ifCond .ne 6) 3 8 := ⟨by decide +kernel, rfl⟩
theorem iX7_chill_8 : At cX7_chill 8 (.bipush (-2)) 2 10 := ⟨by decide +kernel, rfl⟩
theorem iX7_chill_10 : At cX7_chill 10 (.ireturn) 1 11 := ⟨by decide +kernel, rfl⟩
theorem iX7_chill_11 : At cX7_chill 11 (.iload_n 2) 1 12 := ⟨by decide +kernel, rfl⟩
theorem iX7_chill_12 : At cX7_chill 12 (.ifCond .lt 9) 3 15 := ⟨by decide +kernel, rfl⟩
theorem iX7_chill_15 : At cX7_chill 15 (.iload_n 2) 1 16 := ⟨by decide +kernel, rfl⟩
theorem iX7_chill_16 : At cX7_chill 16 (.bipush 9) 2 18 := ⟨by decide +kernel, rfl⟩
theorem iX7_chill_18 : At cX7_chill 18 (.if_icmp .le 6) 3 21 := ⟨by decide +kernel, rfl⟩
theorem iX7_chill_21 : At cX7_chill 21 (.bipush (-3)) 2 23 := ⟨by decide +kernel, rfl⟩
theorem iX7_chill_23 : At cX7_chill 23 (.ireturn) 1 24 := ⟨by decide +kernel, rfl⟩
theorem iX7_chill_24 : At cX7_chill 24 (.aload_n 0) 1 25 := ⟨by decide +kernel, rfl⟩
theorem iX7_chill_25 : At cX7_chill 25 (.getfield 38) 3 28 := ⟨by decide +kernel, rfl⟩
theorem iX7_chill_28 : At cX7_chill 28 (.getfield 114) 3 31 := ⟨by decide +kernel, rfl⟩
theorem iX7_chill_31 : At cX7_chill 31 (.iload_n 1) 1 32 := ⟨by decide +kernel, rfl⟩
theorem iX7_chill_32 : At cX7_chill 32 (.iaload) 1 33 := ⟨by decide +kernel, rfl⟩
theorem iX7_chill_33 : At cX7_chill 33 (.iload_n 2) 1 34 := ⟨by decide +kernel, rfl⟩
theorem iX7_chill_34 : At cX7_chill 34 (.if_icmp .ne 6) 3 37 := ⟨by decide +kernel, rfl⟩
theorem iX7_chill_37 : At cX7_chill 37 (.bipush (-4)) 2 39 := ⟨by decide +kernel, rfl⟩
theorem iX7_chill_39 : At cX7_chill 39 (.ireturn) 1 40 := ⟨by decide +kernel, rfl⟩
theorem iX7_chill_40 : At cX7_chill 40 (.aload_n 0) 1 41 := ⟨by decide +kernel, rfl⟩
theorem iX7_chill_41 : At cX7_chill 41 (.getfield 45) 3 44 := ⟨by decide +kernel, rfl⟩
theorem iX7_chill_44 : At cX7_chill 44 (.aload_n 0) 1 45 := ⟨by decide +kernel, rfl⟩
theorem iX7_chill_45 : At cX7_chill 45 (.getfield 38) 3 48 := ⟨by decide +kernel, rfl⟩
theorem iX7_chill_48 : At cX7_chill 48 (.invokevirtual 177) 3 51 := ⟨by decide +kernel, rfl⟩
theorem iX7_chill_51 : At cX7_chill 51 (.aload_n 0) 1 52 := ⟨by decide +kernel, rfl⟩
theorem iX7_chill_52 : At cX7_chill 52 (.getfield 38) 3 55 := ⟨by decide +kernel, rfl⟩
theorem iX7_chill_55 : At cX7_chill 55 (.getfield 114) 3 58 := ⟨by decide +kernel, rfl⟩
theorem iX7_chill_58 : At cX7_chill 58 (.iload_n 1) 1 59 := ⟨by decide +kernel, rfl⟩
theorem iX7_chill_59 : At cX7_chill 59 (.iload_n 2) 1 60 := ⟨by decide +kernel, rfl⟩
theorem iX7_chill_60 : At cX7_chill 60 (.iastore) 1 61 := ⟨by decide +kernel, rfl⟩
theorem iX7_chill_61 : At cX7_chill 61 (.aload_n 0) 1 62 := ⟨by decide +kernel, rfl⟩
theorem iX7_chill_62 : At cX7_chill 62 (.getfield 62) 3 65 := ⟨by decide +kernel, rfl⟩
theorem iX7_chill_65 : At cX7_chill 65 (.invokevirtual 105) 3 68 := ⟨by decide +kernel, rfl⟩
theorem iX7_chill_68 : At cX7_chill 68 (.aload_n 0) 1 69 := ⟨by decide +kernel, rfl⟩
theorem iX7_chill_69 : At cX7_chill 69 (.getfield 62) 3 72 := ⟨by decide +kernel, rfl⟩
theorem iX7_chill_72 : At cX7_chill 72 (.invokevirtual 191) 3 75 := ⟨by decide +kernel, rfl⟩
theorem iX7_chill_75 : At cX7_chill 75 (.invokestatic 194) 3 78 := ⟨by decide +kernel, rfl⟩
theorem iX7_chill_78 : At cX7_chill 78 (.ireturn) 1 79 := ⟨by decide +kernel, rfl⟩
theorem iX7_undo_0 : At cX7_undo 0 (.aload_n 0) 1 1 := ⟨by decide +kernel, rfl⟩
theorem iX7_undo_1 : At cX7_undo 1 (.getfield 45) 3 4 := ⟨by decide +kernel, rfl⟩
theorem iX7_undo_4 : At cX7_undo 4 (.getfield 199) 3 7 := ⟨by decide +kernel, rfl⟩
theorem iX7_undo_7 : At cX7_undo 7 (.ifCond .ne 6) 3 10 := ⟨by decide +kernel, rfl⟩
theorem iX7_undo_10 : At cX7_undo 10 (.bipush (-4)) 2 12 := ⟨by decide +kernel, rfl⟩
theorem iX7_undo_12 : At cX7_undo 12 (.ireturn) 1 13 := ⟨by decide +kernel, rfl⟩
theorem iX7_undo_13 : At cX7_undo 13 (.aload_n 0) 1 14 := ⟨by decide +kernel, rfl⟩
theorem iX7_undo_14 : At cX7_undo 14 (.getfield 45) 3 17 := ⟨by decide +kernel, rfl⟩
theorem iX7_undo_17 : At cX7_undo 17 (.aload_n 0) 1 18 := ⟨by decide +kernel, rfl⟩
theorem iX7_undo_18 : At cX7_undo 18 (.getfield 38) 3 21 := ⟨by decide +kernel, rfl⟩
theorem iX7_undo_21 : At cX7_undo 21 (.invokevirtual 202) 3 24 := ⟨by decide +kernel, rfl⟩
theorem iX7_undo_24 : At cX7_undo 24 (.aload_n 0) 1 25 := ⟨by decide +kernel, rfl⟩
theorem iX7_undo_25 : At cX7_undo 25 (.getfield 45) 3 28 := ⟨by decide +kernel, rfl⟩
theorem iX7_undo_28 : At cX7_undo 28 (.getfield 199) 3 31 := ⟨by decide +kernel, rfl⟩
theorem iX7_undo_31 : At cX7_undo 31 (.ireturn) 1 32 := ⟨by decide +kernel, rfl⟩
theorem iX7_keep_0 : At cX7_keep 0 (.iload_n 1) 1 1 := ⟨by decide +kernel, rfl⟩
theorem iX7_keep_1 : At cX7_keep 1 (.invokestatic 205) 3 4 := ⟨by decide +kernel, rfl⟩
theorem iX7_keep_4 : At cX7_keep 4 (.ifCond .ne 6) 3 7 := ⟨by decide +kernel, rfl⟩
theorem iX7_keep_7 : At cX7_keep 7 (.bipush (-2)) 2 9 := ⟨by decide +kernel, rfl⟩
theorem iX7_keep_9 : At cX7_keep 9 (.ireturn) 1 10 := ⟨by decide +kernel, rfl⟩
theorem iX7_keep_10 : At cX7_keep 10 (.aload_n 0) 1 11 := ⟨by decide +kernel, rfl⟩
theorem iX7_keep_11 : At cX7_keep 11 (.getfield 49) 3 14 := ⟨by decide +kernel, rfl⟩
theorem iX7_keep_14 : At cX7_keep 14 (.iload_n 1) 1 15 := ⟨by decide +kernel, rfl⟩
theorem iX7_keep_15 : At cX7_keep 15 (.aaload) 1 16 := ⟨by decide +kernel, rfl⟩
theorem iX7_keep_16 : At cX7_keep 16 (.aload_n 0) 1 17 := ⟨by decide +kernel, rfl⟩
theorem iX7_keep_17 : At cX7_keep 17 (.getfield 38) 3 20 := ⟨by decide +kernel, rfl⟩
theorem iX7_keep_20 : At cX7_keep 20 (.invokevirtual 92) 3 23 := ⟨by decide +kernel, rfl⟩
theorem iX7_keep_23 : At cX7_keep 23 (.aload_n 0) 1 24 := ⟨by decide +kernel, rfl⟩
theorem iX7_keep_24 : At cX7_keep 24 (.getfield 53) 3 27 := ⟨by decide +kernel, rfl⟩
theorem iX7_keep_27 : At cX7_keep 27 (.iload_n 1) 1 28 := ⟨by decide +kernel, rfl⟩
theorem iX7_keep_28 : At cX7_keep 28 (.iconst 1) 1 29 := ⟨by decide +kernel, rfl⟩
theorem iX7_keep_29 : At cX7_keep 29 (.bastore) 1 30 := ⟨by decide +kernel, rfl⟩
theorem iX7_keep_30 : At cX7_keep 30 (.aload_n 0) 1 31 := ⟨by decide +kernel, rfl⟩
theorem iX7_keep_31 : At cX7_keep 31 (.getfield 38) 3 34 := ⟨by decide +kernel, rfl⟩
theorem iX7_keep_34 : At cX7_keep 34 (.getfield 174) 3 37 := ⟨by decide +kernel, rfl⟩
theorem iX7_keep_37 : At cX7_keep 37 (.ireturn) 1 38 := ⟨by decide +kernel, rfl⟩
theorem iX7_back_0 : At cX7_back 0 (.iload_n 1) 1 1 := ⟨by decide +kernel, rfl⟩
theorem iX7_back_1 : At cX7_back 1 (.invokestatic 205) 3 4 := ⟨by decide +kernel, rfl⟩
theorem iX7_back_4 : At cX7_back 4 (.ifCond .ne 6) 3 7 := ⟨by decide +kernel, rfl⟩
theorem iX7_back_7 : At cX7_back 7 (.bipush (-2)) 2 9 := ⟨by decide +kernel, rfl⟩
theorem iX7_back_9 : At cX7_back 9 (.ireturn) 1 10 := ⟨by decide +kernel, rfl⟩
theorem iX7_back_10 : At cX7_back 10 (.aload_n 0) 1 11 := ⟨by decide +kernel, rfl⟩
theorem iX7_back_11 : At cX7_back 11 (.getfield 53) 3 14 := ⟨by decide +kernel, rfl⟩
theorem iX7_back_14 : At cX7_back 14 (.iload_n 1) 1 15 := ⟨by decide +kernel, rfl⟩
theorem iX7_back_15 : At cX7_back 15 (.baload) 1 16 := ⟨by decide +kernel, rfl⟩
theorem iX7_back_16 : At cX7_back 16 (.ifCond .ne 6) 3 19 := ⟨by decide +kernel, rfl⟩
theorem iX7_back_19 : At cX7_back 19 (.bipush (-4)) 2 21 := ⟨by decide +kernel, rfl⟩
theorem iX7_back_21 : At cX7_back 21 (.ireturn) 1 22 := ⟨by decide +kernel, rfl⟩
theorem iX7_back_22 : At cX7_back 22 (.aload_n 0) 1 23 := ⟨by decide +kernel, rfl⟩
theorem iX7_back_23 : At cX7_back 23 (.getfield 38) 3 26 := ⟨by decide +kernel, rfl⟩
theorem iX7_back_26 : At cX7_back 26 (.aload_n 0) 1 27 := ⟨by decide +kernel, rfl⟩
theorem iX7_back_27 : At cX7_back 27 (.getfield 49) 3 30 := ⟨by decide +kernel, rfl⟩
theorem iX7_back_30 : At cX7_back 30 (.iload_n 1) 1 31 := ⟨by decide +kernel, rfl⟩
theorem iX7_back_31 : At cX7_back 31 (.aaload) 1 32 := ⟨by decide +kernel, rfl⟩
theorem iX7_back_32 : At cX7_back 32 (.invokevirtual 92) 3 35 := ⟨by decide +kernel, rfl⟩
theorem iX7_back_35 : At cX7_back 35 (.aload_n 0) 1 36 := ⟨by decide +kernel, rfl⟩
theorem iX7_back_36 : At cX7_back 36 (.getfield 45) 3 39 := ⟨by decide +kernel, rfl⟩
theorem iX7_back_39 : At cX7_back 39 (.iconst 0) 1 40 := ⟨by decide +kernel, rfl⟩
theorem iX7_back_40 : At cX7_back 40 (.putfield 199) 3 43 := ⟨by decide +kernel, rfl⟩
theorem iX7_back_43 : At cX7_back 43 (.aload_n 0) 1 44 := ⟨by decide +kernel, rfl⟩
theorem iX7_back_44 : At cX7_back 44 (.getfield 38) 3 47 := ⟨by decide +kernel, rfl⟩
theorem iX7_back_47 : At cX7_back 47 (.getfield 174) 3 50 := ⟨by decide +kernel, rfl⟩
theorem iX7_back_50 : At cX7_back 50 (.ireturn) 1 51 := ⟨by decide +kernel, rfl⟩
theorem iX7_order_0 : At cX7_order 0 (.iload_n 1) 1 1 := ⟨by decide +kernel, rfl⟩
theorem iX7_order_1 : At cX7_order 1 (.ifCond .ge 6) 3 4 := ⟨by decide +kernel, rfl⟩
theorem iX7_order_4 : At cX7_order 4 (.bipush (-3)) 2 6 := ⟨by decide +kernel, rfl⟩
theorem iX7_order_6 : At cX7_order 6 (.ireturn) 1 7 := ⟨by decide +kernel, rfl⟩
theorem iX7_order_7 : At cX7_order 7 (.aload_n 0) 1 8 := ⟨by decide +kernel, rfl⟩
theorem iX7_order_8 : At cX7_order 8 (.getfield 62) 3 11 := ⟨by decide +kernel, rfl⟩
theorem iX7_order_11 : At cX7_order 11 (.invokevirtual 105) 3 14 := ⟨by decide +kernel, rfl⟩
theorem iX7_order_14 : At cX7_order 14 (.aload_n 0) 1 15 := ⟨by decide +kernel, rfl⟩
theorem iX7_order_15 : At cX7_order 15 (.getfield 62) 3 18 := ⟨by decide +kernel, rfl⟩
theorem iX7_order_18 : At cX7_order 18 (.iload_n 1) 1 19 := ⟨by decide +kernel, rfl⟩
theorem iX7_order_19 : At cX7_order 19 (.invokevirtual 208) 3 22 := ⟨by decide +kernel, rfl⟩
theorem iX7_order_22 : At cX7_order 22 (.ireturn) 1 23 := ⟨by decide +kernel, rfl⟩
theorem iX7_pass_0 : At cX7_pass 0 (.aload_n 0) 1 1 := ⟨by decide +kernel, rfl⟩
theorem iX7_pass_1 : At cX7_pass 1 (.iload_n 1) 1 2 := ⟨by decide +kernel, rfl⟩
theorem iX7_pass_2 : At cX7_pass 2 (.invokevirtual 101) 3 5 := ⟨by decide +kernel, rfl⟩
theorem iX7_pass_5 : At cX7_pass 5 (.ifCond .eq 16) 3 8 := ⟨by decide +kernel, rfl⟩
theorem iX7_pass_8 : At cX7_pass 8 (.aload_n 0) 1 9 := ⟨by decide +kernel, rfl⟩
theorem iX7_pass_9 : At cX7_pass 9 (.iload_n 2) 1 10 := ⟨by decide +kernel, rfl⟩
theorem iX7_pass_10 : At cX7_pass 10 (.invokevirtual 101) 3 13 := ⟨by decide +kernel, rfl⟩
theorem iX7_pass_13 : At cX7_pass 13 (.ifCond .eq 8) 3 16 := ⟨by decide +kernel, rfl⟩
theorem iX7_pass_16 : At cX7_pass 16 (.iload_n 1) 1 17 := ⟨by decide +kernel, rfl⟩
theorem iX7_pass_17 : At cX7_pass 17 (.iload_n 2) 1 18 := ⟨by decide +kernel, rfl⟩
theorem iX7_pass_18 : At cX7_pass 18 (.if_icmp .ne 6) 3 21 := ⟨by decide +kernel, rfl⟩
theorem iX7_pass_21 : At cX7_pass 21 (.bipush (-2)) 2 23 := ⟨by decide +kernel, rfl⟩
theorem iX7_pass_23 : At cX7_pass 23 (.ireturn) 1 24 := ⟨by decide +kernel, rfl⟩
theorem iX7_pass_24 : At cX7_pass 24 (.aload_n 0) 1 25 := ⟨by decide +kernel, rfl⟩
theorem iX7_pass_25 : At cX7_pass 25 (.getfield 62) 3 28 := ⟨by decide +kernel, rfl⟩
theorem iX7_pass_28 : At cX7_pass 28 (.invokevirtual 105) 3 31 := ⟨by decide +kernel, rfl⟩
theorem iX7_pass_31 : At cX7_pass 31 (.aload_n 0) 1 32 := ⟨by decide +kernel, rfl⟩
theorem iX7_pass_32 : At cX7_pass 32 (.getfield 62) 3 35 := ⟨by decide +kernel, rfl⟩
theorem iX7_pass_35 : At cX7_pass 35 (.aload_n 0) 1 36 := ⟨by decide +kernel, rfl⟩
theorem iX7_pass_36 : At cX7_pass 36 (.getfield 62) 3 39 := ⟨by decide +kernel, rfl⟩
theorem iX7_pass_39 : At cX7_pass 39 (.getfield 137) 3 42 := ⟨by decide +kernel, rfl⟩
theorem iX7_pass_42 : At cX7_pass 42 (.iload_n 1) 1 43 := ⟨by decide +kernel, rfl⟩
theorem iX7_pass_43 : At cX7_pass 43 (.iaload) 1 44 := ⟨by decide +kernel, rfl⟩
theorem iX7_pass_44 : At cX7_pass 44 (.aload_n 0) 1 45 := ⟨by decide +kernel, rfl⟩
theorem iX7_pass_45 : At cX7_pass 45 (.getfield 62) 3 48 := ⟨by decide +kernel, rfl⟩
theorem iX7_pass_48 : At cX7_pass 48 (.getfield 137) 3 51 := ⟨by decide +kernel, rfl⟩
theorem iX7_pass_51 : At cX7_pass 51 (.iload_n 2) 1 52 := ⟨by decide +kernel, rfl⟩
theorem iX7_pass_52 : At cX7_pass 52 (.iaload) 1 53 := ⟨by decide +kernel, rfl⟩
theorem iX7_pass_53 : At cX7_pass 53 (.invokevirtual 211) 3 56 := ⟨by decide +kernel, rfl⟩
theorem iX7_pass_56 : At cX7_pass 56 (.ireturn) 1 57 := ⟨by decide +kernel, rfl⟩
theorem iX7_need_0 : At cX7_need 0 (.aload_n 0) 1 1 := ⟨by decide +kernel, rfl⟩
theorem iX7_need_1 : At cX7_need 1 (.iload_n 1) 1 2 := ⟨by decide +kernel, rfl⟩
theorem iX7_need_2 : At cX7_need 2 (.invokevirtual 101) 3 5 := ⟨by decide +kernel, rfl⟩
theorem iX7_need_5 : At cX7_need 5 (.ifCond .ne 6) 3 8 := ⟨by decide +kernel, rfl⟩
theorem iX7_need_8 : At cX7_need 8 (.bipush (-2)) 2 10 := ⟨by decide +kernel, rfl⟩
theorem iX7_need_10 : At cX7_need 10 (.ireturn) 1 11 := ⟨by decide +kernel, rfl⟩
theorem iX7_need_11 : At cX7_need 11 (.iload_n 2) 1 12 := ⟨by decide +kernel, rfl⟩
theorem iX7_need_12 : At cX7_need 12 (.invokestatic 171) 3 15 := ⟨by decide +kernel, rfl⟩
theorem iX7_need_15 : At cX7_need 15 (.ifCond .ne 6) 3 18 := ⟨by decide +kernel, rfl⟩
theorem iX7_need_18 : At cX7_need 18 (.bipush (-3)) 2 20 := ⟨by decide +kernel, rfl⟩
theorem iX7_need_20 : At cX7_need 20 (.ireturn) 1 21 := ⟨by decide +kernel, rfl⟩
theorem iX7_need_21 : At cX7_need 21 (.aload_n 0) 1 22 := ⟨by decide +kernel, rfl⟩
theorem iX7_need_22 : At cX7_need 22 (.getfield 62) 3 25 := ⟨by decide +kernel, rfl⟩
theorem iX7_need_25 : At cX7_need 25 (.invokevirtual 105) 3 28 := ⟨by decide +kernel, rfl⟩
theorem iX7_need_28 : At cX7_need 28 (.aload_n 0) 1 29 := ⟨by decide +kernel, rfl⟩
theorem iX7_need_29 : At cX7_need 29 (.getfield 62) 3 32 := ⟨by decide +kernel, rfl⟩
theorem iX7_need_32 : At cX7_need 32 (.iload_n 1) 1 33 := ⟨by decide +kernel, rfl⟩
theorem iX7_need_33 : At cX7_need 33 (.invokevirtual 130) 3 36 := ⟨by decide +kernel, rfl⟩
theorem iX7_need_36 : At cX7_need 36 (.ifCond .ne 6) 3 39 := ⟨by decide +kernel, rfl⟩
end
section
theorem iX7_need_39 : At cX7_need 39 (.bipush (-4)) 2 41 := ⟨by decide +kernel, rfl⟩
theorem iX7_need_41 : At cX7_need 41 (.ireturn) 1 42 := ⟨by decide +kernel, rfl⟩
theorem iX7_need_42 : At cX7_need 42 (.aload_n 0) 1 43 := ⟨by decide +kernel, rfl⟩
theorem iX7_need_43 : At cX7_need 43 (.getfield 62) 3 46 := ⟨by decide +kernel, rfl⟩
theorem iX7_need_46 : At cX7_need 46 (.iload_n 1) 1 47 := ⟨by decide +kernel, rfl⟩
theorem iX7_need_47 : At cX7_need 47 (.iload_n 2) 1 48 := ⟨by decide +kernel, rfl⟩
theorem iX7_need_48 : At cX7_need 48 (.invokevirtual 214) 3 51 := ⟨by decide +kernel, rfl⟩
theorem iX7_need_51 : At cX7_need 51 (.ireturn) 1 52 := ⟨by decide +kernel, rfl⟩
theorem iX7_best_0 : At cX7_best 0 (.iload_n 1) 1 1 := ⟨by decide +kernel, rfl⟩
theorem iX7_best_1 : At cX7_best 1 (.invokestatic 188) 3 4 := ⟨by decide +kernel, rfl⟩
theorem iX7_best_4 : At cX7_best 4 (.ifCond .eq 12) 3 7 := ⟨by decide +kernel, rfl⟩
theorem iX7_best_7 : At cX7_best 7 (.iload_n 2) 1 8 := ⟨by decide +kernel, rfl⟩
theorem iX7_best_8 : At cX7_best 8 (.ifCond .lt 8) 3 11 := ⟨by decide +kernel, rfl⟩
theorem iX7_best_11 : At cX7_best 11 (.iload_n 2) 1 12 := ⟨by decide +kernel, rfl⟩
theorem iX7_best_12 : At cX7_best 12 (.iconst 1) 1 13 := ⟨by decide +kernel, rfl⟩
theorem iX7_best_13 : At cX7_best 13 (.if_icmp .le 6) 3 16 := ⟨by decide +kernel, rfl⟩
theorem iX7_best_16 : At cX7_best 16 (.bipush (-3)) 2 18 := ⟨by decide +kernel, rfl⟩
theorem iX7_best_18 : At cX7_best 18 (.ireturn) 1 19 := ⟨by decide +kernel, rfl⟩
theorem iX7_best_19 : At cX7_best 19 (.aload_n 0) 1 20 := ⟨by decide +kernel, rfl⟩
theorem iX7_best_20 : At cX7_best 20 (.getfield 62) 3 23 := ⟨by decide +kernel, rfl⟩
theorem iX7_best_23 : At cX7_best 23 (.invokevirtual 105) 3 26 := ⟨by decide +kernel, rfl⟩
theorem iX7_best_26 : At cX7_best 26 (.aload_n 0) 1 27 := ⟨by decide +kernel, rfl⟩
theorem iX7_best_27 : At cX7_best 27 (.getfield 62) 3 30 := ⟨by decide +kernel, rfl⟩
theorem iX7_best_30 : At cX7_best 30 (.iload_n 1) 1 31 := ⟨by decide +kernel, rfl⟩
theorem iX7_best_31 : At cX7_best 31 (.invokevirtual 217) 3 34 := ⟨by decide +kernel, rfl⟩
theorem iX7_best_34 : At cX7_best 34 (.istore_n 3) 1 35 := ⟨by decide +kernel, rfl⟩
theorem iX7_best_35 : At cX7_best 35 (.iload_n 2) 1 36 := ⟨by decide +kernel, rfl⟩
theorem iX7_best_36 : At cX7_best 36 (.ifCond .eq 8) 3 39 := ⟨by decide +kernel, rfl⟩
theorem iX7_best_39 : At cX7_best 39 (.iload_n 3) 1 40 := ⟨by decide +kernel, rfl⟩
theorem iX7_best_40 : At cX7_best 40 (.iconst (-1)) 1 41 := ⟨by decide +kernel, rfl⟩
theorem iX7_best_41 : At cX7_best 41 (.if_icmp .ne 5) 3 44 := ⟨by decide +kernel, rfl⟩
theorem iX7_best_44 : At cX7_best 44 (.iload_n 3) 1 45 := ⟨by decide +kernel, rfl⟩
theorem iX7_best_45 : At cX7_best 45 (.ireturn) 1 46 := ⟨by decide +kernel, rfl⟩
theorem iX7_best_46 : At cX7_best 46 (.aload_n 0) 1 47 := ⟨by decide +kernel, rfl⟩
theorem iX7_best_47 : At cX7_best 47 (.getfield 62) 3 50 := ⟨by decide +kernel, rfl⟩
theorem iX7_best_50 : At cX7_best 50 (.iload_n 3) 1 51 := ⟨by decide +kernel, rfl⟩
theorem iX7_best_51 : At cX7_best 51 (.iload_n 1) 1 52 := ⟨by decide +kernel, rfl⟩
theorem iX7_best_52 : At cX7_best 52 (.invokevirtual 220) 3 55 := ⟨by decide +kernel, rfl⟩
theorem iX7_best_55 : At cX7_best 55 (.ireturn) 1 56 := ⟨by decide +kernel, rfl⟩
theorem iX7_least_0 : At cX7_least 0 (.iload_n 1) 1 1 := ⟨by decide +kernel, rfl⟩
theorem iX7_least_1 : At cX7_least 1 (.ifCond .lt 8) 3 4 := ⟨by decide +kernel, rfl⟩
theorem iX7_least_4 : At cX7_least 4 (.iload_n 1) 1 5 := ⟨by decide +kernel, rfl⟩
theorem iX7_least_5 : At cX7_least 5 (.iconst 1) 1 6 := ⟨by decide +kernel, rfl⟩
theorem iX7_least_6 : At cX7_least 6 (.if_icmp .le 6) 3 9 := ⟨by decide +kernel, rfl⟩
theorem iX7_least_9 : At cX7_least 9 (.bipush (-3)) 2 11 := ⟨by decide +kernel, rfl⟩
theorem iX7_least_11 : At cX7_least 11 (.ireturn) 1 12 := ⟨by decide +kernel, rfl⟩
theorem iX7_least_12 : At cX7_least 12 (.aload_n 0) 1 13 := ⟨by decide +kernel, rfl⟩
theorem iX7_least_13 : At cX7_least 13 (.getfield 62) 3 16 := ⟨by decide +kernel, rfl⟩
theorem iX7_least_16 : At cX7_least 16 (.invokevirtual 105) 3 19 := ⟨by decide +kernel, rfl⟩
theorem iX7_least_19 : At cX7_least 19 (.aload_n 0) 1 20 := ⟨by decide +kernel, rfl⟩
theorem iX7_least_20 : At cX7_least 20 (.getfield 62) 3 23 := ⟨by decide +kernel, rfl⟩
theorem iX7_least_23 : At cX7_least 23 (.invokevirtual 223) 3 26 := ⟨by decide +kernel, rfl⟩
theorem iX7_least_26 : At cX7_least 26 (.istore_n 2) 1 27 := ⟨by decide +kernel, rfl⟩
theorem iX7_least_27 : At cX7_least 27 (.iload_n 1) 1 28 := ⟨by decide +kernel, rfl⟩
theorem iX7_least_28 : At cX7_least 28 (.ifCond .ne 7) 3 31 := ⟨by decide +kernel, rfl⟩
theorem iX7_least_31 : At cX7_least 31 (.iload_n 2) 1 32 := ⟨by decide +kernel, rfl⟩
theorem iX7_least_32 : At cX7_least 32 (.goto 7) 3 35 := ⟨by decide +kernel, rfl⟩
theorem iX7_least_35 : At cX7_least 35 (.iload_n 2) 1 36 := ⟨by decide +kernel, rfl⟩
theorem iX7_least_36 : At cX7_least 36 (.invokestatic 194) 3 39 := ⟨by decide +kernel, rfl⟩
theorem iX7_least_39 : At cX7_least 39 (.ireturn) 1 40 := ⟨by decide +kernel, rfl⟩
theorem iX7_bin_0 : At cX7_bin 0 (.iload_n 1) 1 1 := ⟨by decide +kernel, rfl⟩
theorem iX7_bin_1 : At cX7_bin 1 (.invokestatic 226) 3 4 := ⟨by decide +kernel, rfl⟩
theorem iX7_bin_4 : At cX7_bin 4 (.ifCond .ne 6) 3 7 := ⟨by decide +kernel, rfl⟩
theorem iX7_bin_7 : At cX7_bin 7 (.bipush (-2)) 2 9 := ⟨by decide +kernel, rfl⟩
theorem iX7_bin_9 : At cX7_bin 9 (.ireturn) 1 10 := ⟨by decide +kernel, rfl⟩
theorem iX7_bin_10 : At cX7_bin 10 (.iload_n 2) 1 11 := ⟨by decide +kernel, rfl⟩
theorem iX7_bin_11 : At cX7_bin 11 (.ifCond .eq 11) 3 14 := ⟨by decide +kernel, rfl⟩
theorem iX7_bin_14 : At cX7_bin 14 (.iload_n 2) 1 15 := ⟨by decide +kernel, rfl⟩
theorem iX7_bin_15 : At cX7_bin 15 (.iconst 1) 1 16 := ⟨by decide +kernel, rfl⟩
theorem iX7_bin_16 : At cX7_bin 16 (.if_icmp .eq 6) 3 19 := ⟨by decide +kernel, rfl⟩
theorem iX7_bin_19 : At cX7_bin 19 (.bipush (-3)) 2 21 := ⟨by decide +kernel, rfl⟩
theorem iX7_bin_21 : At cX7_bin 21 (.ireturn) 1 22 := ⟨by decide +kernel, rfl⟩
theorem iX7_bin_22 : At cX7_bin 22 (.aload_n 0) 1 23 := ⟨by decide +kernel, rfl⟩
theorem iX7_bin_23 : At cX7_bin 23 (.getfield 68) 3 26 := ⟨by decide +kernel, rfl⟩
theorem iX7_bin_26 : At cX7_bin 26 (.iload_n 1) 1 27 := ⟨by decide +kernel, rfl⟩
theorem iX7_bin_27 : At cX7_bin 27 (.aaload) 1 28 := ⟨by decide +kernel, rfl⟩
theorem iX7_bin_28 : At cX7_bin 28 (.iload_n 2) 1 29 := ⟨by decide +kernel, rfl⟩
theorem iX7_bin_29 : At cX7_bin 29 (.invokevirtual 229) 3 32 := ⟨by decide +kernel, rfl⟩
theorem iX7_bin_32 : At cX7_bin 32 (.iconst 0) 1 33 := ⟨by decide +kernel, rfl⟩
theorem iX7_bin_33 : At cX7_bin 33 (.ireturn) 1 34 := ⟨by decide +kernel, rfl⟩
theorem iX7_addWhole_0 : At cX7_addWhole 0 (.iload_n 1) 1 1 := ⟨by decide +kernel, rfl⟩
theorem iX7_addWhole_1 : At cX7_addWhole 1 (.invokestatic 226) 3 4 := ⟨by decide +kernel, rfl⟩
theorem iX7_addWhole_4 : At cX7_addWhole 4 (.ifCond .ne 6) 3 7 := ⟨by decide +kernel, rfl⟩
theorem iX7_addWhole_7 : At cX7_addWhole 7 (.bipush (-2)) 2 9 := ⟨by decide +kernel, rfl⟩
theorem iX7_addWhole_9 : At cX7_addWhole 9 (.ireturn) 1 10 := ⟨by decide +kernel, rfl⟩
theorem iX7_addWhole_10 : At cX7_addWhole 10 (.iload_n 2) 1 11 := ⟨by decide +kernel, rfl⟩
theorem iX7_addWhole_11 : At cX7_addWhole 11 (.sipush (-999)) 3 14 := ⟨by decide +kernel, rfl⟩
theorem iX7_addWhole_14 : At cX7_addWhole 14 (.if_icmp .lt 10) 3 17 := ⟨by decide +kernel, rfl⟩
theorem iX7_addWhole_17 : At cX7_addWhole 17 (.iload_n 2) 1 18 := ⟨by decide +kernel, rfl⟩
theorem iX7_addWhole_18 : At cX7_addWhole 18 (.sipush 999) 3 21 := ⟨by decide +kernel, rfl⟩
theorem iX7_addWhole_21 : At cX7_addWhole 21 (.if_icmp .le 6) 3 24 := ⟨by decide +kernel, rfl⟩
theorem iX7_addWhole_24 : At cX7_addWhole 24 (.bipush (-3)) 2 26 := ⟨by decide +kernel, rfl⟩
theorem iX7_addWhole_26 : At cX7_addWhole 26 (.ireturn) 1 27 := ⟨by decide +kernel, rfl⟩
theorem iX7_addWhole_27 : At cX7_addWhole 27 (.aload_n 0) 1 28 := ⟨by decide +kernel, rfl⟩
theorem iX7_addWhole_28 : At cX7_addWhole 28 (.getfield 68) 3 31 := ⟨by decide +kernel, rfl⟩
theorem iX7_addWhole_31 : At cX7_addWhole 31 (.iload_n 1) 1 32 := ⟨by decide +kernel, rfl⟩
theorem iX7_addWhole_32 : At cX7_addWhole 32 (.aaload) 1 33 := ⟨by decide +kernel, rfl⟩
theorem iX7_addWhole_33 : At cX7_addWhole 33 (.iconst 0) 1 34 := ⟨by decide +kernel, rfl⟩
theorem iX7_addWhole_34 : At cX7_addWhole 34 (.iload_n 2) 1 35 := ⟨by decide +kernel, rfl⟩
theorem iX7_addWhole_35 : At cX7_addWhole 35 (.sipush 20000) 3 38 := ⟨by decide +kernel, rfl⟩
theorem iX7_addWhole_38 : At cX7_addWhole 38 (.iadd) 1 39 := ⟨by decide +kernel, rfl⟩
theorem iX7_addWhole_39 : At cX7_addWhole 39 (.invokevirtual 232) 3 42 := ⟨by decide +kernel, rfl⟩
theorem iX7_addWhole_42 : At cX7_addWhole 42 (.ireturn) 1 43 := ⟨by decide +kernel, rfl⟩
theorem iX7_addPair_0 : At cX7_addPair 0 (.iload_n 1) 1 1 := ⟨by decide +kernel, rfl⟩
theorem iX7_addPair_1 : At cX7_addPair 1 (.invokestatic 226) 3 4 := ⟨by decide +kernel, rfl⟩
theorem iX7_addPair_4 : At cX7_addPair 4 (.ifCond .ne 6) 3 7 := ⟨by decide +kernel, rfl⟩
theorem iX7_addPair_7 : At cX7_addPair 7 (.bipush (-2)) 2 9 := ⟨by decide +kernel, rfl⟩
theorem iX7_addPair_9 : At cX7_addPair 9 (.ireturn) 1 10 := ⟨by decide +kernel, rfl⟩
theorem iX7_addPair_10 : At cX7_addPair 10 (.iload_n 2) 1 11 := ⟨by decide +kernel, rfl⟩
theorem iX7_addPair_11 : At cX7_addPair 11 (.invokestatic 235) 3 14 := ⟨by decide +kernel, rfl⟩
theorem iX7_addPair_14 : At cX7_addPair 14 (.ifCond .eq 10) 3 17 := ⟨by decide +kernel, rfl⟩
theorem iX7_addPair_17 : At cX7_addPair 17 (.iload_n 3) 1 18 := ⟨by decide +kernel, rfl⟩
theorem iX7_addPair_18 : At cX7_addPair 18 (.invokestatic 235) 3 21 := ⟨by decide +kernel, rfl⟩
theorem iX7_addPair_21 : At cX7_addPair 21 (.ifCond .ne 6) 3 24 := ⟨by decide +kernel, rfl⟩
theorem iX7_addPair_24 : At cX7_addPair 24 (.bipush (-3)) 2 26 := ⟨by decide +kernel, rfl⟩
theorem iX7_addPair_26 : At cX7_addPair 26 (.ireturn) 1 27 := ⟨by decide +kernel, rfl⟩
theorem iX7_addPair_27 : At cX7_addPair 27 (.aload_n 0) 1 28 := ⟨by decide +kernel, rfl⟩
theorem iX7_addPair_28 : At cX7_addPair 28 (.getfield 68) 3 31 := ⟨by decide +kernel, rfl⟩
theorem iX7_addPair_31 : At cX7_addPair 31 (.iload_n 1) 1 32 := ⟨by decide +kernel, rfl⟩
theorem iX7_addPair_32 : At cX7_addPair 32 (.aaload) 1 33 := ⟨by decide +kernel, rfl⟩
theorem iX7_addPair_33 : At cX7_addPair 33 (.iconst 1) 1 34 := ⟨by decide +kernel, rfl⟩
theorem iX7_addPair_34 : At cX7_addPair 34 (.iload_n 2) 1 35 := ⟨by decide +kernel, rfl⟩
theorem iX7_addPair_35 : At cX7_addPair 35 (.bipush 100) 2 37 := ⟨by decide +kernel, rfl⟩
theorem iX7_addPair_37 : At cX7_addPair 37 (.imul) 1 38 := ⟨by decide +kernel, rfl⟩
theorem iX7_addPair_38 : At cX7_addPair 38 (.iload_n 3) 1 39 := ⟨by decide +kernel, rfl⟩
theorem iX7_addPair_39 : At cX7_addPair 39 (.iadd) 1 40 := ⟨by decide +kernel, rfl⟩
theorem iX7_addPair_40 : At cX7_addPair 40 (.invokevirtual 232) 3 43 := ⟨by decide +kernel, rfl⟩
theorem iX7_addPair_43 : At cX7_addPair 43 (.ireturn) 1 44 := ⟨by decide +kernel, rfl⟩
theorem iX7_find_0 : At cX7_find 0 (.iload_n 1) 1 1 := ⟨by decide +kernel, rfl⟩
theorem iX7_find_1 : At cX7_find 1 (.invokestatic 226) 3 4 := ⟨by decide +kernel, rfl⟩
theorem iX7_find_4 : At cX7_find 4 (.ifCond .ne 6) 3 7 := ⟨by decide +kernel, rfl⟩
theorem iX7_find_7 : At cX7_find 7 (.bipush (-2)) 2 9 := ⟨by decide +kernel, rfl⟩
theorem iX7_find_9 : At cX7_find 9 (.ireturn) 1 10 := ⟨by decide +kernel, rfl⟩
theorem iX7_find_10 : At cX7_find 10 (.iload_n 2) 1 11 := ⟨by decide +kernel, rfl⟩
theorem iX7_find_11 : At cX7_find 11 (.ifCond .lt 8) 3 14 := ⟨by decide +kernel, rfl⟩
theorem iX7_find_14 : At cX7_find 14 (.iload_n 2) 1 15 := ⟨by decide +kernel, rfl⟩
theorem iX7_find_15 : At cX7_find 15 (.iconst 2) 1 16 := ⟨by decide +kernel, rfl⟩
theorem iX7_find_16 : At cX7_find 16 (.if_icmp .le 6) 3 19 := ⟨by decide +kernel, rfl⟩
theorem iX7_find_19 : At cX7_find 19 (.bipush (-3)) 2 21 := ⟨by decide +kernel, rfl⟩
theorem iX7_find_21 : At cX7_find 21 (.ireturn) 1 22 := ⟨by decide +kernel, rfl⟩
theorem iX7_find_22 : At cX7_find 22 (.aload_n 0) 1 23 := ⟨by decide +kernel, rfl⟩
theorem iX7_find_23 : At cX7_find 23 (.getfield 68) 3 26 := ⟨by decide +kernel, rfl⟩
theorem iX7_find_26 : At cX7_find 26 (.iload_n 1) 1 27 := ⟨by decide +kernel, rfl⟩
theorem iX7_find_27 : At cX7_find 27 (.aaload) 1 28 := ⟨by decide +kernel, rfl⟩
theorem iX7_find_28 : At cX7_find 28 (.astore_n 3) 1 29 := ⟨by decide +kernel, rfl⟩
theorem iX7_find_29 : At cX7_find 29 (.aload_n 3) 1 30 := ⟨by decide +kernel, rfl⟩
theorem iX7_find_30 : At cX7_find 30 (.getfield 238) 3 33 := ⟨by decide +kernel, rfl⟩
theorem iX7_find_33 : At cX7_find 33 (.ifCond .eq 6) 3 36 := ⟨by decide +kernel, rfl⟩
theorem iX7_find_36 : At cX7_find 36 (.bipush (-11)) 2 38 := ⟨by decide +kernel, rfl⟩
theorem iX7_find_38 : At cX7_find 38 (.ireturn) 1 39 := ⟨by decide +kernel, rfl⟩
theorem iX7_find_39 : At cX7_find 39 (.aload_n 3) 1 40 := ⟨by decide +kernel, rfl⟩
theorem iX7_find_40 : At cX7_find 40 (.getfield 242) 3 43 := ⟨by decide +kernel, rfl⟩
theorem iX7_find_43 : At cX7_find 43 (.ifCond .ne 6) 3 46 := ⟨by decide +kernel, rfl⟩
theorem iX7_find_46 : At cX7_find 46 (.bipush (-13)) 2 48 := ⟨by decide +kernel, rfl⟩
theorem iX7_find_48 : At cX7_find 48 (.ireturn) 1 49 := ⟨by decide +kernel, rfl⟩
theorem iX7_find_49 : At cX7_find 49 (.iload_n 2) 1 50 := ⟨by decide +kernel, rfl⟩
theorem iX7_find_50 : At cX7_find 50 (.lookupswitch 36 #[(0, 26), (1, 31)]) 26 76 := ⟨by decide +kernel, rfl⟩
theorem iX7_find_76 : At cX7_find 76 (.aload_n 3) 1 77 := ⟨by decide +kernel, rfl⟩
theorem iX7_find_77 : At cX7_find 77 (.invokevirtual 243) 3 80 := ⟨by decide +kernel, rfl⟩
theorem iX7_find_80 : At cX7_find 80 (.ireturn) 1 81 := ⟨by decide +kernel, rfl⟩
theorem iX7_find_81 : At cX7_find 81 (.aload_n 3) 1 82 := ⟨by decide +kernel, rfl⟩
theorem iX7_find_82 : At cX7_find 82 (.invokevirtual 246) 3 85 := ⟨by decide +kernel, rfl⟩
theorem iX7_find_85 : At cX7_find 85 (.ireturn) 1 86 := ⟨by decide +kernel, rfl⟩
theorem iX7_find_86 : At cX7_find 86 (.aload_n 3) 1 87 := ⟨by decide +kernel, rfl⟩
theorem iX7_find_87 : At cX7_find 87 (.getfield 249) 3 90 := ⟨by decide +kernel, rfl⟩
theorem iX7_find_90 : At cX7_find 90 (.aload_n 3) 1 91 := ⟨by decide +kernel, rfl⟩
theorem iX7_find_91 : At cX7_find 91 (.getfield 242) 3 94 := ⟨by decide +kernel, rfl⟩
theorem iX7_find_94 : At cX7_find 94 (.iconst 1) 1 95 := ⟨by decide +kernel, rfl⟩
theorem iX7_find_95 : At cX7_find 95 (.isub) 1 96 := ⟨by decide +kernel, rfl⟩
theorem iX7_find_96 : At cX7_find 96 (.iaload) 1 97 := ⟨by decide +kernel, rfl⟩
theorem iX7_find_97 : At cX7_find 97 (.ireturn) 1 98 := ⟨by decide +kernel, rfl⟩
theorem iX7_pop_0 : At cX7_pop 0 (.iload_n 1) 1 1 := ⟨by decide +kernel, rfl⟩
theorem iX7_pop_1 : At cX7_pop 1 (.invokestatic 226) 3 4 := ⟨by decide +kernel, rfl⟩
theorem iX7_pop_4 : At cX7_pop 4 (.ifCond .ne 6) 3 7 := ⟨by decide +kernel, rfl⟩
theorem iX7_pop_7 : At cX7_pop 7 (.bipush (-2)) 2 9 := ⟨by decide +kernel, rfl⟩
theorem iX7_pop_9 : At cX7_pop 9 (.ireturn) 1 10 := ⟨by decide +kernel, rfl⟩
theorem iX7_pop_10 : At cX7_pop 10 (.aload_n 0) 1 11 := ⟨by decide +kernel, rfl⟩
theorem iX7_pop_11 : At cX7_pop 11 (.getfield 68) 3 14 := ⟨by decide +kernel, rfl⟩
theorem iX7_pop_14 : At cX7_pop 14 (.iload_n 1) 1 15 := ⟨by decide +kernel, rfl⟩
theorem iX7_pop_15 : At cX7_pop 15 (.aaload) 1 16 := ⟨by decide +kernel, rfl⟩
theorem iX7_pop_16 : At cX7_pop 16 (.astore_n 2) 1 17 := ⟨by decide +kernel, rfl⟩
theorem iX7_pop_17 : At cX7_pop 17 (.aload_n 2) 1 18 := ⟨by decide +kernel, rfl⟩
theorem iX7_pop_18 : At cX7_pop 18 (.getfield 238) 3 21 := ⟨by decide +kernel, rfl⟩
theorem iX7_pop_21 : At cX7_pop 21 (.ifCond .eq 6) 3 24 := ⟨by decide +kernel, rfl⟩
theorem iX7_pop_24 : At cX7_pop 24 (.bipush (-11)) 2 26 := ⟨by decide +kernel, rfl⟩
theorem iX7_pop_26 : At cX7_pop 26 (.ireturn) 1 27 := ⟨by decide +kernel, rfl⟩
theorem iX7_pop_27 : At cX7_pop 27 (.aload_n 2) 1 28 := ⟨by decide +kernel, rfl⟩
theorem iX7_pop_28 : At cX7_pop 28 (.getfield 242) 3 31 := ⟨by decide +kernel, rfl⟩
theorem iX7_pop_31 : At cX7_pop 31 (.ifCond .ne 6) 3 34 := ⟨by decide +kernel, rfl⟩
theorem iX7_pop_34 : At cX7_pop 34 (.bipush (-13)) 2 36 := ⟨by decide +kernel, rfl⟩
theorem iX7_pop_36 : At cX7_pop 36 (.ireturn) 1 37 := ⟨by decide +kernel, rfl⟩
theorem iX7_pop_37 : At cX7_pop 37 (.aload_n 2) 1 38 := ⟨by decide +kernel, rfl⟩
theorem iX7_pop_38 : At cX7_pop 38 (.dup) 1 39 := ⟨by decide +kernel, rfl⟩
theorem iX7_pop_39 : At cX7_pop 39 (.getfield 242) 3 42 := ⟨by decide +kernel, rfl⟩
theorem iX7_pop_42 : At cX7_pop 42 (.iconst 1) 1 43 := ⟨by decide +kernel, rfl⟩
theorem iX7_pop_43 : At cX7_pop 43 (.isub) 1 44 := ⟨by decide +kernel, rfl⟩
theorem iX7_pop_44 : At cX7_pop 44 (.putfield 242) 3 47 := ⟨by decide +kernel, rfl⟩
theorem iX7_pop_47 : At cX7_pop 47 (.aload_n 2) 1 48 := ⟨by decide +kernel, rfl⟩
theorem iX7_pop_48 : At cX7_pop 48 (.getfield 249) 3 51 := ⟨by decide +kernel, rfl⟩
theorem iX7_pop_51 : At cX7_pop 51 (.aload_n 2) 1 52 := ⟨by decide +kernel, rfl⟩
theorem iX7_pop_52 : At cX7_pop 52 (.getfield 242) 3 55 := ⟨by decide +kernel, rfl⟩
theorem iX7_pop_55 : At cX7_pop 55 (.iaload) 1 56 := ⟨by decide +kernel, rfl⟩
theorem iX7_pop_56 : At cX7_pop 56 (.ireturn) 1 57 := ⟨by decide +kernel, rfl⟩
theorem iX7_sort_0 : At cX7_sort 0 (.iload_n 1) 1 1 := ⟨by decide +kernel, rfl⟩
theorem iX7_sort_1 : At cX7_sort 1 (.invokestatic 226) 3 4 := ⟨by decide +kernel, rfl⟩
theorem iX7_sort_4 : At cX7_sort 4 (.ifCond .ne 6) 3 7 := ⟨by decide +kernel, rfl⟩
theorem iX7_sort_7 : At cX7_sort 7 (.bipush (-2)) 2 9 := ⟨by decide +kernel, rfl⟩
theorem iX7_sort_9 : At cX7_sort 9 (.ireturn) 1 10 := ⟨by decide +kernel, rfl⟩
theorem iX7_sort_10 : At cX7_sort 10 (.aload_n 0) 1 11 := ⟨by decide +kernel, rfl⟩
theorem iX7_sort_11 : At cX7_sort 11 (.getfield 68) 3 14 := ⟨by decide +kernel, rfl⟩
theorem iX7_sort_14 : At cX7_sort 14 (.iload_n 1) 1 15 := ⟨by decide +kernel, rfl⟩
theorem iX7_sort_15 : At cX7_sort 15 (.aaload) 1 16 := ⟨by decide +kernel, rfl⟩
theorem iX7_sort_16 : At cX7_sort 16 (.astore_n 2) 1 17 := ⟨by decide +kernel, rfl⟩
theorem iX7_sort_17 : At cX7_sort 17 (.aload_n 2) 1 18 := ⟨by decide +kernel, rfl⟩
theorem iX7_sort_18 : At cX7_sort 18 (.getfield 238) 3 21 := ⟨by decide +kernel, rfl⟩
theorem iX7_sort_21 : At cX7_sort 21 (.ifCond .eq 6) 3 24 := ⟨by decide +kernel, rfl⟩
theorem iX7_sort_24 : At cX7_sort 24 (.bipush (-11)) 2 26 := ⟨by decide +kernel, rfl⟩
theorem iX7_sort_26 : At cX7_sort 26 (.ireturn) 1 27 := ⟨by decide +kernel, rfl⟩
theorem iX7_sort_27 : At cX7_sort 27 (.aload_n 2) 1 28 := ⟨by decide +kernel, rfl⟩
theorem iX7_sort_28 : At cX7_sort 28 (.invokevirtual 252) 3 31 := ⟨by decide +kernel, rfl⟩
theorem iX7_sort_31 : At cX7_sort 31 (.aload_n 2) 1 32 := ⟨by decide +kernel, rfl⟩
theorem iX7_sort_32 : At cX7_sort 32 (.getfield 242) 3 35 := ⟨by decide +kernel, rfl⟩
theorem iX7_sort_35 : At cX7_sort 35 (.ireturn) 1 36 := ⟨by decide +kernel, rfl⟩
theorem iX7_pour_0 : At cX7_pour 0 (.iload_n 1) 1 1 := ⟨by decide +kernel, rfl⟩
theorem iX7_pour_1 : At cX7_pour 1 (.invokestatic 226) 3 4 := ⟨by decide +kernel, rfl⟩
theorem iX7_pour_4 : At cX7_pour 4 (.ifCond .eq 15) 3 7 := ⟨by decide +kernel, rfl⟩
theorem iX7_pour_7 : At cX7_pour 7 (.iload_n 2) 1 8 := ⟨by decide +kernel, rfl⟩
theorem iX7_pour_8 : At cX7_pour 8 (.invokestatic 226) 3 11 := ⟨by decide +kernel, rfl⟩
theorem iX7_pour_11 : At cX7_pour 11 (.ifCond .eq 8) 3 14 := ⟨by decide +kernel, rfl⟩
theorem iX7_pour_14 : At cX7_pour 14 (.iload_n 1) 1 15 := ⟨by decide +kernel, rfl⟩
theorem iX7_pour_15 : At cX7_pour 15 (.iload_n 2) 1 16 := ⟨by decide +kernel, rfl⟩
theorem iX7_pour_16 : At cX7_pour 16 (.if_icmp .ne 6) 3 19 := ⟨by decide +kernel, rfl⟩
theorem iX7_pour_19 : At cX7_pour 19 (.bipush (-2)) 2 21 := ⟨by decide +kernel, rfl⟩
theorem iX7_pour_21 : At cX7_pour 21 (.ireturn) 1 22 := ⟨by decide +kernel, rfl⟩
theorem iX7_pour_22 : At cX7_pour 22 (.aload_n 0) 1 23 := ⟨by decide +kernel, rfl⟩
theorem iX7_pour_23 : At cX7_pour 23 (.getfield 68) 3 26 := ⟨by decide +kernel, rfl⟩
theorem iX7_pour_26 : At cX7_pour 26 (.iload_n 2) 1 27 := ⟨by decide +kernel, rfl⟩
theorem iX7_pour_27 : At cX7_pour 27 (.aaload) 1 28 := ⟨by decide +kernel, rfl⟩
theorem iX7_pour_28 : At cX7_pour 28 (.aload_n 0) 1 29 := ⟨by decide +kernel, rfl⟩
theorem iX7_pour_29 : At cX7_pour 29 (.getfield 68) 3 32 := ⟨by decide +kernel, rfl⟩
theorem iX7_pour_32 : At cX7_pour 32 (.iload_n 1) 1 33 := ⟨by decide +kernel, rfl⟩
theorem iX7_pour_33 : At cX7_pour 33 (.aaload) 1 34 := ⟨by decide +kernel, rfl⟩
theorem iX7_pour_34 : At cX7_pour 34 (.invokevirtual 255) 3 37 := ⟨by decide +kernel, rfl⟩
theorem iX7_pour_37 : At cX7_pour 37 (.ireturn) 1 38 := ⟨by decide +kernel, rfl⟩
theorem iX7_sum_0 : At cX7_sum 0 (.iload_n 1) 1 1 := ⟨by decide +kernel, rfl⟩
theorem iX7_sum_1 : At cX7_sum 1 (.invokestatic 226) 3 4 := ⟨by decide +kernel, rfl⟩
theorem iX7_sum_4 : At cX7_sum 4 (.ifCond .ne 6) 3 7 := ⟨by decide +kernel, rfl⟩
theorem iX7_sum_7 : At cX7_sum 7 (.bipush (-2)) 2 9 := ⟨by decide +kernel, rfl⟩
theorem iX7_sum_9 : At cX7_sum 9 (.ireturn) 1 10 := ⟨by decide +kernel, rfl⟩
theorem iX7_sum_10 : At cX7_sum 10 (.aload_n 0) 1 11 := ⟨by decide +kernel, rfl⟩
theorem iX7_sum_11 : At cX7_sum 11 (.getfield 68) 3 14 := ⟨by decide +kernel, rfl⟩
theorem iX7_sum_14 : At cX7_sum 14 (.iload_n 1) 1 15 := ⟨by decide +kernel, rfl⟩
theorem iX7_sum_15 : At cX7_sum 15 (.aaload) 1 16 := ⟨by decide +kernel, rfl⟩
theorem iX7_sum_16 : At cX7_sum 16 (.getfield 238) 3 19 := ⟨by decide +kernel, rfl⟩
theorem iX7_sum_19 : At cX7_sum 19 (.ifCond .eq 8) 3 22 := ⟨by decide +kernel, rfl⟩
theorem iX7_sum_22 : At cX7_sum 22 (.bipush (-11)) 2 24 := ⟨by decide +kernel, rfl⟩
theorem iX7_sum_24 : At cX7_sum 24 (.goto 12) 3 27 := ⟨by decide +kernel, rfl⟩
theorem iX7_sum_27 : At cX7_sum 27 (.aload_n 0) 1 28 := ⟨by decide +kernel, rfl⟩
theorem iX7_sum_28 : At cX7_sum 28 (.getfield 68) 3 31 := ⟨by decide +kernel, rfl⟩
theorem iX7_sum_31 : At cX7_sum 31 (.iload_n 1) 1 32 := ⟨by decide +kernel, rfl⟩
theorem iX7_sum_32 : At cX7_sum 32 (.aaload) 1 33 := ⟨by decide +kernel, rfl⟩
theorem iX7_sum_33 : At cX7_sum 33 (.invokevirtual 259) 3 36 := ⟨by decide +kernel, rfl⟩
theorem iX7_sum_36 : At cX7_sum 36 (.ireturn) 1 37 := ⟨by decide +kernel, rfl⟩
theorem iX7_drop_0 : At cX7_drop 0 (.iload_n 1) 1 1 := ⟨by decide +kernel, rfl⟩
theorem iX7_drop_1 : At cX7_drop 1 (.invokestatic 226) 3 4 := ⟨by decide +kernel, rfl⟩
theorem iX7_drop_4 : At cX7_drop 4 (.ifCond .ne 6) 3 7 := ⟨by decide +kernel, rfl⟩
theorem iX7_drop_7 : At cX7_drop 7 (.bipush (-2)) 2 9 := ⟨by decide +kernel, rfl⟩
theorem iX7_drop_9 : At cX7_drop 9 (.ireturn) 1 10 := ⟨by decide +kernel, rfl⟩
theorem iX7_drop_10 : At cX7_drop 10 (.aload_n 0) 1 11 := ⟨by decide +kernel, rfl⟩
theorem iX7_drop_11 : At cX7_drop 11 (.getfield 68) 3 14 := ⟨by decide +kernel, rfl⟩
theorem iX7_drop_14 : At cX7_drop 14 (.iload_n 1) 1 15 := ⟨by decide +kernel, rfl⟩
theorem iX7_drop_15 : At cX7_drop 15 (.aaload) 1 16 := ⟨by decide +kernel, rfl⟩
theorem iX7_drop_16 : At cX7_drop 16 (.getfield 238) 3 19 := ⟨by decide +kernel, rfl⟩
theorem iX7_drop_19 : At cX7_drop 19 (.ifCond .eq 6) 3 22 := ⟨by decide +kernel, rfl⟩
theorem iX7_drop_22 : At cX7_drop 22 (.bipush (-11)) 2 24 := ⟨by decide +kernel, rfl⟩
theorem iX7_drop_24 : At cX7_drop 24 (.ireturn) 1 25 := ⟨by decide +kernel, rfl⟩
theorem iX7_drop_25 : At cX7_drop 25 (.aload_n 0) 1 26 := ⟨by decide +kernel, rfl⟩
theorem iX7_drop_26 : At cX7_drop 26 (.getfield 68) 3 29 := ⟨by decide +kernel, rfl⟩
theorem iX7_drop_29 : At cX7_drop 29 (.iload_n 1) 1 30 := ⟨by decide +kernel, rfl⟩
theorem iX7_drop_30 : At cX7_drop 30 (.aaload) 1 31 := ⟨by decide +kernel, rfl⟩
theorem iX7_drop_31 : At cX7_drop 31 (.getfield 242) 3 34 := ⟨by decide +kernel, rfl⟩
theorem iX7_drop_34 : At cX7_drop 34 (.istore_n 2) 1 35 := ⟨by decide +kernel, rfl⟩
theorem iX7_drop_35 : At cX7_drop 35 (.aload_n 0) 1 36 := ⟨by decide +kernel, rfl⟩
theorem iX7_drop_36 : At cX7_drop 36 (.getfield 68) 3 39 := ⟨by decide +kernel, rfl⟩
theorem iX7_drop_39 : At cX7_drop 39 (.iload_n 1) 1 40 := ⟨by decide +kernel, rfl⟩
theorem iX7_drop_40 : At cX7_drop 40 (.aaload) 1 41 := ⟨by decide +kernel, rfl⟩
theorem iX7_drop_41 : At cX7_drop 41 (.invokevirtual 262) 3 44 := ⟨by decide +kernel, rfl⟩
theorem iX7_drop_44 : At cX7_drop 44 (.iload_n 2) 1 45 := ⟨by decide +kernel, rfl⟩
theorem iX7_drop_45 : At cX7_drop 45 (.ireturn) 1 46 := ⟨by decide +kernel, rfl⟩
theorem iX7_count_0 : At cX7_count 0 (.iload_n 1) 1 1 := ⟨by decide +kernel, rfl⟩
theorem iX7_count_1 : At cX7_count 1 (.ifCond .lt 9) 3 4 := ⟨by decide +kernel, rfl⟩
theorem iX7_count_4 : At cX7_count 4 (.iload_n 1) 1 5 := ⟨by decide +kernel, rfl⟩
theorem iX7_count_5 : At cX7_count 5 (.bipush 12) 2 7 := ⟨by decide +kernel, rfl⟩
theorem iX7_count_7 : At cX7_count 7 (.if_icmp .le 6) 3 10 := ⟨by decide +kernel, rfl⟩
theorem iX7_count_10 : At cX7_count 10 (.bipush (-3)) 2 12 := ⟨by decide +kernel, rfl⟩
theorem iX7_count_12 : At cX7_count 12 (.ireturn) 1 13 := ⟨by decide +kernel, rfl⟩
theorem iX7_count_13 : At cX7_count 13 (.iload_n 1) 1 14 := ⟨by decide +kernel, rfl⟩
theorem iX7_count_14 : At cX7_count 14 (.tableswitch 129 0 11 #[62, 70, 78, 86, 86, 86, 86, 92, 100, 108, 116, 121]) 62 76 := ⟨by decide +kernel, rfl⟩
theorem iX7_count_76 : At cX7_count 76 (.aload_n 0) 1 77 := ⟨by decide +kernel, rfl⟩
theorem iX7_count_77 : At cX7_count 77 (.getfield 19) 3 80 := ⟨by decide +kernel, rfl⟩
theorem iX7_count_80 : At cX7_count 80 (.getfield 265) 3 83 := ⟨by decide +kernel, rfl⟩
theorem iX7_count_83 : At cX7_count 83 (.ireturn) 1 84 := ⟨by decide +kernel, rfl⟩
theorem iX7_count_84 : At cX7_count 84 (.aload_n 0) 1 85 := ⟨by decide +kernel, rfl⟩
theorem iX7_count_85 : At cX7_count 85 (.getfield 19) 3 88 := ⟨by decide +kernel, rfl⟩
theorem iX7_count_88 : At cX7_count 88 (.invokevirtual 268) 3 91 := ⟨by decide +kernel, rfl⟩
theorem iX7_count_91 : At cX7_count 91 (.ireturn) 1 92 := ⟨by decide +kernel, rfl⟩
theorem iX7_count_92 : At cX7_count 92 (.aload_n 0) 1 93 := ⟨by decide +kernel, rfl⟩
theorem iX7_count_93 : At cX7_count 93 (.getfield 38) 3 96 := ⟨by decide +kernel, rfl⟩
theorem iX7_count_96 : At cX7_count 96 (.getfield 174) 3 99 := ⟨by decide +kernel, rfl⟩
theorem iX7_count_99 : At cX7_count 99 (.ireturn) 1 100 := ⟨by decide +kernel, rfl⟩
theorem iX7_count_100 : At cX7_count 100 (.aload_n 0) 1 101 := ⟨by decide +kernel, rfl⟩
theorem iX7_count_101 : At cX7_count 101 (.iload_n 1) 1 102 := ⟨by decide +kernel, rfl⟩
theorem iX7_count_102 : At cX7_count 102 (.invokevirtual 271) 3 105 := ⟨by decide +kernel, rfl⟩
theorem iX7_count_105 : At cX7_count 105 (.ireturn) 1 106 := ⟨by decide +kernel, rfl⟩
theorem iX7_count_106 : At cX7_count 106 (.aload_n 0) 1 107 := ⟨by decide +kernel, rfl⟩
theorem iX7_count_107 : At cX7_count 107 (.getfield 19) 3 110 := ⟨by decide +kernel, rfl⟩
theorem iX7_count_110 : At cX7_count 110 (.getfield 274) 3 113 := ⟨by decide +kernel, rfl⟩
theorem iX7_count_113 : At cX7_count 113 (.ireturn) 1 114 := ⟨by decide +kernel, rfl⟩
theorem iX7_count_114 : At cX7_count 114 (.aload_n 0) 1 115 := ⟨by decide +kernel, rfl⟩
theorem iX7_count_115 : At cX7_count 115 (.getfield 19) 3 118 := ⟨by decide +kernel, rfl⟩
theorem iX7_count_118 : At cX7_count 118 (.getfield 277) 3 121 := ⟨by decide +kernel, rfl⟩
theorem iX7_count_121 : At cX7_count 121 (.ireturn) 1 122 := ⟨by decide +kernel, rfl⟩
theorem iX7_count_122 : At cX7_count 122 (.aload_n 0) 1 123 := ⟨by decide +kernel, rfl⟩
theorem iX7_count_123 : At cX7_count 123 (.getfield 19) 3 126 := ⟨by decide +kernel, rfl⟩
theorem iX7_count_126 : At cX7_count 126 (.getfield 280) 3 129 := ⟨by decide +kernel, rfl⟩
theorem iX7_count_129 : At cX7_count 129 (.ireturn) 1 130 := ⟨by decide +kernel, rfl⟩
theorem iX7_count_130 : At cX7_count 130 (.aload_n 0) 1 131 := ⟨by decide +kernel, rfl⟩
theorem iX7_count_131 : At cX7_count 131 (.invokevirtual 283) 3 134 := ⟨by decide +kernel, rfl⟩
theorem iX7_count_134 : At cX7_count 134 (.ireturn) 1 135 := ⟨by decide +kernel, rfl⟩
theorem iX7_count_135 : At cX7_count 135 (.aload_n 0) 1 136 := ⟨by decide +kernel, rfl⟩
theorem iX7_count_136 : At cX7_count 136 (.getfield 45) 3 139 := ⟨by decide +kernel, rfl⟩
theorem iX7_count_139 : At cX7_count 139 (.getfield 199) 3 142 := ⟨by decide +kernel, rfl⟩
theorem iX7_count_142 : At cX7_count 142 (.ireturn) 1 143 := ⟨by decide +kernel, rfl⟩
theorem iX7_count_143 : At cX7_count 143 (.aload_n 0) 1 144 := ⟨by decide +kernel, rfl⟩
theorem iX7_count_144 : At cX7_count 144 (.getfield 10) 3 147 := ⟨by decide +kernel, rfl⟩
theorem iX7_count_147 : At cX7_count 147 (.getfield 73) 3 150 := ⟨by decide +kernel, rfl⟩
theorem iX7_count_150 : At cX7_count 150 (.ireturn) 1 151 := ⟨by decide +kernel, rfl⟩
theorem iX7_isSection_0 : At cX7_isSection 0 (.iload_n 1) 1 1 := ⟨by decide +kernel, rfl⟩
theorem iX7_isSection_1 : At cX7_isSection 1 (.ifCond .lt 18) 3 4 := ⟨by decide +kernel, rfl⟩
theorem iX7_isSection_4 : At cX7_isSection 4 (.iload_n 1) 1 5 := ⟨by decide +kernel, rfl⟩
theorem iX7_isSection_5 : At cX7_isSection 5 (.aload_n 0) 1 6 := ⟨by decide +kernel, rfl⟩
theorem iX7_isSection_6 : At cX7_isSection 6 (.getfield 19) 3 9 := ⟨by decide +kernel, rfl⟩
theorem iX7_isSection_9 : At cX7_isSection 9 (.getfield 265) 3 12 := ⟨by decide +kernel, rfl⟩
theorem iX7_isSection_12 : At cX7_isSection 12 (.if_icmp .ge 7) 3 15 := ⟨by decide +kernel, rfl⟩
theorem iX7_isSection_15 : At cX7_isSection 15 (.iconst 1) 1 16 := ⟨by decide +kernel, rfl⟩
theorem iX7_isSection_16 : At cX7_isSection 16 (.goto 4) 3 19 := ⟨by decide +kernel, rfl⟩
theorem iX7_isSection_19 : At cX7_isSection 19 (.iconst 0) 1 20 := ⟨by decide +kernel, rfl⟩
theorem iX7_isSection_20 : At cX7_isSection 20 (.ireturn) 1 21 := ⟨by decide +kernel, rfl⟩
theorem iX7_isRiser_0 : At cX7_isRiser 0 (.iload_n 1) 1 1 := ⟨by decide +kernel, rfl⟩
theorem iX7_isRiser_1 : At cX7_isRiser 1 (.ifCond .lt 18) 3 4 := ⟨by decide +kernel, rfl⟩
theorem iX7_isRiser_4 : At cX7_isRiser 4 (.iload_n 1) 1 5 := ⟨by decide +kernel, rfl⟩
theorem iX7_isRiser_5 : At cX7_isRiser 5 (.aload_n 0) 1 6 := ⟨by decide +kernel, rfl⟩
theorem iX7_isRiser_6 : At cX7_isRiser 6 (.getfield 38) 3 9 := ⟨by decide +kernel, rfl⟩
theorem iX7_isRiser_9 : At cX7_isRiser 9 (.getfield 174) 3 12 := ⟨by decide +kernel, rfl⟩
theorem iX7_isRiser_12 : At cX7_isRiser 12 (.if_icmp .ge 7) 3 15 := ⟨by decide +kernel, rfl⟩
theorem iX7_isRiser_15 : At cX7_isRiser 15 (.iconst 1) 1 16 := ⟨by decide +kernel, rfl⟩
theorem iX7_isRiser_16 : At cX7_isRiser 16 (.goto 4) 3 19 := ⟨by decide +kernel, rfl⟩
theorem iX7_isRiser_19 : At cX7_isRiser 19 (.iconst 0) 1 20 := ⟨by decide +kernel, rfl⟩
theorem iX7_isRiser_20 : At cX7_isRiser 20 (.ireturn) 1 21 := ⟨by decide +kernel, rfl⟩
theorem iX7_isSize_0 : At cX7_isSize 0 (.iload_n 0) 1 1 := ⟨by decide +kernel, rfl⟩
theorem iX7_isSize_1 : At cX7_isSize 1 (.iconst 1) 1 2 := ⟨by decide +kernel, rfl⟩
theorem iX7_isSize_2 : At cX7_isSize 2 (.if_icmp .lt 13) 3 5 := ⟨by decide +kernel, rfl⟩
theorem iX7_isSize_5 : At cX7_isSize 5 (.iload_n 0) 1 6 := ⟨by decide +kernel, rfl⟩
theorem iX7_isSize_6 : At cX7_isSize 6 (.bipush 99) 2 8 := ⟨by decide +kernel, rfl⟩
theorem iX7_isSize_8 : At cX7_isSize 8 (.if_icmp .gt 7) 3 11 := ⟨by decide +kernel, rfl⟩
theorem iX7_isSize_11 : At cX7_isSize 11 (.iconst 1) 1 12 := ⟨by decide +kernel, rfl⟩
theorem iX7_isSize_12 : At cX7_isSize 12 (.goto 4) 3 15 := ⟨by decide +kernel, rfl⟩
theorem iX7_isSize_15 : At cX7_isSize 15 (.iconst 0) 1 16 := ⟨by decide +kernel, rfl⟩
theorem iX7_isSize_16 : At cX7_isSize 16 (.ireturn) 1 17 := ⟨by decide +kernel, rfl⟩
theorem iX7_isChillStep_0 : At cX7_isChillStep 0 (.iload_n 0) 1 1 := ⟨by decide +kernel, rfl⟩
theorem iX7_isChillStep_1 : At cX7_isChillStep 1 (.iconst 1) 1 2 := ⟨by decide +kernel, rfl⟩
theorem iX7_isChillStep_2 : At cX7_isChillStep 2 (.if_icmp .lt 13) 3 5 := ⟨by decide +kernel, rfl⟩
theorem iX7_isChillStep_5 : At cX7_isChillStep 5 (.iload_n 0) 1 6 := ⟨by decide +kernel, rfl⟩
theorem iX7_isChillStep_6 : At cX7_isChillStep 6 (.bipush 9) 2 8 := ⟨by decide +kernel, rfl⟩
theorem iX7_isChillStep_8 : At cX7_isChillStep 8 (.if_icmp .gt 7) 3 11 := ⟨by decide +kernel, rfl⟩
theorem iX7_isChillStep_11 : At cX7_isChillStep 11 (.iconst 1) 1 12 := ⟨by decide +kernel, rfl⟩
theorem iX7_isChillStep_12 : At cX7_isChillStep 12 (.goto 4) 3 15 := ⟨by decide +kernel, rfl⟩
theorem iX7_isChillStep_15 : At cX7_isChillStep 15 (.iconst 0) 1 16 := ⟨by decide +kernel, rfl⟩
theorem iX7_isChillStep_16 : At cX7_isChillStep 16 (.ireturn) 1 17 := ⟨by decide +kernel, rfl⟩
theorem iX7_isKeepPlace_0 : At cX7_isKeepPlace 0 (.iload_n 0) 1 1 := ⟨by decide +kernel, rfl⟩
theorem iX7_isKeepPlace_1 : At cX7_isKeepPlace 1 (.ifCond .lt 12) 3 4 := ⟨by decide +kernel, rfl⟩
theorem iX7_isKeepPlace_4 : At cX7_isKeepPlace 4 (.iload_n 0) 1 5 := ⟨by decide +kernel, rfl⟩
theorem iX7_isKeepPlace_5 : At cX7_isKeepPlace 5 (.iconst 2) 1 6 := ⟨by decide +kernel, rfl⟩
theorem iX7_isKeepPlace_6 : At cX7_isKeepPlace 6 (.if_icmp .ge 7) 3 9 := ⟨by decide +kernel, rfl⟩
theorem iX7_isKeepPlace_9 : At cX7_isKeepPlace 9 (.iconst 1) 1 10 := ⟨by decide +kernel, rfl⟩
theorem iX7_isKeepPlace_10 : At cX7_isKeepPlace 10 (.goto 4) 3 13 := ⟨by decide +kernel, rfl⟩
theorem iX7_isKeepPlace_13 : At cX7_isKeepPlace 13 (.iconst 0) 1 14 := ⟨by decide +kernel, rfl⟩
theorem iX7_isKeepPlace_14 : At cX7_isKeepPlace 14 (.ireturn) 1 15 := ⟨by decide +kernel, rfl⟩
theorem iX7_isBin_0 : At cX7_isBin 0 (.iload_n 0) 1 1 := ⟨by decide +kernel, rfl⟩
theorem iX7_isBin_1 : At cX7_isBin 1 (.ifCond .lt 12) 3 4 := ⟨by decide +kernel, rfl⟩
theorem iX7_isBin_4 : At cX7_isBin 4 (.iload_n 0) 1 5 := ⟨by decide +kernel, rfl⟩
theorem iX7_isBin_5 : At cX7_isBin 5 (.iconst 3) 1 6 := ⟨by decide +kernel, rfl⟩
theorem iX7_isBin_6 : At cX7_isBin 6 (.if_icmp .ge 7) 3 9 := ⟨by decide +kernel, rfl⟩
theorem iX7_isBin_9 : At cX7_isBin 9 (.iconst 1) 1 10 := ⟨by decide +kernel, rfl⟩
theorem iX7_isBin_10 : At cX7_isBin 10 (.goto 4) 3 13 := ⟨by decide +kernel, rfl⟩
theorem iX7_isBin_13 : At cX7_isBin 13 (.iconst 0) 1 14 := ⟨by decide +kernel, rfl⟩
theorem iX7_isBin_14 : At cX7_isBin 14 (.ireturn) 1 15 := ⟨by decide +kernel, rfl⟩
theorem iX7_isPairPart_0 : At cX7_isPairPart 0 (.iload_n 0) 1 1 := ⟨by decide +kernel, rfl⟩
theorem iX7_isPairPart_1 : At cX7_isPairPart 1 (.ifCond .lt 13) 3 4 := ⟨by decide +kernel, rfl⟩
theorem iX7_isPairPart_4 : At cX7_isPairPart 4 (.iload_n 0) 1 5 := ⟨by decide +kernel, rfl⟩
theorem iX7_isPairPart_5 : At cX7_isPairPart 5 (.bipush 99) 2 7 := ⟨by decide +kernel, rfl⟩
theorem iX7_isPairPart_7 : At cX7_isPairPart 7 (.if_icmp .gt 7) 3 10 := ⟨by decide +kernel, rfl⟩
theorem iX7_isPairPart_10 : At cX7_isPairPart 10 (.iconst 1) 1 11 := ⟨by decide +kernel, rfl⟩
theorem iX7_isPairPart_11 : At cX7_isPairPart 11 (.goto 4) 3 14 := ⟨by decide +kernel, rfl⟩
theorem iX7_isPairPart_14 : At cX7_isPairPart 14 (.iconst 0) 1 15 := ⟨by decide +kernel, rfl⟩
theorem iX7_isPairPart_15 : At cX7_isPairPart 15 (.ireturn) 1 16 := ⟨by decide +kernel, rfl⟩
theorem iX7_oneIf_0 : At cX7_oneIf 0 (.iload_n 0) 1 1 := ⟨by decide +kernel, rfl⟩
theorem iX7_oneIf_1 : At cX7_oneIf 1 (.ifCond .eq 7) 3 4 := ⟨by decide +kernel, rfl⟩
theorem iX7_oneIf_4 : At cX7_oneIf 4 (.iconst 1) 1 5 := ⟨by decide +kernel, rfl⟩
theorem iX7_oneIf_5 : At cX7_oneIf 5 (.goto 4) 3 8 := ⟨by decide +kernel, rfl⟩
theorem iX7_oneIf_8 : At cX7_oneIf 8 (.iconst 0) 1 9 := ⟨by decide +kernel, rfl⟩
theorem iX7_oneIf_9 : At cX7_oneIf 9 (.ireturn) 1 10 := ⟨by decide +kernel, rfl⟩
theorem iX7_forgetAll_0 : At cX7_forgetAll 0 (.aload_n 0) 1 1 := ⟨by decide +kernel, rfl⟩
theorem iX7_forgetAll_1 : At cX7_forgetAll 1 (.getfield 45) 3 4 := ⟨by decide +kernel, rfl⟩
theorem iX7_forgetAll_4 : At cX7_forgetAll 4 (.iconst 0) 1 5 := ⟨by decide +kernel, rfl⟩
theorem iX7_forgetAll_5 : At cX7_forgetAll 5 (.putfield 199) 3 8 := ⟨by decide +kernel, rfl⟩
theorem iX7_forgetAll_8 : At cX7_forgetAll 8 (.iconst 0) 1 9 := ⟨by decide +kernel, rfl⟩
theorem iX7_forgetAll_9 : At cX7_forgetAll 9 (.istore_n 1) 1 10 := ⟨by decide +kernel, rfl⟩
theorem iX7_forgetAll_10 : At cX7_forgetAll 10 (.iload_n 1) 1 11 := ⟨by decide +kernel, rfl⟩
theorem iX7_forgetAll_11 : At cX7_forgetAll 11 (.iconst 2) 1 12 := ⟨by decide +kernel, rfl⟩
theorem iX7_forgetAll_12 : At cX7_forgetAll 12 (.if_icmp .ge 16) 3 15 := ⟨by decide +kernel, rfl⟩
theorem iX7_forgetAll_15 : At cX7_forgetAll 15 (.aload_n 0) 1 16 := ⟨by decide +kernel, rfl⟩
theorem iX7_forgetAll_16 : At cX7_forgetAll 16 (.getfield 53) 3 19 := ⟨by decide +kernel, rfl⟩
theorem iX7_forgetAll_19 : At cX7_forgetAll 19 (.iload_n 1) 1 20 := ⟨by decide +kernel, rfl⟩
theorem iX7_forgetAll_20 : At cX7_forgetAll 20 (.iconst 0) 1 21 := ⟨by decide +kernel, rfl⟩
theorem iX7_forgetAll_21 : At cX7_forgetAll 21 (.bastore) 1 22 := ⟨by decide +kernel, rfl⟩
theorem iX7_forgetAll_22 : At cX7_forgetAll 22 (.iinc 1 1) 3 25 := ⟨by decide +kernel, rfl⟩
theorem iX7_forgetAll_25 : At cX7_forgetAll 25 (.goto (-15)) 3 28 := ⟨by decide +kernel, rfl⟩
theorem iX7_forgetAll_28 : At cX7_forgetAll 28 (.iconst 0) 1 29 := ⟨by decide +kernel, rfl⟩
theorem iX7_forgetAll_29 : At cX7_forgetAll 29 (.istore_n 1) 1 30 := ⟨by decide +kernel, rfl⟩
theorem iX7_forgetAll_30 : At cX7_forgetAll 30 (.iload_n 1) 1 31 := ⟨by decide +kernel, rfl⟩
theorem iX7_forgetAll_31 : At cX7_forgetAll 31 (.iconst 3) 1 32 := ⟨by decide +kernel, rfl⟩
theorem iX7_forgetAll_32 : At cX7_forgetAll 32 (.if_icmp .ge 18) 3 35 := ⟨by decide +kernel, rfl⟩
theorem iX7_forgetAll_35 : At cX7_forgetAll 35 (.aload_n 0) 1 36 := ⟨by decide +kernel, rfl⟩
theorem iX7_forgetAll_36 : At cX7_forgetAll 36 (.getfield 68) 3 39 := ⟨by decide +kernel, rfl⟩
theorem iX7_forgetAll_39 : At cX7_forgetAll 39 (.iload_n 1) 1 40 := ⟨by decide +kernel, rfl⟩
theorem iX7_forgetAll_40 : At cX7_forgetAll 40 (.aaload) 1 41 := ⟨by decide +kernel, rfl⟩
theorem iX7_forgetAll_41 : At cX7_forgetAll 41 (.invokevirtual 262) 3 44 := ⟨by decide +kernel, rfl⟩
theorem iX7_forgetAll_44 : At cX7_forgetAll 44 (.iinc 1 1) 3 47 := ⟨by decide +kernel, rfl⟩
theorem iX7_forgetAll_47 : At cX7_forgetAll 47 (.goto (-17)) 3 50 := ⟨by decide +kernel, rfl⟩
theorem iX7_forgetAll_50 : At cX7_forgetAll 50 (.return_) 1 51 := ⟨by decide +kernel, rfl⟩
theorem iX7_countOfTops_0 : At cX7_countOfTops 0 (.aload_n 0) 1 1 := ⟨by decide +kernel, rfl⟩
theorem iX7_countOfTops_1 : At cX7_countOfTops 1 (.getfield 62) 3 4 := ⟨by decide +kernel, rfl⟩
theorem iX7_countOfTops_4 : At cX7_countOfTops 4 (.invokevirtual 105) 3 7 := ⟨by decide +kernel, rfl⟩
theorem iX7_countOfTops_7 : At cX7_countOfTops 7 (.iload_n 1) 1 8 := ⟨by decide +kernel, rfl⟩
theorem iX7_countOfTops_8 : At cX7_countOfTops 8 (.tableswitch 59 3 5 #[28, 36, 44]) 28 36 := ⟨by decide +kernel, rfl⟩
theorem iX7_countOfTops_36 : At cX7_countOfTops 36 (.aload_n 0) 1 37 := ⟨by decide +kernel, rfl⟩
theorem iX7_countOfTops_37 : At cX7_countOfTops 37 (.getfield 62) 3 40 := ⟨by decide +kernel, rfl⟩
theorem iX7_countOfTops_40 : At cX7_countOfTops 40 (.invokevirtual 191) 3 43 := ⟨by decide +kernel, rfl⟩
theorem iX7_countOfTops_43 : At cX7_countOfTops 43 (.ireturn) 1 44 := ⟨by decide +kernel, rfl⟩
theorem iX7_countOfTops_44 : At cX7_countOfTops 44 (.aload_n 0) 1 45 := ⟨by decide +kernel, rfl⟩
theorem iX7_countOfTops_45 : At cX7_countOfTops 45 (.getfield 62) 3 48 := ⟨by decide +kernel, rfl⟩
theorem iX7_countOfTops_48 : At cX7_countOfTops 48 (.invokevirtual 286) 3 51 := ⟨by decide +kernel, rfl⟩
theorem iX7_countOfTops_51 : At cX7_countOfTops 51 (.ireturn) 1 52 := ⟨by decide +kernel, rfl⟩
theorem iX7_countOfTops_52 : At cX7_countOfTops 52 (.aload_n 0) 1 53 := ⟨by decide +kernel, rfl⟩
theorem iX7_countOfTops_53 : At cX7_countOfTops 53 (.getfield 62) 3 56 := ⟨by decide +kernel, rfl⟩
theorem iX7_countOfTops_56 : At cX7_countOfTops 56 (.aload_n 0) 1 57 := ⟨by decide +kernel, rfl⟩
theorem iX7_countOfTops_57 : At cX7_countOfTops 57 (.getfield 62) 3 60 := ⟨by decide +kernel, rfl⟩
theorem iX7_countOfTops_60 : At cX7_countOfTops 60 (.invokevirtual 152) 3 63 := ⟨by decide +kernel, rfl⟩
theorem iX7_countOfTops_63 : At cX7_countOfTops 63 (.invokevirtual 289) 3 66 := ⟨by decide +kernel, rfl⟩
theorem iX7_countOfTops_66 : At cX7_countOfTops 66 (.ireturn) 1 67 := ⟨by decide +kernel, rfl⟩
theorem iX7_countOfTops_67 : At cX7_countOfTops 67 (.aload_n 0) 1 68 := ⟨by decide +kernel, rfl⟩
theorem iX7_countOfTops_68 : At cX7_countOfTops 68 (.getfield 62) 3 71 := ⟨by decide +kernel, rfl⟩
theorem iX7_countOfTops_71 : At cX7_countOfTops 71 (.aload_n 0) 1 72 := ⟨by decide +kernel, rfl⟩
theorem iX7_countOfTops_72 : At cX7_countOfTops 72 (.getfield 62) 3 75 := ⟨by decide +kernel, rfl⟩
theorem iX7_countOfTops_75 : At cX7_countOfTops 75 (.invokevirtual 152) 3 78 := ⟨by decide +kernel, rfl⟩
theorem iX7_countOfTops_78 : At cX7_countOfTops 78 (.invokevirtual 289) 3 81 := ⟨by decide +kernel, rfl⟩
theorem iX7_countOfTops_81 : At cX7_countOfTops 81 (.aload_n 0) 1 82 := ⟨by decide +kernel, rfl⟩
theorem iX7_countOfTops_82 : At cX7_countOfTops 82 (.getfield 62) 3 85 := ⟨by decide +kernel, rfl⟩
theorem iX7_countOfTops_85 : At cX7_countOfTops 85 (.invokevirtual 191) 3 88 := ⟨by decide +kernel, rfl⟩
theorem iX7_countOfTops_88 : At cX7_countOfTops 88 (.if_icmp .ne 7) 3 91 := ⟨by decide +kernel, rfl⟩
theorem iX7_countOfTops_91 : At cX7_countOfTops 91 (.iconst 1) 1 92 := ⟨by decide +kernel, rfl⟩
theorem iX7_countOfTops_92 : At cX7_countOfTops 92 (.goto 4) 3 95 := ⟨by decide +kernel, rfl⟩
theorem iX7_countOfTops_95 : At cX7_countOfTops 95 (.iconst 0) 1 96 := ⟨by decide +kernel, rfl⟩
theorem iX7_countOfTops_96 : At cX7_countOfTops 96 (.invokestatic 133) 3 99 := ⟨by decide +kernel, rfl⟩
theorem iX7_countOfTops_99 : At cX7_countOfTops 99 (.ireturn) 1 100 := ⟨by decide +kernel, rfl⟩
theorem iX7_thingsOfAllBins_0 : At cX7_thingsOfAllBins 0 (.iconst 0) 1 1 := ⟨by decide +kernel, rfl⟩
theorem iX7_thingsOfAllBins_1 : At cX7_thingsOfAllBins 1 (.istore_n 1) 1 2 := ⟨by decide +kernel, rfl⟩
theorem iX7_thingsOfAllBins_2 : At cX7_thingsOfAllBins 2 (.iconst 0) 1 3 := ⟨by decide +kernel, rfl⟩
theorem iX7_thingsOfAllBins_3 : At cX7_thingsOfAllBins 3 (.istore_n 2) 1 4 := ⟨by decide +kernel, rfl⟩
theorem iX7_thingsOfAllBins_4 : At cX7_thingsOfAllBins 4 (.iload_n 2) 1 5 := ⟨by decide +kernel, rfl⟩
theorem iX7_thingsOfAllBins_5 : At cX7_thingsOfAllBins 5 (.iconst 3) 1 6 := ⟨by decide +kernel, rfl⟩
theorem iX7_thingsOfAllBins_6 : At cX7_thingsOfAllBins 6 (.if_icmp .ge 21) 3 9 := ⟨by decide +kernel, rfl⟩
theorem iX7_thingsOfAllBins_9 : At cX7_thingsOfAllBins 9 (.iload_n 1) 1 10 := ⟨by decide +kernel, rfl⟩
theorem iX7_thingsOfAllBins_10 : At cX7_thingsOfAllBins 10 (.aload_n 0) 1 11 := ⟨by decide +kernel, rfl⟩
theorem iX7_thingsOfAllBins_11 : At cX7_thingsOfAllBins 11 (.getfield 68) 3 14 := ⟨by decide +kernel, rfl⟩
theorem iX7_thingsOfAllBins_14 : At cX7_thingsOfAllBins 14 (.iload_n 2) 1 15 := ⟨by decide +kernel, rfl⟩
theorem iX7_thingsOfAllBins_15 : At cX7_thingsOfAllBins 15 (.aaload) 1 16 := ⟨by decide +kernel, rfl⟩
theorem iX7_thingsOfAllBins_16 : At cX7_thingsOfAllBins 16 (.getfield 242) 3 19 := ⟨by decide +kernel, rfl⟩
theorem iX7_thingsOfAllBins_19 : At cX7_thingsOfAllBins 19 (.iadd) 1 20 := ⟨by decide +kernel, rfl⟩
theorem iX7_thingsOfAllBins_20 : At cX7_thingsOfAllBins 20 (.istore_n 1) 1 21 := ⟨by decide +kernel, rfl⟩
theorem iX7_thingsOfAllBins_21 : At cX7_thingsOfAllBins 21 (.iinc 2 1) 3 24 := ⟨by decide +kernel, rfl⟩
theorem iX7_thingsOfAllBins_24 : At cX7_thingsOfAllBins 24 (.goto (-20)) 3 27 := ⟨by decide +kernel, rfl⟩
theorem iX7_thingsOfAllBins_27 : At cX7_thingsOfAllBins 27 (.iload_n 1) 1 28 := ⟨by decide +kernel, rfl⟩
theorem iX7_thingsOfAllBins_28 : At cX7_thingsOfAllBins 28 (.ireturn) 1 29 := ⟨by decide +kernel, rfl⟩
theorem iX8_init_0 : At cX8_init 0 (.aload_n 0) 1 1 := ⟨by decide +kernel, rfl⟩
theorem iX8_init_1 : At cX8_init 1 (.invokespecial 1) 3 4 := ⟨by decide +kernel, rfl⟩
theorem iX8_init_4 : At cX8_init 4 (.aload_n 0) 1 5 := ⟨by decide +kernel, rfl⟩
theorem iX8_init_5 : At cX8_init 5 (.sipush 348) 3 8 := ⟨by decide +kernel, rfl⟩
theorem iX8_init_8 : At cX8_init 8 (.newarray .int) 2 10 := ⟨by decide +kernel, rfl⟩
theorem iX8_init_10 : At cX8_init 10 (.putfield 7) 3 13 := ⟨by decide +kernel, rfl⟩
theorem iX8_init_13 : At cX8_init 13 (.aload_n 0) 1 14 := ⟨by decide +kernel, rfl⟩
theorem iX8_init_14 : At cX8_init 14 (.bipush 10) 2 16 := ⟨by decide +kernel, rfl⟩
theorem iX8_init_16 : At cX8_init 16 (.newarray .int) 2 18 := ⟨by decide +kernel, rfl⟩
theorem iX8_init_18 : At cX8_init 18 (.putfield 13) 3 21 := ⟨by decide +kernel, rfl⟩
theorem iX8_init_21 : At cX8_init 21 (.aload_n 0) 1 22 := ⟨by decide +kernel, rfl⟩
theorem iX8_init_22 : At cX8_init 22 (.bipush 10) 2 24 := ⟨by decide +kernel, rfl⟩
theorem iX8_init_24 : At cX8_init 24 (.newarray .int) 2 26 := ⟨by decide +kernel, rfl⟩
theorem iX8_init_26 : At cX8_init 26 (.putfield 16) 3 29 := ⟨by decide +kernel, rfl⟩
theorem iX8_init_29 : At cX8_init 29 (.aload_n 0) 1 30 := ⟨by decide +kernel, rfl⟩
theorem iX8_init_30 : At cX8_init 30 (.bipush 10) 2 32 := ⟨by decide +kernel, rfl⟩
theorem iX8_init_32 : At cX8_init 32 (.newarray .int) 2 34 := ⟨by decide +kernel, rfl⟩
theorem iX8_init_34 : At cX8_init 34 (.putfield 19) 3 37 := ⟨by decide +kernel, rfl⟩
theorem iX8_init_37 : At cX8_init 37 (.aload_n 0) 1 38 := ⟨by decide +kernel, rfl⟩
theorem iX8_init_38 : At cX8_init 38 (.bipush 6) 2 40 := ⟨by decide +kernel, rfl⟩
theorem iX8_init_40 : At cX8_init 40 (.putfield 22) 3 43 := ⟨by decide +kernel, rfl⟩
theorem iX8_init_43 : At cX8_init 43 (.aload_n 0) 1 44 := ⟨by decide +kernel, rfl⟩
theorem iX8_init_44 : At cX8_init 44 (.iconst 5) 1 45 := ⟨by decide +kernel, rfl⟩
theorem iX8_init_45 : At cX8_init 45 (.putfield 26) 3 48 := ⟨by decide +kernel, rfl⟩
theorem iX8_init_48 : At cX8_init 48 (.aload_n 0) 1 49 := ⟨by decide +kernel, rfl⟩
theorem iX8_init_49 : At cX8_init 49 (.bipush 50) 2 51 := ⟨by decide +kernel, rfl⟩
theorem iX8_init_51 : At cX8_init 51 (.putfield 29) 3 54 := ⟨by decide +kernel, rfl⟩
theorem iX8_init_54 : At cX8_init 54 (.aload_n 0) 1 55 := ⟨by decide +kernel, rfl⟩
theorem iX8_init_55 : At cX8_init 55 (.iconst 2) 1 56 := ⟨by decide +kernel, rfl⟩
theorem iX8_init_56 : At cX8_init 56 (.newarray .boolean) 2 58 := ⟨by decide +kernel, rfl⟩
theorem iX8_init_58 : At cX8_init 58 (.putfield 32) 3 61 := ⟨by decide +kernel, rfl⟩
theorem iX8_init_61 : At cX8_init 61 (.aload_n 0) 1 62 := ⟨by decide +kernel, rfl⟩
theorem iX8_init_62 : At cX8_init 62 (.sipush 200) 3 65 := ⟨by decide +kernel, rfl⟩
theorem iX8_init_65 : At cX8_init 65 (.newarray .int) 2 67 := ⟨by decide +kernel, rfl⟩
theorem iX8_init_67 : At cX8_init 67 (.putfield 36) 3 70 := ⟨by decide +kernel, rfl⟩
theorem iX8_init_70 : At cX8_init 70 (.aload_n 0) 1 71 := ⟨by decide +kernel, rfl⟩
theorem iX8_init_71 : At cX8_init 71 (.iconst 3) 1 72 := ⟨by decide +kernel, rfl⟩
theorem iX8_init_72 : At cX8_init 72 (.newarray .int) 2 74 := ⟨by decide +kernel, rfl⟩
theorem iX8_init_74 : At cX8_init 74 (.dup) 1 75 := ⟨by decide +kernel, rfl⟩
theorem iX8_init_75 : At cX8_init 75 (.iconst 0) 1 76 := ⟨by decide +kernel, rfl⟩
theorem iX8_init_76 : At cX8_init 76 (.iconst (-1)) 1 77 := ⟨by decide +kernel, rfl⟩
theorem iX8_init_77 : At cX8_init 77 (.iastore) 1 78 := ⟨by decide +kernel, rfl⟩
theorem iX8_init_78 : At cX8_init 78 (.dup) 1 79 := ⟨by decide +kernel, rfl⟩
theorem iX8_init_79 : At cX8_init 79 (.iconst 1) 1 80 := ⟨by decide +kernel, rfl⟩
theorem iX8_init_80 : At cX8_init 80 (.iconst (-1)) 1 81 := ⟨by decide +kernel, rfl⟩
theorem iX8_init_81 : At cX8_init 81 (.iastore) 1 82 := ⟨by decide +kernel, rfl⟩
theorem iX8_init_82 : At cX8_init 82 (.dup) 1 83 := ⟨by decide +kernel, rfl⟩
theorem iX8_init_83 : At cX8_init 83 (.iconst 2) 1 84 := ⟨by decide +kernel, rfl⟩
theorem iX8_init_84 : At cX8_init 84 (.iconst (-1)) 1 85 := ⟨by decide +kernel, rfl⟩
theorem iX8_init_85 : At cX8_init 85 (.iastore) 1 86 := ⟨by decide +kernel, rfl⟩
theorem iX8_init_86 : At cX8_init 86 (.putfield 39) 3 89 := ⟨by decide +kernel, rfl⟩
theorem iX8_init_89 : At cX8_init 89 (.aload_n 0) 1 90 := ⟨by decide +kernel, rfl⟩
theorem iX8_init_90 : At cX8_init 90 (.iconst 3) 1 91 := ⟨by decide +kernel, rfl⟩
theorem iX8_init_91 : At cX8_init 91 (.newarray .int) 2 93 := ⟨by decide +kernel, rfl⟩
theorem iX8_init_93 : At cX8_init 93 (.putfield 42) 3 96 := ⟨by decide +kernel, rfl⟩
theorem iX8_init_96 : At cX8_init 96 (.aload_n 0) 1 97 := ⟨by decide +kernel, rfl⟩
theorem iX8_init_97 : At cX8_init 97 (.bipush 24) 2 99 := ⟨by decide +kernel, rfl⟩
theorem iX8_init_99 : At cX8_init 99 (.newarray .int) 2 101 := ⟨by decide +kernel, rfl⟩
theorem iX8_init_101 : At cX8_init 101 (.putfield 45) 3 104 := ⟨by decide +kernel, rfl⟩
theorem iX8_init_104 : At cX8_init 104 (.aload_n 0) 1 105 := ⟨by decide +kernel, rfl⟩
theorem iX8_init_105 : At cX8_init 105 (.iconst 3) 1 106 := ⟨by decide +kernel, rfl⟩
theorem iX8_init_106 : At cX8_init 106 (.newarray .int) 2 108 := ⟨by decide +kernel, rfl⟩
theorem iX8_init_108 : At cX8_init 108 (.putfield 48) 3 111 := ⟨by decide +kernel, rfl⟩
theorem iX8_init_111 : At cX8_init 111 (.aload_n 0) 1 112 := ⟨by decide +kernel, rfl⟩
theorem iX8_init_112 : At cX8_init 112 (.bipush 42) 2 114 := ⟨by decide +kernel, rfl⟩
theorem iX8_init_114 : At cX8_init 114 (.newarray .int) 2 116 := ⟨by decide +kernel, rfl⟩
theorem iX8_init_116 : At cX8_init 116 (.dup) 1 117 := ⟨by decide +kernel, rfl⟩
theorem iX8_init_117 : At cX8_init 117 (.iconst 0) 1 118 := ⟨by decide +kernel, rfl⟩
theorem iX8_init_118 : At cX8_init 118 (.bipush 99) 2 120 := ⟨by decide +kernel, rfl⟩
theorem iX8_init_120 : At cX8_init 120 (.iastore) 1 121 := ⟨by decide +kernel, rfl⟩
theorem iX8_init_121 : At cX8_init 121 (.dup) 1 122 := ⟨by decide +kernel, rfl⟩
theorem iX8_init_122 : At cX8_init 122 (.iconst 1) 1 123 := ⟨by decide +kernel, rfl⟩
theorem iX8_init_123 : At cX8_init 123 (.bipush 97) 2 125 := ⟨by decide +kernel, rfl⟩
theorem iX8_init_125 : At cX8_init 125 (.iastore) 1 126 := ⟨by decide +kernel, rfl⟩
theorem iX8_init_126 : At cX8_init 126 (.dup) 1 127 := ⟨by decide +kernel, rfl⟩
theorem iX8_init_127 : At cX8_init 127 (.iconst 2) 1 128 := ⟨by decide +kernel, rfl⟩
theorem iX8_init_128 : At cX8_init 128 (.bipush 115) 2 130 := ⟨by decide +kernel, rfl⟩
theorem iX8_init_130 : At cX8_init 130 (.iastore) 1 131 := ⟨by decide +kernel, rfl⟩
theorem iX8_init_131 : At cX8_init 131 (.dup) 1 132 := ⟨by decide +kernel, rfl⟩
theorem iX8_init_132 : At cX8_init 132 (.iconst 3) 1 133 := ⟨by decide +kernel, rfl⟩
theorem iX8_init_133 : At cX8_init 133 (.bipush 116) 2 135 := ⟨by decide +kernel, rfl⟩
theorem iX8_init_135 : At cX8_init 135 (.iastore) 1 136 := ⟨by decide +kernel, rfl⟩
theorem iX8_init_136 : At cX8_init 136 (.dup) 1 137 := ⟨by decide +kernel, rfl⟩
theorem iX8_init_137 : At cX8_init 137 (.iconst 4) 1 138 := ⟨by decide +kernel, rfl⟩
theorem iX8_init_138 : At cX8_init 138 (.bipush 105) 2 140 := ⟨by decide +kernel, rfl⟩
theorem iX8_init_140 : At cX8_init 140 (.iastore) 1 141 := ⟨by decide +kernel, rfl⟩
theorem iX8_init_141 : At cX8_init 141 (.dup) 1 142 := ⟨by decide +kernel, rfl⟩
theorem iX8_init_142 : At cX8_init 142 (.iconst 5) 1 143 := ⟨by decide +kernel, rfl⟩
theorem iX8_init_143 : At cX8_init 143 (.bipush 110) 2 145 := ⟨by decide +kernel, rfl⟩
theorem iX8_init_145 : At cX8_init 145 (.iastore) 1 146 := ⟨by decide +kernel, rfl⟩
theorem iX8_init_146 : At cX8_init 146 (.dup) 1 147 := ⟨by decide +kernel, rfl⟩
theorem iX8_init_147 : At cX8_init 147 (.bipush 6) 2 149 := ⟨by decide +kernel, rfl⟩
theorem iX8_init_149 : At cX8_init 149 (.bipush 103) 2 151 := ⟨by decide +kernel, rfl⟩
theorem iX8_init_151 : At cX8_init 151 (.iastore) 1 152 := ⟨by decide +kernel, rfl⟩
theorem iX8_init_152 : At cX8_init 152 (.dup) 1 153 := ⟨by decide +kernel, rfl⟩
theorem iX8_init_153 : At cX8_init 153 (.bipush 7) 2 155 := ⟨by decide +kernel, rfl⟩
theorem iX8_init_155 : At cX8_init 155 (.bipush 115) 2 157 := ⟨by decide +kernel, rfl⟩
theorem iX8_init_157 : At cX8_init 157 (.iastore) 1 158 := ⟨by decide +kernel, rfl⟩
theorem iX8_init_158 : At cX8_init 158 (.dup) 1 159 := ⟨by decide +kernel, rfl⟩
theorem iX8_init_159 : At cX8_init 159 (.bipush 8) 2 161 := ⟨by decide +kernel, rfl⟩
theorem iX8_init_161 : At cX8_init 161 (.bipush 101) 2 163 := ⟨by decide +kernel, rfl⟩
theorem iX8_init_163 : At cX8_init 163 (.iastore) 1 164 := ⟨by decide +kernel, rfl⟩
theorem iX8_init_164 : At cX8_init 164 (.dup) 1 165 := ⟨by decide +kernel, rfl⟩
theorem iX8_init_165 : At cX8_init 165 (.bipush 9) 2 167 := ⟨by decide +kernel, rfl⟩
theorem iX8_init_167 : At cX8_init 167 (.bipush 99) 2 169 := ⟨by decide +kernel, rfl⟩
theorem iX8_init_169 : At cX8_init 169 (.iastore) 1 170 := ⟨by decide +kernel, rfl⟩
theorem iX8_init_170 : At cX8_init 170 (.dup) 1 171 := ⟨by decide +kernel, rfl⟩
theorem iX8_init_171 : At cX8_init 171 (.bipush 10) 2 173 := ⟨by decide +kernel, rfl⟩
theorem iX8_init_173 : At cX8_init 173 (.bipush 116) 2 175 := ⟨by decide +kernel, rfl⟩
theorem iX8_init_175 : At cX8_init 175 (.iastore) 1 176 := ⟨by decide +kernel, rfl⟩
theorem iX8_init_176 : At cX8_init 176 (.dup) 1 177 := ⟨by decide +kernel, rfl⟩
theorem iX8_init_177 : At cX8_init 177 (.bipush 11) 2 179 := ⟨by decide +kernel, rfl⟩
theorem iX8_init_179 : At cX8_init 179 (.bipush 105) 2 181 := ⟨by decide +kernel, rfl⟩
theorem iX8_init_181 : At cX8_init 181 (.iastore) 1 182 := ⟨by decide +kernel, rfl⟩
theorem iX8_init_182 : At cX8_init 182 (.dup) 1 183 := ⟨by decide +kernel, rfl⟩
theorem iX8_init_183 : At cX8_init 183 (.bipush 12) 2 185 := ⟨by decide +kernel, rfl⟩
theorem iX8_init_185 : At cX8_init 185 (.bipush 111) 2 187 := ⟨by decide +kernel, rfl⟩
theorem iX8_init_187 : At cX8_init 187 (.iastore) 1 188 := ⟨by decide +kernel, rfl⟩
theorem iX8_init_188 : At cX8_init 188 (.dup) 1 189 := ⟨by decide +kernel, rfl⟩
theorem iX8_init_189 : At cX8_init 189 (.bipush 13) 2 191 := ⟨by decide +kernel, rfl⟩
theorem iX8_init_191 : At cX8_init 191 (.bipush 110) 2 193 := ⟨by decide +kernel, rfl⟩
theorem iX8_init_193 : At cX8_init 193 (.iastore) 1 194 := ⟨by decide +kernel, rfl⟩
theorem iX8_init_194 : At cX8_init 194 (.dup) 1 195 := ⟨by decide +kernel, rfl⟩
theorem iX8_init_195 : At cX8_init 195 (.bipush 14) 2 197 := ⟨by decide +kernel, rfl⟩
theorem iX8_init_197 : At cX8_init 197 (.bipush 106) 2 199 := ⟨by decide +kernel, rfl⟩
theorem iX8_init_199 : At cX8_init 199 (.iastore) 1 200 := ⟨by decide +kernel, rfl⟩
theorem iX8_init_200 : At cX8_init 200 (.dup) 1 201 := ⟨by decide +kernel, rfl⟩
theorem iX8_init_201 : At cX8_init 201 (.bipush 15) 2 203 := ⟨by decide +kernel, rfl⟩
theorem iX8_init_203 : At cX8_init 203 (.bipush 111) 2 205 := ⟨by decide +kernel, rfl⟩
theorem iX8_init_205 : At cX8_init 205 (.iastore) 1 206 := ⟨by decide +kernel, rfl⟩
theorem iX8_init_206 : At cX8_init 206 (.dup) 1 207 := ⟨by decide +kernel, rfl⟩
theorem iX8_init_207 : At cX8_init 207 (.bipush 16) 2 209 := ⟨by decide +kernel, rfl⟩
theorem iX8_init_209 : At cX8_init 209 (.bipush 105) 2 211 := ⟨by decide +kernel, rfl⟩
theorem iX8_init_211 : At cX8_init 211 (.iastore) 1 212 := ⟨by decide +kernel, rfl⟩
theorem iX8_init_212 : At cX8_init 212 (.dup) 1 213 := ⟨by decide +kernel, rfl⟩
theorem iX8_init_213 : At cX8_init 213 (.bipush 17) 2 215 := ⟨by decide +kernel, rfl⟩
theorem iX8_init_215 : At cX8_init 215 (.bipush 110) 2 217 := ⟨by decide +kernel, rfl⟩
theorem iX8_init_217 : At cX8_init 217 (.iastore) 1 218 := ⟨by decide +kernel, rfl⟩
theorem iX8_init_218 : At cX8_init 218 (.dup) 1 219 := ⟨by decide +kernel, rfl⟩
theorem iX8_init_219 : At cX8_init 219 (.bipush 18) 2 221 := ⟨by decide +kernel, rfl⟩
theorem iX8_init_221 : At cX8_init 221 (.bipush 116) 2 223 := ⟨by decide +kernel, rfl⟩
theorem iX8_init_223 : At cX8_init 223 (.iastore) 1 224 := ⟨by decide +kernel, rfl⟩
theorem iX8_init_224 : At cX8_init 224 (.dup) 1 225 := ⟨by decide +kernel, rfl⟩
theorem iX8_init_225 : At cX8_init 225 (.bipush 19) 2 227 := ⟨by decide +kernel, rfl⟩
theorem iX8_init_227 : At cX8_init 227 (.iconst 0) 1 228 := ⟨by decide +kernel, rfl⟩
theorem iX8_init_228 : At cX8_init 228 (.iastore) 1 229 := ⟨by decide +kernel, rfl⟩
theorem iX8_init_229 : At cX8_init 229 (.dup) 1 230 := ⟨by decide +kernel, rfl⟩
theorem iX8_init_230 : At cX8_init 230 (.bipush 20) 2 232 := ⟨by decide +kernel, rfl⟩
theorem iX8_init_232 : At cX8_init 232 (.iconst 0) 1 233 := ⟨by decide +kernel, rfl⟩
theorem iX8_init_233 : At cX8_init 233 (.iastore) 1 234 := ⟨by decide +kernel, rfl⟩
theorem iX8_init_234 : At cX8_init 234 (.dup) 1 235 := ⟨by decide +kernel, rfl⟩
theorem iX8_init_235 : At cX8_init 235 (.bipush 21) 2 237 := ⟨by decide +kernel, rfl⟩
theorem iX8_init_237 : At cX8_init 237 (.bipush 114) 2 239 := ⟨by decide +kernel, rfl⟩
theorem iX8_init_239 : At cX8_init 239 (.iastore) 1 240 := ⟨by decide +kernel, rfl⟩
theorem iX8_init_240 : At cX8_init 240 (.dup) 1 241 := ⟨by decide +kernel, rfl⟩
theorem iX8_init_241 : At cX8_init 241 (.bipush 22) 2 243 := ⟨by decide +kernel, rfl⟩
theorem iX8_init_243 : At cX8_init 243 (.bipush 105) 2 245 := ⟨by decide +kernel, rfl⟩
theorem iX8_init_245 : At cX8_init 245 (.iastore) 1 246 := ⟨by decide +kernel, rfl⟩
theorem iX8_init_246 : At cX8_init 246 (.dup) 1 247 := ⟨by decide +kernel, rfl⟩
theorem iX8_init_247 : At cX8_init 247 (.bipush 23) 2 249 := ⟨by decide +kernel, rfl⟩
theorem iX8_init_249 : At cX8_init 249 (.bipush 115) 2 251 := ⟨by decide +kernel, rfl⟩
theorem iX8_init_251 : At cX8_init 251 (.iastore) 1 252 := ⟨by decide +kernel, rfl⟩
theorem iX8_init_252 : At cX8_init 252 (.dup) 1 253 := ⟨by decide +kernel, rfl⟩
theorem iX8_init_253 : At cX8_init 253 (.bipush 24) 2 255 := ⟨by decide +kernel, rfl⟩
theorem iX8_init_255 : At cX8_init 255 (.bipush 101) 2 257 := ⟨by decide +kernel, rfl⟩
theorem iX8_init_257 : At cX8_init 257 (.iastore) 1 258 := ⟨by decide +kernel, rfl⟩
theorem iX8_init_258 : At cX8_init 258 (.dup) 1 259 := ⟨by decide +kernel, rfl⟩
theorem iX8_init_259 : At cX8_init 259 (.bipush 25) 2 261 := ⟨by decide +kernel, rfl⟩
theorem iX8_init_261 : At cX8_init 261 (.bipush 114) 2 263 := ⟨by decide +kernel, rfl⟩
theorem iX8_init_263 : At cX8_init 263 (.iastore) 1 264 := ⟨by decide +kernel, rfl⟩
theorem iX8_init_264 : At cX8_init 264 (.dup) 1 265 := ⟨by decide +kernel, rfl⟩
theorem iX8_init_265 : At cX8_init 265 (.bipush 26) 2 267 := ⟨by decide +kernel, rfl⟩
theorem iX8_init_267 : At cX8_init 267 (.iconst 0) 1 268 := ⟨by decide +kernel, rfl⟩
theorem iX8_init_268 : At cX8_init 268 (.iastore) 1 269 := ⟨by decide +kernel, rfl⟩
theorem iX8_init_269 : At cX8_init 269 (.dup) 1 270 := ⟨by decide +kernel, rfl⟩
theorem iX8_init_270 : At cX8_init 270 (.bipush 27) 2 272 := ⟨by decide +kernel, rfl⟩
theorem iX8_init_272 : At cX8_init 272 (.iconst 0) 1 273 := ⟨by decide +kernel, rfl⟩
theorem iX8_init_273 : At cX8_init 273 (.iastore) 1 274 := ⟨by decide +kernel, rfl⟩
theorem iX8_init_274 : At cX8_init 274 (.dup) 1 275 := ⟨by decide +kernel, rfl⟩
theorem iX8_init_275 : At cX8_init 275 (.bipush 28) 2 277 := ⟨by decide +kernel, rfl⟩
theorem iX8_init_277 : At cX8_init 277 (.bipush 99) 2 279 := ⟨by decide +kernel, rfl⟩
theorem iX8_init_279 : At cX8_init 279 (.iastore) 1 280 := ⟨by decide +kernel, rfl⟩
theorem iX8_init_280 : At cX8_init 280 (.dup) 1 281 := ⟨by decide +kernel, rfl⟩
theorem iX8_init_281 : At cX8_init 281 (.bipush 29) 2 283 := ⟨by decide +kernel, rfl⟩
theorem iX8_init_283 : At cX8_init 283 (.bipush 104) 2 285 := ⟨by decide +kernel, rfl⟩
theorem iX8_init_285 : At cX8_init 285 (.iastore) 1 286 := ⟨by decide +kernel, rfl⟩
theorem iX8_init_286 : At cX8_init 286 (.dup) 1 287 := ⟨by decide +kernel, rfl⟩
theorem iX8_init_287 : At cX8_init 287 (.bipush 30) 2 289 := ⟨by decide +kernel, rfl⟩
theorem iX8_init_289 : At cX8_init 289 (.bipush 105) 2 291 := ⟨by decide +kernel, rfl⟩
theorem iX8_init_291 : At cX8_init 291 (.iastore) 1 292 := ⟨by decide +kernel, rfl⟩
theorem iX8_init_292 : At cX8_init 292 (.dup) 1 293 := ⟨by decide +kernel, rfl⟩
theorem iX8_init_293 : At cX8_init 293 (.bipush 31) 2 295 := ⟨by decide +kernel, rfl⟩
theorem iX8_init_295 : At cX8_init 295 (.bipush 108) 2 297 := ⟨by decide +kernel, rfl⟩
theorem iX8_init_297 : At cX8_init 297 (.iastore) 1 298 := ⟨by decide +kernel, rfl⟩
theorem iX8_init_298 : At cX8_init 298 (.dup) 1 299 := ⟨by decide +kernel, rfl⟩
theorem iX8_init_299 : At cX8_init 299 (.bipush 32) 2 301 := ⟨by decide +kernel, rfl⟩
theorem iX8_init_301 : At cX8_init 301 (.bipush 108) 2 303 := ⟨by decide +kernel, rfl⟩
theorem iX8_init_303 : At cX8_init 303 (.iastore) 1 304 := ⟨by decide +kernel, rfl⟩
theorem iX8_init_304 : At cX8_init 304 (.dup) 1 305 := ⟨by decide +kernel, rfl⟩
theorem iX8_init_305 : At cX8_init 305 (.bipush 33) 2 307 := ⟨by decide +kernel, rfl⟩
theorem iX8_init_307 : At cX8_init 307 (.iconst 0) 1 308 := ⟨by decide +kernel, rfl⟩
theorem iX8_init_308 : At cX8_init 308 (.iastore) 1 309 := ⟨by decide +kernel, rfl⟩
theorem iX8_init_309 : At cX8_init 309 (.dup) 1 310 := ⟨by decide +kernel, rfl⟩
theorem iX8_init_310 : At cX8_init 310 (.bipush 34) 2 312 := ⟨by decide +kernel, rfl⟩
theorem iX8_init_312 : At cX8_init 312 (.iconst 0) 1 313 := ⟨by decide +kernel, rfl⟩
theorem iX8_init_313 : At cX8_init 313 (.iastore) 1 314 := ⟨by decide +kernel, rfl⟩
theorem iX8_init_314 : At cX8_init 314 (.dup) 1 315 := ⟨by decide +kernel, rfl⟩
theorem iX8_init_315 : At cX8_init 315 (.bipush 35) 2 317 := ⟨by decide +kernel, rfl⟩
theorem iX8_init_317 : At cX8_init 317 (.bipush 114) 2 319 := ⟨by decide +kernel, rfl⟩
theorem iX8_init_319 : At cX8_init 319 (.iastore) 1 320 := ⟨by decide +kernel, rfl⟩
theorem iX8_init_320 : At cX8_init 320 (.dup) 1 321 := ⟨by decide +kernel, rfl⟩
theorem iX8_init_321 : At cX8_init 321 (.bipush 36) 2 323 := ⟨by decide +kernel, rfl⟩
theorem iX8_init_323 : At cX8_init 323 (.bipush 117) 2 325 := ⟨by decide +kernel, rfl⟩
theorem iX8_init_325 : At cX8_init 325 (.iastore) 1 326 := ⟨by decide +kernel, rfl⟩
theorem iX8_init_326 : At cX8_init 326 (.dup) 1 327 := ⟨by decide +kernel, rfl⟩
theorem iX8_init_327 : At cX8_init 327 (.bipush 37) 2 329 := ⟨by decide +kernel, rfl⟩
theorem iX8_init_329 : At cX8_init 329 (.bipush 108) 2 331 := ⟨by decide +kernel, rfl⟩
theorem iX8_init_331 : At cX8_init 331 (.iastore) 1 332 := ⟨by decide +kernel, rfl⟩
theorem iX8_init_332 : At cX8_init 332 (.dup) 1 333 := ⟨by decide +kernel, rfl⟩
theorem iX8_init_333 : At cX8_init 333 (.bipush 38) 2 335 := ⟨by decide +kernel, rfl⟩
theorem iX8_init_335 : At cX8_init 335 (.bipush 101) 2 337 := ⟨by decide +kernel, rfl⟩
theorem iX8_init_337 : At cX8_init 337 (.iastore) 1 338 := ⟨by decide +kernel, rfl⟩
theorem iX8_init_338 : At cX8_init 338 (.dup) 1 339 := ⟨by decide +kernel, rfl⟩
theorem iX8_init_339 : At cX8_init 339 (.bipush 39) 2 341 := ⟨by decide +kernel, rfl⟩
theorem iX8_init_341 : At cX8_init 341 (.iconst 0) 1 342 := ⟨by decide +kernel, rfl⟩
theorem iX8_init_342 : At cX8_init 342 (.iastore) 1 343 := ⟨by decide +kernel, rfl⟩
theorem iX8_init_343 : At cX8_init 343 (.dup) 1 344 := ⟨by decide +kernel, rfl⟩
theorem iX8_init_344 : At cX8_init 344 (.bipush 40) 2 346 := ⟨by decide +kernel, rfl⟩
theorem iX8_init_346 : At cX8_init 346 (.iconst 0) 1 347 := ⟨by decide +kernel, rfl⟩
theorem iX8_init_347 : At cX8_init 347 (.iastore) 1 348 := ⟨by decide +kernel, rfl⟩
theorem iX8_init_348 : At cX8_init 348 (.dup) 1 349 := ⟨by decide +kernel, rfl⟩
theorem iX8_init_349 : At cX8_init 349 (.bipush 41) 2 351 := ⟨by decide +kernel, rfl⟩
theorem iX8_init_351 : At cX8_init 351 (.iconst 0) 1 352 := ⟨by decide +kernel, rfl⟩
theorem iX8_init_352 : At cX8_init 352 (.iastore) 1 353 := ⟨by decide +kernel, rfl⟩
theorem iX8_init_353 : At cX8_init 353 (.putfield 51) 3 356 := ⟨by decide +kernel, rfl⟩
theorem iX8_init_356 : At cX8_init 356 (.aload_n 0) 1 357 := ⟨by decide +kernel, rfl⟩
theorem iX8_init_357 : At cX8_init 357 (.bipush 10) 2 359 := ⟨by decide +kernel, rfl⟩
theorem iX8_init_359 : At cX8_init 359 (.newarray .int) 2 361 := ⟨by decide +kernel, rfl⟩
theorem iX8_init_361 : At cX8_init 361 (.putfield 54) 3 364 := ⟨by decide +kernel, rfl⟩
theorem iX8_init_364 : At cX8_init 364 (.return_) 1 365 := ⟨by decide +kernel, rfl⟩
theorem iX8_in_0 : At cX8_in 0 (.lload_n 0) 1 1 := ⟨by decide +kernel, rfl⟩
theorem iX8_in_1 : At cX8_in 1 (.lload_n 2) 1 2 := ⟨by decide +kernel, rfl⟩
theorem iX8_in_2 : At cX8_in 2 (.lcmp) 1 3 := ⟨by decide +kernel, rfl⟩
theorem iX8_in_3 : At cX8_in 3 (.ifCond .lt 14) 3 6 := ⟨by decide +kernel, rfl⟩
theorem iX8_in_6 : At cX8_in 6 (.lload_n 0) 1 7 := ⟨by decide +kernel, rfl⟩
theorem iX8_in_7 : At cX8_in 7 (.lload 4) 2 9 := ⟨by decide +kernel, rfl⟩
theorem iX8_in_9 : At cX8_in 9 (.lcmp) 1 10 := ⟨by decide +kernel, rfl⟩
theorem iX8_in_10 : At cX8_in 10 (.ifCond .gt 7) 3 13 := ⟨by decide +kernel, rfl⟩
theorem iX8_in_13 : At cX8_in 13 (.iconst 1) 1 14 := ⟨by decide +kernel, rfl⟩
theorem iX8_in_14 : At cX8_in 14 (.goto 4) 3 17 := ⟨by decide +kernel, rfl⟩
theorem iX8_in_17 : At cX8_in 17 (.iconst 0) 1 18 := ⟨by decide +kernel, rfl⟩
theorem iX8_in_18 : At cX8_in 18 (.ireturn) 1 19 := ⟨by decide +kernel, rfl⟩
theorem iX8_has_0 : At cX8_has 0 (.iload_n 0) 1 1 := ⟨by decide +kernel, rfl⟩
theorem iX8_has_1 : At cX8_has 1 (.iload_n 1) 1 2 := ⟨by decide +kernel, rfl⟩
theorem iX8_has_2 : At cX8_has 2 (.ishr) 1 3 := ⟨by decide +kernel, rfl⟩
theorem iX8_has_3 : At cX8_has 3 (.iconst 1) 1 4 := ⟨by decide +kernel, rfl⟩
theorem iX8_has_4 : At cX8_has 4 (.iand) 1 5 := ⟨by decide +kernel, rfl⟩
theorem iX8_has_5 : At cX8_has 5 (.iconst 1) 1 6 := ⟨by decide +kernel, rfl⟩
theorem iX8_has_6 : At cX8_has 6 (.if_icmp .ne 7) 3 9 := ⟨by decide +kernel, rfl⟩
theorem iX8_has_9 : At cX8_has 9 (.iconst 1) 1 10 := ⟨by decide +kernel, rfl⟩
theorem iX8_has_10 : At cX8_has 10 (.goto 4) 3 13 := ⟨by decide +kernel, rfl⟩
theorem iX8_has_13 : At cX8_has 13 (.iconst 0) 1 14 := ⟨by decide +kernel, rfl⟩
theorem iX8_has_14 : At cX8_has 14 (.ireturn) 1 15 := ⟨by decide +kernel, rfl⟩
theorem iX8_ones_0 : At cX8_ones 0 (.iconst 0) 1 1 := ⟨by decide +kernel, rfl⟩
theorem iX8_ones_1 : At cX8_ones 1 (.istore_n 1) 1 2 := ⟨by decide +kernel, rfl⟩
theorem iX8_ones_2 : At cX8_ones 2 (.iconst 0) 1 3 := ⟨by decide +kernel, rfl⟩
theorem iX8_ones_3 : At cX8_ones 3 (.istore_n 2) 1 4 := ⟨by decide +kernel, rfl⟩
theorem iX8_ones_4 : At cX8_ones 4 (.iload_n 2) 1 5 := ⟨by decide +kernel, rfl⟩
theorem iX8_ones_5 : At cX8_ones 5 (.bipush 10) 2 7 := ⟨by decide +kernel, rfl⟩
theorem iX8_ones_7 : At cX8_ones 7 (.if_icmp .ge 17) 3 10 := ⟨by decide +kernel, rfl⟩
theorem iX8_ones_10 : At cX8_ones 10 (.iload_n 1) 1 11 := ⟨by decide +kernel, rfl⟩
theorem iX8_ones_11 : At cX8_ones 11 (.iload_n 0) 1 12 := ⟨by decide +kernel, rfl⟩
theorem iX8_ones_12 : At cX8_ones 12 (.iload_n 2) 1 13 := ⟨by decide +kernel, rfl⟩
theorem iX8_ones_13 : At cX8_ones 13 (.ishr) 1 14 := ⟨by decide +kernel, rfl⟩
theorem iX8_ones_14 : At cX8_ones 14 (.iconst 1) 1 15 := ⟨by decide +kernel, rfl⟩
theorem iX8_ones_15 : At cX8_ones 15 (.iand) 1 16 := ⟨by decide +kernel, rfl⟩
theorem iX8_ones_16 : At cX8_ones 16 (.iadd) 1 17 := ⟨by decide +kernel, rfl⟩
theorem iX8_ones_17 : At cX8_ones 17 (.istore_n 1) 1 18 := ⟨by decide +kernel, rfl⟩
theorem iX8_ones_18 : At cX8_ones 18 (.iinc 2 1) 3 21 := ⟨by decide +kernel, rfl⟩
theorem iX8_ones_21 : At cX8_ones 21 (.goto (-17)) 3 24 := ⟨by decide +kernel, rfl⟩
theorem iX8_ones_24 : At cX8_ones 24 (.iload_n 1) 1 25 := ⟨by decide +kernel, rfl⟩
theorem iX8_ones_25 : At cX8_ones 25 (.ireturn) 1 26 := ⟨by decide +kernel, rfl⟩
theorem iX8_copyRow_0 : At cX8_copyRow 0 (.iconst 0) 1 1 := ⟨by decide +kernel, rfl⟩
theorem iX8_copyRow_1 : At cX8_copyRow 1 (.istore_n 3) 1 2 := ⟨by decide +kernel, rfl⟩
theorem iX8_copyRow_2 : At cX8_copyRow 2 (.iload_n 3) 1 3 := ⟨by decide +kernel, rfl⟩
theorem iX8_copyRow_3 : At cX8_copyRow 3 (.bipush 29) 2 5 := ⟨by decide +kernel, rfl⟩
theorem iX8_copyRow_5 : At cX8_copyRow 5 (.if_icmp .ge 25) 3 8 := ⟨by decide +kernel, rfl⟩
theorem iX8_copyRow_8 : At cX8_copyRow 8 (.aload_n 0) 1 9 := ⟨by decide +kernel, rfl⟩
theorem iX8_copyRow_9 : At cX8_copyRow 9 (.getfield 7) 3 12 := ⟨by decide +kernel, rfl⟩
theorem iX8_copyRow_12 : At cX8_copyRow 12 (.iload_n 2) 1 13 := ⟨by decide +kernel, rfl⟩
theorem iX8_copyRow_13 : At cX8_copyRow 13 (.iload_n 3) 1 14 := ⟨by decide +kernel, rfl⟩
theorem iX8_copyRow_14 : At cX8_copyRow 14 (.iadd) 1 15 := ⟨by decide +kernel, rfl⟩
theorem iX8_copyRow_15 : At cX8_copyRow 15 (.aload_n 0) 1 16 := ⟨by decide +kernel, rfl⟩
theorem iX8_copyRow_16 : At cX8_copyRow 16 (.getfield 7) 3 19 := ⟨by decide +kernel, rfl⟩
theorem iX8_copyRow_19 : At cX8_copyRow 19 (.iload_n 1) 1 20 := ⟨by decide +kernel, rfl⟩
theorem iX8_copyRow_20 : At cX8_copyRow 20 (.iload_n 3) 1 21 := ⟨by decide +kernel, rfl⟩
theorem iX8_copyRow_21 : At cX8_copyRow 21 (.iadd) 1 22 := ⟨by decide +kernel, rfl⟩
theorem iX8_copyRow_22 : At cX8_copyRow 22 (.iaload) 1 23 := ⟨by decide +kernel, rfl⟩
theorem iX8_copyRow_23 : At cX8_copyRow 23 (.iastore) 1 24 := ⟨by decide +kernel, rfl⟩
theorem iX8_copyRow_24 : At cX8_copyRow 24 (.iinc 3 1) 3 27 := ⟨by decide +kernel, rfl⟩
theorem iX8_copyRow_27 : At cX8_copyRow 27 (.goto (-25)) 3 30 := ⟨by decide +kernel, rfl⟩
theorem iX8_copyRow_30 : At cX8_copyRow 30 (.return_) 1 31 := ⟨by decide +kernel, rfl⟩
theorem iX8_anew_0 : At cX8_anew 0 (.aload_n 0) 1 1 := ⟨by decide +kernel, rfl⟩
theorem iX8_anew_1 : At cX8_anew 1 (.iconst 0) 1 2 := ⟨by decide +kernel, rfl⟩
theorem iX8_anew_2 : At cX8_anew 2 (.putfield 57) 3 5 := ⟨by decide +kernel, rfl⟩
theorem iX8_anew_5 : At cX8_anew 5 (.aload_n 0) 1 6 := ⟨by decide +kernel, rfl⟩
theorem iX8_anew_6 : At cX8_anew 6 (.bipush 6) 2 8 := ⟨by decide +kernel, rfl⟩
theorem iX8_anew_8 : At cX8_anew 8 (.putfield 22) 3 11 := ⟨by decide +kernel, rfl⟩
theorem iX8_anew_11 : At cX8_anew 11 (.aload_n 0) 1 12 := ⟨by decide +kernel, rfl⟩
theorem iX8_anew_12 : At cX8_anew 12 (.iconst 5) 1 13 := ⟨by decide +kernel, rfl⟩
theorem iX8_anew_13 : At cX8_anew 13 (.putfield 26) 3 16 := ⟨by decide +kernel, rfl⟩
theorem iX8_anew_16 : At cX8_anew 16 (.aload_n 0) 1 17 := ⟨by decide +kernel, rfl⟩
theorem iX8_anew_17 : At cX8_anew 17 (.bipush 50) 2 19 := ⟨by decide +kernel, rfl⟩
theorem iX8_anew_19 : At cX8_anew 19 (.putfield 29) 3 22 := ⟨by decide +kernel, rfl⟩
theorem iX8_anew_22 : At cX8_anew 22 (.aload_n 0) 1 23 := ⟨by decide +kernel, rfl⟩
theorem iX8_anew_23 : At cX8_anew 23 (.getfield 7) 3 26 := ⟨by decide +kernel, rfl⟩
theorem iX8_anew_26 : At cX8_anew 26 (.iconst 0) 1 27 := ⟨by decide +kernel, rfl⟩
theorem iX8_anew_27 : At cX8_anew 27 (.iconst 0) 1 28 := ⟨by decide +kernel, rfl⟩
theorem iX8_anew_28 : At cX8_anew 28 (.iastore) 1 29 := ⟨by decide +kernel, rfl⟩
theorem iX8_anew_29 : At cX8_anew 29 (.iconst 0) 1 30 := ⟨by decide +kernel, rfl⟩
theorem iX8_anew_30 : At cX8_anew 30 (.istore_n 1) 1 31 := ⟨by decide +kernel, rfl⟩
theorem iX8_anew_31 : At cX8_anew 31 (.iload_n 1) 1 32 := ⟨by decide +kernel, rfl⟩
theorem iX8_anew_32 : At cX8_anew 32 (.bipush 10) 2 34 := ⟨by decide +kernel, rfl⟩
theorem iX8_anew_34 : At cX8_anew 34 (.if_icmp .ge 26) 3 37 := ⟨by decide +kernel, rfl⟩
theorem iX8_anew_37 : At cX8_anew 37 (.aload_n 0) 1 38 := ⟨by decide +kernel, rfl⟩
theorem iX8_anew_38 : At cX8_anew 38 (.getfield 7) 3 41 := ⟨by decide +kernel, rfl⟩
theorem iX8_anew_41 : At cX8_anew 41 (.bipush 19) 2 43 := ⟨by decide +kernel, rfl⟩
theorem iX8_anew_43 : At cX8_anew 43 (.iload_n 1) 1 44 := ⟨by decide +kernel, rfl⟩
theorem iX8_anew_44 : At cX8_anew 44 (.iadd) 1 45 := ⟨by decide +kernel, rfl⟩
theorem iX8_anew_45 : At cX8_anew 45 (.iconst 0) 1 46 := ⟨by decide +kernel, rfl⟩
theorem iX8_anew_46 : At cX8_anew 46 (.iastore) 1 47 := ⟨by decide +kernel, rfl⟩
theorem iX8_anew_47 : At cX8_anew 47 (.aload_n 0) 1 48 := ⟨by decide +kernel, rfl⟩
theorem iX8_anew_48 : At cX8_anew 48 (.getfield 19) 3 51 := ⟨by decide +kernel, rfl⟩
theorem iX8_anew_51 : At cX8_anew 51 (.iload_n 1) 1 52 := ⟨by decide +kernel, rfl⟩
theorem iX8_anew_52 : At cX8_anew 52 (.iconst 0) 1 53 := ⟨by decide +kernel, rfl⟩
theorem iX8_anew_53 : At cX8_anew 53 (.iastore) 1 54 := ⟨by decide +kernel, rfl⟩
theorem iX8_anew_54 : At cX8_anew 54 (.iinc 1 1) 3 57 := ⟨by decide +kernel, rfl⟩
theorem iX8_anew_57 : At cX8_anew 57 (.goto (-26)) 3 60 := ⟨by decide +kernel, rfl⟩
theorem iX8_anew_60 : At cX8_anew 60 (.return_) 1 61 := ⟨by decide +kernel, rfl⟩
theorem iX8_write_0 : At cX8_write 0 (.iload_n 1) 1 1 := ⟨by decide +kernel, rfl⟩
theorem iX8_write_1 : At cX8_write 1 (.i2l) 1 2 := ⟨by decide +kernel, rfl⟩
theorem iX8_write_2 : At cX8_write 2 (.lconst 0) 1 3 := ⟨by decide +kernel, rfl⟩
theorem iX8_write_3 : At cX8_write 3 (.ldc2_w 60) 3 6 := ⟨by decide +kernel, rfl⟩
theorem iX8_write_6 : At cX8_write 6 (.invokestatic 62) 3 9 := ⟨by decide +kernel, rfl⟩
theorem iX8_write_9 : At cX8_write 9 (.ifCond .ne 6) 3 12 := ⟨by decide +kernel, rfl⟩
theorem iX8_write_12 : At cX8_write 12 (.bipush (-3)) 2 14 := ⟨by decide +kernel, rfl⟩
theorem iX8_write_14 : At cX8_write 14 (.ireturn) 1 15 := ⟨by decide +kernel, rfl⟩
theorem iX8_write_15 : At cX8_write 15 (.aload_n 0) 1 16 := ⟨by decide +kernel, rfl⟩
theorem iX8_write_16 : At cX8_write 16 (.getfield 66) 3 19 := ⟨by decide +kernel, rfl⟩
theorem iX8_write_19 : At cX8_write 19 (.sipush 200) 3 22 := ⟨by decide +kernel, rfl⟩
theorem iX8_write_22 : At cX8_write 22 (.if_icmp .ne 6) 3 25 := ⟨by decide +kernel, rfl⟩
theorem iX8_write_25 : At cX8_write 25 (.bipush (-5)) 2 27 := ⟨by decide +kernel, rfl⟩
theorem iX8_write_27 : At cX8_write 27 (.ireturn) 1 28 := ⟨by decide +kernel, rfl⟩
theorem iX8_write_28 : At cX8_write 28 (.aload_n 0) 1 29 := ⟨by decide +kernel, rfl⟩
theorem iX8_write_29 : At cX8_write 29 (.getfield 36) 3 32 := ⟨by decide +kernel, rfl⟩
theorem iX8_write_32 : At cX8_write 32 (.aload_n 0) 1 33 := ⟨by decide +kernel, rfl⟩
theorem iX8_write_33 : At cX8_write 33 (.getfield 66) 3 36 := ⟨by decide +kernel, rfl⟩
theorem iX8_write_36 : At cX8_write 36 (.iload_n 1) 1 37 := ⟨by decide +kernel, rfl⟩
theorem iX8_write_37 : At cX8_write 37 (.iastore) 1 38 := ⟨by decide +kernel, rfl⟩
theorem iX8_write_38 : At cX8_write 38 (.aload_n 0) 1 39 := ⟨by decide +kernel, rfl⟩
theorem iX8_write_39 : At cX8_write 39 (.dup) 1 40 := ⟨by decide +kernel, rfl⟩
theorem iX8_write_40 : At cX8_write 40 (.getfield 66) 3 43 := ⟨by decide +kernel, rfl⟩
theorem iX8_write_43 : At cX8_write 43 (.iconst 1) 1 44 := ⟨by decide +kernel, rfl⟩
theorem iX8_write_44 : At cX8_write 44 (.iadd) 1 45 := ⟨by decide +kernel, rfl⟩
theorem iX8_write_45 : At cX8_write 45 (.putfield 66) 3 48 := ⟨by decide +kernel, rfl⟩
theorem iX8_write_48 : At cX8_write 48 (.aload_n 0) 1 49 := ⟨by decide +kernel, rfl⟩
theorem iX8_write_49 : At cX8_write 49 (.getfield 66) 3 52 := ⟨by decide +kernel, rfl⟩
theorem iX8_write_52 : At cX8_write 52 (.ireturn) 1 53 := ⟨by decide +kernel, rfl⟩
theorem iX8_erase_0 : At cX8_erase 0 (.aload_n 0) 1 1 := ⟨by decide +kernel, rfl⟩
theorem iX8_erase_1 : At cX8_erase 1 (.getfield 66) 3 4 := ⟨by decide +kernel, rfl⟩
theorem iX8_erase_4 : At cX8_erase 4 (.istore_n 1) 1 5 := ⟨by decide +kernel, rfl⟩
theorem iX8_erase_5 : At cX8_erase 5 (.aload_n 0) 1 6 := ⟨by decide +kernel, rfl⟩
theorem iX8_erase_6 : At cX8_erase 6 (.iconst 0) 1 7 := ⟨by decide +kernel, rfl⟩
theorem iX8_erase_7 : At cX8_erase 7 (.putfield 66) 3 10 := ⟨by decide +kernel, rfl⟩
theorem iX8_erase_10 : At cX8_erase 10 (.iload_n 1) 1 11 := ⟨by decide +kernel, rfl⟩
theorem iX8_erase_11 : At cX8_erase 11 (.ireturn) 1 12 := ⟨by decide +kernel, rfl⟩
theorem iX8_isSmall_0 : At cX8_isSmall 0 (.iload_n 0) 1 1 := ⟨by decide +kernel, rfl⟩
theorem iX8_isSmall_1 : At cX8_isSmall 1 (.i2l) 1 2 := ⟨by decide +kernel, rfl⟩
theorem iX8_isSmall_2 : At cX8_isSmall 2 (.ldc2_w 69) 3 5 := ⟨by decide +kernel, rfl⟩
theorem iX8_isSmall_5 : At cX8_isSmall 5 (.ldc2_w 71) 3 8 := ⟨by decide +kernel, rfl⟩
theorem iX8_isSmall_8 : At cX8_isSmall 8 (.invokestatic 62) 3 11 := ⟨by decide +kernel, rfl⟩
theorem iX8_isSmall_11 : At cX8_isSmall 11 (.ireturn) 1 12 := ⟨by decide +kernel, rfl⟩
theorem iX8_isDigit_0 : At cX8_isDigit 0 (.iload_n 0) 1 1 := ⟨by decide +kernel, rfl⟩
theorem iX8_isDigit_1 : At cX8_isDigit 1 (.i2l) 1 2 := ⟨by decide +kernel, rfl⟩
theorem iX8_isDigit_2 : At cX8_isDigit 2 (.ldc2_w 73) 3 5 := ⟨by decide +kernel, rfl⟩
theorem iX8_isDigit_5 : At cX8_isDigit 5 (.ldc2_w 75) 3 8 := ⟨by decide +kernel, rfl⟩
theorem iX8_isDigit_8 : At cX8_isDigit 8 (.invokestatic 62) 3 11 := ⟨by decide +kernel, rfl⟩
theorem iX8_isDigit_11 : At cX8_isDigit 11 (.ireturn) 1 12 := ⟨by decide +kernel, rfl⟩
theorem iX8_nextToken_0 : At cX8_nextToken 0 (.aload_n 0) 1 1 := ⟨by decide +kernel, rfl⟩
theorem iX8_nextToken_1 : At cX8_nextToken 1 (.aload_n 0) 1 2 := ⟨by decide +kernel, rfl⟩
theorem iX8_nextToken_2 : At cX8_nextToken 2 (.getfield 77) 3 5 := ⟨by decide +kernel, rfl⟩
theorem iX8_nextToken_5 : At cX8_nextToken 5 (.putfield 80) 3 8 := ⟨by decide +kernel, rfl⟩
theorem iX8_nextToken_8 : At cX8_nextToken 8 (.aload_n 0) 1 9 := ⟨by decide +kernel, rfl⟩
theorem iX8_nextToken_9 : At cX8_nextToken 9 (.getfield 80) 3 12 := ⟨by decide +kernel, rfl⟩
theorem iX8_nextToken_12 : At cX8_nextToken 12 (.aload_n 0) 1 13 := ⟨by decide +kernel, rfl⟩
theorem iX8_nextToken_13 : At cX8_nextToken 13 (.getfield 66) 3 16 := ⟨by decide +kernel, rfl⟩
theorem iX8_nextToken_16 : At cX8_nextToken 16 (.if_icmp .ge 30) 3 19 := ⟨by decide +kernel, rfl⟩
theorem iX8_nextToken_19 : At cX8_nextToken 19 (.aload_n 0) 1 20 := ⟨by decide +kernel, rfl⟩
theorem iX8_nextToken_20 : At cX8_nextToken 20 (.getfield 36) 3 23 := ⟨by decide +kernel, rfl⟩
theorem iX8_nextToken_23 : At cX8_nextToken 23 (.aload_n 0) 1 24 := ⟨by decide +kernel, rfl⟩
theorem iX8_nextToken_24 : At cX8_nextToken 24 (.getfield 80) 3 27 := ⟨by decide +kernel, rfl⟩
theorem iX8_nextToken_27 : At cX8_nextToken 27 (.iaload) 1 28 := ⟨by decide +kernel, rfl⟩
theorem iX8_nextToken_28 : At cX8_nextToken 28 (.bipush 32) 2 30 := ⟨by decide +kernel, rfl⟩
theorem iX8_nextToken_30 : At cX8_nextToken 30 (.if_icmp .ne 16) 3 33 := ⟨by decide +kernel, rfl⟩
theorem iX8_nextToken_33 : At cX8_nextToken 33 (.aload_n 0) 1 34 := ⟨by decide +kernel, rfl⟩
theorem iX8_nextToken_34 : At cX8_nextToken 34 (.dup) 1 35 := ⟨by decide +kernel, rfl⟩
theorem iX8_nextToken_35 : At cX8_nextToken 35 (.getfield 80) 3 38 := ⟨by decide +kernel, rfl⟩
theorem iX8_nextToken_38 : At cX8_nextToken 38 (.iconst 1) 1 39 := ⟨by decide +kernel, rfl⟩
theorem iX8_nextToken_39 : At cX8_nextToken 39 (.iadd) 1 40 := ⟨by decide +kernel, rfl⟩
theorem iX8_nextToken_40 : At cX8_nextToken 40 (.putfield 80) 3 43 := ⟨by decide +kernel, rfl⟩
theorem iX8_nextToken_43 : At cX8_nextToken 43 (.goto (-35)) 3 46 := ⟨by decide +kernel, rfl⟩
theorem iX8_nextToken_46 : At cX8_nextToken 46 (.aload_n 0) 1 47 := ⟨by decide +kernel, rfl⟩
theorem iX8_nextToken_47 : At cX8_nextToken 47 (.aload_n 0) 1 48 := ⟨by decide +kernel, rfl⟩
theorem iX8_nextToken_48 : At cX8_nextToken 48 (.getfield 80) 3 51 := ⟨by decide +kernel, rfl⟩
theorem iX8_nextToken_51 : At cX8_nextToken 51 (.aload_n 0) 1 52 := ⟨by decide +kernel, rfl⟩
theorem iX8_nextToken_52 : At cX8_nextToken 52 (.getfield 66) 3 55 := ⟨by decide +kernel, rfl⟩
theorem iX8_nextToken_55 : At cX8_nextToken 55 (.if_icmp .ge 12) 3 58 := ⟨by decide +kernel, rfl⟩
theorem iX8_nextToken_58 : At cX8_nextToken 58 (.aload_n 0) 1 59 := ⟨by decide +kernel, rfl⟩
theorem iX8_nextToken_59 : At cX8_nextToken 59 (.getfield 80) 3 62 := ⟨by decide +kernel, rfl⟩
theorem iX8_nextToken_62 : At cX8_nextToken 62 (.iconst 1) 1 63 := ⟨by decide +kernel, rfl⟩
theorem iX8_nextToken_63 : At cX8_nextToken 63 (.iadd) 1 64 := ⟨by decide +kernel, rfl⟩
theorem iX8_nextToken_64 : At cX8_nextToken 64 (.goto 7) 3 67 := ⟨by decide +kernel, rfl⟩
theorem iX8_nextToken_67 : At cX8_nextToken 67 (.aload_n 0) 1 68 := ⟨by decide +kernel, rfl⟩
theorem iX8_nextToken_68 : At cX8_nextToken 68 (.getfield 80) 3 71 := ⟨by decide +kernel, rfl⟩
theorem iX8_nextToken_71 : At cX8_nextToken 71 (.putfield 77) 3 74 := ⟨by decide +kernel, rfl⟩
theorem iX8_nextToken_74 : At cX8_nextToken 74 (.aload_n 0) 1 75 := ⟨by decide +kernel, rfl⟩
theorem iX8_nextToken_75 : At cX8_nextToken 75 (.getfield 80) 3 78 := ⟨by decide +kernel, rfl⟩
theorem iX8_nextToken_78 : At cX8_nextToken 78 (.aload_n 0) 1 79 := ⟨by decide +kernel, rfl⟩
theorem iX8_nextToken_79 : At cX8_nextToken 79 (.getfield 66) 3 82 := ⟨by decide +kernel, rfl⟩
theorem iX8_nextToken_82 : At cX8_nextToken 82 (.if_icmp .ge 57) 3 85 := ⟨by decide +kernel, rfl⟩
theorem iX8_nextToken_85 : At cX8_nextToken 85 (.aload_n 0) 1 86 := ⟨by decide +kernel, rfl⟩
theorem iX8_nextToken_86 : At cX8_nextToken 86 (.getfield 36) 3 89 := ⟨by decide +kernel, rfl⟩
theorem iX8_nextToken_89 : At cX8_nextToken 89 (.aload_n 0) 1 90 := ⟨by decide +kernel, rfl⟩
theorem iX8_nextToken_90 : At cX8_nextToken 90 (.getfield 80) 3 93 := ⟨by decide +kernel, rfl⟩
theorem iX8_nextToken_93 : At cX8_nextToken 93 (.iaload) 1 94 := ⟨by decide +kernel, rfl⟩
theorem iX8_nextToken_94 : At cX8_nextToken 94 (.invokestatic 83) 3 97 := ⟨by decide +kernel, rfl⟩
theorem iX8_nextToken_97 : At cX8_nextToken 97 (.ifCond .eq 42) 3 100 := ⟨by decide +kernel, rfl⟩
theorem iX8_nextToken_100 : At cX8_nextToken 100 (.aload_n 0) 1 101 := ⟨by decide +kernel, rfl⟩
theorem iX8_nextToken_101 : At cX8_nextToken 101 (.getfield 77) 3 104 := ⟨by decide +kernel, rfl⟩
theorem iX8_nextToken_104 : At cX8_nextToken 104 (.aload_n 0) 1 105 := ⟨by decide +kernel, rfl⟩
theorem iX8_nextToken_105 : At cX8_nextToken 105 (.getfield 66) 3 108 := ⟨by decide +kernel, rfl⟩
theorem iX8_nextToken_108 : At cX8_nextToken 108 (.if_icmp .ge 96) 3 111 := ⟨by decide +kernel, rfl⟩
theorem iX8_nextToken_111 : At cX8_nextToken 111 (.aload_n 0) 1 112 := ⟨by decide +kernel, rfl⟩
theorem iX8_nextToken_112 : At cX8_nextToken 112 (.getfield 36) 3 115 := ⟨by decide +kernel, rfl⟩
theorem iX8_nextToken_115 : At cX8_nextToken 115 (.aload_n 0) 1 116 := ⟨by decide +kernel, rfl⟩
theorem iX8_nextToken_116 : At cX8_nextToken 116 (.getfield 77) 3 119 := ⟨by decide +kernel, rfl⟩
theorem iX8_nextToken_119 : At cX8_nextToken 119 (.iaload) 1 120 := ⟨by decide +kernel, rfl⟩
theorem iX8_nextToken_120 : At cX8_nextToken 120 (.invokestatic 83) 3 123 := ⟨by decide +kernel, rfl⟩
theorem iX8_nextToken_123 : At cX8_nextToken 123 (.ifCond .eq 81) 3 126 := ⟨by decide +kernel, rfl⟩
theorem iX8_nextToken_126 : At cX8_nextToken 126 (.aload_n 0) 1 127 := ⟨by decide +kernel, rfl⟩
theorem iX8_nextToken_127 : At cX8_nextToken 127 (.dup) 1 128 := ⟨by decide +kernel, rfl⟩
theorem iX8_nextToken_128 : At cX8_nextToken 128 (.getfield 77) 3 131 := ⟨by decide +kernel, rfl⟩
theorem iX8_nextToken_131 : At cX8_nextToken 131 (.iconst 1) 1 132 := ⟨by decide +kernel, rfl⟩
theorem iX8_nextToken_132 : At cX8_nextToken 132 (.iadd) 1 133 := ⟨by decide +kernel, rfl⟩
theorem iX8_nextToken_133 : At cX8_nextToken 133 (.putfield 77) 3 136 := ⟨by decide +kernel, rfl⟩
theorem iX8_nextToken_136 : At cX8_nextToken 136 (.goto (-36)) 3 139 := ⟨by decide +kernel, rfl⟩
theorem iX8_nextToken_139 : At cX8_nextToken 139 (.aload_n 0) 1 140 := ⟨by decide +kernel, rfl⟩
theorem iX8_nextToken_140 : At cX8_nextToken 140 (.getfield 80) 3 143 := ⟨by decide +kernel, rfl⟩
theorem iX8_nextToken_143 : At cX8_nextToken 143 (.aload_n 0) 1 144 := ⟨by decide +kernel, rfl⟩
theorem iX8_nextToken_144 : At cX8_nextToken 144 (.getfield 66) 3 147 := ⟨by decide +kernel, rfl⟩
theorem iX8_nextToken_147 : At cX8_nextToken 147 (.if_icmp .ge 57) 3 150 := ⟨by decide +kernel, rfl⟩
theorem iX8_nextToken_150 : At cX8_nextToken 150 (.aload_n 0) 1 151 := ⟨by decide +kernel, rfl⟩
theorem iX8_nextToken_151 : At cX8_nextToken 151 (.getfield 36) 3 154 := ⟨by decide +kernel, rfl⟩
theorem iX8_nextToken_154 : At cX8_nextToken 154 (.aload_n 0) 1 155 := ⟨by decide +kernel, rfl⟩
theorem iX8_nextToken_155 : At cX8_nextToken 155 (.getfield 80) 3 158 := ⟨by decide +kernel, rfl⟩
theorem iX8_nextToken_158 : At cX8_nextToken 158 (.iaload) 1 159 := ⟨by decide +kernel, rfl⟩
theorem iX8_nextToken_159 : At cX8_nextToken 159 (.invokestatic 87) 3 162 := ⟨by decide +kernel, rfl⟩
theorem iX8_nextToken_162 : At cX8_nextToken 162 (.ifCond .eq 42) 3 165 := ⟨by decide +kernel, rfl⟩
theorem iX8_nextToken_165 : At cX8_nextToken 165 (.aload_n 0) 1 166 := ⟨by decide +kernel, rfl⟩
theorem iX8_nextToken_166 : At cX8_nextToken 166 (.getfield 77) 3 169 := ⟨by decide +kernel, rfl⟩
theorem iX8_nextToken_169 : At cX8_nextToken 169 (.aload_n 0) 1 170 := ⟨by decide +kernel, rfl⟩
theorem iX8_nextToken_170 : At cX8_nextToken 170 (.getfield 66) 3 173 := ⟨by decide +kernel, rfl⟩
theorem iX8_nextToken_173 : At cX8_nextToken 173 (.if_icmp .ge 31) 3 176 := ⟨by decide +kernel, rfl⟩
theorem iX8_nextToken_176 : At cX8_nextToken 176 (.aload_n 0) 1 177 := ⟨by decide +kernel, rfl⟩
theorem iX8_nextToken_177 : At cX8_nextToken 177 (.getfield 36) 3 180 := ⟨by decide +kernel, rfl⟩
theorem iX8_nextToken_180 : At cX8_nextToken 180 (.aload_n 0) 1 181 := ⟨by decide +kernel, rfl⟩
theorem iX8_nextToken_181 : At cX8_nextToken 181 (.getfield 77) 3 184 := ⟨by decide +kernel, rfl⟩
theorem iX8_nextToken_184 : At cX8_nextToken 184 (.iaload) 1 185 := ⟨by decide +kernel, rfl⟩
theorem iX8_nextToken_185 : At cX8_nextToken 185 (.invokestatic 87) 3 188 := ⟨by decide +kernel, rfl⟩
theorem iX8_nextToken_188 : At cX8_nextToken 188 (.ifCond .eq 16) 3 191 := ⟨by decide +kernel, rfl⟩
theorem iX8_nextToken_191 : At cX8_nextToken 191 (.aload_n 0) 1 192 := ⟨by decide +kernel, rfl⟩
theorem iX8_nextToken_192 : At cX8_nextToken 192 (.dup) 1 193 := ⟨by decide +kernel, rfl⟩
theorem iX8_nextToken_193 : At cX8_nextToken 193 (.getfield 77) 3 196 := ⟨by decide +kernel, rfl⟩
theorem iX8_nextToken_196 : At cX8_nextToken 196 (.iconst 1) 1 197 := ⟨by decide +kernel, rfl⟩
theorem iX8_nextToken_197 : At cX8_nextToken 197 (.iadd) 1 198 := ⟨by decide +kernel, rfl⟩
theorem iX8_nextToken_198 : At cX8_nextToken 198 (.putfield 77) 3 201 := ⟨by decide +kernel, rfl⟩
theorem iX8_nextToken_201 : At cX8_nextToken 201 (.goto (-36)) 3 204 := ⟨by decide +kernel, rfl⟩
theorem iX8_nextToken_204 : At cX8_nextToken 204 (.return_) 1 205 := ⟨by decide +kernel, rfl⟩
theorem iX8_wordHere_0 : At cX8_wordHere 0 (.iconst 0) 1 1 := ⟨by decide +kernel, rfl⟩
theorem iX8_wordHere_1 : At cX8_wordHere 1 (.istore_n 1) 1 2 := ⟨by decide +kernel, rfl⟩
theorem iX8_wordHere_2 : At cX8_wordHere 2 (.iload_n 1) 1 3 := ⟨by decide +kernel, rfl⟩
theorem iX8_wordHere_3 : At cX8_wordHere 3 (.iconst 5) 1 4 := ⟨by decide +kernel, rfl⟩
theorem iX8_wordHere_4 : At cX8_wordHere 4 (.if_icmp .gt 112) 3 7 := ⟨by decide +kernel, rfl⟩
theorem iX8_wordHere_7 : At cX8_wordHere 7 (.aload_n 0) 1 8 := ⟨by decide +kernel, rfl⟩
theorem iX8_wordHere_8 : At cX8_wordHere 8 (.getfield 77) 3 11 := ⟨by decide +kernel, rfl⟩
theorem iX8_wordHere_11 : At cX8_wordHere 11 (.aload_n 0) 1 12 := ⟨by decide +kernel, rfl⟩
theorem iX8_wordHere_12 : At cX8_wordHere 12 (.getfield 80) 3 15 := ⟨by decide +kernel, rfl⟩
theorem iX8_wordHere_15 : At cX8_wordHere 15 (.if_icmp .le 21) 3 18 := ⟨by decide +kernel, rfl⟩
theorem iX8_wordHere_18 : At cX8_wordHere 18 (.aload_n 0) 1 19 := ⟨by decide +kernel, rfl⟩
theorem iX8_wordHere_19 : At cX8_wordHere 19 (.getfield 77) 3 22 := ⟨by decide +kernel, rfl⟩
theorem iX8_wordHere_22 : At cX8_wordHere 22 (.aload_n 0) 1 23 := ⟨by decide +kernel, rfl⟩
theorem iX8_wordHere_23 : At cX8_wordHere 23 (.getfield 80) 3 26 := ⟨by decide +kernel, rfl⟩
theorem iX8_wordHere_26 : At cX8_wordHere 26 (.isub) 1 27 := ⟨by decide +kernel, rfl⟩
theorem iX8_wordHere_27 : At cX8_wordHere 27 (.bipush 8) 2 29 := ⟨by decide +kernel, rfl⟩
theorem iX8_wordHere_29 : At cX8_wordHere 29 (.if_icmp .ge 7) 3 32 := ⟨by decide +kernel, rfl⟩
theorem iX8_wordHere_32 : At cX8_wordHere 32 (.iconst 1) 1 33 := ⟨by decide +kernel, rfl⟩
theorem iX8_wordHere_33 : At cX8_wordHere 33 (.goto 4) 3 36 := ⟨by decide +kernel, rfl⟩
theorem iX8_wordHere_36 : At cX8_wordHere 36 (.iconst 0) 1 37 := ⟨by decide +kernel, rfl⟩
theorem iX8_wordHere_37 : At cX8_wordHere 37 (.istore_n 2) 1 38 := ⟨by decide +kernel, rfl⟩
theorem iX8_wordHere_38 : At cX8_wordHere 38 (.iconst 0) 1 39 := ⟨by decide +kernel, rfl⟩
theorem iX8_wordHere_39 : At cX8_wordHere 39 (.istore_n 3) 1 40 := ⟨by decide +kernel, rfl⟩
theorem iX8_wordHere_40 : At cX8_wordHere 40 (.iload_n 3) 1 41 := ⟨by decide +kernel, rfl⟩
theorem iX8_wordHere_41 : At cX8_wordHere 41 (.bipush 7) 2 43 := ⟨by decide +kernel, rfl⟩
theorem iX8_wordHere_43 : At cX8_wordHere 43 (.if_icmp .ge 61) 3 46 := ⟨by decide +kernel, rfl⟩
theorem iX8_wordHere_46 : At cX8_wordHere 46 (.iload_n 2) 1 47 := ⟨by decide +kernel, rfl⟩
theorem iX8_wordHere_47 : At cX8_wordHere 47 (.ifCond .eq 57) 3 50 := ⟨by decide +kernel, rfl⟩
theorem iX8_wordHere_50 : At cX8_wordHere 50 (.aload_n 0) 1 51 := ⟨by decide +kernel, rfl⟩
theorem iX8_wordHere_51 : At cX8_wordHere 51 (.getfield 51) 3 54 := ⟨by decide +kernel, rfl⟩
theorem iX8_wordHere_54 : At cX8_wordHere 54 (.bipush 7) 2 56 := ⟨by decide +kernel, rfl⟩
theorem iX8_wordHere_56 : At cX8_wordHere 56 (.iload_n 1) 1 57 := ⟨by decide +kernel, rfl⟩
theorem iX8_wordHere_57 : At cX8_wordHere 57 (.imul) 1 58 := ⟨by decide +kernel, rfl⟩
theorem iX8_wordHere_58 : At cX8_wordHere 58 (.iload_n 3) 1 59 := ⟨by decide +kernel, rfl⟩
theorem iX8_wordHere_59 : At cX8_wordHere 59 (.iadd) 1 60 := ⟨by decide +kernel, rfl⟩
theorem iX8_wordHere_60 : At cX8_wordHere 60 (.iaload) 1 61 := ⟨by decide +kernel, rfl⟩
theorem iX8_wordHere_61 : At cX8_wordHere 61 (.aload_n 0) 1 62 := ⟨by decide +kernel, rfl⟩
theorem iX8_wordHere_62 : At cX8_wordHere 62 (.getfield 80) 3 65 := ⟨by decide +kernel, rfl⟩
theorem iX8_wordHere_65 : At cX8_wordHere 65 (.iload_n 3) 1 66 := ⟨by decide +kernel, rfl⟩
theorem iX8_wordHere_66 : At cX8_wordHere 66 (.iadd) 1 67 := ⟨by decide +kernel, rfl⟩
theorem iX8_wordHere_67 : At cX8_wordHere 67 (.aload_n 0) 1 68 := ⟨by decide +kernel, rfl⟩
theorem iX8_wordHere_68 : At cX8_wordHere 68 (.getfield 77) 3 71 := ⟨by decide +kernel, rfl⟩
theorem iX8_wordHere_71 : At cX8_wordHere 71 (.if_icmp .ge 17) 3 74 := ⟨by decide +kernel, rfl⟩
theorem iX8_wordHere_74 : At cX8_wordHere 74 (.aload_n 0) 1 75 := ⟨by decide +kernel, rfl⟩
theorem iX8_wordHere_75 : At cX8_wordHere 75 (.getfield 36) 3 78 := ⟨by decide +kernel, rfl⟩
theorem iX8_wordHere_78 : At cX8_wordHere 78 (.aload_n 0) 1 79 := ⟨by decide +kernel, rfl⟩
theorem iX8_wordHere_79 : At cX8_wordHere 79 (.getfield 80) 3 82 := ⟨by decide +kernel, rfl⟩
theorem iX8_wordHere_82 : At cX8_wordHere 82 (.iload_n 3) 1 83 := ⟨by decide +kernel, rfl⟩
theorem iX8_wordHere_83 : At cX8_wordHere 83 (.iadd) 1 84 := ⟨by decide +kernel, rfl⟩
theorem iX8_wordHere_84 : At cX8_wordHere 84 (.iaload) 1 85 := ⟨by decide +kernel, rfl⟩
theorem iX8_wordHere_85 : At cX8_wordHere 85 (.goto 4) 3 88 := ⟨by decide +kernel, rfl⟩
theorem iX8_wordHere_88 : At cX8_wordHere 88 (.iconst 0) 1 89 := ⟨by decide +kernel, rfl⟩
theorem iX8_wordHere_89 : At cX8_wordHere 89 (.if_icmp .ne 7) 3 92 := ⟨by decide +kernel, rfl⟩
theorem iX8_wordHere_92 : At cX8_wordHere 92 (.iconst 1) 1 93 := ⟨by decide +kernel, rfl⟩
theorem iX8_wordHere_93 : At cX8_wordHere 93 (.goto 4) 3 96 := ⟨by decide +kernel, rfl⟩
theorem iX8_wordHere_96 : At cX8_wordHere 96 (.iconst 0) 1 97 := ⟨by decide +kernel, rfl⟩
theorem iX8_wordHere_97 : At cX8_wordHere 97 (.istore_n 2) 1 98 := ⟨by decide +kernel, rfl⟩
theorem iX8_wordHere_98 : At cX8_wordHere 98 (.iinc 3 1) 3 101 := ⟨by decide +kernel, rfl⟩
theorem iX8_wordHere_101 : At cX8_wordHere 101 (.goto (-61)) 3 104 := ⟨by decide +kernel, rfl⟩
theorem iX8_wordHere_104 : At cX8_wordHere 104 (.iload_n 2) 1 105 := ⟨by decide +kernel, rfl⟩
theorem iX8_wordHere_105 : At cX8_wordHere 105 (.ifCond .eq 5) 3 108 := ⟨by decide +kernel, rfl⟩
theorem iX8_wordHere_108 : At cX8_wordHere 108 (.iload_n 1) 1 109 := ⟨by decide +kernel, rfl⟩
theorem iX8_wordHere_109 : At cX8_wordHere 109 (.ireturn) 1 110 := ⟨by decide +kernel, rfl⟩
theorem iX8_wordHere_110 : At cX8_wordHere 110 (.iinc 1 1) 3 113 := ⟨by decide +kernel, rfl⟩
theorem iX8_wordHere_113 : At cX8_wordHere 113 (.goto (-111)) 3 116 := ⟨by decide +kernel, rfl⟩
theorem iX8_wordHere_116 : At cX8_wordHere 116 (.iconst (-1)) 1 117 := ⟨by decide +kernel, rfl⟩
theorem iX8_wordHere_117 : At cX8_wordHere 117 (.ireturn) 1 118 := ⟨by decide +kernel, rfl⟩
theorem iX8_number_0 : At cX8_number 0 (.aload_n 0) 1 1 := ⟨by decide +kernel, rfl⟩
theorem iX8_number_1 : At cX8_number 1 (.getfield 80) 3 4 := ⟨by decide +kernel, rfl⟩
theorem iX8_number_4 : At cX8_number 4 (.aload_n 0) 1 5 := ⟨by decide +kernel, rfl⟩
theorem iX8_number_5 : At cX8_number 5 (.getfield 66) 3 8 := ⟨by decide +kernel, rfl⟩
theorem iX8_number_8 : At cX8_number 8 (.if_icmp .eq 31) 3 11 := ⟨by decide +kernel, rfl⟩
theorem iX8_number_11 : At cX8_number 11 (.aload_n 0) 1 12 := ⟨by decide +kernel, rfl⟩
theorem iX8_number_12 : At cX8_number 12 (.getfield 36) 3 15 := ⟨by decide +kernel, rfl⟩
theorem iX8_number_15 : At cX8_number 15 (.aload_n 0) 1 16 := ⟨by decide +kernel, rfl⟩
theorem iX8_number_16 : At cX8_number 16 (.getfield 80) 3 19 := ⟨by decide +kernel, rfl⟩
theorem iX8_number_19 : At cX8_number 19 (.iaload) 1 20 := ⟨by decide +kernel, rfl⟩
theorem iX8_number_20 : At cX8_number 20 (.invokestatic 87) 3 23 := ⟨by decide +kernel, rfl⟩
theorem iX8_number_23 : At cX8_number 23 (.ifCond .eq 16) 3 26 := ⟨by decide +kernel, rfl⟩
theorem iX8_number_26 : At cX8_number 26 (.aload_n 0) 1 27 := ⟨by decide +kernel, rfl⟩
theorem iX8_number_27 : At cX8_number 27 (.getfield 77) 3 30 := ⟨by decide +kernel, rfl⟩
theorem iX8_number_30 : At cX8_number 30 (.aload_n 0) 1 31 := ⟨by decide +kernel, rfl⟩
theorem iX8_number_31 : At cX8_number 31 (.getfield 80) 3 34 := ⟨by decide +kernel, rfl⟩
theorem iX8_number_34 : At cX8_number 34 (.isub) 1 35 := ⟨by decide +kernel, rfl⟩
theorem iX8_number_35 : At cX8_number 35 (.iconst 3) 1 36 := ⟨by decide +kernel, rfl⟩
theorem iX8_number_36 : At cX8_number 36 (.if_icmp .le 5) 3 39 := ⟨by decide +kernel, rfl⟩
theorem iX8_number_39 : At cX8_number 39 (.iconst 0) 1 40 := ⟨by decide +kernel, rfl⟩
theorem iX8_number_40 : At cX8_number 40 (.ireturn) 1 41 := ⟨by decide +kernel, rfl⟩
theorem iX8_number_41 : At cX8_number 41 (.iconst 0) 1 42 := ⟨by decide +kernel, rfl⟩
theorem iX8_number_42 : At cX8_number 42 (.istore 5) 2 44 := ⟨by decide +kernel, rfl⟩
theorem iX8_number_44 : At cX8_number 44 (.aload_n 0) 1 45 := ⟨by decide +kernel, rfl⟩
theorem iX8_number_45 : At cX8_number 45 (.getfield 80) 3 48 := ⟨by decide +kernel, rfl⟩
theorem iX8_number_48 : At cX8_number 48 (.istore 6) 2 50 := ⟨by decide +kernel, rfl⟩
theorem iX8_number_50 : At cX8_number 50 (.iload 6) 2 52 := ⟨by decide +kernel, rfl⟩
theorem iX8_number_52 : At cX8_number 52 (.aload_n 0) 1 53 := ⟨by decide +kernel, rfl⟩
theorem iX8_number_53 : At cX8_number 53 (.getfield 77) 3 56 := ⟨by decide +kernel, rfl⟩
theorem iX8_number_56 : At cX8_number 56 (.if_icmp .ge 27) 3 59 := ⟨by decide +kernel, rfl⟩
theorem iX8_number_59 : At cX8_number 59 (.bipush 10) 2 61 := ⟨by decide +kernel, rfl⟩
theorem iX8_number_61 : At cX8_number 61 (.iload 5) 2 63 := ⟨by decide +kernel, rfl⟩
theorem iX8_number_63 : At cX8_number 63 (.imul) 1 64 := ⟨by decide +kernel, rfl⟩
theorem iX8_number_64 : At cX8_number 64 (.aload_n 0) 1 65 := ⟨by decide +kernel, rfl⟩
theorem iX8_number_65 : At cX8_number 65 (.getfield 36) 3 68 := ⟨by decide +kernel, rfl⟩
theorem iX8_number_68 : At cX8_number 68 (.iload 6) 2 70 := ⟨by decide +kernel, rfl⟩
theorem iX8_number_70 : At cX8_number 70 (.iaload) 1 71 := ⟨by decide +kernel, rfl⟩
theorem iX8_number_71 : At cX8_number 71 (.iadd) 1 72 := ⟨by decide +kernel, rfl⟩
theorem iX8_number_72 : At cX8_number 72 (.bipush 48) 2 74 := ⟨by decide +kernel, rfl⟩
theorem iX8_number_74 : At cX8_number 74 (.isub) 1 75 := ⟨by decide +kernel, rfl⟩
theorem iX8_number_75 : At cX8_number 75 (.istore 5) 2 77 := ⟨by decide +kernel, rfl⟩
theorem iX8_number_77 : At cX8_number 77 (.iinc 6 1) 3 80 := ⟨by decide +kernel, rfl⟩
theorem iX8_number_80 : At cX8_number 80 (.goto (-30)) 3 83 := ⟨by decide +kernel, rfl⟩
theorem iX8_number_83 : At cX8_number 83 (.iload 5) 2 85 := ⟨by decide +kernel, rfl⟩
theorem iX8_number_85 : At cX8_number 85 (.i2l) 1 86 := ⟨by decide +kernel, rfl⟩
theorem iX8_number_86 : At cX8_number 86 (.iload_n 2) 1 87 := ⟨by decide +kernel, rfl⟩
theorem iX8_number_87 : At cX8_number 87 (.i2l) 1 88 := ⟨by decide +kernel, rfl⟩
theorem iX8_number_88 : At cX8_number 88 (.iload_n 3) 1 89 := ⟨by decide +kernel, rfl⟩
theorem iX8_number_89 : At cX8_number 89 (.i2l) 1 90 := ⟨by decide +kernel, rfl⟩
theorem iX8_number_90 : At cX8_number 90 (.invokestatic 62) 3 93 := ⟨by decide +kernel, rfl⟩
theorem iX8_number_93 : At cX8_number 93 (.ifCond .eq 14) 3 96 := ⟨by decide +kernel, rfl⟩
theorem iX8_number_96 : At cX8_number 96 (.iload 5) 2 98 := ⟨by decide +kernel, rfl⟩
theorem iX8_number_98 : At cX8_number 98 (.iload 4) 2 100 := ⟨by decide +kernel, rfl⟩
theorem iX8_number_100 : At cX8_number 100 (.if_icmp .eq 7) 3 103 := ⟨by decide +kernel, rfl⟩
theorem iX8_number_103 : At cX8_number 103 (.iconst 1) 1 104 := ⟨by decide +kernel, rfl⟩
theorem iX8_number_104 : At cX8_number 104 (.goto 4) 3 107 := ⟨by decide +kernel, rfl⟩
theorem iX8_number_107 : At cX8_number 107 (.iconst 0) 1 108 := ⟨by decide +kernel, rfl⟩
theorem iX8_number_108 : At cX8_number 108 (.istore 6) 2 110 := ⟨by decide +kernel, rfl⟩
theorem iX8_number_110 : At cX8_number 110 (.iload 6) 2 112 := ⟨by decide +kernel, rfl⟩
theorem iX8_number_112 : At cX8_number 112 (.ifCond .eq 15) 3 115 := ⟨by decide +kernel, rfl⟩
theorem iX8_number_115 : At cX8_number 115 (.aload_n 0) 1 116 := ⟨by decide +kernel, rfl⟩
theorem iX8_number_116 : At cX8_number 116 (.getfield 48) 3 119 := ⟨by decide +kernel, rfl⟩
theorem iX8_number_119 : At cX8_number 119 (.iload_n 1) 1 120 := ⟨by decide +kernel, rfl⟩
theorem iX8_number_120 : At cX8_number 120 (.iload 5) 2 122 := ⟨by decide +kernel, rfl⟩
theorem iX8_number_122 : At cX8_number 122 (.iastore) 1 123 := ⟨by decide +kernel, rfl⟩
theorem iX8_number_123 : At cX8_number 123 (.aload_n 0) 1 124 := ⟨by decide +kernel, rfl⟩
theorem iX8_number_124 : At cX8_number 124 (.invokevirtual 90) 3 127 := ⟨by decide +kernel, rfl⟩
theorem iX8_number_127 : At cX8_number 127 (.iload 6) 2 129 := ⟨by decide +kernel, rfl⟩
theorem iX8_number_129 : At cX8_number 129 (.ireturn) 1 130 := ⟨by decide +kernel, rfl⟩
theorem iX8_readsSection_0 : At cX8_readsSection 0 (.aload_n 0) 1 1 := ⟨by decide +kernel, rfl⟩
theorem iX8_readsSection_1 : At cX8_readsSection 1 (.iload_n 1) 1 2 := ⟨by decide +kernel, rfl⟩
theorem iX8_readsSection_2 : At cX8_readsSection 2 (.iconst 0) 1 3 := ⟨by decide +kernel, rfl⟩
theorem iX8_readsSection_3 : At cX8_readsSection 3 (.aload_n 0) 1 4 := ⟨by decide +kernel, rfl⟩
theorem iX8_readsSection_4 : At cX8_readsSection 4 (.getfield 93) 3 7 := ⟨by decide +kernel, rfl⟩
theorem iX8_readsSection_7 : At cX8_readsSection 7 (.iconst 1) 1 8 := ⟨by decide +kernel, rfl⟩
theorem iX8_readsSection_8 : At cX8_readsSection 8 (.isub) 1 9 := ⟨by decide +kernel, rfl⟩
theorem iX8_readsSection_9 : At cX8_readsSection 9 (.iload_n 2) 1 10 := ⟨by decide +kernel, rfl⟩
theorem iX8_readsSection_10 : At cX8_readsSection 10 (.invokevirtual 96) 3 13 := ⟨by decide +kernel, rfl⟩
theorem iX8_readsSection_13 : At cX8_readsSection 13 (.ireturn) 1 14 := ⟨by decide +kernel, rfl⟩
theorem iX8_readsRest_0 : At cX8_readsRest 0 (.iload_n 1) 1 1 := ⟨by decide +kernel, rfl⟩
theorem iX8_readsRest_1 : At cX8_readsRest 1 (.tableswitch 162 0 4 #[35, 37, 67, 96, 135]) 35 36 := ⟨by decide +kernel, rfl⟩
theorem iX8_readsRest_36 : At cX8_readsRest 36 (.iconst 1) 1 37 := ⟨by decide +kernel, rfl⟩
theorem iX8_readsRest_37 : At cX8_readsRest 37 (.ireturn) 1 38 := ⟨by decide +kernel, rfl⟩
theorem iX8_readsRest_38 : At cX8_readsRest 38 (.aload_n 0) 1 39 := ⟨by decide +kernel, rfl⟩
theorem iX8_readsRest_39 : At cX8_readsRest 39 (.iconst 0) 1 40 := ⟨by decide +kernel, rfl⟩
theorem iX8_readsRest_40 : At cX8_readsRest 40 (.iconst 1) 1 41 := ⟨by decide +kernel, rfl⟩
theorem iX8_readsRest_41 : At cX8_readsRest 41 (.bipush 99) 2 43 := ⟨by decide +kernel, rfl⟩
theorem iX8_readsRest_43 : At cX8_readsRest 43 (.iconst (-1)) 1 44 := ⟨by decide +kernel, rfl⟩
theorem iX8_readsRest_44 : At cX8_readsRest 44 (.invokevirtual 96) 3 47 := ⟨by decide +kernel, rfl⟩
theorem iX8_readsRest_47 : At cX8_readsRest 47 (.ifCond .eq 19) 3 50 := ⟨by decide +kernel, rfl⟩
theorem iX8_readsRest_50 : At cX8_readsRest 50 (.aload_n 0) 1 51 := ⟨by decide +kernel, rfl⟩
theorem iX8_readsRest_51 : At cX8_readsRest 51 (.iconst 1) 1 52 := ⟨by decide +kernel, rfl⟩
theorem iX8_readsRest_52 : At cX8_readsRest 52 (.iconst 1) 1 53 := ⟨by decide +kernel, rfl⟩
theorem iX8_readsRest_53 : At cX8_readsRest 53 (.bipush 99) 2 55 := ⟨by decide +kernel, rfl⟩
theorem iX8_readsRest_55 : At cX8_readsRest 55 (.iconst (-1)) 1 56 := ⟨by decide +kernel, rfl⟩
theorem iX8_readsRest_56 : At cX8_readsRest 56 (.invokevirtual 96) 3 59 := ⟨by decide +kernel, rfl⟩
theorem iX8_readsRest_59 : At cX8_readsRest 59 (.ifCond .eq 7) 3 62 := ⟨by decide +kernel, rfl⟩
theorem iX8_readsRest_62 : At cX8_readsRest 62 (.iconst 1) 1 63 := ⟨by decide +kernel, rfl⟩
theorem iX8_readsRest_63 : At cX8_readsRest 63 (.goto 4) 3 66 := ⟨by decide +kernel, rfl⟩
theorem iX8_readsRest_66 : At cX8_readsRest 66 (.iconst 0) 1 67 := ⟨by decide +kernel, rfl⟩
theorem iX8_readsRest_67 : At cX8_readsRest 67 (.ireturn) 1 68 := ⟨by decide +kernel, rfl⟩
theorem iX8_readsRest_68 : At cX8_readsRest 68 (.aload_n 0) 1 69 := ⟨by decide +kernel, rfl⟩
theorem iX8_readsRest_69 : At cX8_readsRest 69 (.iconst 0) 1 70 := ⟨by decide +kernel, rfl⟩
theorem iX8_readsRest_70 : At cX8_readsRest 70 (.iconst (-1)) 1 71 := ⟨by decide +kernel, rfl⟩
theorem iX8_readsRest_71 : At cX8_readsRest 71 (.invokevirtual 100) 3 74 := ⟨by decide +kernel, rfl⟩
theorem iX8_readsRest_74 : At cX8_readsRest 74 (.ifCond .eq 21) 3 77 := ⟨by decide +kernel, rfl⟩
theorem iX8_readsRest_77 : At cX8_readsRest 77 (.aload_n 0) 1 78 := ⟨by decide +kernel, rfl⟩
theorem iX8_readsRest_78 : At cX8_readsRest 78 (.iconst 1) 1 79 := ⟨by decide +kernel, rfl⟩
theorem iX8_readsRest_79 : At cX8_readsRest 79 (.aload_n 0) 1 80 := ⟨by decide +kernel, rfl⟩
theorem iX8_readsRest_80 : At cX8_readsRest 80 (.getfield 48) 3 83 := ⟨by decide +kernel, rfl⟩
theorem iX8_readsRest_83 : At cX8_readsRest 83 (.iconst 0) 1 84 := ⟨by decide +kernel, rfl⟩
theorem iX8_readsRest_84 : At cX8_readsRest 84 (.iaload) 1 85 := ⟨by decide +kernel, rfl⟩
theorem iX8_readsRest_85 : At cX8_readsRest 85 (.invokevirtual 100) 3 88 := ⟨by decide +kernel, rfl⟩
theorem iX8_readsRest_88 : At cX8_readsRest 88 (.ifCond .eq 7) 3 91 := ⟨by decide +kernel, rfl⟩
theorem iX8_readsRest_91 : At cX8_readsRest 91 (.iconst 1) 1 92 := ⟨by decide +kernel, rfl⟩
theorem iX8_readsRest_92 : At cX8_readsRest 92 (.goto 4) 3 95 := ⟨by decide +kernel, rfl⟩
theorem iX8_readsRest_95 : At cX8_readsRest 95 (.iconst 0) 1 96 := ⟨by decide +kernel, rfl⟩
theorem iX8_readsRest_96 : At cX8_readsRest 96 (.ireturn) 1 97 := ⟨by decide +kernel, rfl⟩
theorem iX8_readsRest_97 : At cX8_readsRest 97 (.aload_n 0) 1 98 := ⟨by decide +kernel, rfl⟩
theorem iX8_readsRest_98 : At cX8_readsRest 98 (.iconst 0) 1 99 := ⟨by decide +kernel, rfl⟩
theorem iX8_readsRest_99 : At cX8_readsRest 99 (.iconst (-1)) 1 100 := ⟨by decide +kernel, rfl⟩
theorem iX8_readsRest_100 : At cX8_readsRest 100 (.invokevirtual 100) 3 103 := ⟨by decide +kernel, rfl⟩
theorem iX8_readsRest_103 : At cX8_readsRest 103 (.ifCond .eq 31) 3 106 := ⟨by decide +kernel, rfl⟩
theorem iX8_readsRest_106 : At cX8_readsRest 106 (.aload_n 0) 1 107 := ⟨by decide +kernel, rfl⟩
theorem iX8_readsRest_107 : At cX8_readsRest 107 (.iconst 1) 1 108 := ⟨by decide +kernel, rfl⟩
theorem iX8_readsRest_108 : At cX8_readsRest 108 (.iconst 1) 1 109 := ⟨by decide +kernel, rfl⟩
theorem iX8_readsRest_109 : At cX8_readsRest 109 (.bipush 99) 2 111 := ⟨by decide +kernel, rfl⟩
theorem iX8_readsRest_111 : At cX8_readsRest 111 (.iconst (-1)) 1 112 := ⟨by decide +kernel, rfl⟩
theorem iX8_readsRest_112 : At cX8_readsRest 112 (.invokevirtual 96) 3 115 := ⟨by decide +kernel, rfl⟩
theorem iX8_readsRest_115 : At cX8_readsRest 115 (.ifCond .eq 19) 3 118 := ⟨by decide +kernel, rfl⟩
theorem iX8_readsRest_118 : At cX8_readsRest 118 (.aload_n 0) 1 119 := ⟨by decide +kernel, rfl⟩
theorem iX8_readsRest_119 : At cX8_readsRest 119 (.iconst 2) 1 120 := ⟨by decide +kernel, rfl⟩
theorem iX8_readsRest_120 : At cX8_readsRest 120 (.iconst 1) 1 121 := ⟨by decide +kernel, rfl⟩
theorem iX8_readsRest_121 : At cX8_readsRest 121 (.bipush 99) 2 123 := ⟨by decide +kernel, rfl⟩
theorem iX8_readsRest_123 : At cX8_readsRest 123 (.iconst (-1)) 1 124 := ⟨by decide +kernel, rfl⟩
theorem iX8_readsRest_124 : At cX8_readsRest 124 (.invokevirtual 96) 3 127 := ⟨by decide +kernel, rfl⟩
theorem iX8_readsRest_127 : At cX8_readsRest 127 (.ifCond .eq 7) 3 130 := ⟨by decide +kernel, rfl⟩
theorem iX8_readsRest_130 : At cX8_readsRest 130 (.iconst 1) 1 131 := ⟨by decide +kernel, rfl⟩
theorem iX8_readsRest_131 : At cX8_readsRest 131 (.goto 4) 3 134 := ⟨by decide +kernel, rfl⟩
theorem iX8_readsRest_134 : At cX8_readsRest 134 (.iconst 0) 1 135 := ⟨by decide +kernel, rfl⟩
theorem iX8_readsRest_135 : At cX8_readsRest 135 (.ireturn) 1 136 := ⟨by decide +kernel, rfl⟩
theorem iX8_readsRest_136 : At cX8_readsRest 136 (.aload_n 0) 1 137 := ⟨by decide +kernel, rfl⟩
theorem iX8_readsRest_137 : At cX8_readsRest 137 (.iconst 0) 1 138 := ⟨by decide +kernel, rfl⟩
theorem iX8_readsRest_138 : At cX8_readsRest 138 (.iconst (-1)) 1 139 := ⟨by decide +kernel, rfl⟩
theorem iX8_readsRest_139 : At cX8_readsRest 139 (.invokevirtual 100) 3 142 := ⟨by decide +kernel, rfl⟩
theorem iX8_readsRest_142 : At cX8_readsRest 142 (.ifCond .eq 19) 3 145 := ⟨by decide +kernel, rfl⟩
theorem iX8_readsRest_145 : At cX8_readsRest 145 (.aload_n 0) 1 146 := ⟨by decide +kernel, rfl⟩
theorem iX8_readsRest_146 : At cX8_readsRest 146 (.iconst 1) 1 147 := ⟨by decide +kernel, rfl⟩
theorem iX8_readsRest_147 : At cX8_readsRest 147 (.iconst 0) 1 148 := ⟨by decide +kernel, rfl⟩
theorem iX8_readsRest_148 : At cX8_readsRest 148 (.bipush 9) 2 150 := ⟨by decide +kernel, rfl⟩
theorem iX8_readsRest_150 : At cX8_readsRest 150 (.iconst (-1)) 1 151 := ⟨by decide +kernel, rfl⟩
theorem iX8_readsRest_151 : At cX8_readsRest 151 (.invokevirtual 96) 3 154 := ⟨by decide +kernel, rfl⟩
theorem iX8_readsRest_154 : At cX8_readsRest 154 (.ifCond .eq 7) 3 157 := ⟨by decide +kernel, rfl⟩
theorem iX8_readsRest_157 : At cX8_readsRest 157 (.iconst 1) 1 158 := ⟨by decide +kernel, rfl⟩
theorem iX8_readsRest_158 : At cX8_readsRest 158 (.goto 4) 3 161 := ⟨by decide +kernel, rfl⟩
theorem iX8_readsRest_161 : At cX8_readsRest 161 (.iconst 0) 1 162 := ⟨by decide +kernel, rfl⟩
theorem iX8_readsRest_162 : At cX8_readsRest 162 (.ireturn) 1 163 := ⟨by decide +kernel, rfl⟩
theorem iX8_readsRest_163 : At cX8_readsRest 163 (.aload_n 0) 1 164 := ⟨by decide +kernel, rfl⟩
theorem iX8_readsRest_164 : At cX8_readsRest 164 (.iconst 0) 1 165 := ⟨by decide +kernel, rfl⟩
theorem iX8_readsRest_165 : At cX8_readsRest 165 (.iconst 1) 1 166 := ⟨by decide +kernel, rfl⟩
theorem iX8_readsRest_166 : At cX8_readsRest 166 (.bipush 99) 2 168 := ⟨by decide +kernel, rfl⟩
theorem iX8_readsRest_168 : At cX8_readsRest 168 (.iconst (-1)) 1 169 := ⟨by decide +kernel, rfl⟩
theorem iX8_readsRest_169 : At cX8_readsRest 169 (.invokevirtual 96) 3 172 := ⟨by decide +kernel, rfl⟩
theorem iX8_readsRest_172 : At cX8_readsRest 172 (.ifCond .eq 31) 3 175 := ⟨by decide +kernel, rfl⟩
theorem iX8_readsRest_175 : At cX8_readsRest 175 (.aload_n 0) 1 176 := ⟨by decide +kernel, rfl⟩
theorem iX8_readsRest_176 : At cX8_readsRest 176 (.iconst 1) 1 177 := ⟨by decide +kernel, rfl⟩
theorem iX8_readsRest_177 : At cX8_readsRest 177 (.iconst 1) 1 178 := ⟨by decide +kernel, rfl⟩
theorem iX8_readsRest_178 : At cX8_readsRest 178 (.bipush 99) 2 180 := ⟨by decide +kernel, rfl⟩
theorem iX8_readsRest_180 : At cX8_readsRest 180 (.iconst (-1)) 1 181 := ⟨by decide +kernel, rfl⟩
theorem iX8_readsRest_181 : At cX8_readsRest 181 (.invokevirtual 96) 3 184 := ⟨by decide +kernel, rfl⟩
theorem iX8_readsRest_184 : At cX8_readsRest 184 (.ifCond .eq 19) 3 187 := ⟨by decide +kernel, rfl⟩
theorem iX8_readsRest_187 : At cX8_readsRest 187 (.aload_n 0) 1 188 := ⟨by decide +kernel, rfl⟩
theorem iX8_readsRest_188 : At cX8_readsRest 188 (.iconst 2) 1 189 := ⟨by decide +kernel, rfl⟩
theorem iX8_readsRest_189 : At cX8_readsRest 189 (.iconst 0) 1 190 := ⟨by decide +kernel, rfl⟩
theorem iX8_readsRest_190 : At cX8_readsRest 190 (.bipush 100) 2 192 := ⟨by decide +kernel, rfl⟩
theorem iX8_readsRest_192 : At cX8_readsRest 192 (.iconst (-1)) 1 193 := ⟨by decide +kernel, rfl⟩
theorem iX8_readsRest_193 : At cX8_readsRest 193 (.invokevirtual 96) 3 196 := ⟨by decide +kernel, rfl⟩
theorem iX8_readsRest_196 : At cX8_readsRest 196 (.ifCond .eq 7) 3 199 := ⟨by decide +kernel, rfl⟩
theorem iX8_readsRest_199 : At cX8_readsRest 199 (.iconst 1) 1 200 := ⟨by decide +kernel, rfl⟩
theorem iX8_readsRest_200 : At cX8_readsRest 200 (.goto 4) 3 203 := ⟨by decide +kernel, rfl⟩
theorem iX8_readsRest_203 : At cX8_readsRest 203 (.iconst 0) 1 204 := ⟨by decide +kernel, rfl⟩
theorem iX8_readsRest_204 : At cX8_readsRest 204 (.ireturn) 1 205 := ⟨by decide +kernel, rfl⟩
theorem iX8_addRiser_0 : At cX8_addRiser 0 (.aload_n 0) 1 1 := ⟨by decide +kernel, rfl⟩
theorem iX8_addRiser_1 : At cX8_addRiser 1 (.getfield 7) 3 4 := ⟨by decide +kernel, rfl⟩
theorem iX8_addRiser_4 : At cX8_addRiser 4 (.iconst 0) 1 5 := ⟨by decide +kernel, rfl⟩
theorem iX8_addRiser_5 : At cX8_addRiser 5 (.iaload) 1 6 := ⟨by decide +kernel, rfl⟩
theorem iX8_addRiser_6 : At cX8_addRiser 6 (.istore 4) 2 8 := ⟨by decide +kernel, rfl⟩
theorem iX8_addRiser_8 : At cX8_addRiser 8 (.aload_n 0) 1 9 := ⟨by decide +kernel, rfl⟩
theorem iX8_addRiser_9 : At cX8_addRiser 9 (.getfield 7) 3 12 := ⟨by decide +kernel, rfl⟩
theorem iX8_addRiser_12 : At cX8_addRiser 12 (.iconst 1) 1 13 := ⟨by decide +kernel, rfl⟩
theorem iX8_addRiser_13 : At cX8_addRiser 13 (.iload 4) 2 15 := ⟨by decide +kernel, rfl⟩
theorem iX8_addRiser_15 : At cX8_addRiser 15 (.iadd) 1 16 := ⟨by decide +kernel, rfl⟩
theorem iX8_addRiser_16 : At cX8_addRiser 16 (.iload_n 1) 1 17 := ⟨by decide +kernel, rfl⟩
theorem iX8_addRiser_17 : At cX8_addRiser 17 (.iastore) 1 18 := ⟨by decide +kernel, rfl⟩
theorem iX8_addRiser_18 : At cX8_addRiser 18 (.aload_n 0) 1 19 := ⟨by decide +kernel, rfl⟩
theorem iX8_addRiser_19 : At cX8_addRiser 19 (.getfield 7) 3 22 := ⟨by decide +kernel, rfl⟩
theorem iX8_addRiser_22 : At cX8_addRiser 22 (.bipush 7) 2 24 := ⟨by decide +kernel, rfl⟩
theorem iX8_addRiser_24 : At cX8_addRiser 24 (.iload 4) 2 26 := ⟨by decide +kernel, rfl⟩
theorem iX8_addRiser_26 : At cX8_addRiser 26 (.iadd) 1 27 := ⟨by decide +kernel, rfl⟩
theorem iX8_addRiser_27 : At cX8_addRiser 27 (.iload_n 2) 1 28 := ⟨by decide +kernel, rfl⟩
end
section
theorem iX8_addRiser_28 : At cX8_addRiser 28 (.iastore) 1 29 := ⟨by decide +kernel, rfl⟩
theorem iX8_addRiser_29 : At cX8_addRiser 29 (.aload_n 0) 1 30 := ⟨by decide +kernel, rfl⟩
theorem iX8_addRiser_30 : At cX8_addRiser 30 (.getfield 7) 3 33 := ⟨by decide +kernel, rfl⟩
theorem iX8_addRiser_33 : At cX8_addRiser 33 (.bipush 13) 2 35 := ⟨by decide +kernel, rfl⟩
theorem iX8_addRiser_35 : At cX8_addRiser 35 (.iload 4) 2 37 := ⟨by decide +kernel, rfl⟩
theorem iX8_addRiser_37 : At cX8_addRiser 37 (.iadd) 1 38 := ⟨by decide +kernel, rfl⟩
theorem iX8_addRiser_38 : At cX8_addRiser 38 (.iload_n 3) 1 39 := ⟨by decide +kernel, rfl⟩
theorem iX8_addRiser_39 : At cX8_addRiser 39 (.iastore) 1 40 := ⟨by decide +kernel, rfl⟩
theorem iX8_addRiser_40 : At cX8_addRiser 40 (.aload_n 0) 1 41 := ⟨by decide +kernel, rfl⟩
theorem iX8_addRiser_41 : At cX8_addRiser 41 (.getfield 7) 3 44 := ⟨by decide +kernel, rfl⟩
theorem iX8_addRiser_44 : At cX8_addRiser 44 (.iconst 0) 1 45 := ⟨by decide +kernel, rfl⟩
theorem iX8_addRiser_45 : At cX8_addRiser 45 (.dup2) 1 46 := ⟨by decide +kernel, rfl⟩
theorem iX8_addRiser_46 : At cX8_addRiser 46 (.iaload) 1 47 := ⟨by decide +kernel, rfl⟩
theorem iX8_addRiser_47 : At cX8_addRiser 47 (.iconst 1) 1 48 := ⟨by decide +kernel, rfl⟩
theorem iX8_addRiser_48 : At cX8_addRiser 48 (.iadd) 1 49 := ⟨by decide +kernel, rfl⟩
theorem iX8_addRiser_49 : At cX8_addRiser 49 (.iastore) 1 50 := ⟨by decide +kernel, rfl⟩
theorem iX8_addRiser_50 : At cX8_addRiser 50 (.return_) 1 51 := ⟨by decide +kernel, rfl⟩
theorem iX8_does_0 : At cX8_does 0 (.iload_n 1) 1 1 := ⟨by decide +kernel, rfl⟩
theorem iX8_does_1 : At cX8_does 1 (.tableswitch 180 0 4 #[35, 42, 85, 132, 157]) 35 36 := ⟨by decide +kernel, rfl⟩
theorem iX8_does_36 : At cX8_does 36 (.aload_n 0) 1 37 := ⟨by decide +kernel, rfl⟩
theorem iX8_does_37 : At cX8_does 37 (.invokevirtual 104) 3 40 := ⟨by decide +kernel, rfl⟩
theorem iX8_does_40 : At cX8_does 40 (.goto 171) 3 43 := ⟨by decide +kernel, rfl⟩
theorem iX8_does_43 : At cX8_does 43 (.aload_n 0) 1 44 := ⟨by decide +kernel, rfl⟩
theorem iX8_does_44 : At cX8_does 44 (.getfield 13) 3 47 := ⟨by decide +kernel, rfl⟩
theorem iX8_does_47 : At cX8_does 47 (.aload_n 0) 1 48 := ⟨by decide +kernel, rfl⟩
theorem iX8_does_48 : At cX8_does 48 (.getfield 57) 3 51 := ⟨by decide +kernel, rfl⟩
theorem iX8_does_51 : At cX8_does 51 (.aload_n 0) 1 52 := ⟨by decide +kernel, rfl⟩
theorem iX8_does_52 : At cX8_does 52 (.getfield 48) 3 55 := ⟨by decide +kernel, rfl⟩
theorem iX8_does_55 : At cX8_does 55 (.iconst 0) 1 56 := ⟨by decide +kernel, rfl⟩
theorem iX8_does_56 : At cX8_does 56 (.iaload) 1 57 := ⟨by decide +kernel, rfl⟩
theorem iX8_does_57 : At cX8_does 57 (.iastore) 1 58 := ⟨by decide +kernel, rfl⟩
theorem iX8_does_58 : At cX8_does 58 (.aload_n 0) 1 59 := ⟨by decide +kernel, rfl⟩
theorem iX8_does_59 : At cX8_does 59 (.getfield 16) 3 62 := ⟨by decide +kernel, rfl⟩
theorem iX8_does_62 : At cX8_does 62 (.aload_n 0) 1 63 := ⟨by decide +kernel, rfl⟩
theorem iX8_does_63 : At cX8_does 63 (.getfield 57) 3 66 := ⟨by decide +kernel, rfl⟩
theorem iX8_does_66 : At cX8_does 66 (.aload_n 0) 1 67 := ⟨by decide +kernel, rfl⟩
theorem iX8_does_67 : At cX8_does 67 (.getfield 48) 3 70 := ⟨by decide +kernel, rfl⟩
theorem iX8_does_70 : At cX8_does 70 (.iconst 1) 1 71 := ⟨by decide +kernel, rfl⟩
theorem iX8_does_71 : At cX8_does 71 (.iaload) 1 72 := ⟨by decide +kernel, rfl⟩
theorem iX8_does_72 : At cX8_does 72 (.iastore) 1 73 := ⟨by decide +kernel, rfl⟩
theorem iX8_does_73 : At cX8_does 73 (.aload_n 0) 1 74 := ⟨by decide +kernel, rfl⟩
theorem iX8_does_74 : At cX8_does 74 (.dup) 1 75 := ⟨by decide +kernel, rfl⟩
theorem iX8_does_75 : At cX8_does 75 (.getfield 57) 3 78 := ⟨by decide +kernel, rfl⟩
theorem iX8_does_78 : At cX8_does 78 (.iconst 1) 1 79 := ⟨by decide +kernel, rfl⟩
theorem iX8_does_79 : At cX8_does 79 (.iadd) 1 80 := ⟨by decide +kernel, rfl⟩
theorem iX8_does_80 : At cX8_does 80 (.putfield 57) 3 83 := ⟨by decide +kernel, rfl⟩
theorem iX8_does_83 : At cX8_does 83 (.goto 128) 3 86 := ⟨by decide +kernel, rfl⟩
theorem iX8_does_86 : At cX8_does 86 (.aload_n 0) 1 87 := ⟨by decide +kernel, rfl⟩
theorem iX8_does_87 : At cX8_does 87 (.getfield 19) 3 90 := ⟨by decide +kernel, rfl⟩
theorem iX8_does_90 : At cX8_does 90 (.aload_n 0) 1 91 := ⟨by decide +kernel, rfl⟩
theorem iX8_does_91 : At cX8_does 91 (.getfield 48) 3 94 := ⟨by decide +kernel, rfl⟩
theorem iX8_does_94 : At cX8_does 94 (.iconst 0) 1 95 := ⟨by decide +kernel, rfl⟩
theorem iX8_does_95 : At cX8_does 95 (.iaload) 1 96 := ⟨by decide +kernel, rfl⟩
theorem iX8_does_96 : At cX8_does 96 (.dup2) 1 97 := ⟨by decide +kernel, rfl⟩
theorem iX8_does_97 : At cX8_does 97 (.iaload) 1 98 := ⟨by decide +kernel, rfl⟩
theorem iX8_does_98 : At cX8_does 98 (.iconst 1) 1 99 := ⟨by decide +kernel, rfl⟩
theorem iX8_does_99 : At cX8_does 99 (.aload_n 0) 1 100 := ⟨by decide +kernel, rfl⟩
theorem iX8_does_100 : At cX8_does 100 (.getfield 48) 3 103 := ⟨by decide +kernel, rfl⟩
theorem iX8_does_103 : At cX8_does 103 (.iconst 1) 1 104 := ⟨by decide +kernel, rfl⟩
theorem iX8_does_104 : At cX8_does 104 (.iaload) 1 105 := ⟨by decide +kernel, rfl⟩
theorem iX8_does_105 : At cX8_does 105 (.ishl) 1 106 := ⟨by decide +kernel, rfl⟩
theorem iX8_does_106 : At cX8_does 106 (.ior) 1 107 := ⟨by decide +kernel, rfl⟩
theorem iX8_does_107 : At cX8_does 107 (.iastore) 1 108 := ⟨by decide +kernel, rfl⟩
theorem iX8_does_108 : At cX8_does 108 (.aload_n 0) 1 109 := ⟨by decide +kernel, rfl⟩
theorem iX8_does_109 : At cX8_does 109 (.getfield 19) 3 112 := ⟨by decide +kernel, rfl⟩
theorem iX8_does_112 : At cX8_does 112 (.aload_n 0) 1 113 := ⟨by decide +kernel, rfl⟩
theorem iX8_does_113 : At cX8_does 113 (.getfield 48) 3 116 := ⟨by decide +kernel, rfl⟩
theorem iX8_does_116 : At cX8_does 116 (.iconst 1) 1 117 := ⟨by decide +kernel, rfl⟩
theorem iX8_does_117 : At cX8_does 117 (.iaload) 1 118 := ⟨by decide +kernel, rfl⟩
theorem iX8_does_118 : At cX8_does 118 (.dup2) 1 119 := ⟨by decide +kernel, rfl⟩
theorem iX8_does_119 : At cX8_does 119 (.iaload) 1 120 := ⟨by decide +kernel, rfl⟩
theorem iX8_does_120 : At cX8_does 120 (.iconst 1) 1 121 := ⟨by decide +kernel, rfl⟩
theorem iX8_does_121 : At cX8_does 121 (.aload_n 0) 1 122 := ⟨by decide +kernel, rfl⟩
theorem iX8_does_122 : At cX8_does 122 (.getfield 48) 3 125 := ⟨by decide +kernel, rfl⟩
theorem iX8_does_125 : At cX8_does 125 (.iconst 0) 1 126 := ⟨by decide +kernel, rfl⟩
theorem iX8_does_126 : At cX8_does 126 (.iaload) 1 127 := ⟨by decide +kernel, rfl⟩
theorem iX8_does_127 : At cX8_does 127 (.ishl) 1 128 := ⟨by decide +kernel, rfl⟩
theorem iX8_does_128 : At cX8_does 128 (.ior) 1 129 := ⟨by decide +kernel, rfl⟩
theorem iX8_does_129 : At cX8_does 129 (.iastore) 1 130 := ⟨by decide +kernel, rfl⟩
theorem iX8_does_130 : At cX8_does 130 (.goto 81) 3 133 := ⟨by decide +kernel, rfl⟩
theorem iX8_does_133 : At cX8_does 133 (.aload_n 0) 1 134 := ⟨by decide +kernel, rfl⟩
theorem iX8_does_134 : At cX8_does 134 (.aload_n 0) 1 135 := ⟨by decide +kernel, rfl⟩
theorem iX8_does_135 : At cX8_does 135 (.getfield 48) 3 138 := ⟨by decide +kernel, rfl⟩
theorem iX8_does_138 : At cX8_does 138 (.iconst 0) 1 139 := ⟨by decide +kernel, rfl⟩
theorem iX8_does_139 : At cX8_does 139 (.iaload) 1 140 := ⟨by decide +kernel, rfl⟩
theorem iX8_does_140 : At cX8_does 140 (.aload_n 0) 1 141 := ⟨by decide +kernel, rfl⟩
theorem iX8_does_141 : At cX8_does 141 (.getfield 48) 3 144 := ⟨by decide +kernel, rfl⟩
theorem iX8_does_144 : At cX8_does 144 (.iconst 1) 1 145 := ⟨by decide +kernel, rfl⟩
theorem iX8_does_145 : At cX8_does 145 (.iaload) 1 146 := ⟨by decide +kernel, rfl⟩
theorem iX8_does_146 : At cX8_does 146 (.aload_n 0) 1 147 := ⟨by decide +kernel, rfl⟩
theorem iX8_does_147 : At cX8_does 147 (.getfield 48) 3 150 := ⟨by decide +kernel, rfl⟩
theorem iX8_does_150 : At cX8_does 150 (.iconst 2) 1 151 := ⟨by decide +kernel, rfl⟩
theorem iX8_does_151 : At cX8_does 151 (.iaload) 1 152 := ⟨by decide +kernel, rfl⟩
theorem iX8_does_152 : At cX8_does 152 (.invokevirtual 107) 3 155 := ⟨by decide +kernel, rfl⟩
theorem iX8_does_155 : At cX8_does 155 (.goto 56) 3 158 := ⟨by decide +kernel, rfl⟩
theorem iX8_does_158 : At cX8_does 158 (.aload_n 0) 1 159 := ⟨by decide +kernel, rfl⟩
theorem iX8_does_159 : At cX8_does 159 (.getfield 7) 3 162 := ⟨by decide +kernel, rfl⟩
theorem iX8_does_162 : At cX8_does 162 (.bipush 19) 2 164 := ⟨by decide +kernel, rfl⟩
theorem iX8_does_164 : At cX8_does 164 (.aload_n 0) 1 165 := ⟨by decide +kernel, rfl⟩
theorem iX8_does_165 : At cX8_does 165 (.getfield 48) 3 168 := ⟨by decide +kernel, rfl⟩
theorem iX8_does_168 : At cX8_does 168 (.iconst 0) 1 169 := ⟨by decide +kernel, rfl⟩
theorem iX8_does_169 : At cX8_does 169 (.iaload) 1 170 := ⟨by decide +kernel, rfl⟩
theorem iX8_does_170 : At cX8_does 170 (.iadd) 1 171 := ⟨by decide +kernel, rfl⟩
theorem iX8_does_171 : At cX8_does 171 (.aload_n 0) 1 172 := ⟨by decide +kernel, rfl⟩
theorem iX8_does_172 : At cX8_does 172 (.getfield 48) 3 175 := ⟨by decide +kernel, rfl⟩
theorem iX8_does_175 : At cX8_does 175 (.iconst 1) 1 176 := ⟨by decide +kernel, rfl⟩
theorem iX8_does_176 : At cX8_does 176 (.iaload) 1 177 := ⟨by decide +kernel, rfl⟩
theorem iX8_does_177 : At cX8_does 177 (.iastore) 1 178 := ⟨by decide +kernel, rfl⟩
theorem iX8_does_178 : At cX8_does 178 (.goto 33) 3 181 := ⟨by decide +kernel, rfl⟩
theorem iX8_does_181 : At cX8_does 181 (.aload_n 0) 1 182 := ⟨by decide +kernel, rfl⟩
theorem iX8_does_182 : At cX8_does 182 (.aload_n 0) 1 183 := ⟨by decide +kernel, rfl⟩
theorem iX8_does_183 : At cX8_does 183 (.getfield 48) 3 186 := ⟨by decide +kernel, rfl⟩
theorem iX8_does_186 : At cX8_does 186 (.iconst 0) 1 187 := ⟨by decide +kernel, rfl⟩
theorem iX8_does_187 : At cX8_does 187 (.iaload) 1 188 := ⟨by decide +kernel, rfl⟩
theorem iX8_does_188 : At cX8_does 188 (.putfield 22) 3 191 := ⟨by decide +kernel, rfl⟩
theorem iX8_does_191 : At cX8_does 191 (.aload_n 0) 1 192 := ⟨by decide +kernel, rfl⟩
theorem iX8_does_192 : At cX8_does 192 (.aload_n 0) 1 193 := ⟨by decide +kernel, rfl⟩
theorem iX8_does_193 : At cX8_does 193 (.getfield 48) 3 196 := ⟨by decide +kernel, rfl⟩
theorem iX8_does_196 : At cX8_does 196 (.iconst 1) 1 197 := ⟨by decide +kernel, rfl⟩
theorem iX8_does_197 : At cX8_does 197 (.iaload) 1 198 := ⟨by decide +kernel, rfl⟩
theorem iX8_does_198 : At cX8_does 198 (.putfield 26) 3 201 := ⟨by decide +kernel, rfl⟩
theorem iX8_does_201 : At cX8_does 201 (.aload_n 0) 1 202 := ⟨by decide +kernel, rfl⟩
theorem iX8_does_202 : At cX8_does 202 (.aload_n 0) 1 203 := ⟨by decide +kernel, rfl⟩
theorem iX8_does_203 : At cX8_does 203 (.getfield 48) 3 206 := ⟨by decide +kernel, rfl⟩
theorem iX8_does_206 : At cX8_does 206 (.iconst 2) 1 207 := ⟨by decide +kernel, rfl⟩
theorem iX8_does_207 : At cX8_does 207 (.iaload) 1 208 := ⟨by decide +kernel, rfl⟩
theorem iX8_does_208 : At cX8_does 208 (.putfield 29) 3 211 := ⟨by decide +kernel, rfl⟩
theorem iX8_does_211 : At cX8_does 211 (.return_) 1 212 := ⟨by decide +kernel, rfl⟩
theorem iX8_readsClause_0 : At cX8_readsClause 0 (.aload_n 0) 1 1 := ⟨by decide +kernel, rfl⟩
theorem iX8_readsClause_1 : At cX8_readsClause 1 (.invokevirtual 111) 3 4 := ⟨by decide +kernel, rfl⟩
theorem iX8_readsClause_4 : At cX8_readsClause 4 (.istore_n 1) 1 5 := ⟨by decide +kernel, rfl⟩
theorem iX8_readsClause_5 : At cX8_readsClause 5 (.iload_n 1) 1 6 := ⟨by decide +kernel, rfl⟩
theorem iX8_readsClause_6 : At cX8_readsClause 6 (.iconst (-1)) 1 7 := ⟨by decide +kernel, rfl⟩
theorem iX8_readsClause_7 : At cX8_readsClause 7 (.if_icmp .eq 31) 3 10 := ⟨by decide +kernel, rfl⟩
theorem iX8_readsClause_10 : At cX8_readsClause 10 (.iload_n 1) 1 11 := ⟨by decide +kernel, rfl⟩
theorem iX8_readsClause_11 : At cX8_readsClause 11 (.iconst 1) 1 12 := ⟨by decide +kernel, rfl⟩
theorem iX8_readsClause_12 : At cX8_readsClause 12 (.if_icmp .ne 12) 3 15 := ⟨by decide +kernel, rfl⟩
theorem iX8_readsClause_15 : At cX8_readsClause 15 (.aload_n 0) 1 16 := ⟨by decide +kernel, rfl⟩
theorem iX8_readsClause_16 : At cX8_readsClause 16 (.getfield 93) 3 19 := ⟨by decide +kernel, rfl⟩
theorem iX8_readsClause_19 : At cX8_readsClause 19 (.bipush 10) 2 21 := ⟨by decide +kernel, rfl⟩
theorem iX8_readsClause_21 : At cX8_readsClause 21 (.if_icmp .eq 17) 3 24 := ⟨by decide +kernel, rfl⟩
theorem iX8_readsClause_24 : At cX8_readsClause 24 (.iload_n 1) 1 25 := ⟨by decide +kernel, rfl⟩
theorem iX8_readsClause_25 : At cX8_readsClause 25 (.iconst 3) 1 26 := ⟨by decide +kernel, rfl⟩
theorem iX8_readsClause_26 : At cX8_readsClause 26 (.if_icmp .ne 14) 3 29 := ⟨by decide +kernel, rfl⟩
theorem iX8_readsClause_29 : At cX8_readsClause 29 (.aload_n 0) 1 30 := ⟨by decide +kernel, rfl⟩
theorem iX8_readsClause_30 : At cX8_readsClause 30 (.getfield 115) 3 33 := ⟨by decide +kernel, rfl⟩
theorem iX8_readsClause_33 : At cX8_readsClause 33 (.bipush 6) 2 35 := ⟨by decide +kernel, rfl⟩
theorem iX8_readsClause_35 : At cX8_readsClause 35 (.if_icmp .ne 5) 3 38 := ⟨by decide +kernel, rfl⟩
theorem iX8_readsClause_38 : At cX8_readsClause 38 (.iconst 0) 1 39 := ⟨by decide +kernel, rfl⟩
theorem iX8_readsClause_39 : At cX8_readsClause 39 (.ireturn) 1 40 := ⟨by decide +kernel, rfl⟩
theorem iX8_readsClause_40 : At cX8_readsClause 40 (.aload_n 0) 1 41 := ⟨by decide +kernel, rfl⟩
theorem iX8_readsClause_41 : At cX8_readsClause 41 (.invokevirtual 90) 3 44 := ⟨by decide +kernel, rfl⟩
theorem iX8_readsClause_44 : At cX8_readsClause 44 (.aload_n 0) 1 45 := ⟨by decide +kernel, rfl⟩
theorem iX8_readsClause_45 : At cX8_readsClause 45 (.iload_n 1) 1 46 := ⟨by decide +kernel, rfl⟩
theorem iX8_readsClause_46 : At cX8_readsClause 46 (.invokevirtual 118) 3 49 := ⟨by decide +kernel, rfl⟩
theorem iX8_readsClause_49 : At cX8_readsClause 49 (.ifCond .ne 5) 3 52 := ⟨by decide +kernel, rfl⟩
theorem iX8_readsClause_52 : At cX8_readsClause 52 (.iconst 0) 1 53 := ⟨by decide +kernel, rfl⟩
theorem iX8_readsClause_53 : At cX8_readsClause 53 (.ireturn) 1 54 := ⟨by decide +kernel, rfl⟩
theorem iX8_readsClause_54 : At cX8_readsClause 54 (.aload_n 0) 1 55 := ⟨by decide +kernel, rfl⟩
theorem iX8_readsClause_55 : At cX8_readsClause 55 (.iload_n 1) 1 56 := ⟨by decide +kernel, rfl⟩
theorem iX8_readsClause_56 : At cX8_readsClause 56 (.ifCond .ne 7) 3 59 := ⟨by decide +kernel, rfl⟩
theorem iX8_readsClause_59 : At cX8_readsClause 59 (.iconst 0) 1 60 := ⟨by decide +kernel, rfl⟩
theorem iX8_readsClause_60 : At cX8_readsClause 60 (.goto 21) 3 63 := ⟨by decide +kernel, rfl⟩
theorem iX8_readsClause_63 : At cX8_readsClause 63 (.iload_n 1) 1 64 := ⟨by decide +kernel, rfl⟩
theorem iX8_readsClause_64 : At cX8_readsClause 64 (.iconst 1) 1 65 := ⟨by decide +kernel, rfl⟩
theorem iX8_readsClause_65 : At cX8_readsClause 65 (.if_icmp .ne 12) 3 68 := ⟨by decide +kernel, rfl⟩
theorem iX8_readsClause_68 : At cX8_readsClause 68 (.aload_n 0) 1 69 := ⟨by decide +kernel, rfl⟩
theorem iX8_readsClause_69 : At cX8_readsClause 69 (.getfield 93) 3 72 := ⟨by decide +kernel, rfl⟩
theorem iX8_readsClause_72 : At cX8_readsClause 72 (.iconst 1) 1 73 := ⟨by decide +kernel, rfl⟩
theorem iX8_readsClause_73 : At cX8_readsClause 73 (.iadd) 1 74 := ⟨by decide +kernel, rfl⟩
theorem iX8_readsClause_74 : At cX8_readsClause 74 (.goto 7) 3 77 := ⟨by decide +kernel, rfl⟩
theorem iX8_readsClause_77 : At cX8_readsClause 77 (.aload_n 0) 1 78 := ⟨by decide +kernel, rfl⟩
theorem iX8_readsClause_78 : At cX8_readsClause 78 (.getfield 93) 3 81 := ⟨by decide +kernel, rfl⟩
theorem iX8_readsClause_81 : At cX8_readsClause 81 (.putfield 93) 3 84 := ⟨by decide +kernel, rfl⟩
theorem iX8_readsClause_84 : At cX8_readsClause 84 (.aload_n 0) 1 85 := ⟨by decide +kernel, rfl⟩
theorem iX8_readsClause_85 : At cX8_readsClause 85 (.iload_n 1) 1 86 := ⟨by decide +kernel, rfl⟩
theorem iX8_readsClause_86 : At cX8_readsClause 86 (.ifCond .ne 7) 3 89 := ⟨by decide +kernel, rfl⟩
theorem iX8_readsClause_89 : At cX8_readsClause 89 (.iconst 0) 1 90 := ⟨by decide +kernel, rfl⟩
theorem iX8_readsClause_90 : At cX8_readsClause 90 (.goto 21) 3 93 := ⟨by decide +kernel, rfl⟩
theorem iX8_readsClause_93 : At cX8_readsClause 93 (.iload_n 1) 1 94 := ⟨by decide +kernel, rfl⟩
theorem iX8_readsClause_94 : At cX8_readsClause 94 (.iconst 3) 1 95 := ⟨by decide +kernel, rfl⟩
theorem iX8_readsClause_95 : At cX8_readsClause 95 (.if_icmp .ne 12) 3 98 := ⟨by decide +kernel, rfl⟩
theorem iX8_readsClause_98 : At cX8_readsClause 98 (.aload_n 0) 1 99 := ⟨by decide +kernel, rfl⟩
theorem iX8_readsClause_99 : At cX8_readsClause 99 (.getfield 115) 3 102 := ⟨by decide +kernel, rfl⟩
theorem iX8_readsClause_102 : At cX8_readsClause 102 (.iconst 1) 1 103 := ⟨by decide +kernel, rfl⟩
theorem iX8_readsClause_103 : At cX8_readsClause 103 (.iadd) 1 104 := ⟨by decide +kernel, rfl⟩
theorem iX8_readsClause_104 : At cX8_readsClause 104 (.goto 7) 3 107 := ⟨by decide +kernel, rfl⟩
theorem iX8_readsClause_107 : At cX8_readsClause 107 (.aload_n 0) 1 108 := ⟨by decide +kernel, rfl⟩
theorem iX8_readsClause_108 : At cX8_readsClause 108 (.getfield 115) 3 111 := ⟨by decide +kernel, rfl⟩
theorem iX8_readsClause_111 : At cX8_readsClause 111 (.putfield 115) 3 114 := ⟨by decide +kernel, rfl⟩
theorem iX8_readsClause_114 : At cX8_readsClause 114 (.aload_n 0) 1 115 := ⟨by decide +kernel, rfl⟩
theorem iX8_readsClause_115 : At cX8_readsClause 115 (.getfield 121) 3 118 := ⟨by decide +kernel, rfl⟩
theorem iX8_readsClause_118 : At cX8_readsClause 118 (.ifCond .eq 8) 3 121 := ⟨by decide +kernel, rfl⟩
theorem iX8_readsClause_121 : At cX8_readsClause 121 (.aload_n 0) 1 122 := ⟨by decide +kernel, rfl⟩
theorem iX8_readsClause_122 : At cX8_readsClause 122 (.iload_n 1) 1 123 := ⟨by decide +kernel, rfl⟩
theorem iX8_readsClause_123 : At cX8_readsClause 123 (.invokevirtual 125) 3 126 := ⟨by decide +kernel, rfl⟩
theorem iX8_readsClause_126 : At cX8_readsClause 126 (.iconst 1) 1 127 := ⟨by decide +kernel, rfl⟩
theorem iX8_readsClause_127 : At cX8_readsClause 127 (.ireturn) 1 128 := ⟨by decide +kernel, rfl⟩
theorem iX8_reads_0 : At cX8_reads 0 (.aload_n 0) 1 1 := ⟨by decide +kernel, rfl⟩
theorem iX8_reads_1 : At cX8_reads 1 (.iload_n 1) 1 2 := ⟨by decide +kernel, rfl⟩
theorem iX8_reads_2 : At cX8_reads 2 (.putfield 121) 3 5 := ⟨by decide +kernel, rfl⟩
theorem iX8_reads_5 : At cX8_reads 5 (.aload_n 0) 1 6 := ⟨by decide +kernel, rfl⟩
theorem iX8_reads_6 : At cX8_reads 6 (.iconst 0) 1 7 := ⟨by decide +kernel, rfl⟩
theorem iX8_reads_7 : At cX8_reads 7 (.putfield 77) 3 10 := ⟨by decide +kernel, rfl⟩
theorem iX8_reads_10 : At cX8_reads 10 (.aload_n 0) 1 11 := ⟨by decide +kernel, rfl⟩
theorem iX8_reads_11 : At cX8_reads 11 (.iconst 1) 1 12 := ⟨by decide +kernel, rfl⟩
theorem iX8_reads_12 : At cX8_reads 12 (.putfield 129) 3 15 := ⟨by decide +kernel, rfl⟩
theorem iX8_reads_15 : At cX8_reads 15 (.aload_n 0) 1 16 := ⟨by decide +kernel, rfl⟩
theorem iX8_reads_16 : At cX8_reads 16 (.aload_n 0) 1 17 := ⟨by decide +kernel, rfl⟩
theorem iX8_reads_17 : At cX8_reads 17 (.getfield 57) 3 20 := ⟨by decide +kernel, rfl⟩
theorem iX8_reads_20 : At cX8_reads 20 (.putfield 93) 3 23 := ⟨by decide +kernel, rfl⟩
theorem iX8_reads_23 : At cX8_reads 23 (.aload_n 0) 1 24 := ⟨by decide +kernel, rfl⟩
theorem iX8_reads_24 : At cX8_reads 24 (.aload_n 0) 1 25 := ⟨by decide +kernel, rfl⟩
theorem iX8_reads_25 : At cX8_reads 25 (.getfield 7) 3 28 := ⟨by decide +kernel, rfl⟩
theorem iX8_reads_28 : At cX8_reads 28 (.sipush 319) 3 31 := ⟨by decide +kernel, rfl⟩
theorem iX8_reads_31 : At cX8_reads 31 (.iaload) 1 32 := ⟨by decide +kernel, rfl⟩
theorem iX8_reads_32 : At cX8_reads 32 (.putfield 115) 3 35 := ⟨by decide +kernel, rfl⟩
theorem iX8_reads_35 : At cX8_reads 35 (.aload_n 0) 1 36 := ⟨by decide +kernel, rfl⟩
theorem iX8_reads_36 : At cX8_reads 36 (.invokevirtual 90) 3 39 := ⟨by decide +kernel, rfl⟩
theorem iX8_reads_39 : At cX8_reads 39 (.aload_n 0) 1 40 := ⟨by decide +kernel, rfl⟩
theorem iX8_reads_40 : At cX8_reads 40 (.invokevirtual 132) 3 43 := ⟨by decide +kernel, rfl⟩
theorem iX8_reads_43 : At cX8_reads 43 (.istore_n 2) 1 44 := ⟨by decide +kernel, rfl⟩
theorem iX8_reads_44 : At cX8_reads 44 (.iload_n 2) 1 45 := ⟨by decide +kernel, rfl⟩
theorem iX8_reads_45 : At cX8_reads 45 (.ifCond .eq 69) 3 48 := ⟨by decide +kernel, rfl⟩
theorem iX8_reads_48 : At cX8_reads 48 (.aload_n 0) 1 49 := ⟨by decide +kernel, rfl⟩
theorem iX8_reads_49 : At cX8_reads 49 (.getfield 80) 3 52 := ⟨by decide +kernel, rfl⟩
theorem iX8_reads_52 : At cX8_reads 52 (.aload_n 0) 1 53 := ⟨by decide +kernel, rfl⟩
theorem iX8_reads_53 : At cX8_reads 53 (.getfield 66) 3 56 := ⟨by decide +kernel, rfl⟩
theorem iX8_reads_56 : At cX8_reads 56 (.if_icmp .ge 58) 3 59 := ⟨by decide +kernel, rfl⟩
theorem iX8_reads_59 : At cX8_reads 59 (.aload_n 0) 1 60 := ⟨by decide +kernel, rfl⟩
theorem iX8_reads_60 : At cX8_reads 60 (.getfield 129) 3 63 := ⟨by decide +kernel, rfl⟩
theorem iX8_reads_63 : At cX8_reads 63 (.bipush 24) 2 65 := ⟨by decide +kernel, rfl⟩
theorem iX8_reads_65 : At cX8_reads 65 (.if_icmp .ge 21) 3 68 := ⟨by decide +kernel, rfl⟩
theorem iX8_reads_68 : At cX8_reads 68 (.aload_n 0) 1 69 := ⟨by decide +kernel, rfl⟩
theorem iX8_reads_69 : At cX8_reads 69 (.getfield 36) 3 72 := ⟨by decide +kernel, rfl⟩
theorem iX8_reads_72 : At cX8_reads 72 (.aload_n 0) 1 73 := ⟨by decide +kernel, rfl⟩
theorem iX8_reads_73 : At cX8_reads 73 (.getfield 80) 3 76 := ⟨by decide +kernel, rfl⟩
theorem iX8_reads_76 : At cX8_reads 76 (.iaload) 1 77 := ⟨by decide +kernel, rfl⟩
theorem iX8_reads_77 : At cX8_reads 77 (.bipush 59) 2 79 := ⟨by decide +kernel, rfl⟩
theorem iX8_reads_79 : At cX8_reads 79 (.if_icmp .ne 7) 3 82 := ⟨by decide +kernel, rfl⟩
theorem iX8_reads_82 : At cX8_reads 82 (.iconst 1) 1 83 := ⟨by decide +kernel, rfl⟩
theorem iX8_reads_83 : At cX8_reads 83 (.goto 4) 3 86 := ⟨by decide +kernel, rfl⟩
theorem iX8_reads_86 : At cX8_reads 86 (.iconst 0) 1 87 := ⟨by decide +kernel, rfl⟩
theorem iX8_reads_87 : At cX8_reads 87 (.istore_n 2) 1 88 := ⟨by decide +kernel, rfl⟩
theorem iX8_reads_88 : At cX8_reads 88 (.iload_n 2) 1 89 := ⟨by decide +kernel, rfl⟩
theorem iX8_reads_89 : At cX8_reads 89 (.ifCond .eq (-45)) 3 92 := ⟨by decide +kernel, rfl⟩
theorem iX8_reads_92 : At cX8_reads 92 (.aload_n 0) 1 93 := ⟨by decide +kernel, rfl⟩
theorem iX8_reads_93 : At cX8_reads 93 (.invokevirtual 90) 3 96 := ⟨by decide +kernel, rfl⟩
theorem iX8_reads_96 : At cX8_reads 96 (.aload_n 0) 1 97 := ⟨by decide +kernel, rfl⟩
theorem iX8_reads_97 : At cX8_reads 97 (.invokevirtual 132) 3 100 := ⟨by decide +kernel, rfl⟩
theorem iX8_reads_100 : At cX8_reads 100 (.istore_n 2) 1 101 := ⟨by decide +kernel, rfl⟩
theorem iX8_reads_101 : At cX8_reads 101 (.aload_n 0) 1 102 := ⟨by decide +kernel, rfl⟩
theorem iX8_reads_102 : At cX8_reads 102 (.dup) 1 103 := ⟨by decide +kernel, rfl⟩
theorem iX8_reads_103 : At cX8_reads 103 (.getfield 129) 3 106 := ⟨by decide +kernel, rfl⟩
theorem iX8_reads_106 : At cX8_reads 106 (.iconst 1) 1 107 := ⟨by decide +kernel, rfl⟩
theorem iX8_reads_107 : At cX8_reads 107 (.iadd) 1 108 := ⟨by decide +kernel, rfl⟩
theorem iX8_reads_108 : At cX8_reads 108 (.putfield 129) 3 111 := ⟨by decide +kernel, rfl⟩
theorem iX8_reads_111 : At cX8_reads 111 (.goto (-67)) 3 114 := ⟨by decide +kernel, rfl⟩
theorem iX8_reads_114 : At cX8_reads 114 (.iload_n 2) 1 115 := ⟨by decide +kernel, rfl⟩
theorem iX8_reads_115 : At cX8_reads 115 (.ireturn) 1 116 := ⟨by decide +kernel, rfl⟩
theorem iX8_fault_0 : At cX8_fault 0 (.aload_n 0) 1 1 := ⟨by decide +kernel, rfl⟩
theorem iX8_fault_1 : At cX8_fault 1 (.iconst 0) 1 2 := ⟨by decide +kernel, rfl⟩
theorem iX8_fault_2 : At cX8_fault 2 (.invokevirtual 136) 3 5 := ⟨by decide +kernel, rfl⟩
theorem iX8_fault_5 : At cX8_fault 5 (.ifCond .eq 7) 3 8 := ⟨by decide +kernel, rfl⟩
theorem iX8_fault_8 : At cX8_fault 8 (.iconst (-1)) 1 9 := ⟨by decide +kernel, rfl⟩
theorem iX8_fault_9 : At cX8_fault 9 (.goto 7) 3 12 := ⟨by decide +kernel, rfl⟩
theorem iX8_fault_12 : At cX8_fault 12 (.aload_n 0) 1 13 := ⟨by decide +kernel, rfl⟩
theorem iX8_fault_13 : At cX8_fault 13 (.getfield 80) 3 16 := ⟨by decide +kernel, rfl⟩
theorem iX8_fault_16 : At cX8_fault 16 (.ireturn) 1 17 := ⟨by decide +kernel, rfl⟩
theorem iX8_casting_0 : At cX8_casting 0 (.aload_n 0) 1 1 := ⟨by decide +kernel, rfl⟩
theorem iX8_casting_1 : At cX8_casting 1 (.iconst 0) 1 2 := ⟨by decide +kernel, rfl⟩
theorem iX8_casting_2 : At cX8_casting 2 (.invokevirtual 136) 3 5 := ⟨by decide +kernel, rfl⟩
theorem iX8_casting_5 : At cX8_casting 5 (.ifCond .ne 6) 3 8 := ⟨by decide +kernel, rfl⟩
theorem iX8_casting_8 : At cX8_casting 8 (.bipush (-4)) 2 10 := ⟨by decide +kernel, rfl⟩
theorem iX8_casting_10 : At cX8_casting 10 (.ireturn) 1 11 := ⟨by decide +kernel, rfl⟩
theorem iX8_casting_11 : At cX8_casting 11 (.aload_n 0) 1 12 := ⟨by decide +kernel, rfl⟩
theorem iX8_casting_12 : At cX8_casting 12 (.sipush 319) 3 15 := ⟨by decide +kernel, rfl⟩
theorem iX8_casting_15 : At cX8_casting 15 (.iconst 0) 1 16 := ⟨by decide +kernel, rfl⟩
theorem iX8_casting_16 : At cX8_casting 16 (.invokevirtual 140) 3 19 := ⟨by decide +kernel, rfl⟩
theorem iX8_casting_19 : At cX8_casting 19 (.aload_n 0) 1 20 := ⟨by decide +kernel, rfl⟩
theorem iX8_casting_20 : At cX8_casting 20 (.iconst 1) 1 21 := ⟨by decide +kernel, rfl⟩
theorem iX8_casting_21 : At cX8_casting 21 (.invokevirtual 136) 3 24 := ⟨by decide +kernel, rfl⟩
theorem iX8_casting_24 : At cX8_casting 24 (.pop) 1 25 := ⟨by decide +kernel, rfl⟩
theorem iX8_casting_25 : At cX8_casting 25 (.aload_n 0) 1 26 := ⟨by decide +kernel, rfl⟩
theorem iX8_casting_26 : At cX8_casting 26 (.iconst 0) 1 27 := ⟨by decide +kernel, rfl⟩
theorem iX8_casting_27 : At cX8_casting 27 (.sipush 319) 3 30 := ⟨by decide +kernel, rfl⟩
theorem iX8_casting_30 : At cX8_casting 30 (.invokevirtual 140) 3 33 := ⟨by decide +kernel, rfl⟩
theorem iX8_casting_33 : At cX8_casting 33 (.aload_n 0) 1 34 := ⟨by decide +kernel, rfl⟩
theorem iX8_casting_34 : At cX8_casting 34 (.iconst 0) 1 35 := ⟨by decide +kernel, rfl⟩
theorem iX8_casting_35 : At cX8_casting 35 (.putfield 66) 3 38 := ⟨by decide +kernel, rfl⟩
theorem iX8_casting_38 : At cX8_casting 38 (.aload_n 0) 1 39 := ⟨by decide +kernel, rfl⟩
theorem iX8_casting_39 : At cX8_casting 39 (.iconst 0) 1 40 := ⟨by decide +kernel, rfl⟩
theorem iX8_casting_40 : At cX8_casting 40 (.putfield 144) 3 43 := ⟨by decide +kernel, rfl⟩
theorem iX8_casting_43 : At cX8_casting 43 (.aload_n 0) 1 44 := ⟨by decide +kernel, rfl⟩
theorem iX8_casting_44 : At cX8_casting 44 (.getfield 32) 3 47 := ⟨by decide +kernel, rfl⟩
theorem iX8_casting_47 : At cX8_casting 47 (.iconst 0) 1 48 := ⟨by decide +kernel, rfl⟩
theorem iX8_casting_48 : At cX8_casting 48 (.iconst 0) 1 49 := ⟨by decide +kernel, rfl⟩
theorem iX8_casting_49 : At cX8_casting 49 (.bastore) 1 50 := ⟨by decide +kernel, rfl⟩
theorem iX8_casting_50 : At cX8_casting 50 (.aload_n 0) 1 51 := ⟨by decide +kernel, rfl⟩
theorem iX8_casting_51 : At cX8_casting 51 (.getfield 32) 3 54 := ⟨by decide +kernel, rfl⟩
theorem iX8_casting_54 : At cX8_casting 54 (.iconst 1) 1 55 := ⟨by decide +kernel, rfl⟩
theorem iX8_casting_55 : At cX8_casting 55 (.iconst 0) 1 56 := ⟨by decide +kernel, rfl⟩
theorem iX8_casting_56 : At cX8_casting 56 (.bastore) 1 57 := ⟨by decide +kernel, rfl⟩
theorem iX8_casting_57 : At cX8_casting 57 (.iconst 0) 1 58 := ⟨by decide +kernel, rfl⟩
theorem iX8_casting_58 : At cX8_casting 58 (.istore_n 1) 1 59 := ⟨by decide +kernel, rfl⟩
theorem iX8_casting_59 : At cX8_casting 59 (.iload_n 1) 1 60 := ⟨by decide +kernel, rfl⟩
theorem iX8_casting_60 : At cX8_casting 60 (.iconst 3) 1 61 := ⟨by decide +kernel, rfl⟩
theorem iX8_casting_61 : At cX8_casting 61 (.if_icmp .ge 16) 3 64 := ⟨by decide +kernel, rfl⟩
theorem iX8_casting_64 : At cX8_casting 64 (.aload_n 0) 1 65 := ⟨by decide +kernel, rfl⟩
theorem iX8_casting_65 : At cX8_casting 65 (.getfield 39) 3 68 := ⟨by decide +kernel, rfl⟩
theorem iX8_casting_68 : At cX8_casting 68 (.iload_n 1) 1 69 := ⟨by decide +kernel, rfl⟩
theorem iX8_casting_69 : At cX8_casting 69 (.iconst (-1)) 1 70 := ⟨by decide +kernel, rfl⟩
theorem iX8_casting_70 : At cX8_casting 70 (.iastore) 1 71 := ⟨by decide +kernel, rfl⟩
theorem iX8_casting_71 : At cX8_casting 71 (.iinc 1 1) 3 74 := ⟨by decide +kernel, rfl⟩
theorem iX8_casting_74 : At cX8_casting 74 (.goto (-15)) 3 77 := ⟨by decide +kernel, rfl⟩
theorem iX8_casting_77 : At cX8_casting 77 (.aload_n 0) 1 78 := ⟨by decide +kernel, rfl⟩
theorem iX8_casting_78 : At cX8_casting 78 (.getfield 129) 3 81 := ⟨by decide +kernel, rfl⟩
theorem iX8_casting_81 : At cX8_casting 81 (.ireturn) 1 82 := ⟨by decide +kernel, rfl⟩
theorem iX8_isSection_0 : At cX8_isSection 0 (.iload_n 1) 1 1 := ⟨by decide +kernel, rfl⟩
theorem iX8_isSection_1 : At cX8_isSection 1 (.i2l) 1 2 := ⟨by decide +kernel, rfl⟩
theorem iX8_isSection_2 : At cX8_isSection 2 (.lconst 0) 1 3 := ⟨by decide +kernel, rfl⟩
theorem iX8_isSection_3 : At cX8_isSection 3 (.aload_n 0) 1 4 := ⟨by decide +kernel, rfl⟩
theorem iX8_isSection_4 : At cX8_isSection 4 (.getfield 57) 3 7 := ⟨by decide +kernel, rfl⟩
theorem iX8_isSection_7 : At cX8_isSection 7 (.iconst 1) 1 8 := ⟨by decide +kernel, rfl⟩
theorem iX8_isSection_8 : At cX8_isSection 8 (.isub) 1 9 := ⟨by decide +kernel, rfl⟩
theorem iX8_isSection_9 : At cX8_isSection 9 (.i2l) 1 10 := ⟨by decide +kernel, rfl⟩
theorem iX8_isSection_10 : At cX8_isSection 10 (.invokestatic 62) 3 13 := ⟨by decide +kernel, rfl⟩
theorem iX8_isSection_13 : At cX8_isSection 13 (.ireturn) 1 14 := ⟨by decide +kernel, rfl⟩
theorem iX8_skinOf_0 : At cX8_skinOf 0 (.aload_n 0) 1 1 := ⟨by decide +kernel, rfl⟩
theorem iX8_skinOf_1 : At cX8_skinOf 1 (.getfield 16) 3 4 := ⟨by decide +kernel, rfl⟩
theorem iX8_skinOf_4 : At cX8_skinOf 4 (.iload_n 1) 1 5 := ⟨by decide +kernel, rfl⟩
theorem iX8_skinOf_5 : At cX8_skinOf 5 (.iaload) 1 6 := ⟨by decide +kernel, rfl⟩
theorem iX8_skinOf_6 : At cX8_skinOf 6 (.bipush 10) 2 8 := ⟨by decide +kernel, rfl⟩
theorem iX8_skinOf_8 : At cX8_skinOf 8 (.aload_n 0) 1 9 := ⟨by decide +kernel, rfl⟩
theorem iX8_skinOf_9 : At cX8_skinOf 9 (.getfield 7) 3 12 := ⟨by decide +kernel, rfl⟩
theorem iX8_skinOf_12 : At cX8_skinOf 12 (.bipush 19) 2 14 := ⟨by decide +kernel, rfl⟩
theorem iX8_skinOf_14 : At cX8_skinOf 14 (.iload_n 1) 1 15 := ⟨by decide +kernel, rfl⟩
theorem iX8_skinOf_15 : At cX8_skinOf 15 (.iadd) 1 16 := ⟨by decide +kernel, rfl⟩
theorem iX8_skinOf_16 : At cX8_skinOf 16 (.iaload) 1 17 := ⟨by decide +kernel, rfl⟩
theorem iX8_skinOf_17 : At cX8_skinOf 17 (.imul) 1 18 := ⟨by decide +kernel, rfl⟩
theorem iX8_skinOf_18 : At cX8_skinOf 18 (.iadd) 1 19 := ⟨by decide +kernel, rfl⟩
theorem iX8_skinOf_19 : At cX8_skinOf 19 (.ireturn) 1 20 := ⟨by decide +kernel, rfl⟩
theorem iX8_isLater_0 : At cX8_isLater 0 (.aload_n 0) 1 1 := ⟨by decide +kernel, rfl⟩
theorem iX8_isLater_1 : At cX8_isLater 1 (.getfield 13) 3 4 := ⟨by decide +kernel, rfl⟩
theorem iX8_isLater_4 : At cX8_isLater 4 (.iload_n 1) 1 5 := ⟨by decide +kernel, rfl⟩
theorem iX8_isLater_5 : At cX8_isLater 5 (.iaload) 1 6 := ⟨by decide +kernel, rfl⟩
theorem iX8_isLater_6 : At cX8_isLater 6 (.aload_n 0) 1 7 := ⟨by decide +kernel, rfl⟩
theorem iX8_isLater_7 : At cX8_isLater 7 (.iload_n 2) 1 8 := ⟨by decide +kernel, rfl⟩
theorem iX8_isLater_8 : At cX8_isLater 8 (.invokevirtual 147) 3 11 := ⟨by decide +kernel, rfl⟩
theorem iX8_isLater_11 : At cX8_isLater 11 (.imul) 1 12 := ⟨by decide +kernel, rfl⟩
theorem iX8_isLater_12 : At cX8_isLater 12 (.istore_n 3) 1 13 := ⟨by decide +kernel, rfl⟩
theorem iX8_isLater_13 : At cX8_isLater 13 (.aload_n 0) 1 14 := ⟨by decide +kernel, rfl⟩
theorem iX8_isLater_14 : At cX8_isLater 14 (.getfield 13) 3 17 := ⟨by decide +kernel, rfl⟩
theorem iX8_isLater_17 : At cX8_isLater 17 (.iload_n 2) 1 18 := ⟨by decide +kernel, rfl⟩
theorem iX8_isLater_18 : At cX8_isLater 18 (.iaload) 1 19 := ⟨by decide +kernel, rfl⟩
theorem iX8_isLater_19 : At cX8_isLater 19 (.aload_n 0) 1 20 := ⟨by decide +kernel, rfl⟩
theorem iX8_isLater_20 : At cX8_isLater 20 (.iload_n 1) 1 21 := ⟨by decide +kernel, rfl⟩
theorem iX8_isLater_21 : At cX8_isLater 21 (.invokevirtual 147) 3 24 := ⟨by decide +kernel, rfl⟩
theorem iX8_isLater_24 : At cX8_isLater 24 (.imul) 1 25 := ⟨by decide +kernel, rfl⟩
theorem iX8_isLater_25 : At cX8_isLater 25 (.istore 4) 2 27 := ⟨by decide +kernel, rfl⟩
theorem iX8_isLater_27 : At cX8_isLater 27 (.iload_n 3) 1 28 := ⟨by decide +kernel, rfl⟩
theorem iX8_isLater_28 : At cX8_isLater 28 (.iload 4) 2 30 := ⟨by decide +kernel, rfl⟩
theorem iX8_isLater_30 : At cX8_isLater 30 (.if_icmp .gt 14) 3 33 := ⟨by decide +kernel, rfl⟩
theorem iX8_isLater_33 : At cX8_isLater 33 (.iload_n 3) 1 34 := ⟨by decide +kernel, rfl⟩
theorem iX8_isLater_34 : At cX8_isLater 34 (.iload 4) 2 36 := ⟨by decide +kernel, rfl⟩
theorem iX8_isLater_36 : At cX8_isLater 36 (.if_icmp .ne 12) 3 39 := ⟨by decide +kernel, rfl⟩
theorem iX8_isLater_39 : At cX8_isLater 39 (.iload_n 1) 1 40 := ⟨by decide +kernel, rfl⟩
theorem iX8_isLater_40 : At cX8_isLater 40 (.iload_n 2) 1 41 := ⟨by decide +kernel, rfl⟩
theorem iX8_isLater_41 : At cX8_isLater 41 (.if_icmp .ge 7) 3 44 := ⟨by decide +kernel, rfl⟩
theorem iX8_isLater_44 : At cX8_isLater 44 (.iconst 1) 1 45 := ⟨by decide +kernel, rfl⟩
theorem iX8_isLater_45 : At cX8_isLater 45 (.goto 4) 3 48 := ⟨by decide +kernel, rfl⟩
theorem iX8_isLater_48 : At cX8_isLater 48 (.iconst 0) 1 49 := ⟨by decide +kernel, rfl⟩
theorem iX8_isLater_49 : At cX8_isLater 49 (.ireturn) 1 50 := ⟨by decide +kernel, rfl⟩
theorem iX8_latest_0 : At cX8_latest 0 (.iconst (-1)) 1 1 := ⟨by decide +kernel, rfl⟩
theorem iX8_latest_1 : At cX8_latest 1 (.istore_n 2) 1 2 := ⟨by decide +kernel, rfl⟩
theorem iX8_latest_2 : At cX8_latest 2 (.iconst 0) 1 3 := ⟨by decide +kernel, rfl⟩
theorem iX8_latest_3 : At cX8_latest 3 (.istore_n 3) 1 4 := ⟨by decide +kernel, rfl⟩
theorem iX8_latest_4 : At cX8_latest 4 (.iload_n 3) 1 5 := ⟨by decide +kernel, rfl⟩
theorem iX8_latest_5 : At cX8_latest 5 (.aload_n 0) 1 6 := ⟨by decide +kernel, rfl⟩
theorem iX8_latest_6 : At cX8_latest 6 (.getfield 57) 3 9 := ⟨by decide +kernel, rfl⟩
theorem iX8_latest_9 : At cX8_latest 9 (.if_icmp .ge 37) 3 12 := ⟨by decide +kernel, rfl⟩
theorem iX8_latest_12 : At cX8_latest 12 (.iload_n 1) 1 13 := ⟨by decide +kernel, rfl⟩
theorem iX8_latest_13 : At cX8_latest 13 (.iload_n 3) 1 14 := ⟨by decide +kernel, rfl⟩
theorem iX8_latest_14 : At cX8_latest 14 (.invokestatic 151) 3 17 := ⟨by decide +kernel, rfl⟩
theorem iX8_latest_17 : At cX8_latest 17 (.ifCond .eq 21) 3 20 := ⟨by decide +kernel, rfl⟩
theorem iX8_latest_20 : At cX8_latest 20 (.iload_n 2) 1 21 := ⟨by decide +kernel, rfl⟩
theorem iX8_latest_21 : At cX8_latest 21 (.iconst (-1)) 1 22 := ⟨by decide +kernel, rfl⟩
theorem iX8_latest_22 : At cX8_latest 22 (.if_icmp .eq 12) 3 25 := ⟨by decide +kernel, rfl⟩
theorem iX8_latest_25 : At cX8_latest 25 (.aload_n 0) 1 26 := ⟨by decide +kernel, rfl⟩
theorem iX8_latest_26 : At cX8_latest 26 (.iload_n 3) 1 27 := ⟨by decide +kernel, rfl⟩
theorem iX8_latest_27 : At cX8_latest 27 (.iload_n 2) 1 28 := ⟨by decide +kernel, rfl⟩
theorem iX8_latest_28 : At cX8_latest 28 (.invokevirtual 154) 3 31 := ⟨by decide +kernel, rfl⟩
theorem iX8_latest_31 : At cX8_latest 31 (.ifCond .eq 7) 3 34 := ⟨by decide +kernel, rfl⟩
theorem iX8_latest_34 : At cX8_latest 34 (.iload_n 3) 1 35 := ⟨by decide +kernel, rfl⟩
theorem iX8_latest_35 : At cX8_latest 35 (.goto 4) 3 38 := ⟨by decide +kernel, rfl⟩
theorem iX8_latest_38 : At cX8_latest 38 (.iload_n 2) 1 39 := ⟨by decide +kernel, rfl⟩
theorem iX8_latest_39 : At cX8_latest 39 (.istore_n 2) 1 40 := ⟨by decide +kernel, rfl⟩
theorem iX8_latest_40 : At cX8_latest 40 (.iinc 3 1) 3 43 := ⟨by decide +kernel, rfl⟩
theorem iX8_latest_43 : At cX8_latest 43 (.goto (-39)) 3 46 := ⟨by decide +kernel, rfl⟩
theorem iX8_latest_46 : At cX8_latest 46 (.iload_n 2) 1 47 := ⟨by decide +kernel, rfl⟩
theorem iX8_latest_47 : At cX8_latest 47 (.ireturn) 1 48 := ⟨by decide +kernel, rfl⟩
theorem iX8_divisor_0 : At cX8_divisor 0 (.iload_n 0) 1 1 := ⟨by decide +kernel, rfl⟩
theorem iX8_divisor_1 : At cX8_divisor 1 (.istore_n 2) 1 2 := ⟨by decide +kernel, rfl⟩
theorem iX8_divisor_2 : At cX8_divisor 2 (.iload_n 1) 1 3 := ⟨by decide +kernel, rfl⟩
theorem iX8_divisor_3 : At cX8_divisor 3 (.istore_n 3) 1 4 := ⟨by decide +kernel, rfl⟩
theorem iX8_divisor_4 : At cX8_divisor 4 (.iload_n 3) 1 5 := ⟨by decide +kernel, rfl⟩
theorem iX8_divisor_5 : At cX8_divisor 5 (.ifCond .eq 16) 3 8 := ⟨by decide +kernel, rfl⟩
theorem iX8_divisor_8 : At cX8_divisor 8 (.iload_n 2) 1 9 := ⟨by decide +kernel, rfl⟩
theorem iX8_divisor_9 : At cX8_divisor 9 (.iload_n 3) 1 10 := ⟨by decide +kernel, rfl⟩
theorem iX8_divisor_10 : At cX8_divisor 10 (.irem) 1 11 := ⟨by decide +kernel, rfl⟩
theorem iX8_divisor_11 : At cX8_divisor 11 (.istore 4) 2 13 := ⟨by decide +kernel, rfl⟩
theorem iX8_divisor_13 : At cX8_divisor 13 (.iload_n 3) 1 14 := ⟨by decide +kernel, rfl⟩
theorem iX8_divisor_14 : At cX8_divisor 14 (.istore_n 2) 1 15 := ⟨by decide +kernel, rfl⟩
theorem iX8_divisor_15 : At cX8_divisor 15 (.iload 4) 2 17 := ⟨by decide +kernel, rfl⟩
theorem iX8_divisor_17 : At cX8_divisor 17 (.istore_n 3) 1 18 := ⟨by decide +kernel, rfl⟩
theorem iX8_divisor_18 : At cX8_divisor 18 (.goto (-14)) 3 21 := ⟨by decide +kernel, rfl⟩
theorem iX8_divisor_21 : At cX8_divisor 21 (.iload_n 2) 1 22 := ⟨by decide +kernel, rfl⟩
theorem iX8_divisor_22 : At cX8_divisor 22 (.ireturn) 1 23 := ⟨by decide +kernel, rfl⟩
theorem iX8_isTop_0 : At cX8_isTop 0 (.aload_n 0) 1 1 := ⟨by decide +kernel, rfl⟩
theorem iX8_isTop_1 : At cX8_isTop 1 (.aload_n 0) 1 2 := ⟨by decide +kernel, rfl⟩
theorem iX8_isTop_2 : At cX8_isTop 2 (.getfield 19) 3 5 := ⟨by decide +kernel, rfl⟩
theorem iX8_isTop_5 : At cX8_isTop 5 (.iload_n 1) 1 6 := ⟨by decide +kernel, rfl⟩
theorem iX8_isTop_6 : At cX8_isTop 6 (.iaload) 1 7 := ⟨by decide +kernel, rfl⟩
theorem iX8_isTop_7 : At cX8_isTop 7 (.invokevirtual 157) 3 10 := ⟨by decide +kernel, rfl⟩
theorem iX8_isTop_10 : At cX8_isTop 10 (.istore_n 2) 1 11 := ⟨by decide +kernel, rfl⟩
theorem iX8_isTop_11 : At cX8_isTop 11 (.iload_n 2) 1 12 := ⟨by decide +kernel, rfl⟩
theorem iX8_isTop_12 : At cX8_isTop 12 (.iconst (-1)) 1 13 := ⟨by decide +kernel, rfl⟩
theorem iX8_isTop_13 : At cX8_isTop 13 (.if_icmp .eq 12) 3 16 := ⟨by decide +kernel, rfl⟩
theorem iX8_isTop_16 : At cX8_isTop 16 (.aload_n 0) 1 17 := ⟨by decide +kernel, rfl⟩
theorem iX8_isTop_17 : At cX8_isTop 17 (.iload_n 1) 1 18 := ⟨by decide +kernel, rfl⟩
theorem iX8_isTop_18 : At cX8_isTop 18 (.iload_n 2) 1 19 := ⟨by decide +kernel, rfl⟩
theorem iX8_isTop_19 : At cX8_isTop 19 (.invokevirtual 154) 3 22 := ⟨by decide +kernel, rfl⟩
theorem iX8_isTop_22 : At cX8_isTop 22 (.ifCond .eq 7) 3 25 := ⟨by decide +kernel, rfl⟩
theorem iX8_isTop_25 : At cX8_isTop 25 (.iconst 1) 1 26 := ⟨by decide +kernel, rfl⟩
theorem iX8_isTop_26 : At cX8_isTop 26 (.goto 4) 3 29 := ⟨by decide +kernel, rfl⟩
theorem iX8_isTop_29 : At cX8_isTop 29 (.iconst 0) 1 30 := ⟨by decide +kernel, rfl⟩
theorem iX8_isTop_30 : At cX8_isTop 30 (.ireturn) 1 31 := ⟨by decide +kernel, rfl⟩
theorem iX8_tops_0 : At cX8_tops 0 (.iconst 0) 1 1 := ⟨by decide +kernel, rfl⟩
theorem iX8_tops_1 : At cX8_tops 1 (.istore_n 1) 1 2 := ⟨by decide +kernel, rfl⟩
theorem iX8_tops_2 : At cX8_tops 2 (.iconst 0) 1 3 := ⟨by decide +kernel, rfl⟩
theorem iX8_tops_3 : At cX8_tops 3 (.istore_n 2) 1 4 := ⟨by decide +kernel, rfl⟩
theorem iX8_tops_4 : At cX8_tops 4 (.iload_n 2) 1 5 := ⟨by decide +kernel, rfl⟩
theorem iX8_tops_5 : At cX8_tops 5 (.aload_n 0) 1 6 := ⟨by decide +kernel, rfl⟩
theorem iX8_tops_6 : At cX8_tops 6 (.getfield 57) 3 9 := ⟨by decide +kernel, rfl⟩
theorem iX8_tops_9 : At cX8_tops 9 (.if_icmp .ge 27) 3 12 := ⟨by decide +kernel, rfl⟩
theorem iX8_tops_12 : At cX8_tops 12 (.iload_n 1) 1 13 := ⟨by decide +kernel, rfl⟩
theorem iX8_tops_13 : At cX8_tops 13 (.aload_n 0) 1 14 := ⟨by decide +kernel, rfl⟩
theorem iX8_tops_14 : At cX8_tops 14 (.iload_n 2) 1 15 := ⟨by decide +kernel, rfl⟩
theorem iX8_tops_15 : At cX8_tops 15 (.invokevirtual 160) 3 18 := ⟨by decide +kernel, rfl⟩
theorem iX8_tops_18 : At cX8_tops 18 (.ifCond .eq 9) 3 21 := ⟨by decide +kernel, rfl⟩
theorem iX8_tops_21 : At cX8_tops 21 (.iconst 1) 1 22 := ⟨by decide +kernel, rfl⟩
theorem iX8_tops_22 : At cX8_tops 22 (.iload_n 2) 1 23 := ⟨by decide +kernel, rfl⟩
theorem iX8_tops_23 : At cX8_tops 23 (.ishl) 1 24 := ⟨by decide +kernel, rfl⟩
theorem iX8_tops_24 : At cX8_tops 24 (.goto 4) 3 27 := ⟨by decide +kernel, rfl⟩
theorem iX8_tops_27 : At cX8_tops 27 (.iconst 0) 1 28 := ⟨by decide +kernel, rfl⟩
theorem iX8_tops_28 : At cX8_tops 28 (.ior) 1 29 := ⟨by decide +kernel, rfl⟩
theorem iX8_tops_29 : At cX8_tops 29 (.istore_n 1) 1 30 := ⟨by decide +kernel, rfl⟩
theorem iX8_tops_30 : At cX8_tops 30 (.iinc 2 1) 3 33 := ⟨by decide +kernel, rfl⟩
theorem iX8_tops_33 : At cX8_tops 33 (.goto (-29)) 3 36 := ⟨by decide +kernel, rfl⟩
theorem iX8_tops_36 : At cX8_tops 36 (.iload_n 1) 1 37 := ⟨by decide +kernel, rfl⟩
theorem iX8_tops_37 : At cX8_tops 37 (.ireturn) 1 38 := ⟨by decide +kernel, rfl⟩
theorem iX8_topOf_0 : At cX8_topOf 0 (.iload_n 1) 1 1 := ⟨by decide +kernel, rfl⟩
theorem iX8_topOf_1 : At cX8_topOf 1 (.istore_n 2) 1 2 := ⟨by decide +kernel, rfl⟩
theorem iX8_topOf_2 : At cX8_topOf 2 (.aload_n 0) 1 3 := ⟨by decide +kernel, rfl⟩
theorem iX8_topOf_3 : At cX8_topOf 3 (.iconst 0) 1 4 := ⟨by decide +kernel, rfl⟩
theorem iX8_topOf_4 : At cX8_topOf 4 (.putfield 163) 3 7 := ⟨by decide +kernel, rfl⟩
theorem iX8_topOf_7 : At cX8_topOf 7 (.aload_n 0) 1 8 := ⟨by decide +kernel, rfl⟩
theorem iX8_topOf_8 : At cX8_topOf 8 (.iload_n 2) 1 9 := ⟨by decide +kernel, rfl⟩
theorem iX8_topOf_9 : At cX8_topOf 9 (.invokevirtual 160) 3 12 := ⟨by decide +kernel, rfl⟩
theorem iX8_topOf_12 : At cX8_topOf 12 (.ifCond .ne 27) 3 15 := ⟨by decide +kernel, rfl⟩
theorem iX8_topOf_15 : At cX8_topOf 15 (.aload_n 0) 1 16 := ⟨by decide +kernel, rfl⟩
theorem iX8_topOf_16 : At cX8_topOf 16 (.aload_n 0) 1 17 := ⟨by decide +kernel, rfl⟩
theorem iX8_topOf_17 : At cX8_topOf 17 (.getfield 19) 3 20 := ⟨by decide +kernel, rfl⟩
theorem iX8_topOf_20 : At cX8_topOf 20 (.iload_n 2) 1 21 := ⟨by decide +kernel, rfl⟩
theorem iX8_topOf_21 : At cX8_topOf 21 (.iaload) 1 22 := ⟨by decide +kernel, rfl⟩
theorem iX8_topOf_22 : At cX8_topOf 22 (.invokevirtual 157) 3 25 := ⟨by decide +kernel, rfl⟩
theorem iX8_topOf_25 : At cX8_topOf 25 (.istore_n 2) 1 26 := ⟨by decide +kernel, rfl⟩
theorem iX8_topOf_26 : At cX8_topOf 26 (.aload_n 0) 1 27 := ⟨by decide +kernel, rfl⟩
theorem iX8_topOf_27 : At cX8_topOf 27 (.dup) 1 28 := ⟨by decide +kernel, rfl⟩
theorem iX8_topOf_28 : At cX8_topOf 28 (.getfield 163) 3 31 := ⟨by decide +kernel, rfl⟩
theorem iX8_topOf_31 : At cX8_topOf 31 (.iconst 1) 1 32 := ⟨by decide +kernel, rfl⟩
theorem iX8_topOf_32 : At cX8_topOf 32 (.iadd) 1 33 := ⟨by decide +kernel, rfl⟩
theorem iX8_topOf_33 : At cX8_topOf 33 (.putfield 163) 3 36 := ⟨by decide +kernel, rfl⟩
theorem iX8_topOf_36 : At cX8_topOf 36 (.goto (-29)) 3 39 := ⟨by decide +kernel, rfl⟩
theorem iX8_topOf_39 : At cX8_topOf 39 (.iload_n 2) 1 40 := ⟨by decide +kernel, rfl⟩
theorem iX8_topOf_40 : At cX8_topOf 40 (.ireturn) 1 41 := ⟨by decide +kernel, rfl⟩
theorem iX8_basin_0 : At cX8_basin 0 (.iconst 0) 1 1 := ⟨by decide +kernel, rfl⟩
theorem iX8_basin_1 : At cX8_basin 1 (.istore_n 2) 1 2 := ⟨by decide +kernel, rfl⟩
theorem iX8_basin_2 : At cX8_basin 2 (.iconst 0) 1 3 := ⟨by decide +kernel, rfl⟩
theorem iX8_basin_3 : At cX8_basin 3 (.istore_n 3) 1 4 := ⟨by decide +kernel, rfl⟩
theorem iX8_basin_4 : At cX8_basin 4 (.iload_n 3) 1 5 := ⟨by decide +kernel, rfl⟩
theorem iX8_basin_5 : At cX8_basin 5 (.aload_n 0) 1 6 := ⟨by decide +kernel, rfl⟩
theorem iX8_basin_6 : At cX8_basin 6 (.getfield 57) 3 9 := ⟨by decide +kernel, rfl⟩
theorem iX8_basin_9 : At cX8_basin 9 (.if_icmp .ge 28) 3 12 := ⟨by decide +kernel, rfl⟩
theorem iX8_basin_12 : At cX8_basin 12 (.iload_n 2) 1 13 := ⟨by decide +kernel, rfl⟩
theorem iX8_basin_13 : At cX8_basin 13 (.aload_n 0) 1 14 := ⟨by decide +kernel, rfl⟩
theorem iX8_basin_14 : At cX8_basin 14 (.iload_n 3) 1 15 := ⟨by decide +kernel, rfl⟩
theorem iX8_basin_15 : At cX8_basin 15 (.invokevirtual 166) 3 18 := ⟨by decide +kernel, rfl⟩
theorem iX8_basin_18 : At cX8_basin 18 (.iload_n 1) 1 19 := ⟨by decide +kernel, rfl⟩
theorem iX8_basin_19 : At cX8_basin 19 (.if_icmp .ne 9) 3 22 := ⟨by decide +kernel, rfl⟩
theorem iX8_basin_22 : At cX8_basin 22 (.iconst 1) 1 23 := ⟨by decide +kernel, rfl⟩
theorem iX8_basin_23 : At cX8_basin 23 (.iload_n 3) 1 24 := ⟨by decide +kernel, rfl⟩
theorem iX8_basin_24 : At cX8_basin 24 (.ishl) 1 25 := ⟨by decide +kernel, rfl⟩
theorem iX8_basin_25 : At cX8_basin 25 (.goto 4) 3 28 := ⟨by decide +kernel, rfl⟩
theorem iX8_basin_28 : At cX8_basin 28 (.iconst 0) 1 29 := ⟨by decide +kernel, rfl⟩
theorem iX8_basin_29 : At cX8_basin 29 (.ior) 1 30 := ⟨by decide +kernel, rfl⟩
theorem iX8_basin_30 : At cX8_basin 30 (.istore_n 2) 1 31 := ⟨by decide +kernel, rfl⟩
theorem iX8_basin_31 : At cX8_basin 31 (.iinc 3 1) 3 34 := ⟨by decide +kernel, rfl⟩
theorem iX8_basin_34 : At cX8_basin 34 (.goto (-30)) 3 37 := ⟨by decide +kernel, rfl⟩
theorem iX8_basin_37 : At cX8_basin 37 (.iload_n 2) 1 38 := ⟨by decide +kernel, rfl⟩
theorem iX8_basin_38 : At cX8_basin 38 (.ireturn) 1 39 := ⟨by decide +kernel, rfl⟩
theorem iX8_passOf_0 : At cX8_passOf 0 (.aload_n 0) 1 1 := ⟨by decide +kernel, rfl⟩
theorem iX8_passOf_1 : At cX8_passOf 1 (.iload_n 1) 1 2 := ⟨by decide +kernel, rfl⟩
theorem iX8_passOf_2 : At cX8_passOf 2 (.invokevirtual 169) 3 5 := ⟨by decide +kernel, rfl⟩
theorem iX8_passOf_5 : At cX8_passOf 5 (.istore_n 3) 1 6 := ⟨by decide +kernel, rfl⟩
theorem iX8_passOf_6 : At cX8_passOf 6 (.aload_n 0) 1 7 := ⟨by decide +kernel, rfl⟩
theorem iX8_passOf_7 : At cX8_passOf 7 (.iload_n 2) 1 8 := ⟨by decide +kernel, rfl⟩
theorem iX8_passOf_8 : At cX8_passOf 8 (.invokevirtual 169) 3 11 := ⟨by decide +kernel, rfl⟩
theorem iX8_passOf_11 : At cX8_passOf 11 (.istore 4) 2 13 := ⟨by decide +kernel, rfl⟩
theorem iX8_passOf_13 : At cX8_passOf 13 (.iconst 0) 1 14 := ⟨by decide +kernel, rfl⟩
theorem iX8_passOf_14 : At cX8_passOf 14 (.istore 5) 2 16 := ⟨by decide +kernel, rfl⟩
theorem iX8_passOf_16 : At cX8_passOf 16 (.iconst 0) 1 17 := ⟨by decide +kernel, rfl⟩
theorem iX8_passOf_17 : At cX8_passOf 17 (.istore 6) 2 19 := ⟨by decide +kernel, rfl⟩
theorem iX8_passOf_19 : At cX8_passOf 19 (.iload 6) 2 21 := ⟨by decide +kernel, rfl⟩
theorem iX8_passOf_21 : At cX8_passOf 21 (.aload_n 0) 1 22 := ⟨by decide +kernel, rfl⟩
theorem iX8_passOf_22 : At cX8_passOf 22 (.getfield 57) 3 25 := ⟨by decide +kernel, rfl⟩
theorem iX8_passOf_25 : At cX8_passOf 25 (.if_icmp .ge 86) 3 28 := ⟨by decide +kernel, rfl⟩
theorem iX8_passOf_28 : At cX8_passOf 28 (.iconst 0) 1 29 := ⟨by decide +kernel, rfl⟩
theorem iX8_passOf_29 : At cX8_passOf 29 (.istore 7) 2 31 := ⟨by decide +kernel, rfl⟩
theorem iX8_passOf_31 : At cX8_passOf 31 (.iload 7) 2 33 := ⟨by decide +kernel, rfl⟩
theorem iX8_passOf_33 : At cX8_passOf 33 (.aload_n 0) 1 34 := ⟨by decide +kernel, rfl⟩
theorem iX8_passOf_34 : At cX8_passOf 34 (.getfield 57) 3 37 := ⟨by decide +kernel, rfl⟩
theorem iX8_passOf_37 : At cX8_passOf 37 (.if_icmp .ge 68) 3 40 := ⟨by decide +kernel, rfl⟩
theorem iX8_passOf_40 : At cX8_passOf 40 (.iload_n 3) 1 41 := ⟨by decide +kernel, rfl⟩
theorem iX8_passOf_41 : At cX8_passOf 41 (.iload 6) 2 43 := ⟨by decide +kernel, rfl⟩
theorem iX8_passOf_43 : At cX8_passOf 43 (.invokestatic 151) 3 46 := ⟨by decide +kernel, rfl⟩
theorem iX8_passOf_46 : At cX8_passOf 46 (.ifCond .eq 53) 3 49 := ⟨by decide +kernel, rfl⟩
theorem iX8_passOf_49 : At cX8_passOf 49 (.iload 4) 2 51 := ⟨by decide +kernel, rfl⟩
theorem iX8_passOf_51 : At cX8_passOf 51 (.iload 7) 2 53 := ⟨by decide +kernel, rfl⟩
theorem iX8_passOf_53 : At cX8_passOf 53 (.invokestatic 151) 3 56 := ⟨by decide +kernel, rfl⟩
theorem iX8_passOf_56 : At cX8_passOf 56 (.ifCond .eq 43) 3 59 := ⟨by decide +kernel, rfl⟩
theorem iX8_passOf_59 : At cX8_passOf 59 (.aload_n 0) 1 60 := ⟨by decide +kernel, rfl⟩
theorem iX8_passOf_60 : At cX8_passOf 60 (.getfield 19) 3 63 := ⟨by decide +kernel, rfl⟩
theorem iX8_passOf_63 : At cX8_passOf 63 (.iload 6) 2 65 := ⟨by decide +kernel, rfl⟩
theorem iX8_passOf_65 : At cX8_passOf 65 (.iaload) 1 66 := ⟨by decide +kernel, rfl⟩
theorem iX8_passOf_66 : At cX8_passOf 66 (.iload 7) 2 68 := ⟨by decide +kernel, rfl⟩
theorem iX8_passOf_68 : At cX8_passOf 68 (.invokestatic 151) 3 71 := ⟨by decide +kernel, rfl⟩
theorem iX8_passOf_71 : At cX8_passOf 71 (.ifCond .eq 28) 3 74 := ⟨by decide +kernel, rfl⟩
theorem iX8_passOf_74 : At cX8_passOf 74 (.iload 5) 2 76 := ⟨by decide +kernel, rfl⟩
theorem iX8_passOf_76 : At cX8_passOf 76 (.iconst 1) 1 77 := ⟨by decide +kernel, rfl⟩
theorem iX8_passOf_77 : At cX8_passOf 77 (.aload_n 0) 1 78 := ⟨by decide +kernel, rfl⟩
theorem iX8_passOf_78 : At cX8_passOf 78 (.iload 6) 2 80 := ⟨by decide +kernel, rfl⟩
theorem iX8_passOf_80 : At cX8_passOf 80 (.iload 7) 2 82 := ⟨by decide +kernel, rfl⟩
theorem iX8_passOf_82 : At cX8_passOf 82 (.invokevirtual 154) 3 85 := ⟨by decide +kernel, rfl⟩
theorem iX8_passOf_85 : At cX8_passOf 85 (.ifCond .eq 8) 3 88 := ⟨by decide +kernel, rfl⟩
theorem iX8_passOf_88 : At cX8_passOf 88 (.iload 7) 2 90 := ⟨by decide +kernel, rfl⟩
theorem iX8_passOf_90 : At cX8_passOf 90 (.goto 5) 3 93 := ⟨by decide +kernel, rfl⟩
theorem iX8_passOf_93 : At cX8_passOf 93 (.iload 6) 2 95 := ⟨by decide +kernel, rfl⟩
theorem iX8_passOf_95 : At cX8_passOf 95 (.ishl) 1 96 := ⟨by decide +kernel, rfl⟩
theorem iX8_passOf_96 : At cX8_passOf 96 (.ior) 1 97 := ⟨by decide +kernel, rfl⟩
theorem iX8_passOf_97 : At cX8_passOf 97 (.istore 5) 2 99 := ⟨by decide +kernel, rfl⟩
theorem iX8_passOf_99 : At cX8_passOf 99 (.iinc 7 1) 3 102 := ⟨by decide +kernel, rfl⟩
theorem iX8_passOf_102 : At cX8_passOf 102 (.goto (-71)) 3 105 := ⟨by decide +kernel, rfl⟩
theorem iX8_passOf_105 : At cX8_passOf 105 (.iinc 6 1) 3 108 := ⟨by decide +kernel, rfl⟩
theorem iX8_passOf_108 : At cX8_passOf 108 (.goto (-89)) 3 111 := ⟨by decide +kernel, rfl⟩
theorem iX8_passOf_111 : At cX8_passOf 111 (.aload_n 0) 1 112 := ⟨by decide +kernel, rfl⟩
theorem iX8_passOf_112 : At cX8_passOf 112 (.iload 5) 2 114 := ⟨by decide +kernel, rfl⟩
theorem iX8_passOf_114 : At cX8_passOf 114 (.invokevirtual 157) 3 117 := ⟨by decide +kernel, rfl⟩
theorem iX8_passOf_117 : At cX8_passOf 117 (.ireturn) 1 118 := ⟨by decide +kernel, rfl⟩
theorem iX8_isHigh_0 : At cX8_isHigh 0 (.aload_n 0) 1 1 := ⟨by decide +kernel, rfl⟩
theorem iX8_isHigh_1 : At cX8_isHigh 1 (.getfield 13) 3 4 := ⟨by decide +kernel, rfl⟩
theorem iX8_isHigh_4 : At cX8_isHigh 4 (.iload_n 1) 1 5 := ⟨by decide +kernel, rfl⟩
theorem iX8_isHigh_5 : At cX8_isHigh 5 (.iaload) 1 6 := ⟨by decide +kernel, rfl⟩
theorem iX8_isHigh_6 : At cX8_isHigh 6 (.bipush 100) 2 8 := ⟨by decide +kernel, rfl⟩
theorem iX8_isHigh_8 : At cX8_isHigh 8 (.imul) 1 9 := ⟨by decide +kernel, rfl⟩
theorem iX8_isHigh_9 : At cX8_isHigh 9 (.aload_n 0) 1 10 := ⟨by decide +kernel, rfl⟩
theorem iX8_isHigh_10 : At cX8_isHigh 10 (.iload_n 2) 1 11 := ⟨by decide +kernel, rfl⟩
theorem iX8_isHigh_11 : At cX8_isHigh 11 (.invokevirtual 147) 3 14 := ⟨by decide +kernel, rfl⟩
theorem iX8_isHigh_14 : At cX8_isHigh 14 (.imul) 1 15 := ⟨by decide +kernel, rfl⟩
theorem iX8_isHigh_15 : At cX8_isHigh 15 (.aload_n 0) 1 16 := ⟨by decide +kernel, rfl⟩
theorem iX8_isHigh_16 : At cX8_isHigh 16 (.getfield 29) 3 19 := ⟨by decide +kernel, rfl⟩
theorem iX8_isHigh_19 : At cX8_isHigh 19 (.aload_n 0) 1 20 := ⟨by decide +kernel, rfl⟩
theorem iX8_isHigh_20 : At cX8_isHigh 20 (.getfield 13) 3 23 := ⟨by decide +kernel, rfl⟩
theorem iX8_isHigh_23 : At cX8_isHigh 23 (.iload_n 2) 1 24 := ⟨by decide +kernel, rfl⟩
theorem iX8_isHigh_24 : At cX8_isHigh 24 (.iaload) 1 25 := ⟨by decide +kernel, rfl⟩
theorem iX8_isHigh_25 : At cX8_isHigh 25 (.imul) 1 26 := ⟨by decide +kernel, rfl⟩
theorem iX8_isHigh_26 : At cX8_isHigh 26 (.aload_n 0) 1 27 := ⟨by decide +kernel, rfl⟩
theorem iX8_isHigh_27 : At cX8_isHigh 27 (.iload_n 1) 1 28 := ⟨by decide +kernel, rfl⟩
theorem iX8_isHigh_28 : At cX8_isHigh 28 (.invokevirtual 147) 3 31 := ⟨by decide +kernel, rfl⟩
theorem iX8_isHigh_31 : At cX8_isHigh 31 (.imul) 1 32 := ⟨by decide +kernel, rfl⟩
theorem iX8_isHigh_32 : At cX8_isHigh 32 (.if_icmp .lt 7) 3 35 := ⟨by decide +kernel, rfl⟩
theorem iX8_isHigh_35 : At cX8_isHigh 35 (.iconst 1) 1 36 := ⟨by decide +kernel, rfl⟩
theorem iX8_isHigh_36 : At cX8_isHigh 36 (.goto 4) 3 39 := ⟨by decide +kernel, rfl⟩
theorem iX8_isHigh_39 : At cX8_isHigh 39 (.iconst 0) 1 40 := ⟨by decide +kernel, rfl⟩
theorem iX8_isHigh_40 : At cX8_isHigh 40 (.ireturn) 1 41 := ⟨by decide +kernel, rfl⟩
theorem iX8_drownedIn_0 : At cX8_drownedIn 0 (.aload_n 0) 1 1 := ⟨by decide +kernel, rfl⟩
theorem iX8_drownedIn_1 : At cX8_drownedIn 1 (.invokevirtual 172) 3 4 := ⟨by decide +kernel, rfl⟩
theorem iX8_drownedIn_4 : At cX8_drownedIn 4 (.istore_n 2) 1 5 := ⟨by decide +kernel, rfl⟩
theorem iX8_drownedIn_5 : At cX8_drownedIn 5 (.iconst 0) 1 6 := ⟨by decide +kernel, rfl⟩
theorem iX8_drownedIn_6 : At cX8_drownedIn 6 (.istore_n 3) 1 7 := ⟨by decide +kernel, rfl⟩
theorem iX8_drownedIn_7 : At cX8_drownedIn 7 (.iconst 0) 1 8 := ⟨by decide +kernel, rfl⟩
theorem iX8_drownedIn_8 : At cX8_drownedIn 8 (.istore 4) 2 10 := ⟨by decide +kernel, rfl⟩
theorem iX8_drownedIn_10 : At cX8_drownedIn 10 (.iload 4) 2 12 := ⟨by decide +kernel, rfl⟩
theorem iX8_drownedIn_12 : At cX8_drownedIn 12 (.aload_n 0) 1 13 := ⟨by decide +kernel, rfl⟩
theorem iX8_drownedIn_13 : At cX8_drownedIn 13 (.getfield 57) 3 16 := ⟨by decide +kernel, rfl⟩
theorem iX8_drownedIn_16 : At cX8_drownedIn 16 (.if_icmp .ge 64) 3 19 := ⟨by decide +kernel, rfl⟩
theorem iX8_drownedIn_19 : At cX8_drownedIn 19 (.iload_n 2) 1 20 := ⟨by decide +kernel, rfl⟩
theorem iX8_drownedIn_20 : At cX8_drownedIn 20 (.iload 4) 2 22 := ⟨by decide +kernel, rfl⟩
theorem iX8_drownedIn_22 : At cX8_drownedIn 22 (.invokestatic 151) 3 25 := ⟨by decide +kernel, rfl⟩
theorem iX8_drownedIn_25 : At cX8_drownedIn 25 (.ifCond .eq 49) 3 28 := ⟨by decide +kernel, rfl⟩
theorem iX8_drownedIn_28 : At cX8_drownedIn 28 (.aload_n 0) 1 29 := ⟨by decide +kernel, rfl⟩
theorem iX8_drownedIn_29 : At cX8_drownedIn 29 (.iload 4) 2 31 := ⟨by decide +kernel, rfl⟩
theorem iX8_drownedIn_31 : At cX8_drownedIn 31 (.iload_n 1) 1 32 := ⟨by decide +kernel, rfl⟩
theorem iX8_drownedIn_32 : At cX8_drownedIn 32 (.invokevirtual 154) 3 35 := ⟨by decide +kernel, rfl⟩
theorem iX8_drownedIn_35 : At cX8_drownedIn 35 (.ifCond .eq 39) 3 38 := ⟨by decide +kernel, rfl⟩
theorem iX8_drownedIn_38 : At cX8_drownedIn 38 (.aload_n 0) 1 39 := ⟨by decide +kernel, rfl⟩
theorem iX8_drownedIn_39 : At cX8_drownedIn 39 (.iload_n 1) 1 40 := ⟨by decide +kernel, rfl⟩
theorem iX8_drownedIn_40 : At cX8_drownedIn 40 (.iload 4) 2 42 := ⟨by decide +kernel, rfl⟩
theorem iX8_drownedIn_42 : At cX8_drownedIn 42 (.invokevirtual 175) 3 45 := ⟨by decide +kernel, rfl⟩
theorem iX8_drownedIn_45 : At cX8_drownedIn 45 (.istore 5) 2 47 := ⟨by decide +kernel, rfl⟩
theorem iX8_drownedIn_47 : At cX8_drownedIn 47 (.iload_n 3) 1 48 := ⟨by decide +kernel, rfl⟩
theorem iX8_drownedIn_48 : At cX8_drownedIn 48 (.iload 5) 2 50 := ⟨by decide +kernel, rfl⟩
theorem iX8_drownedIn_50 : At cX8_drownedIn 50 (.iconst (-1)) 1 51 := ⟨by decide +kernel, rfl⟩
theorem iX8_drownedIn_51 : At cX8_drownedIn 51 (.if_icmp .eq 20) 3 54 := ⟨by decide +kernel, rfl⟩
theorem iX8_drownedIn_54 : At cX8_drownedIn 54 (.aload_n 0) 1 55 := ⟨by decide +kernel, rfl⟩
theorem iX8_drownedIn_55 : At cX8_drownedIn 55 (.iload 5) 2 57 := ⟨by decide +kernel, rfl⟩
theorem iX8_drownedIn_57 : At cX8_drownedIn 57 (.iload_n 1) 1 58 := ⟨by decide +kernel, rfl⟩
theorem iX8_drownedIn_58 : At cX8_drownedIn 58 (.invokevirtual 179) 3 61 := ⟨by decide +kernel, rfl⟩
theorem iX8_drownedIn_61 : At cX8_drownedIn 61 (.ifCond .eq 10) 3 64 := ⟨by decide +kernel, rfl⟩
theorem iX8_drownedIn_64 : At cX8_drownedIn 64 (.iconst 1) 1 65 := ⟨by decide +kernel, rfl⟩
theorem iX8_drownedIn_65 : At cX8_drownedIn 65 (.iload 4) 2 67 := ⟨by decide +kernel, rfl⟩
theorem iX8_drownedIn_67 : At cX8_drownedIn 67 (.ishl) 1 68 := ⟨by decide +kernel, rfl⟩
theorem iX8_drownedIn_68 : At cX8_drownedIn 68 (.goto 4) 3 71 := ⟨by decide +kernel, rfl⟩
theorem iX8_drownedIn_71 : At cX8_drownedIn 71 (.iconst 0) 1 72 := ⟨by decide +kernel, rfl⟩
theorem iX8_drownedIn_72 : At cX8_drownedIn 72 (.ior) 1 73 := ⟨by decide +kernel, rfl⟩
theorem iX8_drownedIn_73 : At cX8_drownedIn 73 (.istore_n 3) 1 74 := ⟨by decide +kernel, rfl⟩
theorem iX8_drownedIn_74 : At cX8_drownedIn 74 (.iinc 4 1) 3 77 := ⟨by decide +kernel, rfl⟩
theorem iX8_drownedIn_77 : At cX8_drownedIn 77 (.goto (-67)) 3 80 := ⟨by decide +kernel, rfl⟩
theorem iX8_drownedIn_80 : At cX8_drownedIn 80 (.aload_n 0) 1 81 := ⟨by decide +kernel, rfl⟩
theorem iX8_drownedIn_81 : At cX8_drownedIn 81 (.iload_n 3) 1 82 := ⟨by decide +kernel, rfl⟩
theorem iX8_drownedIn_82 : At cX8_drownedIn 82 (.invokevirtual 157) 3 85 := ⟨by decide +kernel, rfl⟩
theorem iX8_drownedIn_85 : At cX8_drownedIn 85 (.ireturn) 1 86 := ⟨by decide +kernel, rfl⟩
theorem iX8_head_0 : At cX8_head 0 (.iload_n 1) 1 1 := ⟨by decide +kernel, rfl⟩
theorem iX8_head_1 : At cX8_head 1 (.istore_n 2) 1 2 := ⟨by decide +kernel, rfl⟩
theorem iX8_head_2 : At cX8_head 2 (.aload_n 0) 1 3 := ⟨by decide +kernel, rfl⟩
theorem iX8_head_3 : At cX8_head 3 (.iload_n 2) 1 4 := ⟨by decide +kernel, rfl⟩
theorem iX8_head_4 : At cX8_head 4 (.invokevirtual 182) 3 7 := ⟨by decide +kernel, rfl⟩
theorem iX8_head_7 : At cX8_head 7 (.istore_n 3) 1 8 := ⟨by decide +kernel, rfl⟩
theorem iX8_head_8 : At cX8_head 8 (.iload_n 3) 1 9 := ⟨by decide +kernel, rfl⟩
theorem iX8_head_9 : At cX8_head 9 (.iconst (-1)) 1 10 := ⟨by decide +kernel, rfl⟩
theorem iX8_head_10 : At cX8_head 10 (.if_icmp .eq 14) 3 13 := ⟨by decide +kernel, rfl⟩
theorem iX8_head_13 : At cX8_head 13 (.iload_n 3) 1 14 := ⟨by decide +kernel, rfl⟩
theorem iX8_head_14 : At cX8_head 14 (.istore_n 2) 1 15 := ⟨by decide +kernel, rfl⟩
theorem iX8_head_15 : At cX8_head 15 (.aload_n 0) 1 16 := ⟨by decide +kernel, rfl⟩
theorem iX8_head_16 : At cX8_head 16 (.iload_n 2) 1 17 := ⟨by decide +kernel, rfl⟩
theorem iX8_head_17 : At cX8_head 17 (.invokevirtual 182) 3 20 := ⟨by decide +kernel, rfl⟩
theorem iX8_head_20 : At cX8_head 20 (.istore_n 3) 1 21 := ⟨by decide +kernel, rfl⟩
theorem iX8_head_21 : At cX8_head 21 (.goto (-13)) 3 24 := ⟨by decide +kernel, rfl⟩
theorem iX8_head_24 : At cX8_head 24 (.iload_n 2) 1 25 := ⟨by decide +kernel, rfl⟩
theorem iX8_head_25 : At cX8_head 25 (.ireturn) 1 26 := ⟨by decide +kernel, rfl⟩
theorem iX8_layHeads_0 : At cX8_layHeads 0 (.iconst 0) 1 1 := ⟨by decide +kernel, rfl⟩
theorem iX8_layHeads_1 : At cX8_layHeads 1 (.istore_n 1) 1 2 := ⟨by decide +kernel, rfl⟩
theorem iX8_layHeads_2 : At cX8_layHeads 2 (.iload_n 1) 1 3 := ⟨by decide +kernel, rfl⟩
theorem iX8_layHeads_3 : At cX8_layHeads 3 (.aload_n 0) 1 4 := ⟨by decide +kernel, rfl⟩
theorem iX8_layHeads_4 : At cX8_layHeads 4 (.getfield 57) 3 7 := ⟨by decide +kernel, rfl⟩
theorem iX8_layHeads_7 : At cX8_layHeads 7 (.if_icmp .ge 24) 3 10 := ⟨by decide +kernel, rfl⟩
theorem iX8_layHeads_10 : At cX8_layHeads 10 (.aload_n 0) 1 11 := ⟨by decide +kernel, rfl⟩
theorem iX8_layHeads_11 : At cX8_layHeads 11 (.getfield 54) 3 14 := ⟨by decide +kernel, rfl⟩
theorem iX8_layHeads_14 : At cX8_layHeads 14 (.iload_n 1) 1 15 := ⟨by decide +kernel, rfl⟩
theorem iX8_layHeads_15 : At cX8_layHeads 15 (.aload_n 0) 1 16 := ⟨by decide +kernel, rfl⟩
theorem iX8_layHeads_16 : At cX8_layHeads 16 (.aload_n 0) 1 17 := ⟨by decide +kernel, rfl⟩
theorem iX8_layHeads_17 : At cX8_layHeads 17 (.iload_n 1) 1 18 := ⟨by decide +kernel, rfl⟩
theorem iX8_layHeads_18 : At cX8_layHeads 18 (.invokevirtual 166) 3 21 := ⟨by decide +kernel, rfl⟩
theorem iX8_layHeads_21 : At cX8_layHeads 21 (.invokevirtual 185) 3 24 := ⟨by decide +kernel, rfl⟩
theorem iX8_layHeads_24 : At cX8_layHeads 24 (.iastore) 1 25 := ⟨by decide +kernel, rfl⟩
theorem iX8_layHeads_25 : At cX8_layHeads 25 (.iinc 1 1) 3 28 := ⟨by decide +kernel, rfl⟩
theorem iX8_layHeads_28 : At cX8_layHeads 28 (.goto (-26)) 3 31 := ⟨by decide +kernel, rfl⟩
theorem iX8_layHeads_31 : At cX8_layHeads 31 (.return_) 1 32 := ⟨by decide +kernel, rfl⟩
theorem iX8_outlasts_0 : At cX8_outlasts 0 (.iload_n 1) 1 1 := ⟨by decide +kernel, rfl⟩
theorem iX8_outlasts_1 : At cX8_outlasts 1 (.aload_n 0) 1 2 := ⟨by decide +kernel, rfl⟩
theorem iX8_outlasts_2 : At cX8_outlasts 2 (.getfield 26) 3 5 := ⟨by decide +kernel, rfl⟩
theorem iX8_outlasts_5 : At cX8_outlasts 5 (.imul) 1 6 := ⟨by decide +kernel, rfl⟩
theorem iX8_outlasts_6 : At cX8_outlasts 6 (.aload_n 0) 1 7 := ⟨by decide +kernel, rfl⟩
theorem iX8_outlasts_7 : At cX8_outlasts 7 (.iload_n 3) 1 8 := ⟨by decide +kernel, rfl⟩
theorem iX8_outlasts_8 : At cX8_outlasts 8 (.invokevirtual 147) 3 11 := ⟨by decide +kernel, rfl⟩
theorem iX8_outlasts_11 : At cX8_outlasts 11 (.imul) 1 12 := ⟨by decide +kernel, rfl⟩
theorem iX8_outlasts_12 : At cX8_outlasts 12 (.aload_n 0) 1 13 := ⟨by decide +kernel, rfl⟩
theorem iX8_outlasts_13 : At cX8_outlasts 13 (.getfield 13) 3 16 := ⟨by decide +kernel, rfl⟩
theorem iX8_outlasts_16 : At cX8_outlasts 16 (.iload_n 3) 1 17 := ⟨by decide +kernel, rfl⟩
theorem iX8_outlasts_17 : At cX8_outlasts 17 (.iaload) 1 18 := ⟨by decide +kernel, rfl⟩
theorem iX8_outlasts_18 : At cX8_outlasts 18 (.aload_n 0) 1 19 := ⟨by decide +kernel, rfl⟩
theorem iX8_outlasts_19 : At cX8_outlasts 19 (.getfield 22) 3 22 := ⟨by decide +kernel, rfl⟩
theorem iX8_outlasts_22 : At cX8_outlasts 22 (.imul) 1 23 := ⟨by decide +kernel, rfl⟩
theorem iX8_outlasts_23 : At cX8_outlasts 23 (.iload_n 2) 1 24 := ⟨by decide +kernel, rfl⟩
theorem iX8_outlasts_24 : At cX8_outlasts 24 (.imul) 1 25 := ⟨by decide +kernel, rfl⟩
theorem iX8_outlasts_25 : At cX8_outlasts 25 (.if_icmp .lt 7) 3 28 := ⟨by decide +kernel, rfl⟩
theorem iX8_outlasts_28 : At cX8_outlasts 28 (.iconst 1) 1 29 := ⟨by decide +kernel, rfl⟩
theorem iX8_outlasts_29 : At cX8_outlasts 29 (.goto 4) 3 32 := ⟨by decide +kernel, rfl⟩
theorem iX8_outlasts_32 : At cX8_outlasts 32 (.iconst 0) 1 33 := ⟨by decide +kernel, rfl⟩
theorem iX8_outlasts_33 : At cX8_outlasts 33 (.ireturn) 1 34 := ⟨by decide +kernel, rfl⟩
theorem iX8_feeder_0 : At cX8_feeder 0 (.iconst 0) 1 1 := ⟨by decide +kernel, rfl⟩
theorem iX8_feeder_1 : At cX8_feeder 1 (.istore_n 3) 1 2 := ⟨by decide +kernel, rfl⟩
theorem iX8_feeder_2 : At cX8_feeder 2 (.iload_n 3) 1 3 := ⟨by decide +kernel, rfl⟩
theorem iX8_feeder_3 : At cX8_feeder 3 (.aload_n 0) 1 4 := ⟨by decide +kernel, rfl⟩
theorem iX8_feeder_4 : At cX8_feeder 4 (.getfield 7) 3 7 := ⟨by decide +kernel, rfl⟩
theorem iX8_feeder_7 : At cX8_feeder 7 (.iconst 0) 1 8 := ⟨by decide +kernel, rfl⟩
theorem iX8_feeder_8 : At cX8_feeder 8 (.iaload) 1 9 := ⟨by decide +kernel, rfl⟩
theorem iX8_feeder_9 : At cX8_feeder 9 (.if_icmp .ge 67) 3 12 := ⟨by decide +kernel, rfl⟩
theorem iX8_feeder_12 : At cX8_feeder 12 (.iload_n 2) 1 13 := ⟨by decide +kernel, rfl⟩
theorem iX8_feeder_13 : At cX8_feeder 13 (.iload_n 3) 1 14 := ⟨by decide +kernel, rfl⟩
theorem iX8_feeder_14 : At cX8_feeder 14 (.invokestatic 151) 3 17 := ⟨by decide +kernel, rfl⟩
theorem iX8_feeder_17 : At cX8_feeder 17 (.ifCond .eq 53) 3 20 := ⟨by decide +kernel, rfl⟩
theorem iX8_feeder_20 : At cX8_feeder 20 (.aload_n 0) 1 21 := ⟨by decide +kernel, rfl⟩
theorem iX8_feeder_21 : At cX8_feeder 21 (.getfield 54) 3 24 := ⟨by decide +kernel, rfl⟩
theorem iX8_feeder_24 : At cX8_feeder 24 (.aload_n 0) 1 25 := ⟨by decide +kernel, rfl⟩
theorem iX8_feeder_25 : At cX8_feeder 25 (.getfield 7) 3 28 := ⟨by decide +kernel, rfl⟩
theorem iX8_feeder_28 : At cX8_feeder 28 (.iconst 1) 1 29 := ⟨by decide +kernel, rfl⟩
theorem iX8_feeder_29 : At cX8_feeder 29 (.iload_n 3) 1 30 := ⟨by decide +kernel, rfl⟩
theorem iX8_feeder_30 : At cX8_feeder 30 (.iadd) 1 31 := ⟨by decide +kernel, rfl⟩
theorem iX8_feeder_31 : At cX8_feeder 31 (.iaload) 1 32 := ⟨by decide +kernel, rfl⟩
theorem iX8_feeder_32 : At cX8_feeder 32 (.iaload) 1 33 := ⟨by decide +kernel, rfl⟩
theorem iX8_feeder_33 : At cX8_feeder 33 (.aload_n 0) 1 34 := ⟨by decide +kernel, rfl⟩
theorem iX8_feeder_34 : At cX8_feeder 34 (.getfield 54) 3 37 := ⟨by decide +kernel, rfl⟩
theorem iX8_feeder_37 : At cX8_feeder 37 (.iload_n 1) 1 38 := ⟨by decide +kernel, rfl⟩
theorem iX8_feeder_38 : At cX8_feeder 38 (.iaload) 1 39 := ⟨by decide +kernel, rfl⟩
theorem iX8_feeder_39 : At cX8_feeder 39 (.if_icmp .ne 31) 3 42 := ⟨by decide +kernel, rfl⟩
theorem iX8_feeder_42 : At cX8_feeder 42 (.aload_n 0) 1 43 := ⟨by decide +kernel, rfl⟩
theorem iX8_feeder_43 : At cX8_feeder 43 (.aload_n 0) 1 44 := ⟨by decide +kernel, rfl⟩
theorem iX8_feeder_44 : At cX8_feeder 44 (.getfield 7) 3 47 := ⟨by decide +kernel, rfl⟩
theorem iX8_feeder_47 : At cX8_feeder 47 (.bipush 7) 2 49 := ⟨by decide +kernel, rfl⟩
theorem iX8_feeder_49 : At cX8_feeder 49 (.iload_n 3) 1 50 := ⟨by decide +kernel, rfl⟩
theorem iX8_feeder_50 : At cX8_feeder 50 (.iadd) 1 51 := ⟨by decide +kernel, rfl⟩
theorem iX8_feeder_51 : At cX8_feeder 51 (.iaload) 1 52 := ⟨by decide +kernel, rfl⟩
theorem iX8_feeder_52 : At cX8_feeder 52 (.aload_n 0) 1 53 := ⟨by decide +kernel, rfl⟩
theorem iX8_feeder_53 : At cX8_feeder 53 (.getfield 7) 3 56 := ⟨by decide +kernel, rfl⟩
theorem iX8_feeder_56 : At cX8_feeder 56 (.bipush 13) 2 58 := ⟨by decide +kernel, rfl⟩
theorem iX8_feeder_58 : At cX8_feeder 58 (.iload_n 3) 1 59 := ⟨by decide +kernel, rfl⟩
theorem iX8_feeder_59 : At cX8_feeder 59 (.iadd) 1 60 := ⟨by decide +kernel, rfl⟩
theorem iX8_feeder_60 : At cX8_feeder 60 (.iaload) 1 61 := ⟨by decide +kernel, rfl⟩
theorem iX8_feeder_61 : At cX8_feeder 61 (.iload_n 1) 1 62 := ⟨by decide +kernel, rfl⟩
theorem iX8_feeder_62 : At cX8_feeder 62 (.invokevirtual 188) 3 65 := ⟨by decide +kernel, rfl⟩
theorem iX8_feeder_65 : At cX8_feeder 65 (.ifCond .eq 5) 3 68 := ⟨by decide +kernel, rfl⟩
theorem iX8_feeder_68 : At cX8_feeder 68 (.iload_n 3) 1 69 := ⟨by decide +kernel, rfl⟩
theorem iX8_feeder_69 : At cX8_feeder 69 (.ireturn) 1 70 := ⟨by decide +kernel, rfl⟩
theorem iX8_feeder_70 : At cX8_feeder 70 (.iinc 3 1) 3 73 := ⟨by decide +kernel, rfl⟩
theorem iX8_feeder_73 : At cX8_feeder 73 (.goto (-71)) 3 76 := ⟨by decide +kernel, rfl⟩
theorem iX8_feeder_76 : At cX8_feeder 76 (.iconst (-1)) 1 77 := ⟨by decide +kernel, rfl⟩
theorem iX8_feeder_77 : At cX8_feeder 77 (.ireturn) 1 78 := ⟨by decide +kernel, rfl⟩
theorem iX8_fedBy_0 : At cX8_fedBy 0 (.aload_n 0) 1 1 := ⟨by decide +kernel, rfl⟩
theorem iX8_fedBy_1 : At cX8_fedBy 1 (.invokevirtual 172) 3 4 := ⟨by decide +kernel, rfl⟩
theorem iX8_fedBy_4 : At cX8_fedBy 4 (.istore_n 2) 1 5 := ⟨by decide +kernel, rfl⟩
theorem iX8_fedBy_5 : At cX8_fedBy 5 (.iconst 0) 1 6 := ⟨by decide +kernel, rfl⟩
theorem iX8_fedBy_6 : At cX8_fedBy 6 (.istore_n 3) 1 7 := ⟨by decide +kernel, rfl⟩
theorem iX8_fedBy_7 : At cX8_fedBy 7 (.iconst 0) 1 8 := ⟨by decide +kernel, rfl⟩
theorem iX8_fedBy_8 : At cX8_fedBy 8 (.istore 4) 2 10 := ⟨by decide +kernel, rfl⟩
theorem iX8_fedBy_10 : At cX8_fedBy 10 (.iload 4) 2 12 := ⟨by decide +kernel, rfl⟩
theorem iX8_fedBy_12 : At cX8_fedBy 12 (.aload_n 0) 1 13 := ⟨by decide +kernel, rfl⟩
theorem iX8_fedBy_13 : At cX8_fedBy 13 (.getfield 57) 3 16 := ⟨by decide +kernel, rfl⟩
theorem iX8_fedBy_16 : At cX8_fedBy 16 (.if_icmp .ge 40) 3 19 := ⟨by decide +kernel, rfl⟩
theorem iX8_fedBy_19 : At cX8_fedBy 19 (.iload_n 3) 1 20 := ⟨by decide +kernel, rfl⟩
theorem iX8_fedBy_20 : At cX8_fedBy 20 (.iload_n 2) 1 21 := ⟨by decide +kernel, rfl⟩
theorem iX8_fedBy_21 : At cX8_fedBy 21 (.iload 4) 2 23 := ⟨by decide +kernel, rfl⟩
theorem iX8_fedBy_23 : At cX8_fedBy 23 (.invokestatic 151) 3 26 := ⟨by decide +kernel, rfl⟩
theorem iX8_fedBy_26 : At cX8_fedBy 26 (.ifCond .eq 21) 3 29 := ⟨by decide +kernel, rfl⟩
theorem iX8_fedBy_29 : At cX8_fedBy 29 (.aload_n 0) 1 30 := ⟨by decide +kernel, rfl⟩
theorem iX8_fedBy_30 : At cX8_fedBy 30 (.iload 4) 2 32 := ⟨by decide +kernel, rfl⟩
theorem iX8_fedBy_32 : At cX8_fedBy 32 (.iload_n 1) 1 33 := ⟨by decide +kernel, rfl⟩
theorem iX8_fedBy_33 : At cX8_fedBy 33 (.invokevirtual 192) 3 36 := ⟨by decide +kernel, rfl⟩
theorem iX8_fedBy_36 : At cX8_fedBy 36 (.iconst (-1)) 1 37 := ⟨by decide +kernel, rfl⟩
theorem iX8_fedBy_37 : At cX8_fedBy 37 (.if_icmp .eq 10) 3 40 := ⟨by decide +kernel, rfl⟩
theorem iX8_fedBy_40 : At cX8_fedBy 40 (.iconst 1) 1 41 := ⟨by decide +kernel, rfl⟩
theorem iX8_fedBy_41 : At cX8_fedBy 41 (.iload 4) 2 43 := ⟨by decide +kernel, rfl⟩
theorem iX8_fedBy_43 : At cX8_fedBy 43 (.ishl) 1 44 := ⟨by decide +kernel, rfl⟩
theorem iX8_fedBy_44 : At cX8_fedBy 44 (.goto 4) 3 47 := ⟨by decide +kernel, rfl⟩
theorem iX8_fedBy_47 : At cX8_fedBy 47 (.iconst 0) 1 48 := ⟨by decide +kernel, rfl⟩
theorem iX8_fedBy_48 : At cX8_fedBy 48 (.ior) 1 49 := ⟨by decide +kernel, rfl⟩
theorem iX8_fedBy_49 : At cX8_fedBy 49 (.istore_n 3) 1 50 := ⟨by decide +kernel, rfl⟩
theorem iX8_fedBy_50 : At cX8_fedBy 50 (.iinc 4 1) 3 53 := ⟨by decide +kernel, rfl⟩
theorem iX8_fedBy_53 : At cX8_fedBy 53 (.goto (-43)) 3 56 := ⟨by decide +kernel, rfl⟩
theorem iX8_fedBy_56 : At cX8_fedBy 56 (.iload_n 3) 1 57 := ⟨by decide +kernel, rfl⟩
theorem iX8_fedBy_57 : At cX8_fedBy 57 (.ireturn) 1 58 := ⟨by decide +kernel, rfl⟩
theorem iX8_allRisers_0 : At cX8_allRisers 0 (.iconst 1) 1 1 := ⟨by decide +kernel, rfl⟩
theorem iX8_allRisers_1 : At cX8_allRisers 1 (.aload_n 0) 1 2 := ⟨by decide +kernel, rfl⟩
theorem iX8_allRisers_2 : At cX8_allRisers 2 (.getfield 7) 3 5 := ⟨by decide +kernel, rfl⟩
theorem iX8_allRisers_5 : At cX8_allRisers 5 (.iconst 0) 1 6 := ⟨by decide +kernel, rfl⟩
theorem iX8_allRisers_6 : At cX8_allRisers 6 (.iaload) 1 7 := ⟨by decide +kernel, rfl⟩
theorem iX8_allRisers_7 : At cX8_allRisers 7 (.ishl) 1 8 := ⟨by decide +kernel, rfl⟩
theorem iX8_allRisers_8 : At cX8_allRisers 8 (.iconst 1) 1 9 := ⟨by decide +kernel, rfl⟩
theorem iX8_allRisers_9 : At cX8_allRisers 9 (.isub) 1 10 := ⟨by decide +kernel, rfl⟩
theorem iX8_allRisers_10 : At cX8_allRisers 10 (.ireturn) 1 11 := ⟨by decide +kernel, rfl⟩
theorem iX8_fed_0 : At cX8_fed 0 (.aload_n 0) 1 1 := ⟨by decide +kernel, rfl⟩
theorem iX8_fed_1 : At cX8_fed 1 (.invokevirtual 195) 3 4 := ⟨by decide +kernel, rfl⟩
theorem iX8_fed_4 : At cX8_fed 4 (.aload_n 0) 1 5 := ⟨by decide +kernel, rfl⟩
theorem iX8_fed_5 : At cX8_fed 5 (.aload_n 0) 1 6 := ⟨by decide +kernel, rfl⟩
theorem iX8_fed_6 : At cX8_fed 6 (.invokevirtual 198) 3 9 := ⟨by decide +kernel, rfl⟩
theorem iX8_fed_9 : At cX8_fed 9 (.invokevirtual 201) 3 12 := ⟨by decide +kernel, rfl⟩
theorem iX8_fed_12 : At cX8_fed 12 (.ireturn) 1 13 := ⟨by decide +kernel, rfl⟩
theorem iX8_section_0 : At cX8_section 0 (.aload_n 0) 1 1 := ⟨by decide +kernel, rfl⟩
theorem iX8_section_1 : At cX8_section 1 (.iload_n 1) 1 2 := ⟨by decide +kernel, rfl⟩
theorem iX8_section_2 : At cX8_section 2 (.invokevirtual 204) 3 5 := ⟨by decide +kernel, rfl⟩
theorem iX8_section_5 : At cX8_section 5 (.ifCond .ne 6) 3 8 := ⟨by decide +kernel, rfl⟩
theorem iX8_section_8 : At cX8_section 8 (.bipush (-2)) 2 10 := ⟨by decide +kernel, rfl⟩
theorem iX8_section_10 : At cX8_section 10 (.ireturn) 1 11 := ⟨by decide +kernel, rfl⟩
theorem iX8_section_11 : At cX8_section 11 (.iload_n 2) 1 12 := ⟨by decide +kernel, rfl⟩
theorem iX8_section_12 : At cX8_section 12 (.tableswitch 157 0 8 #[52, 59, 66, 76, 83, 105, 126, 140, 146]) 52 64 := ⟨by decide +kernel, rfl⟩
theorem iX8_section_64 : At cX8_section 64 (.aload_n 0) 1 65 := ⟨by decide +kernel, rfl⟩
theorem iX8_section_65 : At cX8_section 65 (.getfield 13) 3 68 := ⟨by decide +kernel, rfl⟩
theorem iX8_section_68 : At cX8_section 68 (.iload_n 1) 1 69 := ⟨by decide +kernel, rfl⟩
theorem iX8_section_69 : At cX8_section 69 (.iaload) 1 70 := ⟨by decide +kernel, rfl⟩
theorem iX8_section_70 : At cX8_section 70 (.ireturn) 1 71 := ⟨by decide +kernel, rfl⟩
theorem iX8_section_71 : At cX8_section 71 (.aload_n 0) 1 72 := ⟨by decide +kernel, rfl⟩
theorem iX8_section_72 : At cX8_section 72 (.getfield 16) 3 75 := ⟨by decide +kernel, rfl⟩
theorem iX8_section_75 : At cX8_section 75 (.iload_n 1) 1 76 := ⟨by decide +kernel, rfl⟩
theorem iX8_section_76 : At cX8_section 76 (.iaload) 1 77 := ⟨by decide +kernel, rfl⟩
theorem iX8_section_77 : At cX8_section 77 (.ireturn) 1 78 := ⟨by decide +kernel, rfl⟩
theorem iX8_section_78 : At cX8_section 78 (.aload_n 0) 1 79 := ⟨by decide +kernel, rfl⟩
theorem iX8_section_79 : At cX8_section 79 (.getfield 7) 3 82 := ⟨by decide +kernel, rfl⟩
theorem iX8_section_82 : At cX8_section 82 (.bipush 19) 2 84 := ⟨by decide +kernel, rfl⟩
theorem iX8_section_84 : At cX8_section 84 (.iload_n 1) 1 85 := ⟨by decide +kernel, rfl⟩
theorem iX8_section_85 : At cX8_section 85 (.iadd) 1 86 := ⟨by decide +kernel, rfl⟩
theorem iX8_section_86 : At cX8_section 86 (.iaload) 1 87 := ⟨by decide +kernel, rfl⟩
theorem iX8_section_87 : At cX8_section 87 (.ireturn) 1 88 := ⟨by decide +kernel, rfl⟩
theorem iX8_section_88 : At cX8_section 88 (.aload_n 0) 1 89 := ⟨by decide +kernel, rfl⟩
theorem iX8_section_89 : At cX8_section 89 (.getfield 19) 3 92 := ⟨by decide +kernel, rfl⟩
theorem iX8_section_92 : At cX8_section 92 (.iload_n 1) 1 93 := ⟨by decide +kernel, rfl⟩
theorem iX8_section_93 : At cX8_section 93 (.iaload) 1 94 := ⟨by decide +kernel, rfl⟩
theorem iX8_section_94 : At cX8_section 94 (.ireturn) 1 95 := ⟨by decide +kernel, rfl⟩
theorem iX8_section_95 : At cX8_section 95 (.aload_n 0) 1 96 := ⟨by decide +kernel, rfl⟩
theorem iX8_section_96 : At cX8_section 96 (.getfield 13) 3 99 := ⟨by decide +kernel, rfl⟩
theorem iX8_section_99 : At cX8_section 99 (.iload_n 1) 1 100 := ⟨by decide +kernel, rfl⟩
theorem iX8_section_100 : At cX8_section 100 (.iaload) 1 101 := ⟨by decide +kernel, rfl⟩
theorem iX8_section_101 : At cX8_section 101 (.aload_n 0) 1 102 := ⟨by decide +kernel, rfl⟩
theorem iX8_section_102 : At cX8_section 102 (.getfield 13) 3 105 := ⟨by decide +kernel, rfl⟩
theorem iX8_section_105 : At cX8_section 105 (.iload_n 1) 1 106 := ⟨by decide +kernel, rfl⟩
theorem iX8_section_106 : At cX8_section 106 (.iaload) 1 107 := ⟨by decide +kernel, rfl⟩
theorem iX8_section_107 : At cX8_section 107 (.aload_n 0) 1 108 := ⟨by decide +kernel, rfl⟩
theorem iX8_section_108 : At cX8_section 108 (.iload_n 1) 1 109 := ⟨by decide +kernel, rfl⟩
theorem iX8_section_109 : At cX8_section 109 (.invokevirtual 147) 3 112 := ⟨by decide +kernel, rfl⟩
theorem iX8_section_112 : At cX8_section 112 (.invokestatic 207) 3 115 := ⟨by decide +kernel, rfl⟩
theorem iX8_section_115 : At cX8_section 115 (.idiv) 1 116 := ⟨by decide +kernel, rfl⟩
theorem iX8_section_116 : At cX8_section 116 (.ireturn) 1 117 := ⟨by decide +kernel, rfl⟩
theorem iX8_section_117 : At cX8_section 117 (.aload_n 0) 1 118 := ⟨by decide +kernel, rfl⟩
theorem iX8_section_118 : At cX8_section 118 (.iload_n 1) 1 119 := ⟨by decide +kernel, rfl⟩
theorem iX8_section_119 : At cX8_section 119 (.invokevirtual 147) 3 122 := ⟨by decide +kernel, rfl⟩
theorem iX8_section_122 : At cX8_section 122 (.aload_n 0) 1 123 := ⟨by decide +kernel, rfl⟩
theorem iX8_section_123 : At cX8_section 123 (.getfield 13) 3 126 := ⟨by decide +kernel, rfl⟩
theorem iX8_section_126 : At cX8_section 126 (.iload_n 1) 1 127 := ⟨by decide +kernel, rfl⟩
theorem iX8_section_127 : At cX8_section 127 (.iaload) 1 128 := ⟨by decide +kernel, rfl⟩
theorem iX8_section_128 : At cX8_section 128 (.aload_n 0) 1 129 := ⟨by decide +kernel, rfl⟩
theorem iX8_section_129 : At cX8_section 129 (.iload_n 1) 1 130 := ⟨by decide +kernel, rfl⟩
theorem iX8_section_130 : At cX8_section 130 (.invokevirtual 147) 3 133 := ⟨by decide +kernel, rfl⟩
theorem iX8_section_133 : At cX8_section 133 (.invokestatic 207) 3 136 := ⟨by decide +kernel, rfl⟩
theorem iX8_section_136 : At cX8_section 136 (.idiv) 1 137 := ⟨by decide +kernel, rfl⟩
theorem iX8_section_137 : At cX8_section 137 (.ireturn) 1 138 := ⟨by decide +kernel, rfl⟩
theorem iX8_section_138 : At cX8_section 138 (.aload_n 0) 1 139 := ⟨by decide +kernel, rfl⟩
theorem iX8_section_139 : At cX8_section 139 (.iload_n 1) 1 140 := ⟨by decide +kernel, rfl⟩
theorem iX8_section_140 : At cX8_section 140 (.invokevirtual 160) 3 143 := ⟨by decide +kernel, rfl⟩
theorem iX8_section_143 : At cX8_section 143 (.ifCond .eq 7) 3 146 := ⟨by decide +kernel, rfl⟩
theorem iX8_section_146 : At cX8_section 146 (.iconst 1) 1 147 := ⟨by decide +kernel, rfl⟩
theorem iX8_section_147 : At cX8_section 147 (.goto 4) 3 150 := ⟨by decide +kernel, rfl⟩
theorem iX8_section_150 : At cX8_section 150 (.iconst 0) 1 151 := ⟨by decide +kernel, rfl⟩
theorem iX8_section_151 : At cX8_section 151 (.ireturn) 1 152 := ⟨by decide +kernel, rfl⟩
theorem iX8_section_152 : At cX8_section 152 (.aload_n 0) 1 153 := ⟨by decide +kernel, rfl⟩
theorem iX8_section_153 : At cX8_section 153 (.iload_n 1) 1 154 := ⟨by decide +kernel, rfl⟩
theorem iX8_section_154 : At cX8_section 154 (.invokevirtual 166) 3 157 := ⟨by decide +kernel, rfl⟩
theorem iX8_section_157 : At cX8_section 157 (.ireturn) 1 158 := ⟨by decide +kernel, rfl⟩
theorem iX8_section_158 : At cX8_section 158 (.aload_n 0) 1 159 := ⟨by decide +kernel, rfl⟩
theorem iX8_section_159 : At cX8_section 159 (.iload_n 1) 1 160 := ⟨by decide +kernel, rfl⟩
theorem iX8_section_160 : At cX8_section 160 (.invokevirtual 166) 3 163 := ⟨by decide +kernel, rfl⟩
theorem iX8_section_163 : At cX8_section 163 (.pop) 1 164 := ⟨by decide +kernel, rfl⟩
theorem iX8_section_164 : At cX8_section 164 (.aload_n 0) 1 165 := ⟨by decide +kernel, rfl⟩
theorem iX8_section_165 : At cX8_section 165 (.getfield 163) 3 168 := ⟨by decide +kernel, rfl⟩
theorem iX8_section_168 : At cX8_section 168 (.ireturn) 1 169 := ⟨by decide +kernel, rfl⟩
theorem iX8_section_169 : At cX8_section 169 (.bipush (-3)) 2 171 := ⟨by decide +kernel, rfl⟩
theorem iX8_section_171 : At cX8_section 171 (.ireturn) 1 172 := ⟨by decide +kernel, rfl⟩
theorem iX8_top_0 : At cX8_top 0 (.aload_n 0) 1 1 := ⟨by decide +kernel, rfl⟩
theorem iX8_top_1 : At cX8_top 1 (.iload_n 1) 1 2 := ⟨by decide +kernel, rfl⟩
theorem iX8_top_2 : At cX8_top 2 (.invokevirtual 204) 3 5 := ⟨by decide +kernel, rfl⟩
theorem iX8_top_5 : At cX8_top 5 (.ifCond .ne 6) 3 8 := ⟨by decide +kernel, rfl⟩
theorem iX8_top_8 : At cX8_top 8 (.bipush (-2)) 2 10 := ⟨by decide +kernel, rfl⟩
theorem iX8_top_10 : At cX8_top 10 (.ireturn) 1 11 := ⟨by decide +kernel, rfl⟩
theorem iX8_top_11 : At cX8_top 11 (.iload_n 2) 1 12 := ⟨by decide +kernel, rfl⟩
theorem iX8_top_12 : At cX8_top 12 (.i2l) 1 13 := ⟨by decide +kernel, rfl⟩
theorem iX8_top_13 : At cX8_top 13 (.lconst 0) 1 14 := ⟨by decide +kernel, rfl⟩
theorem iX8_top_14 : At cX8_top 14 (.ldc2_w 210) 3 17 := ⟨by decide +kernel, rfl⟩
theorem iX8_top_17 : At cX8_top 17 (.invokestatic 62) 3 20 := ⟨by decide +kernel, rfl⟩
theorem iX8_top_20 : At cX8_top 20 (.ifCond .ne 6) 3 23 := ⟨by decide +kernel, rfl⟩
theorem iX8_top_23 : At cX8_top 23 (.bipush (-3)) 2 25 := ⟨by decide +kernel, rfl⟩
theorem iX8_top_25 : At cX8_top 25 (.ireturn) 1 26 := ⟨by decide +kernel, rfl⟩
theorem iX8_top_26 : At cX8_top 26 (.aload_n 0) 1 27 := ⟨by decide +kernel, rfl⟩
theorem iX8_top_27 : At cX8_top 27 (.iload_n 1) 1 28 := ⟨by decide +kernel, rfl⟩
theorem iX8_top_28 : At cX8_top 28 (.invokevirtual 160) 3 31 := ⟨by decide +kernel, rfl⟩
theorem iX8_top_31 : At cX8_top 31 (.ifCond .ne 6) 3 34 := ⟨by decide +kernel, rfl⟩
theorem iX8_top_34 : At cX8_top 34 (.bipush (-4)) 2 36 := ⟨by decide +kernel, rfl⟩
theorem iX8_top_36 : At cX8_top 36 (.ireturn) 1 37 := ⟨by decide +kernel, rfl⟩
theorem iX8_top_37 : At cX8_top 37 (.aload_n 0) 1 38 := ⟨by decide +kernel, rfl⟩
theorem iX8_top_38 : At cX8_top 38 (.invokevirtual 195) 3 41 := ⟨by decide +kernel, rfl⟩
theorem iX8_top_41 : At cX8_top 41 (.aload_n 0) 1 42 := ⟨by decide +kernel, rfl⟩
theorem iX8_top_42 : At cX8_top 42 (.iload_n 1) 1 43 := ⟨by decide +kernel, rfl⟩
theorem iX8_top_43 : At cX8_top 43 (.aload_n 0) 1 44 := ⟨by decide +kernel, rfl⟩
theorem iX8_top_44 : At cX8_top 44 (.invokevirtual 198) 3 47 := ⟨by decide +kernel, rfl⟩
theorem iX8_top_47 : At cX8_top 47 (.invokevirtual 192) 3 50 := ⟨by decide +kernel, rfl⟩
theorem iX8_top_50 : At cX8_top 50 (.istore_n 3) 1 51 := ⟨by decide +kernel, rfl⟩
theorem iX8_top_51 : At cX8_top 51 (.iload_n 2) 1 52 := ⟨by decide +kernel, rfl⟩
theorem iX8_top_52 : At cX8_top 52 (.ifCond .ne 11) 3 55 := ⟨by decide +kernel, rfl⟩
theorem iX8_top_55 : At cX8_top 55 (.aload_n 0) 1 56 := ⟨by decide +kernel, rfl⟩
theorem iX8_top_56 : At cX8_top 56 (.iload_n 1) 1 57 := ⟨by decide +kernel, rfl⟩
theorem iX8_top_57 : At cX8_top 57 (.invokevirtual 169) 3 60 := ⟨by decide +kernel, rfl⟩
theorem iX8_top_60 : At cX8_top 60 (.goto 49) 3 63 := ⟨by decide +kernel, rfl⟩
theorem iX8_top_63 : At cX8_top 63 (.iload_n 2) 1 64 := ⟨by decide +kernel, rfl⟩
theorem iX8_top_64 : At cX8_top 64 (.iconst 1) 1 65 := ⟨by decide +kernel, rfl⟩
theorem iX8_top_65 : At cX8_top 65 (.if_icmp .ne 11) 3 68 := ⟨by decide +kernel, rfl⟩
theorem iX8_top_68 : At cX8_top 68 (.aload_n 0) 1 69 := ⟨by decide +kernel, rfl⟩
theorem iX8_top_69 : At cX8_top 69 (.iload_n 1) 1 70 := ⟨by decide +kernel, rfl⟩
theorem iX8_top_70 : At cX8_top 70 (.invokevirtual 182) 3 73 := ⟨by decide +kernel, rfl⟩
theorem iX8_top_73 : At cX8_top 73 (.goto 36) 3 76 := ⟨by decide +kernel, rfl⟩
theorem iX8_top_76 : At cX8_top 76 (.iload_n 2) 1 77 := ⟨by decide +kernel, rfl⟩
theorem iX8_top_77 : At cX8_top 77 (.iconst 2) 1 78 := ⟨by decide +kernel, rfl⟩
theorem iX8_top_78 : At cX8_top 78 (.if_icmp .ne 12) 3 81 := ⟨by decide +kernel, rfl⟩
theorem iX8_top_81 : At cX8_top 81 (.aload_n 0) 1 82 := ⟨by decide +kernel, rfl⟩
theorem iX8_top_82 : At cX8_top 82 (.getfield 54) 3 85 := ⟨by decide +kernel, rfl⟩
theorem iX8_top_85 : At cX8_top 85 (.iload_n 1) 1 86 := ⟨by decide +kernel, rfl⟩
theorem iX8_top_86 : At cX8_top 86 (.iaload) 1 87 := ⟨by decide +kernel, rfl⟩
theorem iX8_top_87 : At cX8_top 87 (.goto 22) 3 90 := ⟨by decide +kernel, rfl⟩
theorem iX8_top_90 : At cX8_top 90 (.iload_n 2) 1 91 := ⟨by decide +kernel, rfl⟩
theorem iX8_top_91 : At cX8_top 91 (.iconst 4) 1 92 := ⟨by decide +kernel, rfl⟩
theorem iX8_top_92 : At cX8_top 92 (.if_icmp .ne 7) 3 95 := ⟨by decide +kernel, rfl⟩
theorem iX8_top_95 : At cX8_top 95 (.iload_n 3) 1 96 := ⟨by decide +kernel, rfl⟩
theorem iX8_top_96 : At cX8_top 96 (.goto 13) 3 99 := ⟨by decide +kernel, rfl⟩
theorem iX8_top_99 : At cX8_top 99 (.iload_n 3) 1 100 := ⟨by decide +kernel, rfl⟩
theorem iX8_top_100 : At cX8_top 100 (.iconst (-1)) 1 101 := ⟨by decide +kernel, rfl⟩
theorem iX8_top_101 : At cX8_top 101 (.if_icmp .ne 7) 3 104 := ⟨by decide +kernel, rfl⟩
theorem iX8_top_104 : At cX8_top 104 (.iconst 0) 1 105 := ⟨by decide +kernel, rfl⟩
theorem iX8_top_105 : At cX8_top 105 (.goto 4) 3 108 := ⟨by decide +kernel, rfl⟩
theorem iX8_top_108 : At cX8_top 108 (.iconst 1) 1 109 := ⟨by decide +kernel, rfl⟩
theorem iX8_top_109 : At cX8_top 109 (.ireturn) 1 110 := ⟨by decide +kernel, rfl⟩
theorem iX8_isRiser_0 : At cX8_isRiser 0 (.iload_n 1) 1 1 := ⟨by decide +kernel, rfl⟩
theorem iX8_isRiser_1 : At cX8_isRiser 1 (.i2l) 1 2 := ⟨by decide +kernel, rfl⟩
theorem iX8_isRiser_2 : At cX8_isRiser 2 (.lconst 0) 1 3 := ⟨by decide +kernel, rfl⟩
theorem iX8_isRiser_3 : At cX8_isRiser 3 (.aload_n 0) 1 4 := ⟨by decide +kernel, rfl⟩
theorem iX8_isRiser_4 : At cX8_isRiser 4 (.getfield 7) 3 7 := ⟨by decide +kernel, rfl⟩
theorem iX8_isRiser_7 : At cX8_isRiser 7 (.iconst 0) 1 8 := ⟨by decide +kernel, rfl⟩
theorem iX8_isRiser_8 : At cX8_isRiser 8 (.iaload) 1 9 := ⟨by decide +kernel, rfl⟩
theorem iX8_isRiser_9 : At cX8_isRiser 9 (.iconst 1) 1 10 := ⟨by decide +kernel, rfl⟩
theorem iX8_isRiser_10 : At cX8_isRiser 10 (.isub) 1 11 := ⟨by decide +kernel, rfl⟩
theorem iX8_isRiser_11 : At cX8_isRiser 11 (.i2l) 1 12 := ⟨by decide +kernel, rfl⟩
theorem iX8_isRiser_12 : At cX8_isRiser 12 (.invokestatic 62) 3 15 := ⟨by decide +kernel, rfl⟩
theorem iX8_isRiser_15 : At cX8_isRiser 15 (.ireturn) 1 16 := ⟨by decide +kernel, rfl⟩
theorem iX8_riser_0 : At cX8_riser 0 (.aload_n 0) 1 1 := ⟨by decide +kernel, rfl⟩
theorem iX8_riser_1 : At cX8_riser 1 (.iload_n 1) 1 2 := ⟨by decide +kernel, rfl⟩
theorem iX8_riser_2 : At cX8_riser 2 (.invokevirtual 212) 3 5 := ⟨by decide +kernel, rfl⟩
theorem iX8_riser_5 : At cX8_riser 5 (.ifCond .ne 6) 3 8 := ⟨by decide +kernel, rfl⟩
theorem iX8_riser_8 : At cX8_riser 8 (.bipush (-2)) 2 10 := ⟨by decide +kernel, rfl⟩
theorem iX8_riser_10 : At cX8_riser 10 (.ireturn) 1 11 := ⟨by decide +kernel, rfl⟩
theorem iX8_riser_11 : At cX8_riser 11 (.iload_n 2) 1 12 := ⟨by decide +kernel, rfl⟩
theorem iX8_riser_12 : At cX8_riser 12 (.tableswitch 83 0 3 #[32, 41, 51, 61]) 32 44 := ⟨by decide +kernel, rfl⟩
theorem iX8_riser_44 : At cX8_riser 44 (.aload_n 0) 1 45 := ⟨by decide +kernel, rfl⟩
theorem iX8_riser_45 : At cX8_riser 45 (.getfield 7) 3 48 := ⟨by decide +kernel, rfl⟩
theorem iX8_riser_48 : At cX8_riser 48 (.iconst 1) 1 49 := ⟨by decide +kernel, rfl⟩
theorem iX8_riser_49 : At cX8_riser 49 (.iload_n 1) 1 50 := ⟨by decide +kernel, rfl⟩
theorem iX8_riser_50 : At cX8_riser 50 (.iadd) 1 51 := ⟨by decide +kernel, rfl⟩
theorem iX8_riser_51 : At cX8_riser 51 (.iaload) 1 52 := ⟨by decide +kernel, rfl⟩
theorem iX8_riser_52 : At cX8_riser 52 (.ireturn) 1 53 := ⟨by decide +kernel, rfl⟩
theorem iX8_riser_53 : At cX8_riser 53 (.aload_n 0) 1 54 := ⟨by decide +kernel, rfl⟩
theorem iX8_riser_54 : At cX8_riser 54 (.getfield 7) 3 57 := ⟨by decide +kernel, rfl⟩
theorem iX8_riser_57 : At cX8_riser 57 (.bipush 7) 2 59 := ⟨by decide +kernel, rfl⟩
theorem iX8_riser_59 : At cX8_riser 59 (.iload_n 1) 1 60 := ⟨by decide +kernel, rfl⟩
theorem iX8_riser_60 : At cX8_riser 60 (.iadd) 1 61 := ⟨by decide +kernel, rfl⟩
theorem iX8_riser_61 : At cX8_riser 61 (.iaload) 1 62 := ⟨by decide +kernel, rfl⟩
theorem iX8_riser_62 : At cX8_riser 62 (.ireturn) 1 63 := ⟨by decide +kernel, rfl⟩
theorem iX8_riser_63 : At cX8_riser 63 (.aload_n 0) 1 64 := ⟨by decide +kernel, rfl⟩
theorem iX8_riser_64 : At cX8_riser 64 (.getfield 7) 3 67 := ⟨by decide +kernel, rfl⟩
theorem iX8_riser_67 : At cX8_riser 67 (.bipush 13) 2 69 := ⟨by decide +kernel, rfl⟩
theorem iX8_riser_69 : At cX8_riser 69 (.iload_n 1) 1 70 := ⟨by decide +kernel, rfl⟩
theorem iX8_riser_70 : At cX8_riser 70 (.iadd) 1 71 := ⟨by decide +kernel, rfl⟩
theorem iX8_riser_71 : At cX8_riser 71 (.iaload) 1 72 := ⟨by decide +kernel, rfl⟩
theorem iX8_riser_72 : At cX8_riser 72 (.ireturn) 1 73 := ⟨by decide +kernel, rfl⟩
theorem iX8_riser_73 : At cX8_riser 73 (.aload_n 0) 1 74 := ⟨by decide +kernel, rfl⟩
theorem iX8_riser_74 : At cX8_riser 74 (.invokevirtual 215) 3 77 := ⟨by decide +kernel, rfl⟩
theorem iX8_riser_77 : At cX8_riser 77 (.aload_n 0) 1 78 := ⟨by decide +kernel, rfl⟩
theorem iX8_riser_78 : At cX8_riser 78 (.aload_n 0) 1 79 := ⟨by decide +kernel, rfl⟩
theorem iX8_riser_79 : At cX8_riser 79 (.invokevirtual 198) 3 82 := ⟨by decide +kernel, rfl⟩
theorem iX8_riser_82 : At cX8_riser 82 (.iconst 1) 1 83 := ⟨by decide +kernel, rfl⟩
theorem iX8_riser_83 : At cX8_riser 83 (.iload_n 1) 1 84 := ⟨by decide +kernel, rfl⟩
theorem iX8_riser_84 : At cX8_riser 84 (.ishl) 1 85 := ⟨by decide +kernel, rfl⟩
theorem iX8_riser_85 : At cX8_riser 85 (.iconst (-1)) 1 86 := ⟨by decide +kernel, rfl⟩
theorem iX8_riser_86 : At cX8_riser 86 (.ixor) 1 87 := ⟨by decide +kernel, rfl⟩
theorem iX8_riser_87 : At cX8_riser 87 (.iand) 1 88 := ⟨by decide +kernel, rfl⟩
theorem iX8_riser_88 : At cX8_riser 88 (.invokevirtual 201) 3 91 := ⟨by decide +kernel, rfl⟩
theorem iX8_riser_91 : At cX8_riser 91 (.iconst (-1)) 1 92 := ⟨by decide +kernel, rfl⟩
theorem iX8_riser_92 : At cX8_riser 92 (.ixor) 1 93 := ⟨by decide +kernel, rfl⟩
theorem iX8_riser_93 : At cX8_riser 93 (.iand) 1 94 := ⟨by decide +kernel, rfl⟩
theorem iX8_riser_94 : At cX8_riser 94 (.ireturn) 1 95 := ⟨by decide +kernel, rfl⟩
theorem iX8_riser_95 : At cX8_riser 95 (.bipush (-3)) 2 97 := ⟨by decide +kernel, rfl⟩
theorem iX8_riser_97 : At cX8_riser 97 (.ireturn) 1 98 := ⟨by decide +kernel, rfl⟩
theorem iX8_keepPast_0 : At cX8_keepPast 0 (.iconst 0) 1 1 := ⟨by decide +kernel, rfl⟩
theorem iX8_keepPast_1 : At cX8_keepPast 1 (.istore_n 1) 1 2 := ⟨by decide +kernel, rfl⟩
theorem iX8_keepPast_2 : At cX8_keepPast 2 (.iload_n 1) 1 3 := ⟨by decide +kernel, rfl⟩
theorem iX8_keepPast_3 : At cX8_keepPast 3 (.sipush 203) 3 6 := ⟨by decide +kernel, rfl⟩
theorem iX8_keepPast_6 : At cX8_keepPast 6 (.if_icmp .ge 36) 3 9 := ⟨by decide +kernel, rfl⟩
theorem iX8_keepPast_9 : At cX8_keepPast 9 (.aload_n 0) 1 10 := ⟨by decide +kernel, rfl⟩
theorem iX8_keepPast_10 : At cX8_keepPast 10 (.getfield 144) 3 13 := ⟨by decide +kernel, rfl⟩
theorem iX8_keepPast_13 : At cX8_keepPast 13 (.bipush 8) 2 15 := ⟨by decide +kernel, rfl⟩
theorem iX8_keepPast_15 : At cX8_keepPast 15 (.if_icmp .ne 27) 3 18 := ⟨by decide +kernel, rfl⟩
theorem iX8_keepPast_18 : At cX8_keepPast 18 (.aload_n 0) 1 19 := ⟨by decide +kernel, rfl⟩
theorem iX8_keepPast_19 : At cX8_keepPast 19 (.getfield 7) 3 22 := ⟨by decide +kernel, rfl⟩
theorem iX8_keepPast_22 : At cX8_keepPast 22 (.bipush 29) 2 24 := ⟨by decide +kernel, rfl⟩
theorem iX8_keepPast_24 : At cX8_keepPast 24 (.iload_n 1) 1 25 := ⟨by decide +kernel, rfl⟩
theorem iX8_keepPast_25 : At cX8_keepPast 25 (.iadd) 1 26 := ⟨by decide +kernel, rfl⟩
theorem iX8_keepPast_26 : At cX8_keepPast 26 (.aload_n 0) 1 27 := ⟨by decide +kernel, rfl⟩
theorem iX8_keepPast_27 : At cX8_keepPast 27 (.getfield 7) 3 30 := ⟨by decide +kernel, rfl⟩
theorem iX8_keepPast_30 : At cX8_keepPast 30 (.bipush 58) 2 32 := ⟨by decide +kernel, rfl⟩
theorem iX8_keepPast_32 : At cX8_keepPast 32 (.iload_n 1) 1 33 := ⟨by decide +kernel, rfl⟩
theorem iX8_keepPast_33 : At cX8_keepPast 33 (.iadd) 1 34 := ⟨by decide +kernel, rfl⟩
theorem iX8_keepPast_34 : At cX8_keepPast 34 (.iaload) 1 35 := ⟨by decide +kernel, rfl⟩
theorem iX8_keepPast_35 : At cX8_keepPast 35 (.iastore) 1 36 := ⟨by decide +kernel, rfl⟩
theorem iX8_keepPast_36 : At cX8_keepPast 36 (.iinc 1 1) 3 39 := ⟨by decide +kernel, rfl⟩
theorem iX8_keepPast_39 : At cX8_keepPast 39 (.goto (-37)) 3 42 := ⟨by decide +kernel, rfl⟩
theorem iX8_keepPast_42 : At cX8_keepPast 42 (.aload_n 0) 1 43 := ⟨by decide +kernel, rfl⟩
theorem iX8_keepPast_43 : At cX8_keepPast 43 (.dup) 1 44 := ⟨by decide +kernel, rfl⟩
theorem iX8_keepPast_44 : At cX8_keepPast 44 (.getfield 144) 3 47 := ⟨by decide +kernel, rfl⟩
theorem iX8_keepPast_47 : At cX8_keepPast 47 (.aload_n 0) 1 48 := ⟨by decide +kernel, rfl⟩
theorem iX8_keepPast_48 : At cX8_keepPast 48 (.getfield 144) 3 51 := ⟨by decide +kernel, rfl⟩
theorem iX8_keepPast_51 : At cX8_keepPast 51 (.bipush 8) 2 53 := ⟨by decide +kernel, rfl⟩
theorem iX8_keepPast_53 : At cX8_keepPast 53 (.if_icmp .ne 7) 3 56 := ⟨by decide +kernel, rfl⟩
theorem iX8_keepPast_56 : At cX8_keepPast 56 (.iconst 1) 1 57 := ⟨by decide +kernel, rfl⟩
theorem iX8_keepPast_57 : At cX8_keepPast 57 (.goto 4) 3 60 := ⟨by decide +kernel, rfl⟩
theorem iX8_keepPast_60 : At cX8_keepPast 60 (.iconst 0) 1 61 := ⟨by decide +kernel, rfl⟩
theorem iX8_keepPast_61 : At cX8_keepPast 61 (.isub) 1 62 := ⟨by decide +kernel, rfl⟩
theorem iX8_keepPast_62 : At cX8_keepPast 62 (.putfield 144) 3 65 := ⟨by decide +kernel, rfl⟩
theorem iX8_keepPast_65 : At cX8_keepPast 65 (.aload_n 0) 1 66 := ⟨by decide +kernel, rfl⟩
theorem iX8_keepPast_66 : At cX8_keepPast 66 (.iconst 0) 1 67 := ⟨by decide +kernel, rfl⟩
theorem iX8_keepPast_67 : At cX8_keepPast 67 (.bipush 29) 2 69 := ⟨by decide +kernel, rfl⟩
theorem iX8_keepPast_69 : At cX8_keepPast 69 (.bipush 29) 2 71 := ⟨by decide +kernel, rfl⟩
theorem iX8_keepPast_71 : At cX8_keepPast 71 (.aload_n 0) 1 72 := ⟨by decide +kernel, rfl⟩
theorem iX8_keepPast_72 : At cX8_keepPast 72 (.getfield 144) 3 75 := ⟨by decide +kernel, rfl⟩
theorem iX8_keepPast_75 : At cX8_keepPast 75 (.imul) 1 76 := ⟨by decide +kernel, rfl⟩
theorem iX8_keepPast_76 : At cX8_keepPast 76 (.iadd) 1 77 := ⟨by decide +kernel, rfl⟩
theorem iX8_keepPast_77 : At cX8_keepPast 77 (.invokevirtual 140) 3 80 := ⟨by decide +kernel, rfl⟩
theorem iX8_keepPast_80 : At cX8_keepPast 80 (.aload_n 0) 1 81 := ⟨by decide +kernel, rfl⟩
theorem iX8_keepPast_81 : At cX8_keepPast 81 (.dup) 1 82 := ⟨by decide +kernel, rfl⟩
theorem iX8_keepPast_82 : At cX8_keepPast 82 (.getfield 144) 3 85 := ⟨by decide +kernel, rfl⟩
theorem iX8_keepPast_85 : At cX8_keepPast 85 (.iconst 1) 1 86 := ⟨by decide +kernel, rfl⟩
theorem iX8_keepPast_86 : At cX8_keepPast 86 (.iadd) 1 87 := ⟨by decide +kernel, rfl⟩
theorem iX8_keepPast_87 : At cX8_keepPast 87 (.putfield 144) 3 90 := ⟨by decide +kernel, rfl⟩
theorem iX8_keepPast_90 : At cX8_keepPast 90 (.return_) 1 91 := ⟨by decide +kernel, rfl⟩
theorem iX8_put_0 : At cX8_put 0 (.aload_n 0) 1 1 := ⟨by decide +kernel, rfl⟩
theorem iX8_put_1 : At cX8_put 1 (.iload_n 1) 1 2 := ⟨by decide +kernel, rfl⟩
theorem iX8_put_2 : At cX8_put 2 (.invokevirtual 204) 3 5 := ⟨by decide +kernel, rfl⟩
theorem iX8_put_5 : At cX8_put 5 (.ifCond .ne 6) 3 8 := ⟨by decide +kernel, rfl⟩
theorem iX8_put_8 : At cX8_put 8 (.bipush (-2)) 2 10 := ⟨by decide +kernel, rfl⟩
theorem iX8_put_10 : At cX8_put 10 (.ireturn) 1 11 := ⟨by decide +kernel, rfl⟩
theorem iX8_put_11 : At cX8_put 11 (.iload_n 2) 1 12 := ⟨by decide +kernel, rfl⟩
theorem iX8_put_12 : At cX8_put 12 (.i2l) 1 13 := ⟨by decide +kernel, rfl⟩
theorem iX8_put_13 : At cX8_put 13 (.lconst 1) 1 14 := ⟨by decide +kernel, rfl⟩
theorem iX8_put_14 : At cX8_put 14 (.ldc2_w 218) 3 17 := ⟨by decide +kernel, rfl⟩
theorem iX8_put_17 : At cX8_put 17 (.invokestatic 62) 3 20 := ⟨by decide +kernel, rfl⟩
theorem iX8_put_20 : At cX8_put 20 (.ifCond .eq 15) 3 23 := ⟨by decide +kernel, rfl⟩
theorem iX8_put_23 : At cX8_put 23 (.iload_n 3) 1 24 := ⟨by decide +kernel, rfl⟩
theorem iX8_put_24 : At cX8_put 24 (.i2l) 1 25 := ⟨by decide +kernel, rfl⟩
theorem iX8_put_25 : At cX8_put 25 (.lconst 1) 1 26 := ⟨by decide +kernel, rfl⟩
theorem iX8_put_26 : At cX8_put 26 (.ldc2_w 218) 3 29 := ⟨by decide +kernel, rfl⟩
theorem iX8_put_29 : At cX8_put 29 (.invokestatic 62) 3 32 := ⟨by decide +kernel, rfl⟩
theorem iX8_put_32 : At cX8_put 32 (.ifCond .ne 6) 3 35 := ⟨by decide +kernel, rfl⟩
theorem iX8_put_35 : At cX8_put 35 (.bipush (-3)) 2 37 := ⟨by decide +kernel, rfl⟩
theorem iX8_put_37 : At cX8_put 37 (.ireturn) 1 38 := ⟨by decide +kernel, rfl⟩
theorem iX8_put_38 : At cX8_put 38 (.aload_n 0) 1 39 := ⟨by decide +kernel, rfl⟩
theorem iX8_put_39 : At cX8_put 39 (.getfield 7) 3 42 := ⟨by decide +kernel, rfl⟩
theorem iX8_put_42 : At cX8_put 42 (.iconst 0) 1 43 := ⟨by decide +kernel, rfl⟩
theorem iX8_put_43 : At cX8_put 43 (.iaload) 1 44 := ⟨by decide +kernel, rfl⟩
theorem iX8_put_44 : At cX8_put 44 (.bipush 6) 2 46 := ⟨by decide +kernel, rfl⟩
theorem iX8_put_46 : At cX8_put 46 (.if_icmp .ne 6) 3 49 := ⟨by decide +kernel, rfl⟩
theorem iX8_put_49 : At cX8_put 49 (.bipush (-5)) 2 51 := ⟨by decide +kernel, rfl⟩
theorem iX8_put_51 : At cX8_put 51 (.ireturn) 1 52 := ⟨by decide +kernel, rfl⟩
theorem iX8_put_52 : At cX8_put 52 (.aload_n 0) 1 53 := ⟨by decide +kernel, rfl⟩
theorem iX8_put_53 : At cX8_put 53 (.invokevirtual 220) 3 56 := ⟨by decide +kernel, rfl⟩
theorem iX8_put_56 : At cX8_put 56 (.aload_n 0) 1 57 := ⟨by decide +kernel, rfl⟩
theorem iX8_put_57 : At cX8_put 57 (.iload_n 1) 1 58 := ⟨by decide +kernel, rfl⟩
theorem iX8_put_58 : At cX8_put 58 (.iload_n 2) 1 59 := ⟨by decide +kernel, rfl⟩
theorem iX8_put_59 : At cX8_put 59 (.iload_n 3) 1 60 := ⟨by decide +kernel, rfl⟩
theorem iX8_put_60 : At cX8_put 60 (.invokevirtual 107) 3 63 := ⟨by decide +kernel, rfl⟩
theorem iX8_put_63 : At cX8_put 63 (.aload_n 0) 1 64 := ⟨by decide +kernel, rfl⟩
theorem iX8_put_64 : At cX8_put 64 (.getfield 7) 3 67 := ⟨by decide +kernel, rfl⟩
theorem iX8_put_67 : At cX8_put 67 (.iconst 0) 1 68 := ⟨by decide +kernel, rfl⟩
theorem iX8_put_68 : At cX8_put 68 (.iaload) 1 69 := ⟨by decide +kernel, rfl⟩
theorem iX8_put_69 : At cX8_put 69 (.iconst 1) 1 70 := ⟨by decide +kernel, rfl⟩
theorem iX8_put_70 : At cX8_put 70 (.isub) 1 71 := ⟨by decide +kernel, rfl⟩
theorem iX8_put_71 : At cX8_put 71 (.ireturn) 1 72 := ⟨by decide +kernel, rfl⟩
theorem iX8_take_0 : At cX8_take 0 (.aload_n 0) 1 1 := ⟨by decide +kernel, rfl⟩
theorem iX8_take_1 : At cX8_take 1 (.iload_n 1) 1 2 := ⟨by decide +kernel, rfl⟩
theorem iX8_take_2 : At cX8_take 2 (.invokevirtual 212) 3 5 := ⟨by decide +kernel, rfl⟩
theorem iX8_take_5 : At cX8_take 5 (.ifCond .ne 6) 3 8 := ⟨by decide +kernel, rfl⟩
theorem iX8_take_8 : At cX8_take 8 (.bipush (-2)) 2 10 := ⟨by decide +kernel, rfl⟩
theorem iX8_take_10 : At cX8_take 10 (.ireturn) 1 11 := ⟨by decide +kernel, rfl⟩
theorem iX8_take_11 : At cX8_take 11 (.aload_n 0) 1 12 := ⟨by decide +kernel, rfl⟩
theorem iX8_take_12 : At cX8_take 12 (.invokevirtual 220) 3 15 := ⟨by decide +kernel, rfl⟩
theorem iX8_take_15 : At cX8_take 15 (.aload_n 0) 1 16 := ⟨by decide +kernel, rfl⟩
theorem iX8_take_16 : At cX8_take 16 (.getfield 7) 3 19 := ⟨by decide +kernel, rfl⟩
theorem iX8_take_19 : At cX8_take 19 (.iconst 0) 1 20 := ⟨by decide +kernel, rfl⟩
theorem iX8_take_20 : At cX8_take 20 (.dup2) 1 21 := ⟨by decide +kernel, rfl⟩
theorem iX8_take_21 : At cX8_take 21 (.iaload) 1 22 := ⟨by decide +kernel, rfl⟩
theorem iX8_take_22 : At cX8_take 22 (.iconst 1) 1 23 := ⟨by decide +kernel, rfl⟩
theorem iX8_take_23 : At cX8_take 23 (.isub) 1 24 := ⟨by decide +kernel, rfl⟩
theorem iX8_take_24 : At cX8_take 24 (.iastore) 1 25 := ⟨by decide +kernel, rfl⟩
theorem iX8_take_25 : At cX8_take 25 (.iload_n 1) 1 26 := ⟨by decide +kernel, rfl⟩
theorem iX8_take_26 : At cX8_take 26 (.istore_n 2) 1 27 := ⟨by decide +kernel, rfl⟩
theorem iX8_take_27 : At cX8_take 27 (.iload_n 2) 1 28 := ⟨by decide +kernel, rfl⟩
theorem iX8_take_28 : At cX8_take 28 (.aload_n 0) 1 29 := ⟨by decide +kernel, rfl⟩
theorem iX8_take_29 : At cX8_take 29 (.getfield 7) 3 32 := ⟨by decide +kernel, rfl⟩
theorem iX8_take_32 : At cX8_take 32 (.iconst 0) 1 33 := ⟨by decide +kernel, rfl⟩
theorem iX8_take_33 : At cX8_take 33 (.iaload) 1 34 := ⟨by decide +kernel, rfl⟩
theorem iX8_take_34 : At cX8_take 34 (.if_icmp .ge 67) 3 37 := ⟨by decide +kernel, rfl⟩
theorem iX8_take_37 : At cX8_take 37 (.aload_n 0) 1 38 := ⟨by decide +kernel, rfl⟩
theorem iX8_take_38 : At cX8_take 38 (.getfield 7) 3 41 := ⟨by decide +kernel, rfl⟩
theorem iX8_take_41 : At cX8_take 41 (.iconst 1) 1 42 := ⟨by decide +kernel, rfl⟩
theorem iX8_take_42 : At cX8_take 42 (.iload_n 2) 1 43 := ⟨by decide +kernel, rfl⟩
theorem iX8_take_43 : At cX8_take 43 (.iadd) 1 44 := ⟨by decide +kernel, rfl⟩
theorem iX8_take_44 : At cX8_take 44 (.aload_n 0) 1 45 := ⟨by decide +kernel, rfl⟩
theorem iX8_take_45 : At cX8_take 45 (.getfield 7) 3 48 := ⟨by decide +kernel, rfl⟩
theorem iX8_take_48 : At cX8_take 48 (.iconst 1) 1 49 := ⟨by decide +kernel, rfl⟩
theorem iX8_take_49 : At cX8_take 49 (.iload_n 2) 1 50 := ⟨by decide +kernel, rfl⟩
theorem iX8_take_50 : At cX8_take 50 (.iadd) 1 51 := ⟨by decide +kernel, rfl⟩
theorem iX8_take_51 : At cX8_take 51 (.iconst 1) 1 52 := ⟨by decide +kernel, rfl⟩
theorem iX8_take_52 : At cX8_take 52 (.iadd) 1 53 := ⟨by decide +kernel, rfl⟩
theorem iX8_take_53 : At cX8_take 53 (.iaload) 1 54 := ⟨by decide +kernel, rfl⟩
theorem iX8_take_54 : At cX8_take 54 (.iastore) 1 55 := ⟨by decide +kernel, rfl⟩
theorem iX8_take_55 : At cX8_take 55 (.aload_n 0) 1 56 := ⟨by decide +kernel, rfl⟩
theorem iX8_take_56 : At cX8_take 56 (.getfield 7) 3 59 := ⟨by decide +kernel, rfl⟩
theorem iX8_take_59 : At cX8_take 59 (.bipush 7) 2 61 := ⟨by decide +kernel, rfl⟩
theorem iX8_take_61 : At cX8_take 61 (.iload_n 2) 1 62 := ⟨by decide +kernel, rfl⟩
theorem iX8_take_62 : At cX8_take 62 (.iadd) 1 63 := ⟨by decide +kernel, rfl⟩
theorem iX8_take_63 : At cX8_take 63 (.aload_n 0) 1 64 := ⟨by decide +kernel, rfl⟩
theorem iX8_take_64 : At cX8_take 64 (.getfield 7) 3 67 := ⟨by decide +kernel, rfl⟩
theorem iX8_take_67 : At cX8_take 67 (.bipush 7) 2 69 := ⟨by decide +kernel, rfl⟩
theorem iX8_take_69 : At cX8_take 69 (.iload_n 2) 1 70 := ⟨by decide +kernel, rfl⟩
theorem iX8_take_70 : At cX8_take 70 (.iadd) 1 71 := ⟨by decide +kernel, rfl⟩
theorem iX8_take_71 : At cX8_take 71 (.iconst 1) 1 72 := ⟨by decide +kernel, rfl⟩
theorem iX8_take_72 : At cX8_take 72 (.iadd) 1 73 := ⟨by decide +kernel, rfl⟩
theorem iX8_take_73 : At cX8_take 73 (.iaload) 1 74 := ⟨by decide +kernel, rfl⟩
theorem iX8_take_74 : At cX8_take 74 (.iastore) 1 75 := ⟨by decide +kernel, rfl⟩
theorem iX8_take_75 : At cX8_take 75 (.aload_n 0) 1 76 := ⟨by decide +kernel, rfl⟩
theorem iX8_take_76 : At cX8_take 76 (.getfield 7) 3 79 := ⟨by decide +kernel, rfl⟩
theorem iX8_take_79 : At cX8_take 79 (.bipush 13) 2 81 := ⟨by decide +kernel, rfl⟩
theorem iX8_take_81 : At cX8_take 81 (.iload_n 2) 1 82 := ⟨by decide +kernel, rfl⟩
theorem iX8_take_82 : At cX8_take 82 (.iadd) 1 83 := ⟨by decide +kernel, rfl⟩
theorem iX8_take_83 : At cX8_take 83 (.aload_n 0) 1 84 := ⟨by decide +kernel, rfl⟩
theorem iX8_take_84 : At cX8_take 84 (.getfield 7) 3 87 := ⟨by decide +kernel, rfl⟩
theorem iX8_take_87 : At cX8_take 87 (.bipush 13) 2 89 := ⟨by decide +kernel, rfl⟩
theorem iX8_take_89 : At cX8_take 89 (.iload_n 2) 1 90 := ⟨by decide +kernel, rfl⟩
theorem iX8_take_90 : At cX8_take 90 (.iadd) 1 91 := ⟨by decide +kernel, rfl⟩
theorem iX8_take_91 : At cX8_take 91 (.iconst 1) 1 92 := ⟨by decide +kernel, rfl⟩
theorem iX8_take_92 : At cX8_take 92 (.iadd) 1 93 := ⟨by decide +kernel, rfl⟩
theorem iX8_take_93 : At cX8_take 93 (.iaload) 1 94 := ⟨by decide +kernel, rfl⟩
theorem iX8_take_94 : At cX8_take 94 (.iastore) 1 95 := ⟨by decide +kernel, rfl⟩
theorem iX8_take_95 : At cX8_take 95 (.iinc 2 1) 3 98 := ⟨by decide +kernel, rfl⟩
theorem iX8_take_98 : At cX8_take 98 (.goto (-71)) 3 101 := ⟨by decide +kernel, rfl⟩
theorem iX8_take_101 : At cX8_take 101 (.aload_n 0) 1 102 := ⟨by decide +kernel, rfl⟩
theorem iX8_take_102 : At cX8_take 102 (.getfield 7) 3 105 := ⟨by decide +kernel, rfl⟩
theorem iX8_take_105 : At cX8_take 105 (.iconst 0) 1 106 := ⟨by decide +kernel, rfl⟩
theorem iX8_take_106 : At cX8_take 106 (.iaload) 1 107 := ⟨by decide +kernel, rfl⟩
theorem iX8_take_107 : At cX8_take 107 (.ireturn) 1 108 := ⟨by decide +kernel, rfl⟩
theorem iX8_move_0 : At cX8_move 0 (.aload_n 0) 1 1 := ⟨by decide +kernel, rfl⟩
theorem iX8_move_1 : At cX8_move 1 (.iload_n 1) 1 2 := ⟨by decide +kernel, rfl⟩
theorem iX8_move_2 : At cX8_move 2 (.invokevirtual 204) 3 5 := ⟨by decide +kernel, rfl⟩
theorem iX8_move_5 : At cX8_move 5 (.ifCond .eq 16) 3 8 := ⟨by decide +kernel, rfl⟩
theorem iX8_move_8 : At cX8_move 8 (.aload_n 0) 1 9 := ⟨by decide +kernel, rfl⟩
theorem iX8_move_9 : At cX8_move 9 (.iload_n 2) 1 10 := ⟨by decide +kernel, rfl⟩
theorem iX8_move_10 : At cX8_move 10 (.invokevirtual 204) 3 13 := ⟨by decide +kernel, rfl⟩
theorem iX8_move_13 : At cX8_move 13 (.ifCond .eq 8) 3 16 := ⟨by decide +kernel, rfl⟩
theorem iX8_move_16 : At cX8_move 16 (.iload_n 1) 1 17 := ⟨by decide +kernel, rfl⟩
theorem iX8_move_17 : At cX8_move 17 (.iload_n 2) 1 18 := ⟨by decide +kernel, rfl⟩
theorem iX8_move_18 : At cX8_move 18 (.if_icmp .ne 6) 3 21 := ⟨by decide +kernel, rfl⟩
theorem iX8_move_21 : At cX8_move 21 (.bipush (-2)) 2 23 := ⟨by decide +kernel, rfl⟩
theorem iX8_move_23 : At cX8_move 23 (.ireturn) 1 24 := ⟨by decide +kernel, rfl⟩
theorem iX8_move_24 : At cX8_move 24 (.iload_n 3) 1 25 := ⟨by decide +kernel, rfl⟩
theorem iX8_move_25 : At cX8_move 25 (.i2l) 1 26 := ⟨by decide +kernel, rfl⟩
theorem iX8_move_26 : At cX8_move 26 (.lconst 1) 1 27 := ⟨by decide +kernel, rfl⟩
theorem iX8_move_27 : At cX8_move 27 (.ldc2_w 223) 3 30 := ⟨by decide +kernel, rfl⟩
theorem iX8_move_30 : At cX8_move 30 (.invokestatic 62) 3 33 := ⟨by decide +kernel, rfl⟩
theorem iX8_move_33 : At cX8_move 33 (.ifCond .ne 6) 3 36 := ⟨by decide +kernel, rfl⟩
theorem iX8_move_36 : At cX8_move 36 (.bipush (-3)) 2 38 := ⟨by decide +kernel, rfl⟩
theorem iX8_move_38 : At cX8_move 38 (.ireturn) 1 39 := ⟨by decide +kernel, rfl⟩
theorem iX8_move_39 : At cX8_move 39 (.aload_n 0) 1 40 := ⟨by decide +kernel, rfl⟩
theorem iX8_move_40 : At cX8_move 40 (.getfield 7) 3 43 := ⟨by decide +kernel, rfl⟩
theorem iX8_move_43 : At cX8_move 43 (.bipush 19) 2 45 := ⟨by decide +kernel, rfl⟩
theorem iX8_move_45 : At cX8_move 45 (.iload_n 1) 1 46 := ⟨by decide +kernel, rfl⟩
theorem iX8_move_46 : At cX8_move 46 (.iadd) 1 47 := ⟨by decide +kernel, rfl⟩
theorem iX8_move_47 : At cX8_move 47 (.iaload) 1 48 := ⟨by decide +kernel, rfl⟩
theorem iX8_move_48 : At cX8_move 48 (.iload_n 3) 1 49 := ⟨by decide +kernel, rfl⟩
theorem iX8_move_49 : At cX8_move 49 (.if_icmp .lt 19) 3 52 := ⟨by decide +kernel, rfl⟩
theorem iX8_move_52 : At cX8_move 52 (.aload_n 0) 1 53 := ⟨by decide +kernel, rfl⟩
theorem iX8_move_53 : At cX8_move 53 (.getfield 7) 3 56 := ⟨by decide +kernel, rfl⟩
theorem iX8_move_56 : At cX8_move 56 (.bipush 19) 2 58 := ⟨by decide +kernel, rfl⟩
theorem iX8_move_58 : At cX8_move 58 (.iload_n 2) 1 59 := ⟨by decide +kernel, rfl⟩
theorem iX8_move_59 : At cX8_move 59 (.iadd) 1 60 := ⟨by decide +kernel, rfl⟩
theorem iX8_move_60 : At cX8_move 60 (.iaload) 1 61 := ⟨by decide +kernel, rfl⟩
theorem iX8_move_61 : At cX8_move 61 (.iload_n 3) 1 62 := ⟨by decide +kernel, rfl⟩
theorem iX8_move_62 : At cX8_move 62 (.iadd) 1 63 := ⟨by decide +kernel, rfl⟩
theorem iX8_move_63 : At cX8_move 63 (.bipush 9) 2 65 := ⟨by decide +kernel, rfl⟩
theorem iX8_move_65 : At cX8_move 65 (.if_icmp .le 6) 3 68 := ⟨by decide +kernel, rfl⟩
theorem iX8_move_68 : At cX8_move 68 (.bipush (-4)) 2 70 := ⟨by decide +kernel, rfl⟩
theorem iX8_move_70 : At cX8_move 70 (.ireturn) 1 71 := ⟨by decide +kernel, rfl⟩
theorem iX8_move_71 : At cX8_move 71 (.aload_n 0) 1 72 := ⟨by decide +kernel, rfl⟩
theorem iX8_move_72 : At cX8_move 72 (.invokevirtual 220) 3 75 := ⟨by decide +kernel, rfl⟩
theorem iX8_move_75 : At cX8_move 75 (.aload_n 0) 1 76 := ⟨by decide +kernel, rfl⟩
theorem iX8_move_76 : At cX8_move 76 (.getfield 7) 3 79 := ⟨by decide +kernel, rfl⟩
theorem iX8_move_79 : At cX8_move 79 (.bipush 19) 2 81 := ⟨by decide +kernel, rfl⟩
theorem iX8_move_81 : At cX8_move 81 (.iload_n 1) 1 82 := ⟨by decide +kernel, rfl⟩
theorem iX8_move_82 : At cX8_move 82 (.iadd) 1 83 := ⟨by decide +kernel, rfl⟩
theorem iX8_move_83 : At cX8_move 83 (.dup2) 1 84 := ⟨by decide +kernel, rfl⟩
theorem iX8_move_84 : At cX8_move 84 (.iaload) 1 85 := ⟨by decide +kernel, rfl⟩
theorem iX8_move_85 : At cX8_move 85 (.iload_n 3) 1 86 := ⟨by decide +kernel, rfl⟩
theorem iX8_move_86 : At cX8_move 86 (.isub) 1 87 := ⟨by decide +kernel, rfl⟩
theorem iX8_move_87 : At cX8_move 87 (.iastore) 1 88 := ⟨by decide +kernel, rfl⟩
theorem iX8_move_88 : At cX8_move 88 (.aload_n 0) 1 89 := ⟨by decide +kernel, rfl⟩
theorem iX8_move_89 : At cX8_move 89 (.getfield 7) 3 92 := ⟨by decide +kernel, rfl⟩
theorem iX8_move_92 : At cX8_move 92 (.bipush 19) 2 94 := ⟨by decide +kernel, rfl⟩
theorem iX8_move_94 : At cX8_move 94 (.iload_n 2) 1 95 := ⟨by decide +kernel, rfl⟩
theorem iX8_move_95 : At cX8_move 95 (.iadd) 1 96 := ⟨by decide +kernel, rfl⟩
theorem iX8_move_96 : At cX8_move 96 (.dup2) 1 97 := ⟨by decide +kernel, rfl⟩
theorem iX8_move_97 : At cX8_move 97 (.iaload) 1 98 := ⟨by decide +kernel, rfl⟩
theorem iX8_move_98 : At cX8_move 98 (.iload_n 3) 1 99 := ⟨by decide +kernel, rfl⟩
theorem iX8_move_99 : At cX8_move 99 (.iadd) 1 100 := ⟨by decide +kernel, rfl⟩
theorem iX8_move_100 : At cX8_move 100 (.iastore) 1 101 := ⟨by decide +kernel, rfl⟩
theorem iX8_move_101 : At cX8_move 101 (.aload_n 0) 1 102 := ⟨by decide +kernel, rfl⟩
theorem iX8_move_102 : At cX8_move 102 (.getfield 7) 3 105 := ⟨by decide +kernel, rfl⟩
theorem iX8_move_105 : At cX8_move 105 (.bipush 19) 2 107 := ⟨by decide +kernel, rfl⟩
theorem iX8_move_107 : At cX8_move 107 (.iload_n 2) 1 108 := ⟨by decide +kernel, rfl⟩
theorem iX8_move_108 : At cX8_move 108 (.iadd) 1 109 := ⟨by decide +kernel, rfl⟩
theorem iX8_move_109 : At cX8_move 109 (.iaload) 1 110 := ⟨by decide +kernel, rfl⟩
theorem iX8_move_110 : At cX8_move 110 (.ireturn) 1 111 := ⟨by decide +kernel, rfl⟩
theorem iX8_chill_0 : At cX8_chill 0 (.aload_n 0) 1 1 := ⟨by decide +kernel, rfl⟩
theorem iX8_chill_1 : At cX8_chill 1 (.iload_n 1) 1 2 := ⟨by decide +kernel, rfl⟩
theorem iX8_chill_2 : At cX8_chill 2 (.invokevirtual 204) 3 5 := ⟨by decide +kernel, rfl⟩
theorem iX8_chill_5 : At cX8_chill 5 (.ifCond .ne 6) 3 8 := ⟨by decide +kernel, rfl⟩
theorem iX8_chill_8 : At cX8_chill 8 (.bipush (-2)) 2 10 := ⟨by decide +kernel, rfl⟩
theorem iX8_chill_10 : At cX8_chill 10 (.ireturn) 1 11 := ⟨by decide +kernel, rfl⟩
theorem iX8_chill_11 : At cX8_chill 11 (.iload_n 2) 1 12 := ⟨by decide +kernel, rfl⟩
theorem iX8_chill_12 : At cX8_chill 12 (.i2l) 1 13 := ⟨by decide +kernel, rfl⟩
theorem iX8_chill_13 : At cX8_chill 13 (.lconst 0) 1 14 := ⟨by decide +kernel, rfl⟩
theorem iX8_chill_14 : At cX8_chill 14 (.ldc2_w 223) 3 17 := ⟨by decide +kernel, rfl⟩
theorem iX8_chill_17 : At cX8_chill 17 (.invokestatic 62) 3 20 := ⟨by decide +kernel, rfl⟩
theorem iX8_chill_20 : At cX8_chill 20 (.ifCond .ne 6) 3 23 := ⟨by decide +kernel, rfl⟩
theorem iX8_chill_23 : At cX8_chill 23 (.bipush (-3)) 2 25 := ⟨by decide +kernel, rfl⟩
theorem iX8_chill_25 : At cX8_chill 25 (.ireturn) 1 26 := ⟨by decide +kernel, rfl⟩
theorem iX8_chill_26 : At cX8_chill 26 (.aload_n 0) 1 27 := ⟨by decide +kernel, rfl⟩
theorem iX8_chill_27 : At cX8_chill 27 (.getfield 7) 3 30 := ⟨by decide +kernel, rfl⟩
theorem iX8_chill_30 : At cX8_chill 30 (.bipush 19) 2 32 := ⟨by decide +kernel, rfl⟩
theorem iX8_chill_32 : At cX8_chill 32 (.iload_n 1) 1 33 := ⟨by decide +kernel, rfl⟩
theorem iX8_chill_33 : At cX8_chill 33 (.iadd) 1 34 := ⟨by decide +kernel, rfl⟩
end
section
theorem iX8_chill_34 : At cX8_chill 34 (.iaload) 1 35 := ⟨by decide +kernel, rfl⟩
theorem iX8_chill_35 : At cX8_chill 35 (.iload_n 2) 1 36 := ⟨by decide +kernel, rfl⟩
theorem iX8_chill_36 : At cX8_chill 36 (.if_icmp .ne 6) 3 39 := ⟨by decide +kernel, rfl⟩
theorem iX8_chill_39 : At cX8_chill 39 (.bipush (-4)) 2 41 := ⟨by decide +kernel, rfl⟩
theorem iX8_chill_41 : At cX8_chill 41 (.ireturn) 1 42 := ⟨by decide +kernel, rfl⟩
theorem iX8_chill_42 : At cX8_chill 42 (.aload_n 0) 1 43 := ⟨by decide +kernel, rfl⟩
theorem iX8_chill_43 : At cX8_chill 43 (.invokevirtual 220) 3 46 := ⟨by decide +kernel, rfl⟩
theorem iX8_chill_46 : At cX8_chill 46 (.aload_n 0) 1 47 := ⟨by decide +kernel, rfl⟩
theorem iX8_chill_47 : At cX8_chill 47 (.getfield 7) 3 50 := ⟨by decide +kernel, rfl⟩
theorem iX8_chill_50 : At cX8_chill 50 (.bipush 19) 2 52 := ⟨by decide +kernel, rfl⟩
theorem iX8_chill_52 : At cX8_chill 52 (.iload_n 1) 1 53 := ⟨by decide +kernel, rfl⟩
theorem iX8_chill_53 : At cX8_chill 53 (.iadd) 1 54 := ⟨by decide +kernel, rfl⟩
theorem iX8_chill_54 : At cX8_chill 54 (.iload_n 2) 1 55 := ⟨by decide +kernel, rfl⟩
theorem iX8_chill_55 : At cX8_chill 55 (.iastore) 1 56 := ⟨by decide +kernel, rfl⟩
theorem iX8_chill_56 : At cX8_chill 56 (.aload_n 0) 1 57 := ⟨by decide +kernel, rfl⟩
theorem iX8_chill_57 : At cX8_chill 57 (.invokevirtual 172) 3 60 := ⟨by decide +kernel, rfl⟩
theorem iX8_chill_60 : At cX8_chill 60 (.invokestatic 225) 3 63 := ⟨by decide +kernel, rfl⟩
theorem iX8_chill_63 : At cX8_chill 63 (.ireturn) 1 64 := ⟨by decide +kernel, rfl⟩
theorem iX8_undo_0 : At cX8_undo 0 (.aload_n 0) 1 1 := ⟨by decide +kernel, rfl⟩
theorem iX8_undo_1 : At cX8_undo 1 (.getfield 144) 3 4 := ⟨by decide +kernel, rfl⟩
theorem iX8_undo_4 : At cX8_undo 4 (.ifCond .ne 6) 3 7 := ⟨by decide +kernel, rfl⟩
theorem iX8_undo_7 : At cX8_undo 7 (.bipush (-4)) 2 9 := ⟨by decide +kernel, rfl⟩
theorem iX8_undo_9 : At cX8_undo 9 (.ireturn) 1 10 := ⟨by decide +kernel, rfl⟩
theorem iX8_undo_10 : At cX8_undo 10 (.aload_n 0) 1 11 := ⟨by decide +kernel, rfl⟩
theorem iX8_undo_11 : At cX8_undo 11 (.dup) 1 12 := ⟨by decide +kernel, rfl⟩
theorem iX8_undo_12 : At cX8_undo 12 (.getfield 144) 3 15 := ⟨by decide +kernel, rfl⟩
theorem iX8_undo_15 : At cX8_undo 15 (.iconst 1) 1 16 := ⟨by decide +kernel, rfl⟩
theorem iX8_undo_16 : At cX8_undo 16 (.isub) 1 17 := ⟨by decide +kernel, rfl⟩
theorem iX8_undo_17 : At cX8_undo 17 (.putfield 144) 3 20 := ⟨by decide +kernel, rfl⟩
theorem iX8_undo_20 : At cX8_undo 20 (.aload_n 0) 1 21 := ⟨by decide +kernel, rfl⟩
theorem iX8_undo_21 : At cX8_undo 21 (.bipush 29) 2 23 := ⟨by decide +kernel, rfl⟩
theorem iX8_undo_23 : At cX8_undo 23 (.bipush 29) 2 25 := ⟨by decide +kernel, rfl⟩
theorem iX8_undo_25 : At cX8_undo 25 (.aload_n 0) 1 26 := ⟨by decide +kernel, rfl⟩
theorem iX8_undo_26 : At cX8_undo 26 (.getfield 144) 3 29 := ⟨by decide +kernel, rfl⟩
theorem iX8_undo_29 : At cX8_undo 29 (.imul) 1 30 := ⟨by decide +kernel, rfl⟩
theorem iX8_undo_30 : At cX8_undo 30 (.iadd) 1 31 := ⟨by decide +kernel, rfl⟩
theorem iX8_undo_31 : At cX8_undo 31 (.iconst 0) 1 32 := ⟨by decide +kernel, rfl⟩
theorem iX8_undo_32 : At cX8_undo 32 (.invokevirtual 140) 3 35 := ⟨by decide +kernel, rfl⟩
theorem iX8_undo_35 : At cX8_undo 35 (.aload_n 0) 1 36 := ⟨by decide +kernel, rfl⟩
theorem iX8_undo_36 : At cX8_undo 36 (.getfield 144) 3 39 := ⟨by decide +kernel, rfl⟩
theorem iX8_undo_39 : At cX8_undo 39 (.ireturn) 1 40 := ⟨by decide +kernel, rfl⟩
theorem iX8_keep_0 : At cX8_keep 0 (.iload_n 1) 1 1 := ⟨by decide +kernel, rfl⟩
theorem iX8_keep_1 : At cX8_keep 1 (.i2l) 1 2 := ⟨by decide +kernel, rfl⟩
theorem iX8_keep_2 : At cX8_keep 2 (.lconst 0) 1 3 := ⟨by decide +kernel, rfl⟩
theorem iX8_keep_3 : At cX8_keep 3 (.lconst 1) 1 4 := ⟨by decide +kernel, rfl⟩
theorem iX8_keep_4 : At cX8_keep 4 (.invokestatic 62) 3 7 := ⟨by decide +kernel, rfl⟩
theorem iX8_keep_7 : At cX8_keep 7 (.ifCond .ne 6) 3 10 := ⟨by decide +kernel, rfl⟩
theorem iX8_keep_10 : At cX8_keep 10 (.bipush (-2)) 2 12 := ⟨by decide +kernel, rfl⟩
theorem iX8_keep_12 : At cX8_keep 12 (.ireturn) 1 13 := ⟨by decide +kernel, rfl⟩
theorem iX8_keep_13 : At cX8_keep 13 (.aload_n 0) 1 14 := ⟨by decide +kernel, rfl⟩
theorem iX8_keep_14 : At cX8_keep 14 (.iconst 0) 1 15 := ⟨by decide +kernel, rfl⟩
theorem iX8_keep_15 : At cX8_keep 15 (.sipush 261) 3 18 := ⟨by decide +kernel, rfl⟩
theorem iX8_keep_18 : At cX8_keep 18 (.bipush 29) 2 20 := ⟨by decide +kernel, rfl⟩
theorem iX8_keep_20 : At cX8_keep 20 (.iload_n 1) 1 21 := ⟨by decide +kernel, rfl⟩
theorem iX8_keep_21 : At cX8_keep 21 (.imul) 1 22 := ⟨by decide +kernel, rfl⟩
theorem iX8_keep_22 : At cX8_keep 22 (.iadd) 1 23 := ⟨by decide +kernel, rfl⟩
theorem iX8_keep_23 : At cX8_keep 23 (.invokevirtual 140) 3 26 := ⟨by decide +kernel, rfl⟩
theorem iX8_keep_26 : At cX8_keep 26 (.aload_n 0) 1 27 := ⟨by decide +kernel, rfl⟩
theorem iX8_keep_27 : At cX8_keep 27 (.getfield 32) 3 30 := ⟨by decide +kernel, rfl⟩
theorem iX8_keep_30 : At cX8_keep 30 (.iload_n 1) 1 31 := ⟨by decide +kernel, rfl⟩
theorem iX8_keep_31 : At cX8_keep 31 (.iconst 1) 1 32 := ⟨by decide +kernel, rfl⟩
theorem iX8_keep_32 : At cX8_keep 32 (.bastore) 1 33 := ⟨by decide +kernel, rfl⟩
theorem iX8_keep_33 : At cX8_keep 33 (.aload_n 0) 1 34 := ⟨by decide +kernel, rfl⟩
theorem iX8_keep_34 : At cX8_keep 34 (.getfield 7) 3 37 := ⟨by decide +kernel, rfl⟩
theorem iX8_keep_37 : At cX8_keep 37 (.iconst 0) 1 38 := ⟨by decide +kernel, rfl⟩
theorem iX8_keep_38 : At cX8_keep 38 (.iaload) 1 39 := ⟨by decide +kernel, rfl⟩
theorem iX8_keep_39 : At cX8_keep 39 (.ireturn) 1 40 := ⟨by decide +kernel, rfl⟩
theorem iX8_back_0 : At cX8_back 0 (.iload_n 1) 1 1 := ⟨by decide +kernel, rfl⟩
theorem iX8_back_1 : At cX8_back 1 (.i2l) 1 2 := ⟨by decide +kernel, rfl⟩
theorem iX8_back_2 : At cX8_back 2 (.lconst 0) 1 3 := ⟨by decide +kernel, rfl⟩
theorem iX8_back_3 : At cX8_back 3 (.lconst 1) 1 4 := ⟨by decide +kernel, rfl⟩
theorem iX8_back_4 : At cX8_back 4 (.invokestatic 62) 3 7 := ⟨by decide +kernel, rfl⟩
theorem iX8_back_7 : At cX8_back 7 (.ifCond .ne 6) 3 10 := ⟨by decide +kernel, rfl⟩
theorem iX8_back_10 : At cX8_back 10 (.bipush (-2)) 2 12 := ⟨by decide +kernel, rfl⟩
theorem iX8_back_12 : At cX8_back 12 (.ireturn) 1 13 := ⟨by decide +kernel, rfl⟩
theorem iX8_back_13 : At cX8_back 13 (.aload_n 0) 1 14 := ⟨by decide +kernel, rfl⟩
theorem iX8_back_14 : At cX8_back 14 (.getfield 32) 3 17 := ⟨by decide +kernel, rfl⟩
theorem iX8_back_17 : At cX8_back 17 (.iload_n 1) 1 18 := ⟨by decide +kernel, rfl⟩
theorem iX8_back_18 : At cX8_back 18 (.baload) 1 19 := ⟨by decide +kernel, rfl⟩
theorem iX8_back_19 : At cX8_back 19 (.ifCond .ne 6) 3 22 := ⟨by decide +kernel, rfl⟩
theorem iX8_back_22 : At cX8_back 22 (.bipush (-4)) 2 24 := ⟨by decide +kernel, rfl⟩
theorem iX8_back_24 : At cX8_back 24 (.ireturn) 1 25 := ⟨by decide +kernel, rfl⟩
theorem iX8_back_25 : At cX8_back 25 (.aload_n 0) 1 26 := ⟨by decide +kernel, rfl⟩
theorem iX8_back_26 : At cX8_back 26 (.sipush 261) 3 29 := ⟨by decide +kernel, rfl⟩
theorem iX8_back_29 : At cX8_back 29 (.bipush 29) 2 31 := ⟨by decide +kernel, rfl⟩
theorem iX8_back_31 : At cX8_back 31 (.iload_n 1) 1 32 := ⟨by decide +kernel, rfl⟩
theorem iX8_back_32 : At cX8_back 32 (.imul) 1 33 := ⟨by decide +kernel, rfl⟩
theorem iX8_back_33 : At cX8_back 33 (.iadd) 1 34 := ⟨by decide +kernel, rfl⟩
theorem iX8_back_34 : At cX8_back 34 (.iconst 0) 1 35 := ⟨by decide +kernel, rfl⟩
theorem iX8_back_35 : At cX8_back 35 (.invokevirtual 140) 3 38 := ⟨by decide +kernel, rfl⟩
theorem iX8_back_38 : At cX8_back 38 (.aload_n 0) 1 39 := ⟨by decide +kernel, rfl⟩
theorem iX8_back_39 : At cX8_back 39 (.iconst 0) 1 40 := ⟨by decide +kernel, rfl⟩
theorem iX8_back_40 : At cX8_back 40 (.putfield 144) 3 43 := ⟨by decide +kernel, rfl⟩
theorem iX8_back_43 : At cX8_back 43 (.aload_n 0) 1 44 := ⟨by decide +kernel, rfl⟩
theorem iX8_back_44 : At cX8_back 44 (.getfield 7) 3 47 := ⟨by decide +kernel, rfl⟩
theorem iX8_back_47 : At cX8_back 47 (.iconst 0) 1 48 := ⟨by decide +kernel, rfl⟩
theorem iX8_back_48 : At cX8_back 48 (.iaload) 1 49 := ⟨by decide +kernel, rfl⟩
theorem iX8_back_49 : At cX8_back 49 (.ireturn) 1 50 := ⟨by decide +kernel, rfl⟩
theorem iX8_order_0 : At cX8_order 0 (.iload_n 1) 1 1 := ⟨by decide +kernel, rfl⟩
theorem iX8_order_1 : At cX8_order 1 (.ifCond .ge 6) 3 4 := ⟨by decide +kernel, rfl⟩
theorem iX8_order_4 : At cX8_order 4 (.bipush (-3)) 2 6 := ⟨by decide +kernel, rfl⟩
theorem iX8_order_6 : At cX8_order 6 (.ireturn) 1 7 := ⟨by decide +kernel, rfl⟩
theorem iX8_order_7 : At cX8_order 7 (.iconst 0) 1 8 := ⟨by decide +kernel, rfl⟩
theorem iX8_order_8 : At cX8_order 8 (.istore_n 2) 1 9 := ⟨by decide +kernel, rfl⟩
theorem iX8_order_9 : At cX8_order 9 (.iload_n 2) 1 10 := ⟨by decide +kernel, rfl⟩
theorem iX8_order_10 : At cX8_order 10 (.aload_n 0) 1 11 := ⟨by decide +kernel, rfl⟩
theorem iX8_order_11 : At cX8_order 11 (.getfield 57) 3 14 := ⟨by decide +kernel, rfl⟩
theorem iX8_order_14 : At cX8_order 14 (.if_icmp .ge 60) 3 17 := ⟨by decide +kernel, rfl⟩
theorem iX8_order_17 : At cX8_order 17 (.iconst 0) 1 18 := ⟨by decide +kernel, rfl⟩
theorem iX8_order_18 : At cX8_order 18 (.istore_n 3) 1 19 := ⟨by decide +kernel, rfl⟩
theorem iX8_order_19 : At cX8_order 19 (.iconst 0) 1 20 := ⟨by decide +kernel, rfl⟩
theorem iX8_order_20 : At cX8_order 20 (.istore 4) 2 22 := ⟨by decide +kernel, rfl⟩
theorem iX8_order_22 : At cX8_order 22 (.iload 4) 2 24 := ⟨by decide +kernel, rfl⟩
theorem iX8_order_24 : At cX8_order 24 (.aload_n 0) 1 25 := ⟨by decide +kernel, rfl⟩
theorem iX8_order_25 : At cX8_order 25 (.getfield 57) 3 28 := ⟨by decide +kernel, rfl⟩
theorem iX8_order_28 : At cX8_order 28 (.if_icmp .ge 33) 3 31 := ⟨by decide +kernel, rfl⟩
theorem iX8_order_31 : At cX8_order 31 (.iload_n 3) 1 32 := ⟨by decide +kernel, rfl⟩
theorem iX8_order_32 : At cX8_order 32 (.iload 4) 2 34 := ⟨by decide +kernel, rfl⟩
theorem iX8_order_34 : At cX8_order 34 (.iload_n 2) 1 35 := ⟨by decide +kernel, rfl⟩
theorem iX8_order_35 : At cX8_order 35 (.if_icmp .eq 17) 3 38 := ⟨by decide +kernel, rfl⟩
theorem iX8_order_38 : At cX8_order 38 (.aload_n 0) 1 39 := ⟨by decide +kernel, rfl⟩
theorem iX8_order_39 : At cX8_order 39 (.iload_n 2) 1 40 := ⟨by decide +kernel, rfl⟩
theorem iX8_order_40 : At cX8_order 40 (.iload 4) 2 42 := ⟨by decide +kernel, rfl⟩
theorem iX8_order_42 : At cX8_order 42 (.invokevirtual 154) 3 45 := ⟨by decide +kernel, rfl⟩
theorem iX8_order_45 : At cX8_order 45 (.ifCond .eq 7) 3 48 := ⟨by decide +kernel, rfl⟩
theorem iX8_order_48 : At cX8_order 48 (.iconst 1) 1 49 := ⟨by decide +kernel, rfl⟩
theorem iX8_order_49 : At cX8_order 49 (.goto 4) 3 52 := ⟨by decide +kernel, rfl⟩
theorem iX8_order_52 : At cX8_order 52 (.iconst 0) 1 53 := ⟨by decide +kernel, rfl⟩
theorem iX8_order_53 : At cX8_order 53 (.iadd) 1 54 := ⟨by decide +kernel, rfl⟩
theorem iX8_order_54 : At cX8_order 54 (.istore_n 3) 1 55 := ⟨by decide +kernel, rfl⟩
theorem iX8_order_55 : At cX8_order 55 (.iinc 4 1) 3 58 := ⟨by decide +kernel, rfl⟩
theorem iX8_order_58 : At cX8_order 58 (.goto (-36)) 3 61 := ⟨by decide +kernel, rfl⟩
theorem iX8_order_61 : At cX8_order 61 (.iload_n 3) 1 62 := ⟨by decide +kernel, rfl⟩
theorem iX8_order_62 : At cX8_order 62 (.iload_n 1) 1 63 := ⟨by decide +kernel, rfl⟩
theorem iX8_order_63 : At cX8_order 63 (.if_icmp .ne 5) 3 66 := ⟨by decide +kernel, rfl⟩
theorem iX8_order_66 : At cX8_order 66 (.iload_n 2) 1 67 := ⟨by decide +kernel, rfl⟩
theorem iX8_order_67 : At cX8_order 67 (.ireturn) 1 68 := ⟨by decide +kernel, rfl⟩
theorem iX8_order_68 : At cX8_order 68 (.iinc 2 1) 3 71 := ⟨by decide +kernel, rfl⟩
theorem iX8_order_71 : At cX8_order 71 (.goto (-62)) 3 74 := ⟨by decide +kernel, rfl⟩
theorem iX8_order_74 : At cX8_order 74 (.iconst (-1)) 1 75 := ⟨by decide +kernel, rfl⟩
theorem iX8_order_75 : At cX8_order 75 (.ireturn) 1 76 := ⟨by decide +kernel, rfl⟩
theorem iX8_pass_0 : At cX8_pass 0 (.aload_n 0) 1 1 := ⟨by decide +kernel, rfl⟩
theorem iX8_pass_1 : At cX8_pass 1 (.iload_n 1) 1 2 := ⟨by decide +kernel, rfl⟩
theorem iX8_pass_2 : At cX8_pass 2 (.invokevirtual 204) 3 5 := ⟨by decide +kernel, rfl⟩
theorem iX8_pass_5 : At cX8_pass 5 (.ifCond .eq 16) 3 8 := ⟨by decide +kernel, rfl⟩
theorem iX8_pass_8 : At cX8_pass 8 (.aload_n 0) 1 9 := ⟨by decide +kernel, rfl⟩
theorem iX8_pass_9 : At cX8_pass 9 (.iload_n 2) 1 10 := ⟨by decide +kernel, rfl⟩
theorem iX8_pass_10 : At cX8_pass 10 (.invokevirtual 204) 3 13 := ⟨by decide +kernel, rfl⟩
theorem iX8_pass_13 : At cX8_pass 13 (.ifCond .eq 8) 3 16 := ⟨by decide +kernel, rfl⟩
theorem iX8_pass_16 : At cX8_pass 16 (.iload_n 1) 1 17 := ⟨by decide +kernel, rfl⟩
theorem iX8_pass_17 : At cX8_pass 17 (.iload_n 2) 1 18 := ⟨by decide +kernel, rfl⟩
theorem iX8_pass_18 : At cX8_pass 18 (.if_icmp .ne 6) 3 21 := ⟨by decide +kernel, rfl⟩
theorem iX8_pass_21 : At cX8_pass 21 (.bipush (-2)) 2 23 := ⟨by decide +kernel, rfl⟩
theorem iX8_pass_23 : At cX8_pass 23 (.ireturn) 1 24 := ⟨by decide +kernel, rfl⟩
theorem iX8_pass_24 : At cX8_pass 24 (.aload_n 0) 1 25 := ⟨by decide +kernel, rfl⟩
theorem iX8_pass_25 : At cX8_pass 25 (.iload_n 1) 1 26 := ⟨by decide +kernel, rfl⟩
theorem iX8_pass_26 : At cX8_pass 26 (.invokevirtual 166) 3 29 := ⟨by decide +kernel, rfl⟩
theorem iX8_pass_29 : At cX8_pass 29 (.istore_n 3) 1 30 := ⟨by decide +kernel, rfl⟩
theorem iX8_pass_30 : At cX8_pass 30 (.aload_n 0) 1 31 := ⟨by decide +kernel, rfl⟩
theorem iX8_pass_31 : At cX8_pass 31 (.iload_n 2) 1 32 := ⟨by decide +kernel, rfl⟩
theorem iX8_pass_32 : At cX8_pass 32 (.invokevirtual 166) 3 35 := ⟨by decide +kernel, rfl⟩
theorem iX8_pass_35 : At cX8_pass 35 (.istore 4) 2 37 := ⟨by decide +kernel, rfl⟩
theorem iX8_pass_37 : At cX8_pass 37 (.iload_n 3) 1 38 := ⟨by decide +kernel, rfl⟩
theorem iX8_pass_38 : At cX8_pass 38 (.iload 4) 2 40 := ⟨by decide +kernel, rfl⟩
theorem iX8_pass_40 : At cX8_pass 40 (.if_icmp .ne 7) 3 43 := ⟨by decide +kernel, rfl⟩
theorem iX8_pass_43 : At cX8_pass 43 (.iconst (-1)) 1 44 := ⟨by decide +kernel, rfl⟩
theorem iX8_pass_44 : At cX8_pass 44 (.goto 10) 3 47 := ⟨by decide +kernel, rfl⟩
theorem iX8_pass_47 : At cX8_pass 47 (.aload_n 0) 1 48 := ⟨by decide +kernel, rfl⟩
theorem iX8_pass_48 : At cX8_pass 48 (.iload_n 3) 1 49 := ⟨by decide +kernel, rfl⟩
theorem iX8_pass_49 : At cX8_pass 49 (.iload 4) 2 51 := ⟨by decide +kernel, rfl⟩
theorem iX8_pass_51 : At cX8_pass 51 (.invokevirtual 175) 3 54 := ⟨by decide +kernel, rfl⟩
theorem iX8_pass_54 : At cX8_pass 54 (.ireturn) 1 55 := ⟨by decide +kernel, rfl⟩
theorem iX8_need_0 : At cX8_need 0 (.aload_n 0) 1 1 := ⟨by decide +kernel, rfl⟩
theorem iX8_need_1 : At cX8_need 1 (.iload_n 1) 1 2 := ⟨by decide +kernel, rfl⟩
theorem iX8_need_2 : At cX8_need 2 (.invokevirtual 204) 3 5 := ⟨by decide +kernel, rfl⟩
theorem iX8_need_5 : At cX8_need 5 (.ifCond .ne 6) 3 8 := ⟨by decide +kernel, rfl⟩
theorem iX8_need_8 : At cX8_need 8 (.bipush (-2)) 2 10 := ⟨by decide +kernel, rfl⟩
theorem iX8_need_10 : At cX8_need 10 (.ireturn) 1 11 := ⟨by decide +kernel, rfl⟩
theorem iX8_need_11 : At cX8_need 11 (.iload_n 2) 1 12 := ⟨by decide +kernel, rfl⟩
theorem iX8_need_12 : At cX8_need 12 (.i2l) 1 13 := ⟨by decide +kernel, rfl⟩
theorem iX8_need_13 : At cX8_need 13 (.lconst 1) 1 14 := ⟨by decide +kernel, rfl⟩
theorem iX8_need_14 : At cX8_need 14 (.ldc2_w 218) 3 17 := ⟨by decide +kernel, rfl⟩
theorem iX8_need_17 : At cX8_need 17 (.invokestatic 62) 3 20 := ⟨by decide +kernel, rfl⟩
theorem iX8_need_20 : At cX8_need 20 (.ifCond .ne 6) 3 23 := ⟨by decide +kernel, rfl⟩
theorem iX8_need_23 : At cX8_need 23 (.bipush (-3)) 2 25 := ⟨by decide +kernel, rfl⟩
theorem iX8_need_25 : At cX8_need 25 (.ireturn) 1 26 := ⟨by decide +kernel, rfl⟩
theorem iX8_need_26 : At cX8_need 26 (.aload_n 0) 1 27 := ⟨by decide +kernel, rfl⟩
theorem iX8_need_27 : At cX8_need 27 (.iload_n 1) 1 28 := ⟨by decide +kernel, rfl⟩
theorem iX8_need_28 : At cX8_need 28 (.invokevirtual 160) 3 31 := ⟨by decide +kernel, rfl⟩
theorem iX8_need_31 : At cX8_need 31 (.ifCond .ne 6) 3 34 := ⟨by decide +kernel, rfl⟩
theorem iX8_need_34 : At cX8_need 34 (.bipush (-4)) 2 36 := ⟨by decide +kernel, rfl⟩
theorem iX8_need_36 : At cX8_need 36 (.ireturn) 1 37 := ⟨by decide +kernel, rfl⟩
theorem iX8_need_37 : At cX8_need 37 (.iconst 1) 1 38 := ⟨by decide +kernel, rfl⟩
theorem iX8_need_38 : At cX8_need 38 (.istore_n 3) 1 39 := ⟨by decide +kernel, rfl⟩
theorem iX8_need_39 : At cX8_need 39 (.iload_n 3) 1 40 := ⟨by decide +kernel, rfl⟩
theorem iX8_need_40 : At cX8_need 40 (.sipush 1000) 3 43 := ⟨by decide +kernel, rfl⟩
theorem iX8_need_43 : At cX8_need 43 (.if_icmp .ge 19) 3 46 := ⟨by decide +kernel, rfl⟩
theorem iX8_need_46 : At cX8_need 46 (.aload_n 0) 1 47 := ⟨by decide +kernel, rfl⟩
theorem iX8_need_47 : At cX8_need 47 (.iload_n 3) 1 48 := ⟨by decide +kernel, rfl⟩
theorem iX8_need_48 : At cX8_need 48 (.iload_n 2) 1 49 := ⟨by decide +kernel, rfl⟩
theorem iX8_need_49 : At cX8_need 49 (.iload_n 1) 1 50 := ⟨by decide +kernel, rfl⟩
theorem iX8_need_50 : At cX8_need 50 (.invokevirtual 188) 3 53 := ⟨by decide +kernel, rfl⟩
theorem iX8_need_53 : At cX8_need 53 (.ifCond .ne 9) 3 56 := ⟨by decide +kernel, rfl⟩
theorem iX8_need_56 : At cX8_need 56 (.iinc 3 1) 3 59 := ⟨by decide +kernel, rfl⟩
theorem iX8_need_59 : At cX8_need 59 (.goto (-20)) 3 62 := ⟨by decide +kernel, rfl⟩
theorem iX8_need_62 : At cX8_need 62 (.iload_n 3) 1 63 := ⟨by decide +kernel, rfl⟩
theorem iX8_need_63 : At cX8_need 63 (.sipush 1000) 3 66 := ⟨by decide +kernel, rfl⟩
theorem iX8_need_66 : At cX8_need 66 (.if_icmp .ge 7) 3 69 := ⟨by decide +kernel, rfl⟩
theorem iX8_need_69 : At cX8_need 69 (.iload_n 3) 1 70 := ⟨by decide +kernel, rfl⟩
theorem iX8_need_70 : At cX8_need 70 (.goto 4) 3 73 := ⟨by decide +kernel, rfl⟩
theorem iX8_need_73 : At cX8_need 73 (.iconst (-1)) 1 74 := ⟨by decide +kernel, rfl⟩
theorem iX8_need_74 : At cX8_need 74 (.ireturn) 1 75 := ⟨by decide +kernel, rfl⟩
theorem iX8_best_0 : At cX8_best 0 (.iload_n 1) 1 1 := ⟨by decide +kernel, rfl⟩
theorem iX8_best_1 : At cX8_best 1 (.i2l) 1 2 := ⟨by decide +kernel, rfl⟩
theorem iX8_best_2 : At cX8_best 2 (.lconst 1) 1 3 := ⟨by decide +kernel, rfl⟩
theorem iX8_best_3 : At cX8_best 3 (.ldc2_w 223) 3 6 := ⟨by decide +kernel, rfl⟩
theorem iX8_best_6 : At cX8_best 6 (.invokestatic 62) 3 9 := ⟨by decide +kernel, rfl⟩
theorem iX8_best_9 : At cX8_best 9 (.ifCond .eq 13) 3 12 := ⟨by decide +kernel, rfl⟩
theorem iX8_best_12 : At cX8_best 12 (.iload_n 2) 1 13 := ⟨by decide +kernel, rfl⟩
theorem iX8_best_13 : At cX8_best 13 (.i2l) 1 14 := ⟨by decide +kernel, rfl⟩
theorem iX8_best_14 : At cX8_best 14 (.lconst 0) 1 15 := ⟨by decide +kernel, rfl⟩
theorem iX8_best_15 : At cX8_best 15 (.lconst 1) 1 16 := ⟨by decide +kernel, rfl⟩
theorem iX8_best_16 : At cX8_best 16 (.invokestatic 62) 3 19 := ⟨by decide +kernel, rfl⟩
theorem iX8_best_19 : At cX8_best 19 (.ifCond .ne 6) 3 22 := ⟨by decide +kernel, rfl⟩
theorem iX8_best_22 : At cX8_best 22 (.bipush (-3)) 2 24 := ⟨by decide +kernel, rfl⟩
theorem iX8_best_24 : At cX8_best 24 (.ireturn) 1 25 := ⟨by decide +kernel, rfl⟩
theorem iX8_best_25 : At cX8_best 25 (.iconst (-1)) 1 26 := ⟨by decide +kernel, rfl⟩
theorem iX8_best_26 : At cX8_best 26 (.istore_n 3) 1 27 := ⟨by decide +kernel, rfl⟩
theorem iX8_best_27 : At cX8_best 27 (.iconst (-1)) 1 28 := ⟨by decide +kernel, rfl⟩
theorem iX8_best_28 : At cX8_best 28 (.istore 4) 2 30 := ⟨by decide +kernel, rfl⟩
theorem iX8_best_30 : At cX8_best 30 (.iconst 0) 1 31 := ⟨by decide +kernel, rfl⟩
theorem iX8_best_31 : At cX8_best 31 (.istore 5) 2 33 := ⟨by decide +kernel, rfl⟩
theorem iX8_best_33 : At cX8_best 33 (.iload 5) 2 35 := ⟨by decide +kernel, rfl⟩
theorem iX8_best_35 : At cX8_best 35 (.aload_n 0) 1 36 := ⟨by decide +kernel, rfl⟩
theorem iX8_best_36 : At cX8_best 36 (.getfield 57) 3 39 := ⟨by decide +kernel, rfl⟩
theorem iX8_best_39 : At cX8_best 39 (.if_icmp .ge 104) 3 42 := ⟨by decide +kernel, rfl⟩
theorem iX8_best_42 : At cX8_best 42 (.aload_n 0) 1 43 := ⟨by decide +kernel, rfl⟩
theorem iX8_best_43 : At cX8_best 43 (.getfield 7) 3 46 := ⟨by decide +kernel, rfl⟩
theorem iX8_best_46 : At cX8_best 46 (.bipush 19) 2 48 := ⟨by decide +kernel, rfl⟩
theorem iX8_best_48 : At cX8_best 48 (.iload 5) 2 50 := ⟨by decide +kernel, rfl⟩
theorem iX8_best_50 : At cX8_best 50 (.iadd) 1 51 := ⟨by decide +kernel, rfl⟩
theorem iX8_best_51 : At cX8_best 51 (.iaload) 1 52 := ⟨by decide +kernel, rfl⟩
theorem iX8_best_52 : At cX8_best 52 (.istore 6) 2 54 := ⟨by decide +kernel, rfl⟩
theorem iX8_best_54 : At cX8_best 54 (.aload_n 0) 1 55 := ⟨by decide +kernel, rfl⟩
theorem iX8_best_55 : At cX8_best 55 (.getfield 7) 3 58 := ⟨by decide +kernel, rfl⟩
theorem iX8_best_58 : At cX8_best 58 (.bipush 19) 2 60 := ⟨by decide +kernel, rfl⟩
theorem iX8_best_60 : At cX8_best 60 (.iload 5) 2 62 := ⟨by decide +kernel, rfl⟩
theorem iX8_best_62 : At cX8_best 62 (.iadd) 1 63 := ⟨by decide +kernel, rfl⟩
theorem iX8_best_63 : At cX8_best 63 (.iload 6) 2 65 := ⟨by decide +kernel, rfl⟩
theorem iX8_best_65 : At cX8_best 65 (.iload_n 1) 1 66 := ⟨by decide +kernel, rfl⟩
theorem iX8_best_66 : At cX8_best 66 (.iadd) 1 67 := ⟨by decide +kernel, rfl⟩
theorem iX8_best_67 : At cX8_best 67 (.bipush 9) 2 69 := ⟨by decide +kernel, rfl⟩
theorem iX8_best_69 : At cX8_best 69 (.if_icmp .le 8) 3 72 := ⟨by decide +kernel, rfl⟩
theorem iX8_best_72 : At cX8_best 72 (.bipush 9) 2 74 := ⟨by decide +kernel, rfl⟩
theorem iX8_best_74 : At cX8_best 74 (.goto 7) 3 77 := ⟨by decide +kernel, rfl⟩
theorem iX8_best_77 : At cX8_best 77 (.iload 6) 2 79 := ⟨by decide +kernel, rfl⟩
theorem iX8_best_79 : At cX8_best 79 (.iload_n 1) 1 80 := ⟨by decide +kernel, rfl⟩
theorem iX8_best_80 : At cX8_best 80 (.iadd) 1 81 := ⟨by decide +kernel, rfl⟩
theorem iX8_best_81 : At cX8_best 81 (.iastore) 1 82 := ⟨by decide +kernel, rfl⟩
theorem iX8_best_82 : At cX8_best 82 (.aload_n 0) 1 83 := ⟨by decide +kernel, rfl⟩
theorem iX8_best_83 : At cX8_best 83 (.invokevirtual 172) 3 86 := ⟨by decide +kernel, rfl⟩
theorem iX8_best_86 : At cX8_best 86 (.invokestatic 225) 3 89 := ⟨by decide +kernel, rfl⟩
theorem iX8_best_89 : At cX8_best 89 (.istore 7) 2 91 := ⟨by decide +kernel, rfl⟩
theorem iX8_best_91 : At cX8_best 91 (.aload_n 0) 1 92 := ⟨by decide +kernel, rfl⟩
theorem iX8_best_92 : At cX8_best 92 (.getfield 7) 3 95 := ⟨by decide +kernel, rfl⟩
theorem iX8_best_95 : At cX8_best 95 (.bipush 19) 2 97 := ⟨by decide +kernel, rfl⟩
theorem iX8_best_97 : At cX8_best 97 (.iload 5) 2 99 := ⟨by decide +kernel, rfl⟩
theorem iX8_best_99 : At cX8_best 99 (.iadd) 1 100 := ⟨by decide +kernel, rfl⟩
theorem iX8_best_100 : At cX8_best 100 (.iload 6) 2 102 := ⟨by decide +kernel, rfl⟩
theorem iX8_best_102 : At cX8_best 102 (.iastore) 1 103 := ⟨by decide +kernel, rfl⟩
theorem iX8_best_103 : At cX8_best 103 (.iload_n 3) 1 104 := ⟨by decide +kernel, rfl⟩
theorem iX8_best_104 : At cX8_best 104 (.iconst (-1)) 1 105 := ⟨by decide +kernel, rfl⟩
theorem iX8_best_105 : At cX8_best 105 (.if_icmp .eq 10) 3 108 := ⟨by decide +kernel, rfl⟩
theorem iX8_best_108 : At cX8_best 108 (.iload 7) 2 110 := ⟨by decide +kernel, rfl⟩
theorem iX8_best_110 : At cX8_best 110 (.iload 4) 2 112 := ⟨by decide +kernel, rfl⟩
theorem iX8_best_112 : At cX8_best 112 (.if_icmp .ge 8) 3 115 := ⟨by decide +kernel, rfl⟩
theorem iX8_best_115 : At cX8_best 115 (.iload 5) 2 117 := ⟨by decide +kernel, rfl⟩
theorem iX8_best_117 : At cX8_best 117 (.goto 4) 3 120 := ⟨by decide +kernel, rfl⟩
theorem iX8_best_120 : At cX8_best 120 (.iload_n 3) 1 121 := ⟨by decide +kernel, rfl⟩
theorem iX8_best_121 : At cX8_best 121 (.istore_n 3) 1 122 := ⟨by decide +kernel, rfl⟩
theorem iX8_best_122 : At cX8_best 122 (.iload_n 3) 1 123 := ⟨by decide +kernel, rfl⟩
theorem iX8_best_123 : At cX8_best 123 (.iload 5) 2 125 := ⟨by decide +kernel, rfl⟩
theorem iX8_best_125 : At cX8_best 125 (.if_icmp .ne 8) 3 128 := ⟨by decide +kernel, rfl⟩
theorem iX8_best_128 : At cX8_best 128 (.iload 7) 2 130 := ⟨by decide +kernel, rfl⟩
theorem iX8_best_130 : At cX8_best 130 (.goto 5) 3 133 := ⟨by decide +kernel, rfl⟩
theorem iX8_best_133 : At cX8_best 133 (.iload 4) 2 135 := ⟨by decide +kernel, rfl⟩
theorem iX8_best_135 : At cX8_best 135 (.istore 4) 2 137 := ⟨by decide +kernel, rfl⟩
theorem iX8_best_137 : At cX8_best 137 (.iinc 5 1) 3 140 := ⟨by decide +kernel, rfl⟩
theorem iX8_best_140 : At cX8_best 140 (.goto (-107)) 3 143 := ⟨by decide +kernel, rfl⟩
theorem iX8_best_143 : At cX8_best 143 (.iload_n 2) 1 144 := ⟨by decide +kernel, rfl⟩
theorem iX8_best_144 : At cX8_best 144 (.ifCond .ne 7) 3 147 := ⟨by decide +kernel, rfl⟩
theorem iX8_best_147 : At cX8_best 147 (.iload_n 3) 1 148 := ⟨by decide +kernel, rfl⟩
theorem iX8_best_148 : At cX8_best 148 (.goto 5) 3 151 := ⟨by decide +kernel, rfl⟩
theorem iX8_best_151 : At cX8_best 151 (.iload 4) 2 153 := ⟨by decide +kernel, rfl⟩
theorem iX8_best_153 : At cX8_best 153 (.ireturn) 1 154 := ⟨by decide +kernel, rfl⟩
theorem iX8_least_0 : At cX8_least 0 (.iload_n 1) 1 1 := ⟨by decide +kernel, rfl⟩
theorem iX8_least_1 : At cX8_least 1 (.i2l) 1 2 := ⟨by decide +kernel, rfl⟩
theorem iX8_least_2 : At cX8_least 2 (.lconst 0) 1 3 := ⟨by decide +kernel, rfl⟩
theorem iX8_least_3 : At cX8_least 3 (.lconst 1) 1 4 := ⟨by decide +kernel, rfl⟩
theorem iX8_least_4 : At cX8_least 4 (.invokestatic 62) 3 7 := ⟨by decide +kernel, rfl⟩
theorem iX8_least_7 : At cX8_least 7 (.ifCond .ne 6) 3 10 := ⟨by decide +kernel, rfl⟩
theorem iX8_least_10 : At cX8_least 10 (.bipush (-3)) 2 12 := ⟨by decide +kernel, rfl⟩
theorem iX8_least_12 : At cX8_least 12 (.ireturn) 1 13 := ⟨by decide +kernel, rfl⟩
theorem iX8_least_13 : At cX8_least 13 (.aload_n 0) 1 14 := ⟨by decide +kernel, rfl⟩
theorem iX8_least_14 : At cX8_least 14 (.invokevirtual 215) 3 17 := ⟨by decide +kernel, rfl⟩
theorem iX8_least_17 : At cX8_least 17 (.invokestatic 225) 3 20 := ⟨by decide +kernel, rfl⟩
theorem iX8_least_20 : At cX8_least 20 (.istore_n 2) 1 21 := ⟨by decide +kernel, rfl⟩
theorem iX8_least_21 : At cX8_least 21 (.aload_n 0) 1 22 := ⟨by decide +kernel, rfl⟩
theorem iX8_least_22 : At cX8_least 22 (.invokevirtual 198) 3 25 := ⟨by decide +kernel, rfl⟩
theorem iX8_least_25 : At cX8_least 25 (.istore_n 3) 1 26 := ⟨by decide +kernel, rfl⟩
theorem iX8_least_26 : At cX8_least 26 (.iconst 0) 1 27 := ⟨by decide +kernel, rfl⟩
theorem iX8_least_27 : At cX8_least 27 (.istore 4) 2 29 := ⟨by decide +kernel, rfl⟩
theorem iX8_least_29 : At cX8_least 29 (.iload 4) 2 31 := ⟨by decide +kernel, rfl⟩
theorem iX8_least_31 : At cX8_least 31 (.iconst 1) 1 32 := ⟨by decide +kernel, rfl⟩
theorem iX8_least_32 : At cX8_least 32 (.aload_n 0) 1 33 := ⟨by decide +kernel, rfl⟩
theorem iX8_least_33 : At cX8_least 33 (.getfield 7) 3 36 := ⟨by decide +kernel, rfl⟩
theorem iX8_least_36 : At cX8_least 36 (.iconst 0) 1 37 := ⟨by decide +kernel, rfl⟩
theorem iX8_least_37 : At cX8_least 37 (.iaload) 1 38 := ⟨by decide +kernel, rfl⟩
theorem iX8_least_38 : At cX8_least 38 (.ishl) 1 39 := ⟨by decide +kernel, rfl⟩
theorem iX8_least_39 : At cX8_least 39 (.if_icmp .ge 37) 3 42 := ⟨by decide +kernel, rfl⟩
theorem iX8_least_42 : At cX8_least 42 (.iload 4) 2 44 := ⟨by decide +kernel, rfl⟩
theorem iX8_least_44 : At cX8_least 44 (.invokestatic 225) 3 47 := ⟨by decide +kernel, rfl⟩
theorem iX8_least_47 : At cX8_least 47 (.iload_n 3) 1 48 := ⟨by decide +kernel, rfl⟩
theorem iX8_least_48 : At cX8_least 48 (.invokestatic 225) 3 51 := ⟨by decide +kernel, rfl⟩
theorem iX8_least_51 : At cX8_least 51 (.if_icmp .ge 19) 3 54 := ⟨by decide +kernel, rfl⟩
theorem iX8_least_54 : At cX8_least 54 (.aload_n 0) 1 55 := ⟨by decide +kernel, rfl⟩
theorem iX8_least_55 : At cX8_least 55 (.iload 4) 2 57 := ⟨by decide +kernel, rfl⟩
theorem iX8_least_57 : At cX8_least 57 (.invokevirtual 201) 3 60 := ⟨by decide +kernel, rfl⟩
theorem iX8_least_60 : At cX8_least 60 (.invokestatic 225) 3 63 := ⟨by decide +kernel, rfl⟩
theorem iX8_least_63 : At cX8_least 63 (.iload_n 2) 1 64 := ⟨by decide +kernel, rfl⟩
theorem iX8_least_64 : At cX8_least 64 (.if_icmp .ne 6) 3 67 := ⟨by decide +kernel, rfl⟩
theorem iX8_least_67 : At cX8_least 67 (.iload 4) 2 69 := ⟨by decide +kernel, rfl⟩
theorem iX8_least_69 : At cX8_least 69 (.istore_n 3) 1 70 := ⟨by decide +kernel, rfl⟩
theorem iX8_least_70 : At cX8_least 70 (.iinc 4 1) 3 73 := ⟨by decide +kernel, rfl⟩
theorem iX8_least_73 : At cX8_least 73 (.goto (-44)) 3 76 := ⟨by decide +kernel, rfl⟩
theorem iX8_least_76 : At cX8_least 76 (.iload_n 3) 1 77 := ⟨by decide +kernel, rfl⟩
theorem iX8_least_77 : At cX8_least 77 (.iconst 1) 1 78 := ⟨by decide +kernel, rfl⟩
theorem iX8_least_78 : At cX8_least 78 (.isub) 1 79 := ⟨by decide +kernel, rfl⟩
theorem iX8_least_79 : At cX8_least 79 (.istore 4) 2 81 := ⟨by decide +kernel, rfl⟩
theorem iX8_least_81 : At cX8_least 81 (.iload 4) 2 83 := ⟨by decide +kernel, rfl⟩
theorem iX8_least_83 : At cX8_least 83 (.ifCond .lt 41) 3 86 := ⟨by decide +kernel, rfl⟩
theorem iX8_least_86 : At cX8_least 86 (.iload 4) 2 88 := ⟨by decide +kernel, rfl⟩
theorem iX8_least_88 : At cX8_least 88 (.invokestatic 225) 3 91 := ⟨by decide +kernel, rfl⟩
theorem iX8_least_91 : At cX8_least 91 (.iload_n 3) 1 92 := ⟨by decide +kernel, rfl⟩
theorem iX8_least_92 : At cX8_least 92 (.invokestatic 225) 3 95 := ⟨by decide +kernel, rfl⟩
theorem iX8_least_95 : At cX8_least 95 (.if_icmp .ne 21) 3 98 := ⟨by decide +kernel, rfl⟩
theorem iX8_least_98 : At cX8_least 98 (.aload_n 0) 1 99 := ⟨by decide +kernel, rfl⟩
theorem iX8_least_99 : At cX8_least 99 (.iload 4) 2 101 := ⟨by decide +kernel, rfl⟩
theorem iX8_least_101 : At cX8_least 101 (.invokevirtual 201) 3 104 := ⟨by decide +kernel, rfl⟩
theorem iX8_least_104 : At cX8_least 104 (.invokestatic 225) 3 107 := ⟨by decide +kernel, rfl⟩
theorem iX8_least_107 : At cX8_least 107 (.iload_n 2) 1 108 := ⟨by decide +kernel, rfl⟩
theorem iX8_least_108 : At cX8_least 108 (.if_icmp .ne 8) 3 111 := ⟨by decide +kernel, rfl⟩
theorem iX8_least_111 : At cX8_least 111 (.iload 4) 2 113 := ⟨by decide +kernel, rfl⟩
theorem iX8_least_113 : At cX8_least 113 (.goto 4) 3 116 := ⟨by decide +kernel, rfl⟩
theorem iX8_least_116 : At cX8_least 116 (.iload_n 3) 1 117 := ⟨by decide +kernel, rfl⟩
theorem iX8_least_117 : At cX8_least 117 (.istore_n 3) 1 118 := ⟨by decide +kernel, rfl⟩
theorem iX8_least_118 : At cX8_least 118 (.iinc 4 (-1)) 3 121 := ⟨by decide +kernel, rfl⟩
theorem iX8_least_121 : At cX8_least 121 (.goto (-40)) 3 124 := ⟨by decide +kernel, rfl⟩
theorem iX8_least_124 : At cX8_least 124 (.iload_n 1) 1 125 := ⟨by decide +kernel, rfl⟩
theorem iX8_least_125 : At cX8_least 125 (.ifCond .ne 7) 3 128 := ⟨by decide +kernel, rfl⟩
theorem iX8_least_128 : At cX8_least 128 (.iload_n 3) 1 129 := ⟨by decide +kernel, rfl⟩
theorem iX8_least_129 : At cX8_least 129 (.goto 7) 3 132 := ⟨by decide +kernel, rfl⟩
theorem iX8_least_132 : At cX8_least 132 (.iload_n 3) 1 133 := ⟨by decide +kernel, rfl⟩
theorem iX8_least_133 : At cX8_least 133 (.invokestatic 225) 3 136 := ⟨by decide +kernel, rfl⟩
theorem iX8_least_136 : At cX8_least 136 (.ireturn) 1 137 := ⟨by decide +kernel, rfl⟩
theorem iX8_isBin_0 : At cX8_isBin 0 (.iload_n 0) 1 1 := ⟨by decide +kernel, rfl⟩
theorem iX8_isBin_1 : At cX8_isBin 1 (.i2l) 1 2 := ⟨by decide +kernel, rfl⟩
theorem iX8_isBin_2 : At cX8_isBin 2 (.lconst 0) 1 3 := ⟨by decide +kernel, rfl⟩
theorem iX8_isBin_3 : At cX8_isBin 3 (.ldc2_w 228) 3 6 := ⟨by decide +kernel, rfl⟩
theorem iX8_isBin_6 : At cX8_isBin 6 (.invokestatic 62) 3 9 := ⟨by decide +kernel, rfl⟩
theorem iX8_isBin_9 : At cX8_isBin 9 (.ireturn) 1 10 := ⟨by decide +kernel, rfl⟩
theorem iX8_bin_0 : At cX8_bin 0 (.iload_n 1) 1 1 := ⟨by decide +kernel, rfl⟩
theorem iX8_bin_1 : At cX8_bin 1 (.invokestatic 230) 3 4 := ⟨by decide +kernel, rfl⟩
theorem iX8_bin_4 : At cX8_bin 4 (.ifCond .ne 6) 3 7 := ⟨by decide +kernel, rfl⟩
theorem iX8_bin_7 : At cX8_bin 7 (.bipush (-2)) 2 9 := ⟨by decide +kernel, rfl⟩
theorem iX8_bin_9 : At cX8_bin 9 (.ireturn) 1 10 := ⟨by decide +kernel, rfl⟩
theorem iX8_bin_10 : At cX8_bin 10 (.iload_n 2) 1 11 := ⟨by decide +kernel, rfl⟩
theorem iX8_bin_11 : At cX8_bin 11 (.i2l) 1 12 := ⟨by decide +kernel, rfl⟩
theorem iX8_bin_12 : At cX8_bin 12 (.lconst 0) 1 13 := ⟨by decide +kernel, rfl⟩
theorem iX8_bin_13 : At cX8_bin 13 (.lconst 1) 1 14 := ⟨by decide +kernel, rfl⟩
theorem iX8_bin_14 : At cX8_bin 14 (.invokestatic 62) 3 17 := ⟨by decide +kernel, rfl⟩
theorem iX8_bin_17 : At cX8_bin 17 (.ifCond .ne 6) 3 20 := ⟨by decide +kernel, rfl⟩
theorem iX8_bin_20 : At cX8_bin 20 (.bipush (-3)) 2 22 := ⟨by decide +kernel, rfl⟩
theorem iX8_bin_22 : At cX8_bin 22 (.ireturn) 1 23 := ⟨by decide +kernel, rfl⟩
theorem iX8_bin_23 : At cX8_bin 23 (.aload_n 0) 1 24 := ⟨by decide +kernel, rfl⟩
theorem iX8_bin_24 : At cX8_bin 24 (.getfield 39) 3 27 := ⟨by decide +kernel, rfl⟩
theorem iX8_bin_27 : At cX8_bin 27 (.iload_n 1) 1 28 := ⟨by decide +kernel, rfl⟩
theorem iX8_bin_28 : At cX8_bin 28 (.iconst 0) 1 29 := ⟨by decide +kernel, rfl⟩
theorem iX8_bin_29 : At cX8_bin 29 (.iastore) 1 30 := ⟨by decide +kernel, rfl⟩
theorem iX8_bin_30 : At cX8_bin 30 (.aload_n 0) 1 31 := ⟨by decide +kernel, rfl⟩
theorem iX8_bin_31 : At cX8_bin 31 (.getfield 42) 3 34 := ⟨by decide +kernel, rfl⟩
theorem iX8_bin_34 : At cX8_bin 34 (.iload_n 1) 1 35 := ⟨by decide +kernel, rfl⟩
theorem iX8_bin_35 : At cX8_bin 35 (.iload_n 2) 1 36 := ⟨by decide +kernel, rfl⟩
theorem iX8_bin_36 : At cX8_bin 36 (.iastore) 1 37 := ⟨by decide +kernel, rfl⟩
theorem iX8_bin_37 : At cX8_bin 37 (.iconst 0) 1 38 := ⟨by decide +kernel, rfl⟩
theorem iX8_bin_38 : At cX8_bin 38 (.ireturn) 1 39 := ⟨by decide +kernel, rfl⟩
theorem iX8_add_0 : At cX8_add 0 (.aload_n 0) 1 1 := ⟨by decide +kernel, rfl⟩
theorem iX8_add_1 : At cX8_add 1 (.getfield 39) 3 4 := ⟨by decide +kernel, rfl⟩
theorem iX8_add_4 : At cX8_add 4 (.iload_n 1) 1 5 := ⟨by decide +kernel, rfl⟩
theorem iX8_add_5 : At cX8_add 5 (.iaload) 1 6 := ⟨by decide +kernel, rfl⟩
theorem iX8_add_6 : At cX8_add 6 (.ifCond .ge 6) 3 9 := ⟨by decide +kernel, rfl⟩
theorem iX8_add_9 : At cX8_add 9 (.bipush (-11)) 2 11 := ⟨by decide +kernel, rfl⟩
theorem iX8_add_11 : At cX8_add 11 (.ireturn) 1 12 := ⟨by decide +kernel, rfl⟩
theorem iX8_add_12 : At cX8_add 12 (.aload_n 0) 1 13 := ⟨by decide +kernel, rfl⟩
theorem iX8_add_13 : At cX8_add 13 (.getfield 42) 3 16 := ⟨by decide +kernel, rfl⟩
theorem iX8_add_16 : At cX8_add 16 (.iload_n 1) 1 17 := ⟨by decide +kernel, rfl⟩
theorem iX8_add_17 : At cX8_add 17 (.iaload) 1 18 := ⟨by decide +kernel, rfl⟩
theorem iX8_add_18 : At cX8_add 18 (.iload_n 2) 1 19 := ⟨by decide +kernel, rfl⟩
theorem iX8_add_19 : At cX8_add 19 (.if_icmp .eq 6) 3 22 := ⟨by decide +kernel, rfl⟩
theorem iX8_add_22 : At cX8_add 22 (.bipush (-12)) 2 24 := ⟨by decide +kernel, rfl⟩
theorem iX8_add_24 : At cX8_add 24 (.ireturn) 1 25 := ⟨by decide +kernel, rfl⟩
theorem iX8_add_25 : At cX8_add 25 (.aload_n 0) 1 26 := ⟨by decide +kernel, rfl⟩
theorem iX8_add_26 : At cX8_add 26 (.getfield 39) 3 29 := ⟨by decide +kernel, rfl⟩
theorem iX8_add_29 : At cX8_add 29 (.iload_n 1) 1 30 := ⟨by decide +kernel, rfl⟩
theorem iX8_add_30 : At cX8_add 30 (.iaload) 1 31 := ⟨by decide +kernel, rfl⟩
theorem iX8_add_31 : At cX8_add 31 (.bipush 8) 2 33 := ⟨by decide +kernel, rfl⟩
theorem iX8_add_33 : At cX8_add 33 (.if_icmp .ne 6) 3 36 := ⟨by decide +kernel, rfl⟩
theorem iX8_add_36 : At cX8_add 36 (.bipush (-14)) 2 38 := ⟨by decide +kernel, rfl⟩
theorem iX8_add_38 : At cX8_add 38 (.ireturn) 1 39 := ⟨by decide +kernel, rfl⟩
theorem iX8_add_39 : At cX8_add 39 (.aload_n 0) 1 40 := ⟨by decide +kernel, rfl⟩
theorem iX8_add_40 : At cX8_add 40 (.getfield 45) 3 43 := ⟨by decide +kernel, rfl⟩
theorem iX8_add_43 : At cX8_add 43 (.bipush 8) 2 45 := ⟨by decide +kernel, rfl⟩
theorem iX8_add_45 : At cX8_add 45 (.iload_n 1) 1 46 := ⟨by decide +kernel, rfl⟩
theorem iX8_add_46 : At cX8_add 46 (.imul) 1 47 := ⟨by decide +kernel, rfl⟩
theorem iX8_add_47 : At cX8_add 47 (.aload_n 0) 1 48 := ⟨by decide +kernel, rfl⟩
theorem iX8_add_48 : At cX8_add 48 (.getfield 39) 3 51 := ⟨by decide +kernel, rfl⟩
theorem iX8_add_51 : At cX8_add 51 (.iload_n 1) 1 52 := ⟨by decide +kernel, rfl⟩
theorem iX8_add_52 : At cX8_add 52 (.iaload) 1 53 := ⟨by decide +kernel, rfl⟩
theorem iX8_add_53 : At cX8_add 53 (.iadd) 1 54 := ⟨by decide +kernel, rfl⟩
theorem iX8_add_54 : At cX8_add 54 (.iload_n 3) 1 55 := ⟨by decide +kernel, rfl⟩
theorem iX8_add_55 : At cX8_add 55 (.iastore) 1 56 := ⟨by decide +kernel, rfl⟩
theorem iX8_add_56 : At cX8_add 56 (.aload_n 0) 1 57 := ⟨by decide +kernel, rfl⟩
theorem iX8_add_57 : At cX8_add 57 (.getfield 39) 3 60 := ⟨by decide +kernel, rfl⟩
theorem iX8_add_60 : At cX8_add 60 (.iload_n 1) 1 61 := ⟨by decide +kernel, rfl⟩
theorem iX8_add_61 : At cX8_add 61 (.dup2) 1 62 := ⟨by decide +kernel, rfl⟩
theorem iX8_add_62 : At cX8_add 62 (.iaload) 1 63 := ⟨by decide +kernel, rfl⟩
theorem iX8_add_63 : At cX8_add 63 (.iconst 1) 1 64 := ⟨by decide +kernel, rfl⟩
theorem iX8_add_64 : At cX8_add 64 (.iadd) 1 65 := ⟨by decide +kernel, rfl⟩
theorem iX8_add_65 : At cX8_add 65 (.iastore) 1 66 := ⟨by decide +kernel, rfl⟩
theorem iX8_add_66 : At cX8_add 66 (.aload_n 0) 1 67 := ⟨by decide +kernel, rfl⟩
theorem iX8_add_67 : At cX8_add 67 (.getfield 39) 3 70 := ⟨by decide +kernel, rfl⟩
theorem iX8_add_70 : At cX8_add 70 (.iload_n 1) 1 71 := ⟨by decide +kernel, rfl⟩
theorem iX8_add_71 : At cX8_add 71 (.iaload) 1 72 := ⟨by decide +kernel, rfl⟩
theorem iX8_add_72 : At cX8_add 72 (.ireturn) 1 73 := ⟨by decide +kernel, rfl⟩
theorem iX8_addWhole_0 : At cX8_addWhole 0 (.iload_n 1) 1 1 := ⟨by decide +kernel, rfl⟩
theorem iX8_addWhole_1 : At cX8_addWhole 1 (.invokestatic 230) 3 4 := ⟨by decide +kernel, rfl⟩
theorem iX8_addWhole_4 : At cX8_addWhole 4 (.ifCond .ne 8) 3 7 := ⟨by decide +kernel, rfl⟩
theorem iX8_addWhole_7 : At cX8_addWhole 7 (.bipush (-2)) 2 9 := ⟨by decide +kernel, rfl⟩
theorem iX8_addWhole_9 : At cX8_addWhole 9 (.goto 33) 3 12 := ⟨by decide +kernel, rfl⟩
theorem iX8_addWhole_12 : At cX8_addWhole 12 (.iload_n 2) 1 13 := ⟨by decide +kernel, rfl⟩
theorem iX8_addWhole_13 : At cX8_addWhole 13 (.i2l) 1 14 := ⟨by decide +kernel, rfl⟩
theorem iX8_addWhole_14 : At cX8_addWhole 14 (.ldc2_w 233) 3 17 := ⟨by decide +kernel, rfl⟩
theorem iX8_addWhole_17 : At cX8_addWhole 17 (.ldc2_w 235) 3 20 := ⟨by decide +kernel, rfl⟩
theorem iX8_addWhole_20 : At cX8_addWhole 20 (.invokestatic 62) 3 23 := ⟨by decide +kernel, rfl⟩
theorem iX8_addWhole_23 : At cX8_addWhole 23 (.ifCond .eq 17) 3 26 := ⟨by decide +kernel, rfl⟩
theorem iX8_addWhole_26 : At cX8_addWhole 26 (.aload_n 0) 1 27 := ⟨by decide +kernel, rfl⟩
theorem iX8_addWhole_27 : At cX8_addWhole 27 (.iload_n 1) 1 28 := ⟨by decide +kernel, rfl⟩
theorem iX8_addWhole_28 : At cX8_addWhole 28 (.iconst 0) 1 29 := ⟨by decide +kernel, rfl⟩
theorem iX8_addWhole_29 : At cX8_addWhole 29 (.iload_n 2) 1 30 := ⟨by decide +kernel, rfl⟩
theorem iX8_addWhole_30 : At cX8_addWhole 30 (.sipush 20000) 3 33 := ⟨by decide +kernel, rfl⟩
theorem iX8_addWhole_33 : At cX8_addWhole 33 (.iadd) 1 34 := ⟨by decide +kernel, rfl⟩
theorem iX8_addWhole_34 : At cX8_addWhole 34 (.invokevirtual 237) 3 37 := ⟨by decide +kernel, rfl⟩
theorem iX8_addWhole_37 : At cX8_addWhole 37 (.goto 5) 3 40 := ⟨by decide +kernel, rfl⟩
theorem iX8_addWhole_40 : At cX8_addWhole 40 (.bipush (-3)) 2 42 := ⟨by decide +kernel, rfl⟩
theorem iX8_addWhole_42 : At cX8_addWhole 42 (.ireturn) 1 43 := ⟨by decide +kernel, rfl⟩
theorem iX8_addPair_0 : At cX8_addPair 0 (.iload_n 1) 1 1 := ⟨by decide +kernel, rfl⟩
theorem iX8_addPair_1 : At cX8_addPair 1 (.invokestatic 230) 3 4 := ⟨by decide +kernel, rfl⟩
theorem iX8_addPair_4 : At cX8_addPair 4 (.ifCond .ne 8) 3 7 := ⟨by decide +kernel, rfl⟩
theorem iX8_addPair_7 : At cX8_addPair 7 (.bipush (-2)) 2 9 := ⟨by decide +kernel, rfl⟩
theorem iX8_addPair_9 : At cX8_addPair 9 (.goto 44) 3 12 := ⟨by decide +kernel, rfl⟩
theorem iX8_addPair_12 : At cX8_addPair 12 (.iload_n 2) 1 13 := ⟨by decide +kernel, rfl⟩
theorem iX8_addPair_13 : At cX8_addPair 13 (.i2l) 1 14 := ⟨by decide +kernel, rfl⟩
theorem iX8_addPair_14 : At cX8_addPair 14 (.lconst 0) 1 15 := ⟨by decide +kernel, rfl⟩
theorem iX8_addPair_15 : At cX8_addPair 15 (.ldc2_w 218) 3 18 := ⟨by decide +kernel, rfl⟩
theorem iX8_addPair_18 : At cX8_addPair 18 (.invokestatic 62) 3 21 := ⟨by decide +kernel, rfl⟩
theorem iX8_addPair_21 : At cX8_addPair 21 (.ifCond .eq 30) 3 24 := ⟨by decide +kernel, rfl⟩
theorem iX8_addPair_24 : At cX8_addPair 24 (.iload_n 3) 1 25 := ⟨by decide +kernel, rfl⟩
theorem iX8_addPair_25 : At cX8_addPair 25 (.i2l) 1 26 := ⟨by decide +kernel, rfl⟩
theorem iX8_addPair_26 : At cX8_addPair 26 (.lconst 0) 1 27 := ⟨by decide +kernel, rfl⟩
theorem iX8_addPair_27 : At cX8_addPair 27 (.ldc2_w 218) 3 30 := ⟨by decide +kernel, rfl⟩
theorem iX8_addPair_30 : At cX8_addPair 30 (.invokestatic 62) 3 33 := ⟨by decide +kernel, rfl⟩
theorem iX8_addPair_33 : At cX8_addPair 33 (.ifCond .eq 18) 3 36 := ⟨by decide +kernel, rfl⟩
theorem iX8_addPair_36 : At cX8_addPair 36 (.aload_n 0) 1 37 := ⟨by decide +kernel, rfl⟩
theorem iX8_addPair_37 : At cX8_addPair 37 (.iload_n 1) 1 38 := ⟨by decide +kernel, rfl⟩
theorem iX8_addPair_38 : At cX8_addPair 38 (.iconst 1) 1 39 := ⟨by decide +kernel, rfl⟩
theorem iX8_addPair_39 : At cX8_addPair 39 (.bipush 100) 2 41 := ⟨by decide +kernel, rfl⟩
theorem iX8_addPair_41 : At cX8_addPair 41 (.iload_n 2) 1 42 := ⟨by decide +kernel, rfl⟩
theorem iX8_addPair_42 : At cX8_addPair 42 (.imul) 1 43 := ⟨by decide +kernel, rfl⟩
theorem iX8_addPair_43 : At cX8_addPair 43 (.iload_n 3) 1 44 := ⟨by decide +kernel, rfl⟩
theorem iX8_addPair_44 : At cX8_addPair 44 (.iadd) 1 45 := ⟨by decide +kernel, rfl⟩
theorem iX8_addPair_45 : At cX8_addPair 45 (.invokevirtual 237) 3 48 := ⟨by decide +kernel, rfl⟩
theorem iX8_addPair_48 : At cX8_addPair 48 (.goto 5) 3 51 := ⟨by decide +kernel, rfl⟩
theorem iX8_addPair_51 : At cX8_addPair 51 (.bipush (-3)) 2 53 := ⟨by decide +kernel, rfl⟩
theorem iX8_addPair_53 : At cX8_addPair 53 (.ireturn) 1 54 := ⟨by decide +kernel, rfl⟩
theorem iX8_find_0 : At cX8_find 0 (.iload_n 1) 1 1 := ⟨by decide +kernel, rfl⟩
theorem iX8_find_1 : At cX8_find 1 (.invokestatic 230) 3 4 := ⟨by decide +kernel, rfl⟩
theorem iX8_find_4 : At cX8_find 4 (.ifCond .ne 6) 3 7 := ⟨by decide +kernel, rfl⟩
theorem iX8_find_7 : At cX8_find 7 (.bipush (-2)) 2 9 := ⟨by decide +kernel, rfl⟩
theorem iX8_find_9 : At cX8_find 9 (.ireturn) 1 10 := ⟨by decide +kernel, rfl⟩
theorem iX8_find_10 : At cX8_find 10 (.iload_n 2) 1 11 := ⟨by decide +kernel, rfl⟩
theorem iX8_find_11 : At cX8_find 11 (.i2l) 1 12 := ⟨by decide +kernel, rfl⟩
theorem iX8_find_12 : At cX8_find 12 (.lconst 0) 1 13 := ⟨by decide +kernel, rfl⟩
theorem iX8_find_13 : At cX8_find 13 (.ldc2_w 228) 3 16 := ⟨by decide +kernel, rfl⟩
theorem iX8_find_16 : At cX8_find 16 (.invokestatic 62) 3 19 := ⟨by decide +kernel, rfl⟩
theorem iX8_find_19 : At cX8_find 19 (.ifCond .ne 6) 3 22 := ⟨by decide +kernel, rfl⟩
theorem iX8_find_22 : At cX8_find 22 (.bipush (-3)) 2 24 := ⟨by decide +kernel, rfl⟩
theorem iX8_find_24 : At cX8_find 24 (.ireturn) 1 25 := ⟨by decide +kernel, rfl⟩
theorem iX8_find_25 : At cX8_find 25 (.aload_n 0) 1 26 := ⟨by decide +kernel, rfl⟩
theorem iX8_find_26 : At cX8_find 26 (.getfield 39) 3 29 := ⟨by decide +kernel, rfl⟩
theorem iX8_find_29 : At cX8_find 29 (.iload_n 1) 1 30 := ⟨by decide +kernel, rfl⟩
theorem iX8_find_30 : At cX8_find 30 (.iaload) 1 31 := ⟨by decide +kernel, rfl⟩
theorem iX8_find_31 : At cX8_find 31 (.iconst 1) 1 32 := ⟨by decide +kernel, rfl⟩
theorem iX8_find_32 : At cX8_find 32 (.if_icmp .ge 20) 3 35 := ⟨by decide +kernel, rfl⟩
theorem iX8_find_35 : At cX8_find 35 (.aload_n 0) 1 36 := ⟨by decide +kernel, rfl⟩
theorem iX8_find_36 : At cX8_find 36 (.getfield 39) 3 39 := ⟨by decide +kernel, rfl⟩
theorem iX8_find_39 : At cX8_find 39 (.iload_n 1) 1 40 := ⟨by decide +kernel, rfl⟩
theorem iX8_find_40 : At cX8_find 40 (.iaload) 1 41 := ⟨by decide +kernel, rfl⟩
theorem iX8_find_41 : At cX8_find 41 (.ifCond .ge 8) 3 44 := ⟨by decide +kernel, rfl⟩
theorem iX8_find_44 : At cX8_find 44 (.bipush (-11)) 2 46 := ⟨by decide +kernel, rfl⟩
theorem iX8_find_46 : At cX8_find 46 (.goto 5) 3 49 := ⟨by decide +kernel, rfl⟩
theorem iX8_find_49 : At cX8_find 49 (.bipush (-13)) 2 51 := ⟨by decide +kernel, rfl⟩
theorem iX8_find_51 : At cX8_find 51 (.ireturn) 1 52 := ⟨by decide +kernel, rfl⟩
theorem iX8_find_52 : At cX8_find 52 (.aload_n 0) 1 53 := ⟨by decide +kernel, rfl⟩
theorem iX8_find_53 : At cX8_find 53 (.getfield 45) 3 56 := ⟨by decide +kernel, rfl⟩
theorem iX8_find_56 : At cX8_find 56 (.bipush 8) 2 58 := ⟨by decide +kernel, rfl⟩
theorem iX8_find_58 : At cX8_find 58 (.iload_n 1) 1 59 := ⟨by decide +kernel, rfl⟩
theorem iX8_find_59 : At cX8_find 59 (.imul) 1 60 := ⟨by decide +kernel, rfl⟩
theorem iX8_find_60 : At cX8_find 60 (.aload_n 0) 1 61 := ⟨by decide +kernel, rfl⟩
theorem iX8_find_61 : At cX8_find 61 (.getfield 39) 3 64 := ⟨by decide +kernel, rfl⟩
theorem iX8_find_64 : At cX8_find 64 (.iload_n 1) 1 65 := ⟨by decide +kernel, rfl⟩
theorem iX8_find_65 : At cX8_find 65 (.iaload) 1 66 := ⟨by decide +kernel, rfl⟩
theorem iX8_find_66 : At cX8_find 66 (.iadd) 1 67 := ⟨by decide +kernel, rfl⟩
theorem iX8_find_67 : At cX8_find 67 (.iconst 1) 1 68 := ⟨by decide +kernel, rfl⟩
theorem iX8_find_68 : At cX8_find 68 (.isub) 1 69 := ⟨by decide +kernel, rfl⟩
theorem iX8_find_69 : At cX8_find 69 (.iaload) 1 70 := ⟨by decide +kernel, rfl⟩
theorem iX8_find_70 : At cX8_find 70 (.istore_n 3) 1 71 := ⟨by decide +kernel, rfl⟩
theorem iX8_find_71 : At cX8_find 71 (.bipush 8) 2 73 := ⟨by decide +kernel, rfl⟩
theorem iX8_find_73 : At cX8_find 73 (.iload_n 1) 1 74 := ⟨by decide +kernel, rfl⟩
theorem iX8_find_74 : At cX8_find 74 (.imul) 1 75 := ⟨by decide +kernel, rfl⟩
theorem iX8_find_75 : At cX8_find 75 (.istore 4) 2 77 := ⟨by decide +kernel, rfl⟩
theorem iX8_find_77 : At cX8_find 77 (.iload 4) 2 79 := ⟨by decide +kernel, rfl⟩
theorem iX8_find_79 : At cX8_find 79 (.bipush 8) 2 81 := ⟨by decide +kernel, rfl⟩
theorem iX8_find_81 : At cX8_find 81 (.iload_n 1) 1 82 := ⟨by decide +kernel, rfl⟩
theorem iX8_find_82 : At cX8_find 82 (.imul) 1 83 := ⟨by decide +kernel, rfl⟩
theorem iX8_find_83 : At cX8_find 83 (.aload_n 0) 1 84 := ⟨by decide +kernel, rfl⟩
theorem iX8_find_84 : At cX8_find 84 (.getfield 39) 3 87 := ⟨by decide +kernel, rfl⟩
theorem iX8_find_87 : At cX8_find 87 (.iload_n 1) 1 88 := ⟨by decide +kernel, rfl⟩
theorem iX8_find_88 : At cX8_find 88 (.iaload) 1 89 := ⟨by decide +kernel, rfl⟩
theorem iX8_find_89 : At cX8_find 89 (.iadd) 1 90 := ⟨by decide +kernel, rfl⟩
theorem iX8_find_90 : At cX8_find 90 (.if_icmp .ge 54) 3 93 := ⟨by decide +kernel, rfl⟩
theorem iX8_find_93 : At cX8_find 93 (.iload_n 2) 1 94 := ⟨by decide +kernel, rfl⟩
theorem iX8_find_94 : At cX8_find 94 (.iconst 2) 1 95 := ⟨by decide +kernel, rfl⟩
theorem iX8_find_95 : At cX8_find 95 (.if_icmp .ge 49) 3 98 := ⟨by decide +kernel, rfl⟩
theorem iX8_find_98 : At cX8_find 98 (.iload_n 2) 1 99 := ⟨by decide +kernel, rfl⟩
theorem iX8_find_99 : At cX8_find 99 (.ifCond .ne 7) 3 102 := ⟨by decide +kernel, rfl⟩
theorem iX8_find_102 : At cX8_find 102 (.iconst 1) 1 103 := ⟨by decide +kernel, rfl⟩
theorem iX8_find_103 : At cX8_find 103 (.goto 4) 3 106 := ⟨by decide +kernel, rfl⟩
theorem iX8_find_106 : At cX8_find 106 (.iconst 0) 1 107 := ⟨by decide +kernel, rfl⟩
theorem iX8_find_107 : At cX8_find 107 (.aload_n 0) 1 108 := ⟨by decide +kernel, rfl⟩
theorem iX8_find_108 : At cX8_find 108 (.getfield 45) 3 111 := ⟨by decide +kernel, rfl⟩
theorem iX8_find_111 : At cX8_find 111 (.iload 4) 2 113 := ⟨by decide +kernel, rfl⟩
theorem iX8_find_113 : At cX8_find 113 (.iaload) 1 114 := ⟨by decide +kernel, rfl⟩
theorem iX8_find_114 : At cX8_find 114 (.iload_n 3) 1 115 := ⟨by decide +kernel, rfl⟩
theorem iX8_find_115 : At cX8_find 115 (.if_icmp .le 7) 3 118 := ⟨by decide +kernel, rfl⟩
theorem iX8_find_118 : At cX8_find 118 (.iconst 1) 1 119 := ⟨by decide +kernel, rfl⟩
theorem iX8_find_119 : At cX8_find 119 (.goto 4) 3 122 := ⟨by decide +kernel, rfl⟩
theorem iX8_find_122 : At cX8_find 122 (.iconst 0) 1 123 := ⟨by decide +kernel, rfl⟩
theorem iX8_find_123 : At cX8_find 123 (.if_icmp .ne 13) 3 126 := ⟨by decide +kernel, rfl⟩
theorem iX8_find_126 : At cX8_find 126 (.aload_n 0) 1 127 := ⟨by decide +kernel, rfl⟩
theorem iX8_find_127 : At cX8_find 127 (.getfield 45) 3 130 := ⟨by decide +kernel, rfl⟩
theorem iX8_find_130 : At cX8_find 130 (.iload 4) 2 132 := ⟨by decide +kernel, rfl⟩
theorem iX8_find_132 : At cX8_find 132 (.iaload) 1 133 := ⟨by decide +kernel, rfl⟩
theorem iX8_find_133 : At cX8_find 133 (.goto 4) 3 136 := ⟨by decide +kernel, rfl⟩
theorem iX8_find_136 : At cX8_find 136 (.iload_n 3) 1 137 := ⟨by decide +kernel, rfl⟩
theorem iX8_find_137 : At cX8_find 137 (.istore_n 3) 1 138 := ⟨by decide +kernel, rfl⟩
theorem iX8_find_138 : At cX8_find 138 (.iinc 4 1) 3 141 := ⟨by decide +kernel, rfl⟩
theorem iX8_find_141 : At cX8_find 141 (.goto (-64)) 3 144 := ⟨by decide +kernel, rfl⟩
theorem iX8_find_144 : At cX8_find 144 (.iload_n 3) 1 145 := ⟨by decide +kernel, rfl⟩
theorem iX8_find_145 : At cX8_find 145 (.ireturn) 1 146 := ⟨by decide +kernel, rfl⟩
theorem iX8_pop_0 : At cX8_pop 0 (.iload_n 1) 1 1 := ⟨by decide +kernel, rfl⟩
theorem iX8_pop_1 : At cX8_pop 1 (.invokestatic 230) 3 4 := ⟨by decide +kernel, rfl⟩
theorem iX8_pop_4 : At cX8_pop 4 (.ifCond .ne 6) 3 7 := ⟨by decide +kernel, rfl⟩
theorem iX8_pop_7 : At cX8_pop 7 (.bipush (-2)) 2 9 := ⟨by decide +kernel, rfl⟩
theorem iX8_pop_9 : At cX8_pop 9 (.ireturn) 1 10 := ⟨by decide +kernel, rfl⟩
theorem iX8_pop_10 : At cX8_pop 10 (.aload_n 0) 1 11 := ⟨by decide +kernel, rfl⟩
theorem iX8_pop_11 : At cX8_pop 11 (.getfield 39) 3 14 := ⟨by decide +kernel, rfl⟩
theorem iX8_pop_14 : At cX8_pop 14 (.iload_n 1) 1 15 := ⟨by decide +kernel, rfl⟩
theorem iX8_pop_15 : At cX8_pop 15 (.iaload) 1 16 := ⟨by decide +kernel, rfl⟩
theorem iX8_pop_16 : At cX8_pop 16 (.iconst 1) 1 17 := ⟨by decide +kernel, rfl⟩
theorem iX8_pop_17 : At cX8_pop 17 (.if_icmp .ge 20) 3 20 := ⟨by decide +kernel, rfl⟩
theorem iX8_pop_20 : At cX8_pop 20 (.aload_n 0) 1 21 := ⟨by decide +kernel, rfl⟩
theorem iX8_pop_21 : At cX8_pop 21 (.getfield 39) 3 24 := ⟨by decide +kernel, rfl⟩
theorem iX8_pop_24 : At cX8_pop 24 (.iload_n 1) 1 25 := ⟨by decide +kernel, rfl⟩
theorem iX8_pop_25 : At cX8_pop 25 (.iaload) 1 26 := ⟨by decide +kernel, rfl⟩
theorem iX8_pop_26 : At cX8_pop 26 (.ifCond .ge 8) 3 29 := ⟨by decide +kernel, rfl⟩
theorem iX8_pop_29 : At cX8_pop 29 (.bipush (-11)) 2 31 := ⟨by decide +kernel, rfl⟩
theorem iX8_pop_31 : At cX8_pop 31 (.goto 5) 3 34 := ⟨by decide +kernel, rfl⟩
theorem iX8_pop_34 : At cX8_pop 34 (.bipush (-13)) 2 36 := ⟨by decide +kernel, rfl⟩
theorem iX8_pop_36 : At cX8_pop 36 (.ireturn) 1 37 := ⟨by decide +kernel, rfl⟩
theorem iX8_pop_37 : At cX8_pop 37 (.aload_n 0) 1 38 := ⟨by decide +kernel, rfl⟩
theorem iX8_pop_38 : At cX8_pop 38 (.getfield 39) 3 41 := ⟨by decide +kernel, rfl⟩
theorem iX8_pop_41 : At cX8_pop 41 (.iload_n 1) 1 42 := ⟨by decide +kernel, rfl⟩
theorem iX8_pop_42 : At cX8_pop 42 (.dup2) 1 43 := ⟨by decide +kernel, rfl⟩
theorem iX8_pop_43 : At cX8_pop 43 (.iaload) 1 44 := ⟨by decide +kernel, rfl⟩
theorem iX8_pop_44 : At cX8_pop 44 (.iconst 1) 1 45 := ⟨by decide +kernel, rfl⟩
theorem iX8_pop_45 : At cX8_pop 45 (.isub) 1 46 := ⟨by decide +kernel, rfl⟩
theorem iX8_pop_46 : At cX8_pop 46 (.iastore) 1 47 := ⟨by decide +kernel, rfl⟩
theorem iX8_pop_47 : At cX8_pop 47 (.aload_n 0) 1 48 := ⟨by decide +kernel, rfl⟩
theorem iX8_pop_48 : At cX8_pop 48 (.getfield 45) 3 51 := ⟨by decide +kernel, rfl⟩
theorem iX8_pop_51 : At cX8_pop 51 (.bipush 8) 2 53 := ⟨by decide +kernel, rfl⟩
theorem iX8_pop_53 : At cX8_pop 53 (.iload_n 1) 1 54 := ⟨by decide +kernel, rfl⟩
theorem iX8_pop_54 : At cX8_pop 54 (.imul) 1 55 := ⟨by decide +kernel, rfl⟩
theorem iX8_pop_55 : At cX8_pop 55 (.aload_n 0) 1 56 := ⟨by decide +kernel, rfl⟩
theorem iX8_pop_56 : At cX8_pop 56 (.getfield 39) 3 59 := ⟨by decide +kernel, rfl⟩
theorem iX8_pop_59 : At cX8_pop 59 (.iload_n 1) 1 60 := ⟨by decide +kernel, rfl⟩
theorem iX8_pop_60 : At cX8_pop 60 (.iaload) 1 61 := ⟨by decide +kernel, rfl⟩
theorem iX8_pop_61 : At cX8_pop 61 (.iadd) 1 62 := ⟨by decide +kernel, rfl⟩
theorem iX8_pop_62 : At cX8_pop 62 (.iaload) 1 63 := ⟨by decide +kernel, rfl⟩
theorem iX8_pop_63 : At cX8_pop 63 (.ireturn) 1 64 := ⟨by decide +kernel, rfl⟩
theorem iX8_sort_0 : At cX8_sort 0 (.iload_n 1) 1 1 := ⟨by decide +kernel, rfl⟩
theorem iX8_sort_1 : At cX8_sort 1 (.invokestatic 230) 3 4 := ⟨by decide +kernel, rfl⟩
theorem iX8_sort_4 : At cX8_sort 4 (.ifCond .ne 6) 3 7 := ⟨by decide +kernel, rfl⟩
theorem iX8_sort_7 : At cX8_sort 7 (.bipush (-2)) 2 9 := ⟨by decide +kernel, rfl⟩
theorem iX8_sort_9 : At cX8_sort 9 (.ireturn) 1 10 := ⟨by decide +kernel, rfl⟩
theorem iX8_sort_10 : At cX8_sort 10 (.aload_n 0) 1 11 := ⟨by decide +kernel, rfl⟩
theorem iX8_sort_11 : At cX8_sort 11 (.getfield 39) 3 14 := ⟨by decide +kernel, rfl⟩
theorem iX8_sort_14 : At cX8_sort 14 (.iload_n 1) 1 15 := ⟨by decide +kernel, rfl⟩
theorem iX8_sort_15 : At cX8_sort 15 (.iaload) 1 16 := ⟨by decide +kernel, rfl⟩
theorem iX8_sort_16 : At cX8_sort 16 (.ifCond .ge 6) 3 19 := ⟨by decide +kernel, rfl⟩
theorem iX8_sort_19 : At cX8_sort 19 (.bipush (-11)) 2 21 := ⟨by decide +kernel, rfl⟩
theorem iX8_sort_21 : At cX8_sort 21 (.ireturn) 1 22 := ⟨by decide +kernel, rfl⟩
theorem iX8_sort_22 : At cX8_sort 22 (.bipush 8) 2 24 := ⟨by decide +kernel, rfl⟩
theorem iX8_sort_24 : At cX8_sort 24 (.iload_n 1) 1 25 := ⟨by decide +kernel, rfl⟩
theorem iX8_sort_25 : At cX8_sort 25 (.imul) 1 26 := ⟨by decide +kernel, rfl⟩
theorem iX8_sort_26 : At cX8_sort 26 (.iconst 1) 1 27 := ⟨by decide +kernel, rfl⟩
theorem iX8_sort_27 : At cX8_sort 27 (.iadd) 1 28 := ⟨by decide +kernel, rfl⟩
theorem iX8_sort_28 : At cX8_sort 28 (.istore_n 2) 1 29 := ⟨by decide +kernel, rfl⟩
theorem iX8_sort_29 : At cX8_sort 29 (.iload_n 2) 1 30 := ⟨by decide +kernel, rfl⟩
theorem iX8_sort_30 : At cX8_sort 30 (.bipush 8) 2 32 := ⟨by decide +kernel, rfl⟩
theorem iX8_sort_32 : At cX8_sort 32 (.iload_n 1) 1 33 := ⟨by decide +kernel, rfl⟩
theorem iX8_sort_33 : At cX8_sort 33 (.imul) 1 34 := ⟨by decide +kernel, rfl⟩
theorem iX8_sort_34 : At cX8_sort 34 (.aload_n 0) 1 35 := ⟨by decide +kernel, rfl⟩
theorem iX8_sort_35 : At cX8_sort 35 (.getfield 39) 3 38 := ⟨by decide +kernel, rfl⟩
theorem iX8_sort_38 : At cX8_sort 38 (.iload_n 1) 1 39 := ⟨by decide +kernel, rfl⟩
theorem iX8_sort_39 : At cX8_sort 39 (.iaload) 1 40 := ⟨by decide +kernel, rfl⟩
theorem iX8_sort_40 : At cX8_sort 40 (.iadd) 1 41 := ⟨by decide +kernel, rfl⟩
theorem iX8_sort_41 : At cX8_sort 41 (.if_icmp .ge 71) 3 44 := ⟨by decide +kernel, rfl⟩
theorem iX8_sort_44 : At cX8_sort 44 (.aload_n 0) 1 45 := ⟨by decide +kernel, rfl⟩
theorem iX8_sort_45 : At cX8_sort 45 (.getfield 45) 3 48 := ⟨by decide +kernel, rfl⟩
theorem iX8_sort_48 : At cX8_sort 48 (.iload_n 2) 1 49 := ⟨by decide +kernel, rfl⟩
theorem iX8_sort_49 : At cX8_sort 49 (.iaload) 1 50 := ⟨by decide +kernel, rfl⟩
theorem iX8_sort_50 : At cX8_sort 50 (.istore_n 3) 1 51 := ⟨by decide +kernel, rfl⟩
theorem iX8_sort_51 : At cX8_sort 51 (.iload_n 2) 1 52 := ⟨by decide +kernel, rfl⟩
theorem iX8_sort_52 : At cX8_sort 52 (.istore 4) 2 54 := ⟨by decide +kernel, rfl⟩
theorem iX8_sort_54 : At cX8_sort 54 (.iload 4) 2 56 := ⟨by decide +kernel, rfl⟩
theorem iX8_sort_56 : At cX8_sort 56 (.bipush 8) 2 58 := ⟨by decide +kernel, rfl⟩
theorem iX8_sort_58 : At cX8_sort 58 (.iload_n 1) 1 59 := ⟨by decide +kernel, rfl⟩
theorem iX8_sort_59 : At cX8_sort 59 (.imul) 1 60 := ⟨by decide +kernel, rfl⟩
theorem iX8_sort_60 : At cX8_sort 60 (.if_icmp .le 38) 3 63 := ⟨by decide +kernel, rfl⟩
theorem iX8_sort_63 : At cX8_sort 63 (.aload_n 0) 1 64 := ⟨by decide +kernel, rfl⟩
theorem iX8_sort_64 : At cX8_sort 64 (.getfield 45) 3 67 := ⟨by decide +kernel, rfl⟩
theorem iX8_sort_67 : At cX8_sort 67 (.iload 4) 2 69 := ⟨by decide +kernel, rfl⟩
theorem iX8_sort_69 : At cX8_sort 69 (.iconst 1) 1 70 := ⟨by decide +kernel, rfl⟩
theorem iX8_sort_70 : At cX8_sort 70 (.isub) 1 71 := ⟨by decide +kernel, rfl⟩
theorem iX8_sort_71 : At cX8_sort 71 (.iaload) 1 72 := ⟨by decide +kernel, rfl⟩
theorem iX8_sort_72 : At cX8_sort 72 (.iload_n 3) 1 73 := ⟨by decide +kernel, rfl⟩
theorem iX8_sort_73 : At cX8_sort 73 (.if_icmp .le 25) 3 76 := ⟨by decide +kernel, rfl⟩
theorem iX8_sort_76 : At cX8_sort 76 (.aload_n 0) 1 77 := ⟨by decide +kernel, rfl⟩
theorem iX8_sort_77 : At cX8_sort 77 (.getfield 45) 3 80 := ⟨by decide +kernel, rfl⟩
theorem iX8_sort_80 : At cX8_sort 80 (.iload 4) 2 82 := ⟨by decide +kernel, rfl⟩
theorem iX8_sort_82 : At cX8_sort 82 (.aload_n 0) 1 83 := ⟨by decide +kernel, rfl⟩
theorem iX8_sort_83 : At cX8_sort 83 (.getfield 45) 3 86 := ⟨by decide +kernel, rfl⟩
theorem iX8_sort_86 : At cX8_sort 86 (.iload 4) 2 88 := ⟨by decide +kernel, rfl⟩
theorem iX8_sort_88 : At cX8_sort 88 (.iconst 1) 1 89 := ⟨by decide +kernel, rfl⟩
theorem iX8_sort_89 : At cX8_sort 89 (.isub) 1 90 := ⟨by decide +kernel, rfl⟩
theorem iX8_sort_90 : At cX8_sort 90 (.iaload) 1 91 := ⟨by decide +kernel, rfl⟩
theorem iX8_sort_91 : At cX8_sort 91 (.iastore) 1 92 := ⟨by decide +kernel, rfl⟩
theorem iX8_sort_92 : At cX8_sort 92 (.iinc 4 (-1)) 3 95 := ⟨by decide +kernel, rfl⟩
theorem iX8_sort_95 : At cX8_sort 95 (.goto (-41)) 3 98 := ⟨by decide +kernel, rfl⟩
theorem iX8_sort_98 : At cX8_sort 98 (.aload_n 0) 1 99 := ⟨by decide +kernel, rfl⟩
theorem iX8_sort_99 : At cX8_sort 99 (.getfield 45) 3 102 := ⟨by decide +kernel, rfl⟩
theorem iX8_sort_102 : At cX8_sort 102 (.iload 4) 2 104 := ⟨by decide +kernel, rfl⟩
theorem iX8_sort_104 : At cX8_sort 104 (.iload_n 3) 1 105 := ⟨by decide +kernel, rfl⟩
theorem iX8_sort_105 : At cX8_sort 105 (.iastore) 1 106 := ⟨by decide +kernel, rfl⟩
theorem iX8_sort_106 : At cX8_sort 106 (.iinc 2 1) 3 109 := ⟨by decide +kernel, rfl⟩
theorem iX8_sort_109 : At cX8_sort 109 (.goto (-80)) 3 112 := ⟨by decide +kernel, rfl⟩
theorem iX8_sort_112 : At cX8_sort 112 (.aload_n 0) 1 113 := ⟨by decide +kernel, rfl⟩
theorem iX8_sort_113 : At cX8_sort 113 (.getfield 39) 3 116 := ⟨by decide +kernel, rfl⟩
theorem iX8_sort_116 : At cX8_sort 116 (.iload_n 1) 1 117 := ⟨by decide +kernel, rfl⟩
theorem iX8_sort_117 : At cX8_sort 117 (.iaload) 1 118 := ⟨by decide +kernel, rfl⟩
theorem iX8_sort_118 : At cX8_sort 118 (.ireturn) 1 119 := ⟨by decide +kernel, rfl⟩
theorem iX8_pour_0 : At cX8_pour 0 (.iload_n 1) 1 1 := ⟨by decide +kernel, rfl⟩
theorem iX8_pour_1 : At cX8_pour 1 (.invokestatic 230) 3 4 := ⟨by decide +kernel, rfl⟩
theorem iX8_pour_4 : At cX8_pour 4 (.ifCond .eq 15) 3 7 := ⟨by decide +kernel, rfl⟩
theorem iX8_pour_7 : At cX8_pour 7 (.iload_n 2) 1 8 := ⟨by decide +kernel, rfl⟩
theorem iX8_pour_8 : At cX8_pour 8 (.invokestatic 230) 3 11 := ⟨by decide +kernel, rfl⟩
theorem iX8_pour_11 : At cX8_pour 11 (.ifCond .eq 8) 3 14 := ⟨by decide +kernel, rfl⟩
theorem iX8_pour_14 : At cX8_pour 14 (.iload_n 1) 1 15 := ⟨by decide +kernel, rfl⟩
theorem iX8_pour_15 : At cX8_pour 15 (.iload_n 2) 1 16 := ⟨by decide +kernel, rfl⟩
theorem iX8_pour_16 : At cX8_pour 16 (.if_icmp .ne 6) 3 19 := ⟨by decide +kernel, rfl⟩
theorem iX8_pour_19 : At cX8_pour 19 (.bipush (-2)) 2 21 := ⟨by decide +kernel, rfl⟩
theorem iX8_pour_21 : At cX8_pour 21 (.ireturn) 1 22 := ⟨by decide +kernel, rfl⟩
theorem iX8_pour_22 : At cX8_pour 22 (.aload_n 0) 1 23 := ⟨by decide +kernel, rfl⟩
theorem iX8_pour_23 : At cX8_pour 23 (.getfield 39) 3 26 := ⟨by decide +kernel, rfl⟩
theorem iX8_pour_26 : At cX8_pour 26 (.iload_n 1) 1 27 := ⟨by decide +kernel, rfl⟩
theorem iX8_pour_27 : At cX8_pour 27 (.iaload) 1 28 := ⟨by decide +kernel, rfl⟩
theorem iX8_pour_28 : At cX8_pour 28 (.ifCond .lt 12) 3 31 := ⟨by decide +kernel, rfl⟩
theorem iX8_pour_31 : At cX8_pour 31 (.aload_n 0) 1 32 := ⟨by decide +kernel, rfl⟩
theorem iX8_pour_32 : At cX8_pour 32 (.getfield 39) 3 35 := ⟨by decide +kernel, rfl⟩
theorem iX8_pour_35 : At cX8_pour 35 (.iload_n 2) 1 36 := ⟨by decide +kernel, rfl⟩
theorem iX8_pour_36 : At cX8_pour 36 (.iaload) 1 37 := ⟨by decide +kernel, rfl⟩
theorem iX8_pour_37 : At cX8_pour 37 (.ifCond .ge 6) 3 40 := ⟨by decide +kernel, rfl⟩
theorem iX8_pour_40 : At cX8_pour 40 (.bipush (-11)) 2 42 := ⟨by decide +kernel, rfl⟩
theorem iX8_pour_42 : At cX8_pour 42 (.ireturn) 1 43 := ⟨by decide +kernel, rfl⟩
theorem iX8_pour_43 : At cX8_pour 43 (.aload_n 0) 1 44 := ⟨by decide +kernel, rfl⟩
theorem iX8_pour_44 : At cX8_pour 44 (.getfield 42) 3 47 := ⟨by decide +kernel, rfl⟩
theorem iX8_pour_47 : At cX8_pour 47 (.iload_n 1) 1 48 := ⟨by decide +kernel, rfl⟩
theorem iX8_pour_48 : At cX8_pour 48 (.iaload) 1 49 := ⟨by decide +kernel, rfl⟩
theorem iX8_pour_49 : At cX8_pour 49 (.aload_n 0) 1 50 := ⟨by decide +kernel, rfl⟩
theorem iX8_pour_50 : At cX8_pour 50 (.getfield 42) 3 53 := ⟨by decide +kernel, rfl⟩
theorem iX8_pour_53 : At cX8_pour 53 (.iload_n 2) 1 54 := ⟨by decide +kernel, rfl⟩
theorem iX8_pour_54 : At cX8_pour 54 (.iaload) 1 55 := ⟨by decide +kernel, rfl⟩
theorem iX8_pour_55 : At cX8_pour 55 (.if_icmp .eq 6) 3 58 := ⟨by decide +kernel, rfl⟩
theorem iX8_pour_58 : At cX8_pour 58 (.bipush (-12)) 2 60 := ⟨by decide +kernel, rfl⟩
theorem iX8_pour_60 : At cX8_pour 60 (.ireturn) 1 61 := ⟨by decide +kernel, rfl⟩
theorem iX8_pour_61 : At cX8_pour 61 (.aload_n 0) 1 62 := ⟨by decide +kernel, rfl⟩
theorem iX8_pour_62 : At cX8_pour 62 (.getfield 39) 3 65 := ⟨by decide +kernel, rfl⟩
theorem iX8_pour_65 : At cX8_pour 65 (.iload_n 1) 1 66 := ⟨by decide +kernel, rfl⟩
theorem iX8_pour_66 : At cX8_pour 66 (.iaload) 1 67 := ⟨by decide +kernel, rfl⟩
theorem iX8_pour_67 : At cX8_pour 67 (.aload_n 0) 1 68 := ⟨by decide +kernel, rfl⟩
theorem iX8_pour_68 : At cX8_pour 68 (.getfield 39) 3 71 := ⟨by decide +kernel, rfl⟩
theorem iX8_pour_71 : At cX8_pour 71 (.iload_n 2) 1 72 := ⟨by decide +kernel, rfl⟩
theorem iX8_pour_72 : At cX8_pour 72 (.iaload) 1 73 := ⟨by decide +kernel, rfl⟩
theorem iX8_pour_73 : At cX8_pour 73 (.iadd) 1 74 := ⟨by decide +kernel, rfl⟩
theorem iX8_pour_74 : At cX8_pour 74 (.bipush 8) 2 76 := ⟨by decide +kernel, rfl⟩
theorem iX8_pour_76 : At cX8_pour 76 (.if_icmp .le 6) 3 79 := ⟨by decide +kernel, rfl⟩
theorem iX8_pour_79 : At cX8_pour 79 (.bipush (-14)) 2 81 := ⟨by decide +kernel, rfl⟩
theorem iX8_pour_81 : At cX8_pour 81 (.ireturn) 1 82 := ⟨by decide +kernel, rfl⟩
theorem iX8_pour_82 : At cX8_pour 82 (.iconst 0) 1 83 := ⟨by decide +kernel, rfl⟩
theorem iX8_pour_83 : At cX8_pour 83 (.istore_n 3) 1 84 := ⟨by decide +kernel, rfl⟩
theorem iX8_pour_84 : At cX8_pour 84 (.iload_n 3) 1 85 := ⟨by decide +kernel, rfl⟩
theorem iX8_pour_85 : At cX8_pour 85 (.aload_n 0) 1 86 := ⟨by decide +kernel, rfl⟩
theorem iX8_pour_86 : At cX8_pour 86 (.getfield 39) 3 89 := ⟨by decide +kernel, rfl⟩
theorem iX8_pour_89 : At cX8_pour 89 (.iload_n 1) 1 90 := ⟨by decide +kernel, rfl⟩
theorem iX8_pour_90 : At cX8_pour 90 (.iaload) 1 91 := ⟨by decide +kernel, rfl⟩
theorem iX8_pour_91 : At cX8_pour 91 (.if_icmp .ge 46) 3 94 := ⟨by decide +kernel, rfl⟩
theorem iX8_pour_94 : At cX8_pour 94 (.aload_n 0) 1 95 := ⟨by decide +kernel, rfl⟩
theorem iX8_pour_95 : At cX8_pour 95 (.getfield 45) 3 98 := ⟨by decide +kernel, rfl⟩
theorem iX8_pour_98 : At cX8_pour 98 (.bipush 8) 2 100 := ⟨by decide +kernel, rfl⟩
theorem iX8_pour_100 : At cX8_pour 100 (.iload_n 2) 1 101 := ⟨by decide +kernel, rfl⟩
theorem iX8_pour_101 : At cX8_pour 101 (.imul) 1 102 := ⟨by decide +kernel, rfl⟩
theorem iX8_pour_102 : At cX8_pour 102 (.aload_n 0) 1 103 := ⟨by decide +kernel, rfl⟩
theorem iX8_pour_103 : At cX8_pour 103 (.getfield 39) 3 106 := ⟨by decide +kernel, rfl⟩
theorem iX8_pour_106 : At cX8_pour 106 (.iload_n 2) 1 107 := ⟨by decide +kernel, rfl⟩
theorem iX8_pour_107 : At cX8_pour 107 (.iaload) 1 108 := ⟨by decide +kernel, rfl⟩
theorem iX8_pour_108 : At cX8_pour 108 (.iadd) 1 109 := ⟨by decide +kernel, rfl⟩
theorem iX8_pour_109 : At cX8_pour 109 (.aload_n 0) 1 110 := ⟨by decide +kernel, rfl⟩
theorem iX8_pour_110 : At cX8_pour 110 (.getfield 45) 3 113 := ⟨by decide +kernel, rfl⟩
theorem iX8_pour_113 : At cX8_pour 113 (.bipush 8) 2 115 := ⟨by decide +kernel, rfl⟩
theorem iX8_pour_115 : At cX8_pour 115 (.iload_n 1) 1 116 := ⟨by decide +kernel, rfl⟩
theorem iX8_pour_116 : At cX8_pour 116 (.imul) 1 117 := ⟨by decide +kernel, rfl⟩
theorem iX8_pour_117 : At cX8_pour 117 (.iload_n 3) 1 118 := ⟨by decide +kernel, rfl⟩
theorem iX8_pour_118 : At cX8_pour 118 (.iadd) 1 119 := ⟨by decide +kernel, rfl⟩
theorem iX8_pour_119 : At cX8_pour 119 (.iaload) 1 120 := ⟨by decide +kernel, rfl⟩
theorem iX8_pour_120 : At cX8_pour 120 (.iastore) 1 121 := ⟨by decide +kernel, rfl⟩
theorem iX8_pour_121 : At cX8_pour 121 (.aload_n 0) 1 122 := ⟨by decide +kernel, rfl⟩
theorem iX8_pour_122 : At cX8_pour 122 (.getfield 39) 3 125 := ⟨by decide +kernel, rfl⟩
theorem iX8_pour_125 : At cX8_pour 125 (.iload_n 2) 1 126 := ⟨by decide +kernel, rfl⟩
theorem iX8_pour_126 : At cX8_pour 126 (.dup2) 1 127 := ⟨by decide +kernel, rfl⟩
theorem iX8_pour_127 : At cX8_pour 127 (.iaload) 1 128 := ⟨by decide +kernel, rfl⟩
theorem iX8_pour_128 : At cX8_pour 128 (.iconst 1) 1 129 := ⟨by decide +kernel, rfl⟩
theorem iX8_pour_129 : At cX8_pour 129 (.iadd) 1 130 := ⟨by decide +kernel, rfl⟩
theorem iX8_pour_130 : At cX8_pour 130 (.iastore) 1 131 := ⟨by decide +kernel, rfl⟩
theorem iX8_pour_131 : At cX8_pour 131 (.iinc 3 1) 3 134 := ⟨by decide +kernel, rfl⟩
theorem iX8_pour_134 : At cX8_pour 134 (.goto (-50)) 3 137 := ⟨by decide +kernel, rfl⟩
theorem iX8_pour_137 : At cX8_pour 137 (.aload_n 0) 1 138 := ⟨by decide +kernel, rfl⟩
theorem iX8_pour_138 : At cX8_pour 138 (.getfield 39) 3 141 := ⟨by decide +kernel, rfl⟩
theorem iX8_pour_141 : At cX8_pour 141 (.iload_n 2) 1 142 := ⟨by decide +kernel, rfl⟩
theorem iX8_pour_142 : At cX8_pour 142 (.iaload) 1 143 := ⟨by decide +kernel, rfl⟩
theorem iX8_pour_143 : At cX8_pour 143 (.ireturn) 1 144 := ⟨by decide +kernel, rfl⟩
theorem iX8_sum_0 : At cX8_sum 0 (.iload_n 1) 1 1 := ⟨by decide +kernel, rfl⟩
theorem iX8_sum_1 : At cX8_sum 1 (.invokestatic 230) 3 4 := ⟨by decide +kernel, rfl⟩
theorem iX8_sum_4 : At cX8_sum 4 (.ifCond .ne 6) 3 7 := ⟨by decide +kernel, rfl⟩
theorem iX8_sum_7 : At cX8_sum 7 (.bipush (-2)) 2 9 := ⟨by decide +kernel, rfl⟩
theorem iX8_sum_9 : At cX8_sum 9 (.ireturn) 1 10 := ⟨by decide +kernel, rfl⟩
theorem iX8_sum_10 : At cX8_sum 10 (.aload_n 0) 1 11 := ⟨by decide +kernel, rfl⟩
theorem iX8_sum_11 : At cX8_sum 11 (.getfield 39) 3 14 := ⟨by decide +kernel, rfl⟩
theorem iX8_sum_14 : At cX8_sum 14 (.iload_n 1) 1 15 := ⟨by decide +kernel, rfl⟩
theorem iX8_sum_15 : At cX8_sum 15 (.iaload) 1 16 := ⟨by decide +kernel, rfl⟩
theorem iX8_sum_16 : At cX8_sum 16 (.ifCond .ge 6) 3 19 := ⟨by decide +kernel, rfl⟩
theorem iX8_sum_19 : At cX8_sum 19 (.bipush (-11)) 2 21 := ⟨by decide +kernel, rfl⟩
theorem iX8_sum_21 : At cX8_sum 21 (.ireturn) 1 22 := ⟨by decide +kernel, rfl⟩
theorem iX8_sum_22 : At cX8_sum 22 (.iconst 0) 1 23 := ⟨by decide +kernel, rfl⟩
theorem iX8_sum_23 : At cX8_sum 23 (.istore_n 2) 1 24 := ⟨by decide +kernel, rfl⟩
theorem iX8_sum_24 : At cX8_sum 24 (.iconst 0) 1 25 := ⟨by decide +kernel, rfl⟩
theorem iX8_sum_25 : At cX8_sum 25 (.istore_n 3) 1 26 := ⟨by decide +kernel, rfl⟩
theorem iX8_sum_26 : At cX8_sum 26 (.iload_n 3) 1 27 := ⟨by decide +kernel, rfl⟩
theorem iX8_sum_27 : At cX8_sum 27 (.aload_n 0) 1 28 := ⟨by decide +kernel, rfl⟩
theorem iX8_sum_28 : At cX8_sum 28 (.getfield 39) 3 31 := ⟨by decide +kernel, rfl⟩
theorem iX8_sum_31 : At cX8_sum 31 (.iload_n 1) 1 32 := ⟨by decide +kernel, rfl⟩
theorem iX8_sum_32 : At cX8_sum 32 (.iaload) 1 33 := ⟨by decide +kernel, rfl⟩
theorem iX8_sum_33 : At cX8_sum 33 (.if_icmp .ge 23) 3 36 := ⟨by decide +kernel, rfl⟩
theorem iX8_sum_36 : At cX8_sum 36 (.iload_n 2) 1 37 := ⟨by decide +kernel, rfl⟩
theorem iX8_sum_37 : At cX8_sum 37 (.aload_n 0) 1 38 := ⟨by decide +kernel, rfl⟩
theorem iX8_sum_38 : At cX8_sum 38 (.getfield 45) 3 41 := ⟨by decide +kernel, rfl⟩
theorem iX8_sum_41 : At cX8_sum 41 (.bipush 8) 2 43 := ⟨by decide +kernel, rfl⟩
theorem iX8_sum_43 : At cX8_sum 43 (.iload_n 1) 1 44 := ⟨by decide +kernel, rfl⟩
theorem iX8_sum_44 : At cX8_sum 44 (.imul) 1 45 := ⟨by decide +kernel, rfl⟩
theorem iX8_sum_45 : At cX8_sum 45 (.iload_n 3) 1 46 := ⟨by decide +kernel, rfl⟩
theorem iX8_sum_46 : At cX8_sum 46 (.iadd) 1 47 := ⟨by decide +kernel, rfl⟩
theorem iX8_sum_47 : At cX8_sum 47 (.iaload) 1 48 := ⟨by decide +kernel, rfl⟩
theorem iX8_sum_48 : At cX8_sum 48 (.iadd) 1 49 := ⟨by decide +kernel, rfl⟩
theorem iX8_sum_49 : At cX8_sum 49 (.istore_n 2) 1 50 := ⟨by decide +kernel, rfl⟩
theorem iX8_sum_50 : At cX8_sum 50 (.iinc 3 1) 3 53 := ⟨by decide +kernel, rfl⟩
theorem iX8_sum_53 : At cX8_sum 53 (.goto (-27)) 3 56 := ⟨by decide +kernel, rfl⟩
theorem iX8_sum_56 : At cX8_sum 56 (.iload_n 2) 1 57 := ⟨by decide +kernel, rfl⟩
theorem iX8_sum_57 : At cX8_sum 57 (.ireturn) 1 58 := ⟨by decide +kernel, rfl⟩
theorem iX8_drop_0 : At cX8_drop 0 (.iload_n 1) 1 1 := ⟨by decide +kernel, rfl⟩
theorem iX8_drop_1 : At cX8_drop 1 (.invokestatic 230) 3 4 := ⟨by decide +kernel, rfl⟩
theorem iX8_drop_4 : At cX8_drop 4 (.ifCond .ne 6) 3 7 := ⟨by decide +kernel, rfl⟩
theorem iX8_drop_7 : At cX8_drop 7 (.bipush (-2)) 2 9 := ⟨by decide +kernel, rfl⟩
theorem iX8_drop_9 : At cX8_drop 9 (.ireturn) 1 10 := ⟨by decide +kernel, rfl⟩
theorem iX8_drop_10 : At cX8_drop 10 (.aload_n 0) 1 11 := ⟨by decide +kernel, rfl⟩
theorem iX8_drop_11 : At cX8_drop 11 (.getfield 39) 3 14 := ⟨by decide +kernel, rfl⟩
theorem iX8_drop_14 : At cX8_drop 14 (.iload_n 1) 1 15 := ⟨by decide +kernel, rfl⟩
theorem iX8_drop_15 : At cX8_drop 15 (.iaload) 1 16 := ⟨by decide +kernel, rfl⟩
theorem iX8_drop_16 : At cX8_drop 16 (.istore_n 2) 1 17 := ⟨by decide +kernel, rfl⟩
theorem iX8_drop_17 : At cX8_drop 17 (.aload_n 0) 1 18 := ⟨by decide +kernel, rfl⟩
theorem iX8_drop_18 : At cX8_drop 18 (.getfield 39) 3 21 := ⟨by decide +kernel, rfl⟩
theorem iX8_drop_21 : At cX8_drop 21 (.iload_n 1) 1 22 := ⟨by decide +kernel, rfl⟩
theorem iX8_drop_22 : At cX8_drop 22 (.iconst (-1)) 1 23 := ⟨by decide +kernel, rfl⟩
theorem iX8_drop_23 : At cX8_drop 23 (.iastore) 1 24 := ⟨by decide +kernel, rfl⟩
theorem iX8_drop_24 : At cX8_drop 24 (.iload_n 2) 1 25 := ⟨by decide +kernel, rfl⟩
theorem iX8_drop_25 : At cX8_drop 25 (.ifCond .ge 8) 3 28 := ⟨by decide +kernel, rfl⟩
theorem iX8_drop_28 : At cX8_drop 28 (.bipush (-11)) 2 30 := ⟨by decide +kernel, rfl⟩
theorem iX8_drop_30 : At cX8_drop 30 (.goto 4) 3 33 := ⟨by decide +kernel, rfl⟩
theorem iX8_drop_33 : At cX8_drop 33 (.iload_n 2) 1 34 := ⟨by decide +kernel, rfl⟩
theorem iX8_drop_34 : At cX8_drop 34 (.ireturn) 1 35 := ⟨by decide +kernel, rfl⟩
theorem iX8_joints_0 : At cX8_joints 0 (.iconst 0) 1 1 := ⟨by decide +kernel, rfl⟩
theorem iX8_joints_1 : At cX8_joints 1 (.istore_n 1) 1 2 := ⟨by decide +kernel, rfl⟩
theorem iX8_joints_2 : At cX8_joints 2 (.iconst 0) 1 3 := ⟨by decide +kernel, rfl⟩
theorem iX8_joints_3 : At cX8_joints 3 (.istore_n 2) 1 4 := ⟨by decide +kernel, rfl⟩
theorem iX8_joints_4 : At cX8_joints 4 (.iload_n 2) 1 5 := ⟨by decide +kernel, rfl⟩
theorem iX8_joints_5 : At cX8_joints 5 (.aload_n 0) 1 6 := ⟨by decide +kernel, rfl⟩
theorem iX8_joints_6 : At cX8_joints 6 (.getfield 57) 3 9 := ⟨by decide +kernel, rfl⟩
theorem iX8_joints_9 : At cX8_joints 9 (.if_icmp .ge 21) 3 12 := ⟨by decide +kernel, rfl⟩
theorem iX8_joints_12 : At cX8_joints 12 (.iload_n 1) 1 13 := ⟨by decide +kernel, rfl⟩
theorem iX8_joints_13 : At cX8_joints 13 (.aload_n 0) 1 14 := ⟨by decide +kernel, rfl⟩
theorem iX8_joints_14 : At cX8_joints 14 (.getfield 19) 3 17 := ⟨by decide +kernel, rfl⟩
theorem iX8_joints_17 : At cX8_joints 17 (.iload_n 2) 1 18 := ⟨by decide +kernel, rfl⟩
theorem iX8_joints_18 : At cX8_joints 18 (.iaload) 1 19 := ⟨by decide +kernel, rfl⟩
theorem iX8_joints_19 : At cX8_joints 19 (.invokestatic 225) 3 22 := ⟨by decide +kernel, rfl⟩
theorem iX8_joints_22 : At cX8_joints 22 (.iadd) 1 23 := ⟨by decide +kernel, rfl⟩
theorem iX8_joints_23 : At cX8_joints 23 (.istore_n 1) 1 24 := ⟨by decide +kernel, rfl⟩
theorem iX8_joints_24 : At cX8_joints 24 (.iinc 2 1) 3 27 := ⟨by decide +kernel, rfl⟩
theorem iX8_joints_27 : At cX8_joints 27 (.goto (-23)) 3 30 := ⟨by decide +kernel, rfl⟩
theorem iX8_joints_30 : At cX8_joints 30 (.iload_n 1) 1 31 := ⟨by decide +kernel, rfl⟩
theorem iX8_joints_31 : At cX8_joints 31 (.iconst 2) 1 32 := ⟨by decide +kernel, rfl⟩
theorem iX8_joints_32 : At cX8_joints 32 (.idiv) 1 33 := ⟨by decide +kernel, rfl⟩
theorem iX8_joints_33 : At cX8_joints 33 (.ireturn) 1 34 := ⟨by decide +kernel, rfl⟩
theorem iX8_drowned_0 : At cX8_drowned 0 (.aload_n 0) 1 1 := ⟨by decide +kernel, rfl⟩
theorem iX8_drowned_1 : At cX8_drowned 1 (.invokevirtual 172) 3 4 := ⟨by decide +kernel, rfl⟩
theorem iX8_drowned_4 : At cX8_drowned 4 (.istore_n 1) 1 5 := ⟨by decide +kernel, rfl⟩
theorem iX8_drowned_5 : At cX8_drowned 5 (.iconst 0) 1 6 := ⟨by decide +kernel, rfl⟩
theorem iX8_drowned_6 : At cX8_drowned 6 (.istore_n 2) 1 7 := ⟨by decide +kernel, rfl⟩
theorem iX8_drowned_7 : At cX8_drowned 7 (.iconst 0) 1 8 := ⟨by decide +kernel, rfl⟩
theorem iX8_drowned_8 : At cX8_drowned 8 (.istore_n 3) 1 9 := ⟨by decide +kernel, rfl⟩
theorem iX8_drowned_9 : At cX8_drowned 9 (.iload_n 3) 1 10 := ⟨by decide +kernel, rfl⟩
theorem iX8_drowned_10 : At cX8_drowned 10 (.aload_n 0) 1 11 := ⟨by decide +kernel, rfl⟩
theorem iX8_drowned_11 : At cX8_drowned 11 (.getfield 57) 3 14 := ⟨by decide +kernel, rfl⟩
theorem iX8_drowned_14 : At cX8_drowned 14 (.if_icmp .ge 36) 3 17 := ⟨by decide +kernel, rfl⟩
theorem iX8_drowned_17 : At cX8_drowned 17 (.iload_n 2) 1 18 := ⟨by decide +kernel, rfl⟩
theorem iX8_drowned_18 : At cX8_drowned 18 (.iload_n 1) 1 19 := ⟨by decide +kernel, rfl⟩
theorem iX8_drowned_19 : At cX8_drowned 19 (.iload_n 3) 1 20 := ⟨by decide +kernel, rfl⟩
theorem iX8_drowned_20 : At cX8_drowned 20 (.invokestatic 151) 3 23 := ⟨by decide +kernel, rfl⟩
theorem iX8_drowned_23 : At cX8_drowned 23 (.ifCond .eq 18) 3 26 := ⟨by decide +kernel, rfl⟩
theorem iX8_drowned_26 : At cX8_drowned 26 (.aload_n 0) 1 27 := ⟨by decide +kernel, rfl⟩
theorem iX8_drowned_27 : At cX8_drowned 27 (.iload_n 3) 1 28 := ⟨by decide +kernel, rfl⟩
theorem iX8_drowned_28 : At cX8_drowned 28 (.invokevirtual 182) 3 31 := ⟨by decide +kernel, rfl⟩
theorem iX8_drowned_31 : At cX8_drowned 31 (.iconst (-1)) 1 32 := ⟨by decide +kernel, rfl⟩
theorem iX8_drowned_32 : At cX8_drowned 32 (.if_icmp .eq 9) 3 35 := ⟨by decide +kernel, rfl⟩
theorem iX8_drowned_35 : At cX8_drowned 35 (.iconst 1) 1 36 := ⟨by decide +kernel, rfl⟩
theorem iX8_drowned_36 : At cX8_drowned 36 (.iload_n 3) 1 37 := ⟨by decide +kernel, rfl⟩
theorem iX8_drowned_37 : At cX8_drowned 37 (.ishl) 1 38 := ⟨by decide +kernel, rfl⟩
theorem iX8_drowned_38 : At cX8_drowned 38 (.goto 4) 3 41 := ⟨by decide +kernel, rfl⟩
theorem iX8_drowned_41 : At cX8_drowned 41 (.iconst 0) 1 42 := ⟨by decide +kernel, rfl⟩
theorem iX8_drowned_42 : At cX8_drowned 42 (.ior) 1 43 := ⟨by decide +kernel, rfl⟩
theorem iX8_drowned_43 : At cX8_drowned 43 (.istore_n 2) 1 44 := ⟨by decide +kernel, rfl⟩
theorem iX8_drowned_44 : At cX8_drowned 44 (.iinc 3 1) 3 47 := ⟨by decide +kernel, rfl⟩
theorem iX8_drowned_47 : At cX8_drowned 47 (.goto (-38)) 3 50 := ⟨by decide +kernel, rfl⟩
theorem iX8_drowned_50 : At cX8_drowned 50 (.iload_n 2) 1 51 := ⟨by decide +kernel, rfl⟩
theorem iX8_drowned_51 : At cX8_drowned 51 (.ireturn) 1 52 := ⟨by decide +kernel, rfl⟩
theorem iX8_allThings_0 : At cX8_allThings 0 (.iconst 0) 1 1 := ⟨by decide +kernel, rfl⟩
theorem iX8_allThings_1 : At cX8_allThings 1 (.istore_n 1) 1 2 := ⟨by decide +kernel, rfl⟩
theorem iX8_allThings_2 : At cX8_allThings 2 (.iconst 0) 1 3 := ⟨by decide +kernel, rfl⟩
theorem iX8_allThings_3 : At cX8_allThings 3 (.istore_n 2) 1 4 := ⟨by decide +kernel, rfl⟩
theorem iX8_allThings_4 : At cX8_allThings 4 (.iload_n 2) 1 5 := ⟨by decide +kernel, rfl⟩
theorem iX8_allThings_5 : At cX8_allThings 5 (.iconst 3) 1 6 := ⟨by decide +kernel, rfl⟩
theorem iX8_allThings_6 : At cX8_allThings 6 (.if_icmp .ge 31) 3 9 := ⟨by decide +kernel, rfl⟩
theorem iX8_allThings_9 : At cX8_allThings 9 (.iload_n 1) 1 10 := ⟨by decide +kernel, rfl⟩
theorem iX8_allThings_10 : At cX8_allThings 10 (.aload_n 0) 1 11 := ⟨by decide +kernel, rfl⟩
theorem iX8_allThings_11 : At cX8_allThings 11 (.getfield 39) 3 14 := ⟨by decide +kernel, rfl⟩
theorem iX8_allThings_14 : At cX8_allThings 14 (.iload_n 2) 1 15 := ⟨by decide +kernel, rfl⟩
theorem iX8_allThings_15 : At cX8_allThings 15 (.iaload) 1 16 := ⟨by decide +kernel, rfl⟩
theorem iX8_allThings_16 : At cX8_allThings 16 (.ifCond .ge 7) 3 19 := ⟨by decide +kernel, rfl⟩
theorem iX8_allThings_19 : At cX8_allThings 19 (.iconst 0) 1 20 := ⟨by decide +kernel, rfl⟩
theorem iX8_allThings_20 : At cX8_allThings 20 (.goto 9) 3 23 := ⟨by decide +kernel, rfl⟩
theorem iX8_allThings_23 : At cX8_allThings 23 (.aload_n 0) 1 24 := ⟨by decide +kernel, rfl⟩
theorem iX8_allThings_24 : At cX8_allThings 24 (.getfield 39) 3 27 := ⟨by decide +kernel, rfl⟩
theorem iX8_allThings_27 : At cX8_allThings 27 (.iload_n 2) 1 28 := ⟨by decide +kernel, rfl⟩
theorem iX8_allThings_28 : At cX8_allThings 28 (.iaload) 1 29 := ⟨by decide +kernel, rfl⟩
theorem iX8_allThings_29 : At cX8_allThings 29 (.iadd) 1 30 := ⟨by decide +kernel, rfl⟩
theorem iX8_allThings_30 : At cX8_allThings 30 (.istore_n 1) 1 31 := ⟨by decide +kernel, rfl⟩
theorem iX8_allThings_31 : At cX8_allThings 31 (.iinc 2 1) 3 34 := ⟨by decide +kernel, rfl⟩
theorem iX8_allThings_34 : At cX8_allThings 34 (.goto (-30)) 3 37 := ⟨by decide +kernel, rfl⟩
theorem iX8_allThings_37 : At cX8_allThings 37 (.iload_n 1) 1 38 := ⟨by decide +kernel, rfl⟩
theorem iX8_allThings_38 : At cX8_allThings 38 (.ireturn) 1 39 := ⟨by decide +kernel, rfl⟩
theorem iX8_count_0 : At cX8_count 0 (.iload_n 1) 1 1 := ⟨by decide +kernel, rfl⟩
theorem iX8_count_1 : At cX8_count 1 (.tableswitch 146 0 12 #[67, 72, 77, 84, 89, 94, 99, 116, 121, 126, 131, 136, 141]) 67 68 := ⟨by decide +kernel, rfl⟩
theorem iX8_count_68 : At cX8_count 68 (.aload_n 0) 1 69 := ⟨by decide +kernel, rfl⟩
theorem iX8_count_69 : At cX8_count 69 (.getfield 57) 3 72 := ⟨by decide +kernel, rfl⟩
theorem iX8_count_72 : At cX8_count 72 (.ireturn) 1 73 := ⟨by decide +kernel, rfl⟩
theorem iX8_count_73 : At cX8_count 73 (.aload_n 0) 1 74 := ⟨by decide +kernel, rfl⟩
theorem iX8_count_74 : At cX8_count 74 (.invokevirtual 241) 3 77 := ⟨by decide +kernel, rfl⟩
theorem iX8_count_77 : At cX8_count 77 (.ireturn) 1 78 := ⟨by decide +kernel, rfl⟩
theorem iX8_count_78 : At cX8_count 78 (.aload_n 0) 1 79 := ⟨by decide +kernel, rfl⟩
theorem iX8_count_79 : At cX8_count 79 (.getfield 7) 3 82 := ⟨by decide +kernel, rfl⟩
theorem iX8_count_82 : At cX8_count 82 (.iconst 0) 1 83 := ⟨by decide +kernel, rfl⟩
theorem iX8_count_83 : At cX8_count 83 (.iaload) 1 84 := ⟨by decide +kernel, rfl⟩
theorem iX8_count_84 : At cX8_count 84 (.ireturn) 1 85 := ⟨by decide +kernel, rfl⟩
theorem iX8_count_85 : At cX8_count 85 (.aload_n 0) 1 86 := ⟨by decide +kernel, rfl⟩
theorem iX8_count_86 : At cX8_count 86 (.invokevirtual 172) 3 89 := ⟨by decide +kernel, rfl⟩
theorem iX8_count_89 : At cX8_count 89 (.ireturn) 1 90 := ⟨by decide +kernel, rfl⟩
theorem iX8_count_90 : At cX8_count 90 (.aload_n 0) 1 91 := ⟨by decide +kernel, rfl⟩
theorem iX8_count_91 : At cX8_count 91 (.invokevirtual 244) 3 94 := ⟨by decide +kernel, rfl⟩
theorem iX8_count_94 : At cX8_count 94 (.ireturn) 1 95 := ⟨by decide +kernel, rfl⟩
theorem iX8_count_95 : At cX8_count 95 (.aload_n 0) 1 96 := ⟨by decide +kernel, rfl⟩
theorem iX8_count_96 : At cX8_count 96 (.invokevirtual 215) 3 99 := ⟨by decide +kernel, rfl⟩
theorem iX8_count_99 : At cX8_count 99 (.ireturn) 1 100 := ⟨by decide +kernel, rfl⟩
theorem iX8_count_100 : At cX8_count 100 (.aload_n 0) 1 101 := ⟨by decide +kernel, rfl⟩
theorem iX8_count_101 : At cX8_count 101 (.invokevirtual 215) 3 104 := ⟨by decide +kernel, rfl⟩
theorem iX8_count_104 : At cX8_count 104 (.aload_n 0) 1 105 := ⟨by decide +kernel, rfl⟩
theorem iX8_count_105 : At cX8_count 105 (.invokevirtual 172) 3 108 := ⟨by decide +kernel, rfl⟩
theorem iX8_count_108 : At cX8_count 108 (.if_icmp .ne 7) 3 111 := ⟨by decide +kernel, rfl⟩
theorem iX8_count_111 : At cX8_count 111 (.iconst 1) 1 112 := ⟨by decide +kernel, rfl⟩
theorem iX8_count_112 : At cX8_count 112 (.goto 4) 3 115 := ⟨by decide +kernel, rfl⟩
theorem iX8_count_115 : At cX8_count 115 (.iconst 0) 1 116 := ⟨by decide +kernel, rfl⟩
theorem iX8_count_116 : At cX8_count 116 (.ireturn) 1 117 := ⟨by decide +kernel, rfl⟩
theorem iX8_count_117 : At cX8_count 117 (.aload_n 0) 1 118 := ⟨by decide +kernel, rfl⟩
theorem iX8_count_118 : At cX8_count 118 (.getfield 22) 3 121 := ⟨by decide +kernel, rfl⟩
theorem iX8_count_121 : At cX8_count 121 (.ireturn) 1 122 := ⟨by decide +kernel, rfl⟩
theorem iX8_count_122 : At cX8_count 122 (.aload_n 0) 1 123 := ⟨by decide +kernel, rfl⟩
theorem iX8_count_123 : At cX8_count 123 (.getfield 26) 3 126 := ⟨by decide +kernel, rfl⟩
theorem iX8_count_126 : At cX8_count 126 (.ireturn) 1 127 := ⟨by decide +kernel, rfl⟩
theorem iX8_count_127 : At cX8_count 127 (.aload_n 0) 1 128 := ⟨by decide +kernel, rfl⟩
theorem iX8_count_128 : At cX8_count 128 (.getfield 29) 3 131 := ⟨by decide +kernel, rfl⟩
theorem iX8_count_131 : At cX8_count 131 (.ireturn) 1 132 := ⟨by decide +kernel, rfl⟩
theorem iX8_count_132 : At cX8_count 132 (.aload_n 0) 1 133 := ⟨by decide +kernel, rfl⟩
theorem iX8_count_133 : At cX8_count 133 (.invokevirtual 247) 3 136 := ⟨by decide +kernel, rfl⟩
theorem iX8_count_136 : At cX8_count 136 (.ireturn) 1 137 := ⟨by decide +kernel, rfl⟩
theorem iX8_count_137 : At cX8_count 137 (.aload_n 0) 1 138 := ⟨by decide +kernel, rfl⟩
theorem iX8_count_138 : At cX8_count 138 (.getfield 144) 3 141 := ⟨by decide +kernel, rfl⟩
theorem iX8_count_141 : At cX8_count 141 (.ireturn) 1 142 := ⟨by decide +kernel, rfl⟩
theorem iX8_count_142 : At cX8_count 142 (.aload_n 0) 1 143 := ⟨by decide +kernel, rfl⟩
theorem iX8_count_143 : At cX8_count 143 (.getfield 66) 3 146 := ⟨by decide +kernel, rfl⟩
theorem iX8_count_146 : At cX8_count 146 (.ireturn) 1 147 := ⟨by decide +kernel, rfl⟩
theorem iX8_count_147 : At cX8_count 147 (.bipush (-3)) 2 149 := ⟨by decide +kernel, rfl⟩
theorem iX8_count_149 : At cX8_count 149 (.ireturn) 1 150 := ⟨by decide +kernel, rfl⟩
theorem iJ6_bitCount_0f7a4_0 : At cJ6_bitCount_0f7a4 0 (.iload_n 0) 1 1 := ⟨by decide +kernel, rfl⟩
theorem iJ6_bitCount_0f7a4_1 : At cJ6_bitCount_0f7a4 1 (.iload_n 0) 1 2 := ⟨by decide +kernel, rfl⟩
theorem iJ6_bitCount_0f7a4_2 : At cJ6_bitCount_0f7a4 2 (.iconst 1) 1 3 := ⟨by decide +kernel, rfl⟩
theorem iJ6_bitCount_0f7a4_3 : At cJ6_bitCount_0f7a4 3 (.iushr) 1 4 := ⟨by decide +kernel, rfl⟩
theorem iJ6_bitCount_0f7a4_4 : At cJ6_bitCount_0f7a4 4 (.ldc_w 265) 3 7 := ⟨by decide +kernel, rfl⟩
theorem iJ6_bitCount_0f7a4_7 : At cJ6_bitCount_0f7a4 7 (.iand) 1 8 := ⟨by decide +kernel, rfl⟩
theorem iJ6_bitCount_0f7a4_8 : At cJ6_bitCount_0f7a4 8 (.isub) 1 9 := ⟨by decide +kernel, rfl⟩
theorem iJ6_bitCount_0f7a4_9 : At cJ6_bitCount_0f7a4 9 (.istore_n 0) 1 10 := ⟨by decide +kernel, rfl⟩
theorem iJ6_bitCount_0f7a4_10 : At cJ6_bitCount_0f7a4 10 (.iload_n 0) 1 11 := ⟨by decide +kernel, rfl⟩
theorem iJ6_bitCount_0f7a4_11 : At cJ6_bitCount_0f7a4 11 (.ldc_w 266) 3 14 := ⟨by decide +kernel, rfl⟩
theorem iJ6_bitCount_0f7a4_14 : At cJ6_bitCount_0f7a4 14 (.iand) 1 15 := ⟨by decide +kernel, rfl⟩
theorem iJ6_bitCount_0f7a4_15 : At cJ6_bitCount_0f7a4 15 (.iload_n 0) 1 16 := ⟨by decide +kernel, rfl⟩
theorem iJ6_bitCount_0f7a4_16 : At cJ6_bitCount_0f7a4 16 (.iconst 2) 1 17 := ⟨by decide +kernel, rfl⟩
theorem iJ6_bitCount_0f7a4_17 : At cJ6_bitCount_0f7a4 17 (.iushr) 1 18 := ⟨by decide +kernel, rfl⟩
theorem iJ6_bitCount_0f7a4_18 : At cJ6_bitCount_0f7a4 18 (.ldc_w 266) 3 21 := ⟨by decide +kernel, rfl⟩
theorem iJ6_bitCount_0f7a4_21 : At cJ6_bitCount_0f7a4 21 (.iand) 1 22 := ⟨by decide +kernel, rfl⟩
theorem iJ6_bitCount_0f7a4_22 : At cJ6_bitCount_0f7a4 22 (.iadd) 1 23 := ⟨by decide +kernel, rfl⟩
theorem iJ6_bitCount_0f7a4_23 : At cJ6_bitCount_0f7a4 23 (.istore_n 0) 1 24 := ⟨by decide +kernel, rfl⟩
theorem iJ6_bitCount_0f7a4_24 : At cJ6_bitCount_0f7a4 24 (.iload_n 0) 1 25 := ⟨by decide +kernel, rfl⟩
theorem iJ6_bitCount_0f7a4_25 : At cJ6_bitCount_0f7a4 25 (.iload_n 0) 1 26 := ⟨by decide +kernel, rfl⟩
theorem iJ6_bitCount_0f7a4_26 : At cJ6_bitCount_0f7a4 26 (.iconst 4) 1 27 := ⟨by decide +kernel, rfl⟩
theorem iJ6_bitCount_0f7a4_27 : At cJ6_bitCount_0f7a4 27 (.iushr) 1 28 := ⟨by decide +kernel, rfl⟩
theorem iJ6_bitCount_0f7a4_28 : At cJ6_bitCount_0f7a4 28 (.iadd) 1 29 := ⟨by decide +kernel, rfl⟩
theorem iJ6_bitCount_0f7a4_29 : At cJ6_bitCount_0f7a4 29 (.ldc_w 267) 3 32 := ⟨by decide +kernel, rfl⟩
theorem iJ6_bitCount_0f7a4_32 : At cJ6_bitCount_0f7a4 32 (.iand) 1 33 := ⟨by decide +kernel, rfl⟩
theorem iJ6_bitCount_0f7a4_33 : At cJ6_bitCount_0f7a4 33 (.istore_n 0) 1 34 := ⟨by decide +kernel, rfl⟩
theorem iJ6_bitCount_0f7a4_34 : At cJ6_bitCount_0f7a4 34 (.iload_n 0) 1 35 := ⟨by decide +kernel, rfl⟩
theorem iJ6_bitCount_0f7a4_35 : At cJ6_bitCount_0f7a4 35 (.iload_n 0) 1 36 := ⟨by decide +kernel, rfl⟩
theorem iJ6_bitCount_0f7a4_36 : At cJ6_bitCount_0f7a4 36 (.bipush 8) 2 38 := ⟨by decide +kernel, rfl⟩
theorem iJ6_bitCount_0f7a4_38 : At cJ6_bitCount_0f7a4 38 (.iushr) 1 39 := ⟨by decide +kernel, rfl⟩
theorem iJ6_bitCount_0f7a4_39 : At cJ6_bitCount_0f7a4 39 (.iadd) 1 40 := ⟨by decide +kernel, rfl⟩
theorem iJ6_bitCount_0f7a4_40 : At cJ6_bitCount_0f7a4 40 (.istore_n 0) 1 41 := ⟨by decide +kernel, rfl⟩
theorem iJ6_bitCount_0f7a4_41 : At cJ6_bitCount_0f7a4 41 (.iload_n 0) 1 42 := ⟨by decide +kernel, rfl⟩
theorem iJ6_bitCount_0f7a4_42 : At cJ6_bitCount_0f7a4 42 (.iload_n 0) 1 43 := ⟨by decide +kernel, rfl⟩
theorem iJ6_bitCount_0f7a4_43 : At cJ6_bitCount_0f7a4 43 (.bipush 16) 2 45 := ⟨by decide +kernel, rfl⟩
theorem iJ6_bitCount_0f7a4_45 : At cJ6_bitCount_0f7a4 45 (.iushr) 1 46 := ⟨by decide +kernel, rfl⟩
theorem iJ6_bitCount_0f7a4_46 : At cJ6_bitCount_0f7a4 46 (.iadd) 1 47 := ⟨by decide +kernel, rfl⟩
theorem iJ6_bitCount_0f7a4_47 : At cJ6_bitCount_0f7a4 47 (.istore_n 0) 1 48 := ⟨by decide +kernel, rfl⟩
theorem iJ6_bitCount_0f7a4_48 : At cJ6_bitCount_0f7a4 48 (.iload_n 0) 1 49 := ⟨by decide +kernel, rfl⟩
theorem iJ6_bitCount_0f7a4_49 : At cJ6_bitCount_0f7a4 49 (.bipush 63) 2 51 := ⟨by decide +kernel, rfl⟩
theorem iJ6_bitCount_0f7a4_51 : At cJ6_bitCount_0f7a4 51 (.iand) 1 52 := ⟨by decide +kernel, rfl⟩
theorem iJ6_bitCount_0f7a4_52 : At cJ6_bitCount_0f7a4 52 (.ireturn) 1 53 := ⟨by decide +kernel, rfl⟩
theorem iJ9_max_7cf53_0 : At cJ9_max_7cf53 0 (.iload_n 0) 1 1 := ⟨by decide +kernel, rfl⟩
theorem iJ9_max_7cf53_1 : At cJ9_max_7cf53 1 (.iload_n 1) 1 2 := ⟨by decide +kernel, rfl⟩
theorem iJ9_max_7cf53_2 : At cJ9_max_7cf53 2 (.if_icmp .lt 7) 3 5 := ⟨by decide +kernel, rfl⟩
theorem iJ9_max_7cf53_5 : At cJ9_max_7cf53 5 (.iload_n 0) 1 6 := ⟨by decide +kernel, rfl⟩
theorem iJ9_max_7cf53_6 : At cJ9_max_7cf53 6 (.goto 4) 3 9 := ⟨by decide +kernel, rfl⟩
theorem iJ9_max_7cf53_9 : At cJ9_max_7cf53 9 (.iload_n 1) 1 10 := ⟨by decide +kernel, rfl⟩
theorem iJ9_max_7cf53_10 : At cJ9_max_7cf53 10 (.ireturn) 1 11 := ⟨by decide +kernel, rfl⟩
theorem iJ9_min_7cf53_0 : At cJ9_min_7cf53 0 (.iload_n 0) 1 1 := ⟨by decide +kernel, rfl⟩
theorem iJ9_min_7cf53_1 : At cJ9_min_7cf53 1 (.iload_n 1) 1 2 := ⟨by decide +kernel, rfl⟩
theorem iJ9_min_7cf53_2 : At cJ9_min_7cf53 2 (.if_icmp .gt 7) 3 5 := ⟨by decide +kernel, rfl⟩
theorem iJ9_min_7cf53_5 : At cJ9_min_7cf53 5 (.iload_n 0) 1 6 := ⟨by decide +kernel, rfl⟩
theorem iJ9_min_7cf53_6 : At cJ9_min_7cf53 6 (.goto 4) 3 9 := ⟨by decide +kernel, rfl⟩
theorem iJ9_min_7cf53_9 : At cJ9_min_7cf53 9 (.iload_n 1) 1 10 := ⟨by decide +kernel, rfl⟩
theorem iJ9_min_7cf53_10 : At cJ9_min_7cf53 10 (.ireturn) 1 11 := ⟨by decide +kernel, rfl⟩
theorem iJ0_length_8abf5_0 : At cJ0_length_8abf5 0 (.aload_n 0) 1 1 := ⟨by decide +kernel, rfl⟩
theorem iJ0_length_8abf5_1 : At cJ0_length_8abf5 1 (.getfield 9) 3 4 := ⟨by decide +kernel, rfl⟩
theorem iJ0_length_8abf5_4 : At cJ0_length_8abf5 4 (.arraylength) 1 5 := ⟨by decide +kernel, rfl⟩
theorem iJ0_length_8abf5_5 : At cJ0_length_8abf5 5 (.aload_n 0) 1 6 := ⟨by decide +kernel, rfl⟩
theorem iJ0_length_8abf5_6 : At cJ0_length_8abf5 6 (.invokevirtual 335) 3 9 := ⟨by decide +kernel, rfl⟩
theorem iJ0_length_8abf5_9 : At cJ0_length_8abf5 9 (.ishr) 1 10 := ⟨by decide +kernel, rfl⟩
theorem iJ0_length_8abf5_10 : At cJ0_length_8abf5 10 (.ireturn) 1 11 := ⟨by decide +kernel, rfl⟩
theorem iJ0_charAt_5068e_0 : At cJ0_charAt_5068e 0 (.aload_n 0) 1 1 := ⟨by decide +kernel, rfl⟩
theorem iJ0_charAt_5068e_1 : At cJ0_charAt_5068e 1 (.invokevirtual 492) 3 4 := ⟨by decide +kernel, rfl⟩
theorem iJ0_charAt_5068e_4 : At cJ0_charAt_5068e 4 (.ifCond .eq 12) 3 7 := ⟨by decide +kernel, rfl⟩
theorem iJ0_charAt_5068e_7 : At cJ0_charAt_5068e 7 (.aload_n 0) 1 8 := ⟨by decide +kernel, rfl⟩
theorem iJ0_charAt_5068e_8 : At cJ0_charAt_5068e 8 (.getfield 9) 3 11 := ⟨by decide +kernel, rfl⟩
theorem iJ0_charAt_5068e_11 : At cJ0_charAt_5068e 11 (.iload_n 1) 1 12 := ⟨by decide +kernel, rfl⟩
theorem iJ0_charAt_5068e_12 : At cJ0_charAt_5068e 12 (.invokestatic 495) 3 15 := ⟨by decide +kernel, rfl⟩
theorem iJ0_charAt_5068e_15 : At cJ0_charAt_5068e 15 (.ireturn) 1 16 := ⟨by decide +kernel, rfl⟩
theorem iJ0_charAt_5068e_16 : At cJ0_charAt_5068e 16 (.aload_n 0) 1 17 := ⟨by decide +kernel, rfl⟩
theorem iJ0_charAt_5068e_17 : At cJ0_charAt_5068e 17 (.getfield 9) 3 20 := ⟨by decide +kernel, rfl⟩
theorem iJ0_charAt_5068e_20 : At cJ0_charAt_5068e 20 (.iload_n 1) 1 21 := ⟨by decide +kernel, rfl⟩
theorem iJ0_charAt_5068e_21 : At cJ0_charAt_5068e 21 (.invokestatic 498) 3 24 := ⟨by decide +kernel, rfl⟩
theorem iJ0_charAt_5068e_24 : At cJ0_charAt_5068e 24 (.ireturn) 1 25 := ⟨by decide +kernel, rfl⟩
theorem iJ0_coder_7d493_0 : At cJ0_coder_7d493 0 (.getstatic 38) 3 3 := ⟨by decide +kernel, rfl⟩
theorem iJ0_coder_7d493_3 : At cJ0_coder_7d493 3 (.ifCond .eq 10) 3 6 := ⟨by decide +kernel, rfl⟩
theorem iJ0_coder_7d493_6 : At cJ0_coder_7d493 6 (.aload_n 0) 1 7 := ⟨by decide +kernel, rfl⟩
theorem iJ0_coder_7d493_7 : At cJ0_coder_7d493 7 (.getfield 15) 3 10 := ⟨by decide +kernel, rfl⟩
theorem iJ0_coder_7d493_10 : At cJ0_coder_7d493 10 (.goto 4) 3 13 := ⟨by decide +kernel, rfl⟩
theorem iJ0_coder_7d493_13 : At cJ0_coder_7d493 13 (.iconst 1) 1 14 := ⟨by decide +kernel, rfl⟩
theorem iJ0_coder_7d493_14 : At cJ0_coder_7d493 14 (.ireturn) 1 15 := ⟨by decide +kernel, rfl⟩
theorem iJ0_isLatin1_aae02_0 : At cJ0_isLatin1_aae02 0 (.getstatic 38) 3 3 := ⟨by decide +kernel, rfl⟩
theorem iJ0_isLatin1_aae02_3 : At cJ0_isLatin1_aae02 3 (.ifCond .eq 14) 3 6 := ⟨by decide +kernel, rfl⟩
theorem iJ0_isLatin1_aae02_6 : At cJ0_isLatin1_aae02 6 (.aload_n 0) 1 7 := ⟨by decide +kernel, rfl⟩
theorem iJ0_isLatin1_aae02_7 : At cJ0_isLatin1_aae02 7 (.getfield 15) 3 10 := ⟨by decide +kernel, rfl⟩
theorem iJ0_isLatin1_aae02_10 : At cJ0_isLatin1_aae02 10 (.ifCond .ne 7) 3 13 := ⟨by decide +kernel, rfl⟩
theorem iJ0_isLatin1_aae02_13 : At cJ0_isLatin1_aae02 13 (.iconst 1) 1 14 := ⟨by decide +kernel, rfl⟩
theorem iJ0_isLatin1_aae02_14 : At cJ0_isLatin1_aae02 14 (.goto 4) 3 17 := ⟨by decide +kernel, rfl⟩
theorem iJ0_isLatin1_aae02_17 : At cJ0_isLatin1_aae02 17 (.iconst 0) 1 18 := ⟨by decide +kernel, rfl⟩
theorem iJ0_isLatin1_aae02_18 : At cJ0_isLatin1_aae02 18 (.ireturn) 1 19 := ⟨by decide +kernel, rfl⟩
theorem iJ1_charAt_3b067_0 : At cJ1_charAt_3b067 0 (.iload_n 1) 1 1 := ⟨by decide +kernel, rfl⟩
theorem iJ1_charAt_3b067_1 : At cJ1_charAt_3b067 1 (.aload_n 0) 1 2 := ⟨by decide +kernel, rfl⟩
theorem iJ1_charAt_3b067_2 : At cJ1_charAt_3b067 2 (.arraylength) 1 3 := ⟨by decide +kernel, rfl⟩
theorem iJ1_charAt_3b067_3 : At cJ1_charAt_3b067 3 (.invokestatic 9) 3 6 := ⟨by decide +kernel, rfl⟩
theorem iJ1_charAt_3b067_6 : At cJ1_charAt_3b067 6 (.aload_n 0) 1 7 := ⟨by decide +kernel, rfl⟩
theorem iJ1_charAt_3b067_7 : At cJ1_charAt_3b067 7 (.iload_n 1) 1 8 := ⟨by decide +kernel, rfl⟩
theorem iJ1_charAt_3b067_8 : At cJ1_charAt_3b067 8 (.baload) 1 9 := ⟨by decide +kernel, rfl⟩
theorem iJ1_charAt_3b067_9 : At cJ1_charAt_3b067 9 (.sipush 255) 3 12 := ⟨by decide +kernel, rfl⟩
theorem iJ1_charAt_3b067_12 : At cJ1_charAt_3b067 12 (.iand) 1 13 := ⟨by decide +kernel, rfl⟩
theorem iJ1_charAt_3b067_13 : At cJ1_charAt_3b067 13 (.i2c) 1 14 := ⟨by decide +kernel, rfl⟩
theorem iJ1_charAt_3b067_14 : At cJ1_charAt_3b067 14 (.ireturn) 1 15 := ⟨by decide +kernel, rfl⟩
theorem iJ7_fill_53178_0 : At cJ7_fill_53178 0 (.iconst 0) 1 1 := ⟨by decide +kernel, rfl⟩
theorem iJ7_fill_53178_1 : At cJ7_fill_53178 1 (.istore_n 2) 1 2 := ⟨by decide +kernel, rfl⟩
theorem iJ7_fill_53178_2 : At cJ7_fill_53178 2 (.aload_n 0) 1 3 := ⟨by decide +kernel, rfl⟩
theorem iJ7_fill_53178_3 : At cJ7_fill_53178 3 (.arraylength) 1 4 := ⟨by decide +kernel, rfl⟩
theorem iJ7_fill_53178_4 : At cJ7_fill_53178 4 (.istore_n 3) 1 5 := ⟨by decide +kernel, rfl⟩
theorem iJ7_fill_53178_5 : At cJ7_fill_53178 5 (.iload_n 2) 1 6 := ⟨by decide +kernel, rfl⟩
theorem iJ7_fill_53178_6 : At cJ7_fill_53178 6 (.iload_n 3) 1 7 := ⟨by decide +kernel, rfl⟩
theorem iJ7_fill_53178_7 : At cJ7_fill_53178 7 (.if_icmp .ge 13) 3 10 := ⟨by decide +kernel, rfl⟩
theorem iJ7_fill_53178_10 : At cJ7_fill_53178 10 (.aload_n 0) 1 11 := ⟨by decide +kernel, rfl⟩
theorem iJ7_fill_53178_11 : At cJ7_fill_53178 11 (.iload_n 2) 1 12 := ⟨by decide +kernel, rfl⟩
theorem iJ7_fill_53178_12 : At cJ7_fill_53178 12 (.iload_n 1) 1 13 := ⟨by decide +kernel, rfl⟩
theorem iJ7_fill_53178_13 : At cJ7_fill_53178 13 (.iastore) 1 14 := ⟨by decide +kernel, rfl⟩
theorem iJ7_fill_53178_14 : At cJ7_fill_53178 14 (.iinc 2 1) 3 17 := ⟨by decide +kernel, rfl⟩
theorem iJ7_fill_53178_17 : At cJ7_fill_53178 17 (.goto (-12)) 3 20 := ⟨by decide +kernel, rfl⟩
theorem iJ7_fill_53178_20 : At cJ7_fill_53178 20 (.return_) 1 21 := ⟨by decide +kernel, rfl⟩
theorem iL_law_0 : At cL_law 0 (.new 7) 3 3 := ⟨by decide +kernel, rfl⟩
theorem iL_law_3 : At cL_law 3 (.dup) 1 4 := ⟨by decide +kernel, rfl⟩
theorem iL_law_4 : At cL_law 4 (.invokespecial 9) 3 7 := ⟨by decide +kernel, rfl⟩
theorem iL_law_7 : At cL_law 7 (.astore_n 1) 1 8 := ⟨by decide +kernel, rfl⟩
theorem iL_law_8 : At cL_law 8 (.new 10) 3 11 := ⟨by decide +kernel, rfl⟩
theorem iL_law_11 : At cL_law 11 (.dup) 1 12 := ⟨by decide +kernel, rfl⟩
theorem iL_law_12 : At cL_law 12 (.invokespecial 12) 3 15 := ⟨by decide +kernel, rfl⟩
theorem iL_law_15 : At cL_law 15 (.astore_n 2) 1 16 := ⟨by decide +kernel, rfl⟩
theorem iL_law_16 : At cL_law 16 (.iconst 0) 1 17 := ⟨by decide +kernel, rfl⟩
theorem iL_law_17 : At cL_law 17 (.istore_n 3) 1 18 := ⟨by decide +kernel, rfl⟩
theorem iL_law_18 : At cL_law 18 (.iload_n 3) 1 19 := ⟨by decide +kernel, rfl⟩
theorem iL_law_19 : At cL_law 19 (.aload_n 0) 1 20 := ⟨by decide +kernel, rfl⟩
theorem iL_law_20 : At cL_law 20 (.arraylength) 1 21 := ⟨by decide +kernel, rfl⟩
theorem iL_law_21 : At cL_law 21 (.iconst 4) 1 22 := ⟨by decide +kernel, rfl⟩
theorem iL_law_22 : At cL_law 22 (.isub) 1 23 := ⟨by decide +kernel, rfl⟩
theorem iL_law_23 : At cL_law 23 (.if_icmp .gt 944) 3 26 := ⟨by decide +kernel, rfl⟩
theorem iL_law_26 : At cL_law 26 (.aload_n 0) 1 27 := ⟨by decide +kernel, rfl⟩
theorem iL_law_27 : At cL_law 27 (.iload_n 3) 1 28 := ⟨by decide +kernel, rfl⟩
theorem iL_law_28 : At cL_law 28 (.iaload) 1 29 := ⟨by decide +kernel, rfl⟩
theorem iL_law_29 : At cL_law 29 (.bipush 31) 2 31 := ⟨by decide +kernel, rfl⟩
theorem iL_law_31 : At cL_law 31 (.iand) 1 32 := ⟨by decide +kernel, rfl⟩
theorem iL_law_32 : At cL_law 32 (.tableswitch 929 0 28 #[132, 155, 168, 181, 194, 227, 260, 293, 336, 359, 402, 435, 448, 471, 494, 517, 550, 583, 616, 639, 672, 705, 748, 781, 804, 827, 860, 883, 906]) 132 164 := ⟨by decide +kernel, rfl⟩
theorem iL_law_164 : At cL_law 164 (.aload_n 1) 1 165 := ⟨by decide +kernel, rfl⟩
theorem iL_law_165 : At cL_law 165 (.aload_n 0) 1 166 := ⟨by decide +kernel, rfl⟩
theorem iL_law_166 : At cL_law 166 (.iload_n 3) 1 167 := ⟨by decide +kernel, rfl⟩
theorem iL_law_167 : At cL_law 167 (.iconst 1) 1 168 := ⟨by decide +kernel, rfl⟩
theorem iL_law_168 : At cL_law 168 (.iadd) 1 169 := ⟨by decide +kernel, rfl⟩
theorem iL_law_169 : At cL_law 169 (.iaload) 1 170 := ⟨by decide +kernel, rfl⟩
theorem iL_law_170 : At cL_law 170 (.invokevirtual 13) 3 173 := ⟨by decide +kernel, rfl⟩
theorem iL_law_173 : At cL_law 173 (.aload_n 2) 1 174 := ⟨by decide +kernel, rfl⟩
theorem iL_law_174 : At cL_law 174 (.aload_n 0) 1 175 := ⟨by decide +kernel, rfl⟩
theorem iL_law_175 : At cL_law 175 (.iload_n 3) 1 176 := ⟨by decide +kernel, rfl⟩
theorem iL_law_176 : At cL_law 176 (.iconst 1) 1 177 := ⟨by decide +kernel, rfl⟩
theorem iL_law_177 : At cL_law 177 (.iadd) 1 178 := ⟨by decide +kernel, rfl⟩
theorem iL_law_178 : At cL_law 178 (.iaload) 1 179 := ⟨by decide +kernel, rfl⟩
theorem iL_law_179 : At cL_law 179 (.invokevirtual 17) 3 182 := ⟨by decide +kernel, rfl⟩
theorem iL_law_182 : At cL_law 182 (.if_icmp .eq 779) 3 185 := ⟨by decide +kernel, rfl⟩
theorem iL_law_185 : At cL_law 185 (.iconst 0) 1 186 := ⟨by decide +kernel, rfl⟩
theorem iL_law_186 : At cL_law 186 (.ireturn) 1 187 := ⟨by decide +kernel, rfl⟩
theorem iL_law_187 : At cL_law 187 (.aload_n 1) 1 188 := ⟨by decide +kernel, rfl⟩
theorem iL_law_188 : At cL_law 188 (.invokevirtual 18) 3 191 := ⟨by decide +kernel, rfl⟩
theorem iL_law_191 : At cL_law 191 (.aload_n 2) 1 192 := ⟨by decide +kernel, rfl⟩
theorem iL_law_192 : At cL_law 192 (.invokevirtual 22) 3 195 := ⟨by decide +kernel, rfl⟩
theorem iL_law_195 : At cL_law 195 (.if_icmp .eq 766) 3 198 := ⟨by decide +kernel, rfl⟩
theorem iL_law_198 : At cL_law 198 (.iconst 0) 1 199 := ⟨by decide +kernel, rfl⟩
theorem iL_law_199 : At cL_law 199 (.ireturn) 1 200 := ⟨by decide +kernel, rfl⟩
theorem iL_law_200 : At cL_law 200 (.aload_n 1) 1 201 := ⟨by decide +kernel, rfl⟩
theorem iL_law_201 : At cL_law 201 (.invokevirtual 23) 3 204 := ⟨by decide +kernel, rfl⟩
theorem iL_law_204 : At cL_law 204 (.aload_n 2) 1 205 := ⟨by decide +kernel, rfl⟩
theorem iL_law_205 : At cL_law 205 (.invokevirtual 26) 3 208 := ⟨by decide +kernel, rfl⟩
theorem iL_law_208 : At cL_law 208 (.if_icmp .eq 753) 3 211 := ⟨by decide +kernel, rfl⟩
theorem iL_law_211 : At cL_law 211 (.iconst 0) 1 212 := ⟨by decide +kernel, rfl⟩
theorem iL_law_212 : At cL_law 212 (.ireturn) 1 213 := ⟨by decide +kernel, rfl⟩
theorem iL_law_213 : At cL_law 213 (.aload_n 1) 1 214 := ⟨by decide +kernel, rfl⟩
theorem iL_law_214 : At cL_law 214 (.invokevirtual 27) 3 217 := ⟨by decide +kernel, rfl⟩
theorem iL_law_217 : At cL_law 217 (.aload_n 2) 1 218 := ⟨by decide +kernel, rfl⟩
theorem iL_law_218 : At cL_law 218 (.invokevirtual 30) 3 221 := ⟨by decide +kernel, rfl⟩
theorem iL_law_221 : At cL_law 221 (.if_icmp .eq 740) 3 224 := ⟨by decide +kernel, rfl⟩
theorem iL_law_224 : At cL_law 224 (.iconst 0) 1 225 := ⟨by decide +kernel, rfl⟩
theorem iL_law_225 : At cL_law 225 (.ireturn) 1 226 := ⟨by decide +kernel, rfl⟩
theorem iL_law_226 : At cL_law 226 (.aload_n 1) 1 227 := ⟨by decide +kernel, rfl⟩
theorem iL_law_227 : At cL_law 227 (.aload_n 0) 1 228 := ⟨by decide +kernel, rfl⟩
theorem iL_law_228 : At cL_law 228 (.iload_n 3) 1 229 := ⟨by decide +kernel, rfl⟩
theorem iL_law_229 : At cL_law 229 (.iconst 1) 1 230 := ⟨by decide +kernel, rfl⟩
theorem iL_law_230 : At cL_law 230 (.iadd) 1 231 := ⟨by decide +kernel, rfl⟩
theorem iL_law_231 : At cL_law 231 (.iaload) 1 232 := ⟨by decide +kernel, rfl⟩
theorem iL_law_232 : At cL_law 232 (.aload_n 0) 1 233 := ⟨by decide +kernel, rfl⟩
theorem iL_law_233 : At cL_law 233 (.iload_n 3) 1 234 := ⟨by decide +kernel, rfl⟩
theorem iL_law_234 : At cL_law 234 (.iconst 2) 1 235 := ⟨by decide +kernel, rfl⟩
theorem iL_law_235 : At cL_law 235 (.iadd) 1 236 := ⟨by decide +kernel, rfl⟩
theorem iL_law_236 : At cL_law 236 (.iaload) 1 237 := ⟨by decide +kernel, rfl⟩
theorem iL_law_237 : At cL_law 237 (.invokevirtual 31) 3 240 := ⟨by decide +kernel, rfl⟩
theorem iL_law_240 : At cL_law 240 (.aload_n 2) 1 241 := ⟨by decide +kernel, rfl⟩
theorem iL_law_241 : At cL_law 241 (.aload_n 0) 1 242 := ⟨by decide +kernel, rfl⟩
theorem iL_law_242 : At cL_law 242 (.iload_n 3) 1 243 := ⟨by decide +kernel, rfl⟩
theorem iL_law_243 : At cL_law 243 (.iconst 1) 1 244 := ⟨by decide +kernel, rfl⟩
theorem iL_law_244 : At cL_law 244 (.iadd) 1 245 := ⟨by decide +kernel, rfl⟩
theorem iL_law_245 : At cL_law 245 (.iaload) 1 246 := ⟨by decide +kernel, rfl⟩
theorem iL_law_246 : At cL_law 246 (.aload_n 0) 1 247 := ⟨by decide +kernel, rfl⟩
theorem iL_law_247 : At cL_law 247 (.iload_n 3) 1 248 := ⟨by decide +kernel, rfl⟩
theorem iL_law_248 : At cL_law 248 (.iconst 2) 1 249 := ⟨by decide +kernel, rfl⟩
theorem iL_law_249 : At cL_law 249 (.iadd) 1 250 := ⟨by decide +kernel, rfl⟩
theorem iL_law_250 : At cL_law 250 (.iaload) 1 251 := ⟨by decide +kernel, rfl⟩
theorem iL_law_251 : At cL_law 251 (.invokevirtual 35) 3 254 := ⟨by decide +kernel, rfl⟩
theorem iL_law_254 : At cL_law 254 (.if_icmp .eq 707) 3 257 := ⟨by decide +kernel, rfl⟩
theorem iL_law_257 : At cL_law 257 (.iconst 0) 1 258 := ⟨by decide +kernel, rfl⟩
theorem iL_law_258 : At cL_law 258 (.ireturn) 1 259 := ⟨by decide +kernel, rfl⟩
theorem iL_law_259 : At cL_law 259 (.aload_n 1) 1 260 := ⟨by decide +kernel, rfl⟩
theorem iL_law_260 : At cL_law 260 (.aload_n 0) 1 261 := ⟨by decide +kernel, rfl⟩
theorem iL_law_261 : At cL_law 261 (.iload_n 3) 1 262 := ⟨by decide +kernel, rfl⟩
theorem iL_law_262 : At cL_law 262 (.iconst 1) 1 263 := ⟨by decide +kernel, rfl⟩
theorem iL_law_263 : At cL_law 263 (.iadd) 1 264 := ⟨by decide +kernel, rfl⟩
theorem iL_law_264 : At cL_law 264 (.iaload) 1 265 := ⟨by decide +kernel, rfl⟩
theorem iL_law_265 : At cL_law 265 (.aload_n 0) 1 266 := ⟨by decide +kernel, rfl⟩
theorem iL_law_266 : At cL_law 266 (.iload_n 3) 1 267 := ⟨by decide +kernel, rfl⟩
theorem iL_law_267 : At cL_law 267 (.iconst 2) 1 268 := ⟨by decide +kernel, rfl⟩
theorem iL_law_268 : At cL_law 268 (.iadd) 1 269 := ⟨by decide +kernel, rfl⟩
theorem iL_law_269 : At cL_law 269 (.iaload) 1 270 := ⟨by decide +kernel, rfl⟩
theorem iL_law_270 : At cL_law 270 (.invokevirtual 36) 3 273 := ⟨by decide +kernel, rfl⟩
theorem iL_law_273 : At cL_law 273 (.aload_n 2) 1 274 := ⟨by decide +kernel, rfl⟩
theorem iL_law_274 : At cL_law 274 (.aload_n 0) 1 275 := ⟨by decide +kernel, rfl⟩
theorem iL_law_275 : At cL_law 275 (.iload_n 3) 1 276 := ⟨by decide +kernel, rfl⟩
theorem iL_law_276 : At cL_law 276 (.iconst 1) 1 277 := ⟨by decide +kernel, rfl⟩
theorem iL_law_277 : At cL_law 277 (.iadd) 1 278 := ⟨by decide +kernel, rfl⟩
theorem iL_law_278 : At cL_law 278 (.iaload) 1 279 := ⟨by decide +kernel, rfl⟩
theorem iL_law_279 : At cL_law 279 (.aload_n 0) 1 280 := ⟨by decide +kernel, rfl⟩
theorem iL_law_280 : At cL_law 280 (.iload_n 3) 1 281 := ⟨by decide +kernel, rfl⟩
theorem iL_law_281 : At cL_law 281 (.iconst 2) 1 282 := ⟨by decide +kernel, rfl⟩
theorem iL_law_282 : At cL_law 282 (.iadd) 1 283 := ⟨by decide +kernel, rfl⟩
theorem iL_law_283 : At cL_law 283 (.iaload) 1 284 := ⟨by decide +kernel, rfl⟩
theorem iL_law_284 : At cL_law 284 (.invokevirtual 39) 3 287 := ⟨by decide +kernel, rfl⟩
theorem iL_law_287 : At cL_law 287 (.if_icmp .eq 674) 3 290 := ⟨by decide +kernel, rfl⟩
theorem iL_law_290 : At cL_law 290 (.iconst 0) 1 291 := ⟨by decide +kernel, rfl⟩
theorem iL_law_291 : At cL_law 291 (.ireturn) 1 292 := ⟨by decide +kernel, rfl⟩
theorem iL_law_292 : At cL_law 292 (.aload_n 1) 1 293 := ⟨by decide +kernel, rfl⟩
theorem iL_law_293 : At cL_law 293 (.aload_n 0) 1 294 := ⟨by decide +kernel, rfl⟩
theorem iL_law_294 : At cL_law 294 (.iload_n 3) 1 295 := ⟨by decide +kernel, rfl⟩
theorem iL_law_295 : At cL_law 295 (.iconst 1) 1 296 := ⟨by decide +kernel, rfl⟩
theorem iL_law_296 : At cL_law 296 (.iadd) 1 297 := ⟨by decide +kernel, rfl⟩
theorem iL_law_297 : At cL_law 297 (.iaload) 1 298 := ⟨by decide +kernel, rfl⟩
theorem iL_law_298 : At cL_law 298 (.aload_n 0) 1 299 := ⟨by decide +kernel, rfl⟩
theorem iL_law_299 : At cL_law 299 (.iload_n 3) 1 300 := ⟨by decide +kernel, rfl⟩
theorem iL_law_300 : At cL_law 300 (.iconst 2) 1 301 := ⟨by decide +kernel, rfl⟩
theorem iL_law_301 : At cL_law 301 (.iadd) 1 302 := ⟨by decide +kernel, rfl⟩
theorem iL_law_302 : At cL_law 302 (.iaload) 1 303 := ⟨by decide +kernel, rfl⟩
theorem iL_law_303 : At cL_law 303 (.invokevirtual 40) 3 306 := ⟨by decide +kernel, rfl⟩
theorem iL_law_306 : At cL_law 306 (.aload_n 2) 1 307 := ⟨by decide +kernel, rfl⟩
theorem iL_law_307 : At cL_law 307 (.aload_n 0) 1 308 := ⟨by decide +kernel, rfl⟩
theorem iL_law_308 : At cL_law 308 (.iload_n 3) 1 309 := ⟨by decide +kernel, rfl⟩
theorem iL_law_309 : At cL_law 309 (.iconst 1) 1 310 := ⟨by decide +kernel, rfl⟩
theorem iL_law_310 : At cL_law 310 (.iadd) 1 311 := ⟨by decide +kernel, rfl⟩
theorem iL_law_311 : At cL_law 311 (.iaload) 1 312 := ⟨by decide +kernel, rfl⟩
theorem iL_law_312 : At cL_law 312 (.aload_n 0) 1 313 := ⟨by decide +kernel, rfl⟩
theorem iL_law_313 : At cL_law 313 (.iload_n 3) 1 314 := ⟨by decide +kernel, rfl⟩
theorem iL_law_314 : At cL_law 314 (.iconst 2) 1 315 := ⟨by decide +kernel, rfl⟩
theorem iL_law_315 : At cL_law 315 (.iadd) 1 316 := ⟨by decide +kernel, rfl⟩
theorem iL_law_316 : At cL_law 316 (.iaload) 1 317 := ⟨by decide +kernel, rfl⟩
theorem iL_law_317 : At cL_law 317 (.invokevirtual 43) 3 320 := ⟨by decide +kernel, rfl⟩
theorem iL_law_320 : At cL_law 320 (.if_icmp .eq 641) 3 323 := ⟨by decide +kernel, rfl⟩
theorem iL_law_323 : At cL_law 323 (.iconst 0) 1 324 := ⟨by decide +kernel, rfl⟩
theorem iL_law_324 : At cL_law 324 (.ireturn) 1 325 := ⟨by decide +kernel, rfl⟩
theorem iL_law_325 : At cL_law 325 (.aload_n 1) 1 326 := ⟨by decide +kernel, rfl⟩
theorem iL_law_326 : At cL_law 326 (.aload_n 0) 1 327 := ⟨by decide +kernel, rfl⟩
theorem iL_law_327 : At cL_law 327 (.iload_n 3) 1 328 := ⟨by decide +kernel, rfl⟩
theorem iL_law_328 : At cL_law 328 (.iconst 1) 1 329 := ⟨by decide +kernel, rfl⟩
theorem iL_law_329 : At cL_law 329 (.iadd) 1 330 := ⟨by decide +kernel, rfl⟩
theorem iL_law_330 : At cL_law 330 (.iaload) 1 331 := ⟨by decide +kernel, rfl⟩
theorem iL_law_331 : At cL_law 331 (.aload_n 0) 1 332 := ⟨by decide +kernel, rfl⟩
theorem iL_law_332 : At cL_law 332 (.iload_n 3) 1 333 := ⟨by decide +kernel, rfl⟩
theorem iL_law_333 : At cL_law 333 (.iconst 2) 1 334 := ⟨by decide +kernel, rfl⟩
theorem iL_law_334 : At cL_law 334 (.iadd) 1 335 := ⟨by decide +kernel, rfl⟩
theorem iL_law_335 : At cL_law 335 (.iaload) 1 336 := ⟨by decide +kernel, rfl⟩
theorem iL_law_336 : At cL_law 336 (.aload_n 0) 1 337 := ⟨by decide +kernel, rfl⟩
theorem iL_law_337 : At cL_law 337 (.iload_n 3) 1 338 := ⟨by decide +kernel, rfl⟩
theorem iL_law_338 : At cL_law 338 (.iconst 3) 1 339 := ⟨by decide +kernel, rfl⟩
theorem iL_law_339 : At cL_law 339 (.iadd) 1 340 := ⟨by decide +kernel, rfl⟩
theorem iL_law_340 : At cL_law 340 (.iaload) 1 341 := ⟨by decide +kernel, rfl⟩
theorem iL_law_341 : At cL_law 341 (.invokevirtual 44) 3 344 := ⟨by decide +kernel, rfl⟩
theorem iL_law_344 : At cL_law 344 (.aload_n 2) 1 345 := ⟨by decide +kernel, rfl⟩
theorem iL_law_345 : At cL_law 345 (.aload_n 0) 1 346 := ⟨by decide +kernel, rfl⟩
theorem iL_law_346 : At cL_law 346 (.iload_n 3) 1 347 := ⟨by decide +kernel, rfl⟩
theorem iL_law_347 : At cL_law 347 (.iconst 1) 1 348 := ⟨by decide +kernel, rfl⟩
theorem iL_law_348 : At cL_law 348 (.iadd) 1 349 := ⟨by decide +kernel, rfl⟩
theorem iL_law_349 : At cL_law 349 (.iaload) 1 350 := ⟨by decide +kernel, rfl⟩
end
section
theorem iL_law_350 : At cL_law 350 (.aload_n 0) 1 351 := ⟨by decide +kernel, rfl⟩
theorem iL_law_351 : At cL_law 351 (.iload_n 3) 1 352 := ⟨by decide +kernel, rfl⟩
theorem iL_law_352 : At cL_law 352 (.iconst 2) 1 353 := ⟨by decide +kernel, rfl⟩
theorem iL_law_353 : At cL_law 353 (.iadd) 1 354 := ⟨by decide +kernel, rfl⟩
theorem iL_law_354 : At cL_law 354 (.iaload) 1 355 := ⟨by decide +kernel, rfl⟩
theorem iL_law_355 : At cL_law 355 (.aload_n 0) 1 356 := ⟨by decide +kernel, rfl⟩
theorem iL_law_356 : At cL_law 356 (.iload_n 3) 1 357 := ⟨by decide +kernel, rfl⟩
theorem iL_law_357 : At cL_law 357 (.iconst 3) 1 358 := ⟨by decide +kernel, rfl⟩
theorem iL_law_358 : At cL_law 358 (.iadd) 1 359 := ⟨by decide +kernel, rfl⟩
theorem iL_law_359 : At cL_law 359 (.iaload) 1 360 := ⟨by decide +kernel, rfl⟩
theorem iL_law_360 : At cL_law 360 (.invokevirtual 48) 3 363 := ⟨by decide +kernel, rfl⟩
theorem iL_law_363 : At cL_law 363 (.if_icmp .eq 598) 3 366 := ⟨by decide +kernel, rfl⟩
theorem iL_law_366 : At cL_law 366 (.iconst 0) 1 367 := ⟨by decide +kernel, rfl⟩
theorem iL_law_367 : At cL_law 367 (.ireturn) 1 368 := ⟨by decide +kernel, rfl⟩
theorem iL_law_368 : At cL_law 368 (.aload_n 1) 1 369 := ⟨by decide +kernel, rfl⟩
theorem iL_law_369 : At cL_law 369 (.aload_n 0) 1 370 := ⟨by decide +kernel, rfl⟩
theorem iL_law_370 : At cL_law 370 (.iload_n 3) 1 371 := ⟨by decide +kernel, rfl⟩
theorem iL_law_371 : At cL_law 371 (.iconst 1) 1 372 := ⟨by decide +kernel, rfl⟩
theorem iL_law_372 : At cL_law 372 (.iadd) 1 373 := ⟨by decide +kernel, rfl⟩
theorem iL_law_373 : At cL_law 373 (.iaload) 1 374 := ⟨by decide +kernel, rfl⟩
theorem iL_law_374 : At cL_law 374 (.invokevirtual 49) 3 377 := ⟨by decide +kernel, rfl⟩
theorem iL_law_377 : At cL_law 377 (.aload_n 2) 1 378 := ⟨by decide +kernel, rfl⟩
theorem iL_law_378 : At cL_law 378 (.aload_n 0) 1 379 := ⟨by decide +kernel, rfl⟩
theorem iL_law_379 : At cL_law 379 (.iload_n 3) 1 380 := ⟨by decide +kernel, rfl⟩
theorem iL_law_380 : At cL_law 380 (.iconst 1) 1 381 := ⟨by decide +kernel, rfl⟩
theorem iL_law_381 : At cL_law 381 (.iadd) 1 382 := ⟨by decide +kernel, rfl⟩
theorem iL_law_382 : At cL_law 382 (.iaload) 1 383 := ⟨by decide +kernel, rfl⟩
theorem iL_law_383 : At cL_law 383 (.invokevirtual 52) 3 386 := ⟨by decide +kernel, rfl⟩
theorem iL_law_386 : At cL_law 386 (.if_icmp .eq 575) 3 389 := ⟨by decide +kernel, rfl⟩
theorem iL_law_389 : At cL_law 389 (.iconst 0) 1 390 := ⟨by decide +kernel, rfl⟩
theorem iL_law_390 : At cL_law 390 (.ireturn) 1 391 := ⟨by decide +kernel, rfl⟩
theorem iL_law_391 : At cL_law 391 (.aload_n 1) 1 392 := ⟨by decide +kernel, rfl⟩
theorem iL_law_392 : At cL_law 392 (.aload_n 0) 1 393 := ⟨by decide +kernel, rfl⟩
theorem iL_law_393 : At cL_law 393 (.iload_n 3) 1 394 := ⟨by decide +kernel, rfl⟩
theorem iL_law_394 : At cL_law 394 (.iconst 1) 1 395 := ⟨by decide +kernel, rfl⟩
theorem iL_law_395 : At cL_law 395 (.iadd) 1 396 := ⟨by decide +kernel, rfl⟩
theorem iL_law_396 : At cL_law 396 (.iaload) 1 397 := ⟨by decide +kernel, rfl⟩
theorem iL_law_397 : At cL_law 397 (.aload_n 0) 1 398 := ⟨by decide +kernel, rfl⟩
theorem iL_law_398 : At cL_law 398 (.iload_n 3) 1 399 := ⟨by decide +kernel, rfl⟩
theorem iL_law_399 : At cL_law 399 (.iconst 2) 1 400 := ⟨by decide +kernel, rfl⟩
theorem iL_law_400 : At cL_law 400 (.iadd) 1 401 := ⟨by decide +kernel, rfl⟩
theorem iL_law_401 : At cL_law 401 (.iaload) 1 402 := ⟨by decide +kernel, rfl⟩
theorem iL_law_402 : At cL_law 402 (.aload_n 0) 1 403 := ⟨by decide +kernel, rfl⟩
theorem iL_law_403 : At cL_law 403 (.iload_n 3) 1 404 := ⟨by decide +kernel, rfl⟩
theorem iL_law_404 : At cL_law 404 (.iconst 3) 1 405 := ⟨by decide +kernel, rfl⟩
theorem iL_law_405 : At cL_law 405 (.iadd) 1 406 := ⟨by decide +kernel, rfl⟩
theorem iL_law_406 : At cL_law 406 (.iaload) 1 407 := ⟨by decide +kernel, rfl⟩
theorem iL_law_407 : At cL_law 407 (.invokevirtual 53) 3 410 := ⟨by decide +kernel, rfl⟩
theorem iL_law_410 : At cL_law 410 (.aload_n 2) 1 411 := ⟨by decide +kernel, rfl⟩
theorem iL_law_411 : At cL_law 411 (.aload_n 0) 1 412 := ⟨by decide +kernel, rfl⟩
theorem iL_law_412 : At cL_law 412 (.iload_n 3) 1 413 := ⟨by decide +kernel, rfl⟩
theorem iL_law_413 : At cL_law 413 (.iconst 1) 1 414 := ⟨by decide +kernel, rfl⟩
theorem iL_law_414 : At cL_law 414 (.iadd) 1 415 := ⟨by decide +kernel, rfl⟩
theorem iL_law_415 : At cL_law 415 (.iaload) 1 416 := ⟨by decide +kernel, rfl⟩
theorem iL_law_416 : At cL_law 416 (.aload_n 0) 1 417 := ⟨by decide +kernel, rfl⟩
theorem iL_law_417 : At cL_law 417 (.iload_n 3) 1 418 := ⟨by decide +kernel, rfl⟩
theorem iL_law_418 : At cL_law 418 (.iconst 2) 1 419 := ⟨by decide +kernel, rfl⟩
theorem iL_law_419 : At cL_law 419 (.iadd) 1 420 := ⟨by decide +kernel, rfl⟩
theorem iL_law_420 : At cL_law 420 (.iaload) 1 421 := ⟨by decide +kernel, rfl⟩
theorem iL_law_421 : At cL_law 421 (.aload_n 0) 1 422 := ⟨by decide +kernel, rfl⟩
theorem iL_law_422 : At cL_law 422 (.iload_n 3) 1 423 := ⟨by decide +kernel, rfl⟩
theorem iL_law_423 : At cL_law 423 (.iconst 3) 1 424 := ⟨by decide +kernel, rfl⟩
theorem iL_law_424 : At cL_law 424 (.iadd) 1 425 := ⟨by decide +kernel, rfl⟩
theorem iL_law_425 : At cL_law 425 (.iaload) 1 426 := ⟨by decide +kernel, rfl⟩
theorem iL_law_426 : At cL_law 426 (.invokevirtual 56) 3 429 := ⟨by decide +kernel, rfl⟩
theorem iL_law_429 : At cL_law 429 (.if_icmp .eq 532) 3 432 := ⟨by decide +kernel, rfl⟩
theorem iL_law_432 : At cL_law 432 (.iconst 0) 1 433 := ⟨by decide +kernel, rfl⟩
theorem iL_law_433 : At cL_law 433 (.ireturn) 1 434 := ⟨by decide +kernel, rfl⟩
theorem iL_law_434 : At cL_law 434 (.aload_n 1) 1 435 := ⟨by decide +kernel, rfl⟩
theorem iL_law_435 : At cL_law 435 (.aload_n 0) 1 436 := ⟨by decide +kernel, rfl⟩
theorem iL_law_436 : At cL_law 436 (.iload_n 3) 1 437 := ⟨by decide +kernel, rfl⟩
theorem iL_law_437 : At cL_law 437 (.iconst 1) 1 438 := ⟨by decide +kernel, rfl⟩
theorem iL_law_438 : At cL_law 438 (.iadd) 1 439 := ⟨by decide +kernel, rfl⟩
theorem iL_law_439 : At cL_law 439 (.iaload) 1 440 := ⟨by decide +kernel, rfl⟩
theorem iL_law_440 : At cL_law 440 (.aload_n 0) 1 441 := ⟨by decide +kernel, rfl⟩
theorem iL_law_441 : At cL_law 441 (.iload_n 3) 1 442 := ⟨by decide +kernel, rfl⟩
theorem iL_law_442 : At cL_law 442 (.iconst 2) 1 443 := ⟨by decide +kernel, rfl⟩
theorem iL_law_443 : At cL_law 443 (.iadd) 1 444 := ⟨by decide +kernel, rfl⟩
theorem iL_law_444 : At cL_law 444 (.iaload) 1 445 := ⟨by decide +kernel, rfl⟩
theorem iL_law_445 : At cL_law 445 (.invokevirtual 57) 3 448 := ⟨by decide +kernel, rfl⟩
theorem iL_law_448 : At cL_law 448 (.aload_n 2) 1 449 := ⟨by decide +kernel, rfl⟩
theorem iL_law_449 : At cL_law 449 (.aload_n 0) 1 450 := ⟨by decide +kernel, rfl⟩
theorem iL_law_450 : At cL_law 450 (.iload_n 3) 1 451 := ⟨by decide +kernel, rfl⟩
theorem iL_law_451 : At cL_law 451 (.iconst 1) 1 452 := ⟨by decide +kernel, rfl⟩
theorem iL_law_452 : At cL_law 452 (.iadd) 1 453 := ⟨by decide +kernel, rfl⟩
theorem iL_law_453 : At cL_law 453 (.iaload) 1 454 := ⟨by decide +kernel, rfl⟩
theorem iL_law_454 : At cL_law 454 (.aload_n 0) 1 455 := ⟨by decide +kernel, rfl⟩
theorem iL_law_455 : At cL_law 455 (.iload_n 3) 1 456 := ⟨by decide +kernel, rfl⟩
theorem iL_law_456 : At cL_law 456 (.iconst 2) 1 457 := ⟨by decide +kernel, rfl⟩
theorem iL_law_457 : At cL_law 457 (.iadd) 1 458 := ⟨by decide +kernel, rfl⟩
theorem iL_law_458 : At cL_law 458 (.iaload) 1 459 := ⟨by decide +kernel, rfl⟩
theorem iL_law_459 : At cL_law 459 (.invokevirtual 60) 3 462 := ⟨by decide +kernel, rfl⟩
theorem iL_law_462 : At cL_law 462 (.if_icmp .eq 499) 3 465 := ⟨by decide +kernel, rfl⟩
theorem iL_law_465 : At cL_law 465 (.iconst 0) 1 466 := ⟨by decide +kernel, rfl⟩
theorem iL_law_466 : At cL_law 466 (.ireturn) 1 467 := ⟨by decide +kernel, rfl⟩
theorem iL_law_467 : At cL_law 467 (.aload_n 1) 1 468 := ⟨by decide +kernel, rfl⟩
theorem iL_law_468 : At cL_law 468 (.invokevirtual 61) 3 471 := ⟨by decide +kernel, rfl⟩
theorem iL_law_471 : At cL_law 471 (.aload_n 2) 1 472 := ⟨by decide +kernel, rfl⟩
theorem iL_law_472 : At cL_law 472 (.invokevirtual 64) 3 475 := ⟨by decide +kernel, rfl⟩
theorem iL_law_475 : At cL_law 475 (.if_icmp .eq 486) 3 478 := ⟨by decide +kernel, rfl⟩
theorem iL_law_478 : At cL_law 478 (.iconst 0) 1 479 := ⟨by decide +kernel, rfl⟩
theorem iL_law_479 : At cL_law 479 (.ireturn) 1 480 := ⟨by decide +kernel, rfl⟩
theorem iL_law_480 : At cL_law 480 (.aload_n 1) 1 481 := ⟨by decide +kernel, rfl⟩
theorem iL_law_481 : At cL_law 481 (.aload_n 0) 1 482 := ⟨by decide +kernel, rfl⟩
theorem iL_law_482 : At cL_law 482 (.iload_n 3) 1 483 := ⟨by decide +kernel, rfl⟩
theorem iL_law_483 : At cL_law 483 (.iconst 1) 1 484 := ⟨by decide +kernel, rfl⟩
theorem iL_law_484 : At cL_law 484 (.iadd) 1 485 := ⟨by decide +kernel, rfl⟩
theorem iL_law_485 : At cL_law 485 (.iaload) 1 486 := ⟨by decide +kernel, rfl⟩
theorem iL_law_486 : At cL_law 486 (.invokevirtual 65) 3 489 := ⟨by decide +kernel, rfl⟩
theorem iL_law_489 : At cL_law 489 (.aload_n 2) 1 490 := ⟨by decide +kernel, rfl⟩
theorem iL_law_490 : At cL_law 490 (.aload_n 0) 1 491 := ⟨by decide +kernel, rfl⟩
theorem iL_law_491 : At cL_law 491 (.iload_n 3) 1 492 := ⟨by decide +kernel, rfl⟩
theorem iL_law_492 : At cL_law 492 (.iconst 1) 1 493 := ⟨by decide +kernel, rfl⟩
theorem iL_law_493 : At cL_law 493 (.iadd) 1 494 := ⟨by decide +kernel, rfl⟩
theorem iL_law_494 : At cL_law 494 (.iaload) 1 495 := ⟨by decide +kernel, rfl⟩
theorem iL_law_495 : At cL_law 495 (.invokevirtual 68) 3 498 := ⟨by decide +kernel, rfl⟩
theorem iL_law_498 : At cL_law 498 (.if_icmp .eq 463) 3 501 := ⟨by decide +kernel, rfl⟩
theorem iL_law_501 : At cL_law 501 (.iconst 0) 1 502 := ⟨by decide +kernel, rfl⟩
theorem iL_law_502 : At cL_law 502 (.ireturn) 1 503 := ⟨by decide +kernel, rfl⟩
theorem iL_law_503 : At cL_law 503 (.aload_n 1) 1 504 := ⟨by decide +kernel, rfl⟩
theorem iL_law_504 : At cL_law 504 (.aload_n 0) 1 505 := ⟨by decide +kernel, rfl⟩
theorem iL_law_505 : At cL_law 505 (.iload_n 3) 1 506 := ⟨by decide +kernel, rfl⟩
theorem iL_law_506 : At cL_law 506 (.iconst 1) 1 507 := ⟨by decide +kernel, rfl⟩
theorem iL_law_507 : At cL_law 507 (.iadd) 1 508 := ⟨by decide +kernel, rfl⟩
theorem iL_law_508 : At cL_law 508 (.iaload) 1 509 := ⟨by decide +kernel, rfl⟩
theorem iL_law_509 : At cL_law 509 (.invokevirtual 69) 3 512 := ⟨by decide +kernel, rfl⟩
theorem iL_law_512 : At cL_law 512 (.aload_n 2) 1 513 := ⟨by decide +kernel, rfl⟩
theorem iL_law_513 : At cL_law 513 (.aload_n 0) 1 514 := ⟨by decide +kernel, rfl⟩
theorem iL_law_514 : At cL_law 514 (.iload_n 3) 1 515 := ⟨by decide +kernel, rfl⟩
theorem iL_law_515 : At cL_law 515 (.iconst 1) 1 516 := ⟨by decide +kernel, rfl⟩
theorem iL_law_516 : At cL_law 516 (.iadd) 1 517 := ⟨by decide +kernel, rfl⟩
theorem iL_law_517 : At cL_law 517 (.iaload) 1 518 := ⟨by decide +kernel, rfl⟩
theorem iL_law_518 : At cL_law 518 (.invokevirtual 72) 3 521 := ⟨by decide +kernel, rfl⟩
theorem iL_law_521 : At cL_law 521 (.if_icmp .eq 440) 3 524 := ⟨by decide +kernel, rfl⟩
theorem iL_law_524 : At cL_law 524 (.iconst 0) 1 525 := ⟨by decide +kernel, rfl⟩
theorem iL_law_525 : At cL_law 525 (.ireturn) 1 526 := ⟨by decide +kernel, rfl⟩
theorem iL_law_526 : At cL_law 526 (.aload_n 1) 1 527 := ⟨by decide +kernel, rfl⟩
theorem iL_law_527 : At cL_law 527 (.aload_n 0) 1 528 := ⟨by decide +kernel, rfl⟩
theorem iL_law_528 : At cL_law 528 (.iload_n 3) 1 529 := ⟨by decide +kernel, rfl⟩
theorem iL_law_529 : At cL_law 529 (.iconst 1) 1 530 := ⟨by decide +kernel, rfl⟩
theorem iL_law_530 : At cL_law 530 (.iadd) 1 531 := ⟨by decide +kernel, rfl⟩
theorem iL_law_531 : At cL_law 531 (.iaload) 1 532 := ⟨by decide +kernel, rfl⟩
theorem iL_law_532 : At cL_law 532 (.invokevirtual 73) 3 535 := ⟨by decide +kernel, rfl⟩
theorem iL_law_535 : At cL_law 535 (.aload_n 2) 1 536 := ⟨by decide +kernel, rfl⟩
theorem iL_law_536 : At cL_law 536 (.aload_n 0) 1 537 := ⟨by decide +kernel, rfl⟩
theorem iL_law_537 : At cL_law 537 (.iload_n 3) 1 538 := ⟨by decide +kernel, rfl⟩
theorem iL_law_538 : At cL_law 538 (.iconst 1) 1 539 := ⟨by decide +kernel, rfl⟩
theorem iL_law_539 : At cL_law 539 (.iadd) 1 540 := ⟨by decide +kernel, rfl⟩
theorem iL_law_540 : At cL_law 540 (.iaload) 1 541 := ⟨by decide +kernel, rfl⟩
theorem iL_law_541 : At cL_law 541 (.invokevirtual 76) 3 544 := ⟨by decide +kernel, rfl⟩
theorem iL_law_544 : At cL_law 544 (.if_icmp .eq 417) 3 547 := ⟨by decide +kernel, rfl⟩
theorem iL_law_547 : At cL_law 547 (.iconst 0) 1 548 := ⟨by decide +kernel, rfl⟩
theorem iL_law_548 : At cL_law 548 (.ireturn) 1 549 := ⟨by decide +kernel, rfl⟩
theorem iL_law_549 : At cL_law 549 (.aload_n 1) 1 550 := ⟨by decide +kernel, rfl⟩
theorem iL_law_550 : At cL_law 550 (.aload_n 0) 1 551 := ⟨by decide +kernel, rfl⟩
theorem iL_law_551 : At cL_law 551 (.iload_n 3) 1 552 := ⟨by decide +kernel, rfl⟩
theorem iL_law_552 : At cL_law 552 (.iconst 1) 1 553 := ⟨by decide +kernel, rfl⟩
theorem iL_law_553 : At cL_law 553 (.iadd) 1 554 := ⟨by decide +kernel, rfl⟩
theorem iL_law_554 : At cL_law 554 (.iaload) 1 555 := ⟨by decide +kernel, rfl⟩
theorem iL_law_555 : At cL_law 555 (.aload_n 0) 1 556 := ⟨by decide +kernel, rfl⟩
theorem iL_law_556 : At cL_law 556 (.iload_n 3) 1 557 := ⟨by decide +kernel, rfl⟩
theorem iL_law_557 : At cL_law 557 (.iconst 2) 1 558 := ⟨by decide +kernel, rfl⟩
theorem iL_law_558 : At cL_law 558 (.iadd) 1 559 := ⟨by decide +kernel, rfl⟩
theorem iL_law_559 : At cL_law 559 (.iaload) 1 560 := ⟨by decide +kernel, rfl⟩
theorem iL_law_560 : At cL_law 560 (.invokevirtual 77) 3 563 := ⟨by decide +kernel, rfl⟩
theorem iL_law_563 : At cL_law 563 (.aload_n 2) 1 564 := ⟨by decide +kernel, rfl⟩
theorem iL_law_564 : At cL_law 564 (.aload_n 0) 1 565 := ⟨by decide +kernel, rfl⟩
theorem iL_law_565 : At cL_law 565 (.iload_n 3) 1 566 := ⟨by decide +kernel, rfl⟩
theorem iL_law_566 : At cL_law 566 (.iconst 1) 1 567 := ⟨by decide +kernel, rfl⟩
theorem iL_law_567 : At cL_law 567 (.iadd) 1 568 := ⟨by decide +kernel, rfl⟩
theorem iL_law_568 : At cL_law 568 (.iaload) 1 569 := ⟨by decide +kernel, rfl⟩
theorem iL_law_569 : At cL_law 569 (.aload_n 0) 1 570 := ⟨by decide +kernel, rfl⟩
theorem iL_law_570 : At cL_law 570 (.iload_n 3) 1 571 := ⟨by decide +kernel, rfl⟩
theorem iL_law_571 : At cL_law 571 (.iconst 2) 1 572 := ⟨by decide +kernel, rfl⟩
theorem iL_law_572 : At cL_law 572 (.iadd) 1 573 := ⟨by decide +kernel, rfl⟩
theorem iL_law_573 : At cL_law 573 (.iaload) 1 574 := ⟨by decide +kernel, rfl⟩
theorem iL_law_574 : At cL_law 574 (.invokevirtual 80) 3 577 := ⟨by decide +kernel, rfl⟩
theorem iL_law_577 : At cL_law 577 (.if_icmp .eq 384) 3 580 := ⟨by decide +kernel, rfl⟩
theorem iL_law_580 : At cL_law 580 (.iconst 0) 1 581 := ⟨by decide +kernel, rfl⟩
theorem iL_law_581 : At cL_law 581 (.ireturn) 1 582 := ⟨by decide +kernel, rfl⟩
theorem iL_law_582 : At cL_law 582 (.aload_n 1) 1 583 := ⟨by decide +kernel, rfl⟩
theorem iL_law_583 : At cL_law 583 (.aload_n 0) 1 584 := ⟨by decide +kernel, rfl⟩
theorem iL_law_584 : At cL_law 584 (.iload_n 3) 1 585 := ⟨by decide +kernel, rfl⟩
theorem iL_law_585 : At cL_law 585 (.iconst 1) 1 586 := ⟨by decide +kernel, rfl⟩
theorem iL_law_586 : At cL_law 586 (.iadd) 1 587 := ⟨by decide +kernel, rfl⟩
theorem iL_law_587 : At cL_law 587 (.iaload) 1 588 := ⟨by decide +kernel, rfl⟩
theorem iL_law_588 : At cL_law 588 (.aload_n 0) 1 589 := ⟨by decide +kernel, rfl⟩
theorem iL_law_589 : At cL_law 589 (.iload_n 3) 1 590 := ⟨by decide +kernel, rfl⟩
theorem iL_law_590 : At cL_law 590 (.iconst 2) 1 591 := ⟨by decide +kernel, rfl⟩
theorem iL_law_591 : At cL_law 591 (.iadd) 1 592 := ⟨by decide +kernel, rfl⟩
theorem iL_law_592 : At cL_law 592 (.iaload) 1 593 := ⟨by decide +kernel, rfl⟩
theorem iL_law_593 : At cL_law 593 (.invokevirtual 81) 3 596 := ⟨by decide +kernel, rfl⟩
theorem iL_law_596 : At cL_law 596 (.aload_n 2) 1 597 := ⟨by decide +kernel, rfl⟩
theorem iL_law_597 : At cL_law 597 (.aload_n 0) 1 598 := ⟨by decide +kernel, rfl⟩
theorem iL_law_598 : At cL_law 598 (.iload_n 3) 1 599 := ⟨by decide +kernel, rfl⟩
theorem iL_law_599 : At cL_law 599 (.iconst 1) 1 600 := ⟨by decide +kernel, rfl⟩
theorem iL_law_600 : At cL_law 600 (.iadd) 1 601 := ⟨by decide +kernel, rfl⟩
theorem iL_law_601 : At cL_law 601 (.iaload) 1 602 := ⟨by decide +kernel, rfl⟩
theorem iL_law_602 : At cL_law 602 (.aload_n 0) 1 603 := ⟨by decide +kernel, rfl⟩
theorem iL_law_603 : At cL_law 603 (.iload_n 3) 1 604 := ⟨by decide +kernel, rfl⟩
theorem iL_law_604 : At cL_law 604 (.iconst 2) 1 605 := ⟨by decide +kernel, rfl⟩
theorem iL_law_605 : At cL_law 605 (.iadd) 1 606 := ⟨by decide +kernel, rfl⟩
theorem iL_law_606 : At cL_law 606 (.iaload) 1 607 := ⟨by decide +kernel, rfl⟩
theorem iL_law_607 : At cL_law 607 (.invokevirtual 84) 3 610 := ⟨by decide +kernel, rfl⟩
theorem iL_law_610 : At cL_law 610 (.if_icmp .eq 351) 3 613 := ⟨by decide +kernel, rfl⟩
theorem iL_law_613 : At cL_law 613 (.iconst 0) 1 614 := ⟨by decide +kernel, rfl⟩
theorem iL_law_614 : At cL_law 614 (.ireturn) 1 615 := ⟨by decide +kernel, rfl⟩
theorem iL_law_615 : At cL_law 615 (.aload_n 1) 1 616 := ⟨by decide +kernel, rfl⟩
theorem iL_law_616 : At cL_law 616 (.aload_n 0) 1 617 := ⟨by decide +kernel, rfl⟩
theorem iL_law_617 : At cL_law 617 (.iload_n 3) 1 618 := ⟨by decide +kernel, rfl⟩
theorem iL_law_618 : At cL_law 618 (.iconst 1) 1 619 := ⟨by decide +kernel, rfl⟩
theorem iL_law_619 : At cL_law 619 (.iadd) 1 620 := ⟨by decide +kernel, rfl⟩
theorem iL_law_620 : At cL_law 620 (.iaload) 1 621 := ⟨by decide +kernel, rfl⟩
theorem iL_law_621 : At cL_law 621 (.aload_n 0) 1 622 := ⟨by decide +kernel, rfl⟩
theorem iL_law_622 : At cL_law 622 (.iload_n 3) 1 623 := ⟨by decide +kernel, rfl⟩
theorem iL_law_623 : At cL_law 623 (.iconst 2) 1 624 := ⟨by decide +kernel, rfl⟩
theorem iL_law_624 : At cL_law 624 (.iadd) 1 625 := ⟨by decide +kernel, rfl⟩
theorem iL_law_625 : At cL_law 625 (.iaload) 1 626 := ⟨by decide +kernel, rfl⟩
theorem iL_law_626 : At cL_law 626 (.invokevirtual 85) 3 629 := ⟨by decide +kernel, rfl⟩
theorem iL_law_629 : At cL_law 629 (.aload_n 2) 1 630 := ⟨by decide +kernel, rfl⟩
theorem iL_law_630 : At cL_law 630 (.aload_n 0) 1 631 := ⟨by decide +kernel, rfl⟩
theorem iL_law_631 : At cL_law 631 (.iload_n 3) 1 632 := ⟨by decide +kernel, rfl⟩
theorem iL_law_632 : At cL_law 632 (.iconst 1) 1 633 := ⟨by decide +kernel, rfl⟩
theorem iL_law_633 : At cL_law 633 (.iadd) 1 634 := ⟨by decide +kernel, rfl⟩
theorem iL_law_634 : At cL_law 634 (.iaload) 1 635 := ⟨by decide +kernel, rfl⟩
theorem iL_law_635 : At cL_law 635 (.aload_n 0) 1 636 := ⟨by decide +kernel, rfl⟩
theorem iL_law_636 : At cL_law 636 (.iload_n 3) 1 637 := ⟨by decide +kernel, rfl⟩
theorem iL_law_637 : At cL_law 637 (.iconst 2) 1 638 := ⟨by decide +kernel, rfl⟩
theorem iL_law_638 : At cL_law 638 (.iadd) 1 639 := ⟨by decide +kernel, rfl⟩
theorem iL_law_639 : At cL_law 639 (.iaload) 1 640 := ⟨by decide +kernel, rfl⟩
theorem iL_law_640 : At cL_law 640 (.invokevirtual 88) 3 643 := ⟨by decide +kernel, rfl⟩
theorem iL_law_643 : At cL_law 643 (.if_icmp .eq 318) 3 646 := ⟨by decide +kernel, rfl⟩
theorem iL_law_646 : At cL_law 646 (.iconst 0) 1 647 := ⟨by decide +kernel, rfl⟩
theorem iL_law_647 : At cL_law 647 (.ireturn) 1 648 := ⟨by decide +kernel, rfl⟩
theorem iL_law_648 : At cL_law 648 (.aload_n 1) 1 649 := ⟨by decide +kernel, rfl⟩
theorem iL_law_649 : At cL_law 649 (.aload_n 0) 1 650 := ⟨by decide +kernel, rfl⟩
theorem iL_law_650 : At cL_law 650 (.iload_n 3) 1 651 := ⟨by decide +kernel, rfl⟩
theorem iL_law_651 : At cL_law 651 (.iconst 1) 1 652 := ⟨by decide +kernel, rfl⟩
theorem iL_law_652 : At cL_law 652 (.iadd) 1 653 := ⟨by decide +kernel, rfl⟩
theorem iL_law_653 : At cL_law 653 (.iaload) 1 654 := ⟨by decide +kernel, rfl⟩
theorem iL_law_654 : At cL_law 654 (.invokevirtual 89) 3 657 := ⟨by decide +kernel, rfl⟩
theorem iL_law_657 : At cL_law 657 (.aload_n 2) 1 658 := ⟨by decide +kernel, rfl⟩
theorem iL_law_658 : At cL_law 658 (.aload_n 0) 1 659 := ⟨by decide +kernel, rfl⟩
theorem iL_law_659 : At cL_law 659 (.iload_n 3) 1 660 := ⟨by decide +kernel, rfl⟩
theorem iL_law_660 : At cL_law 660 (.iconst 1) 1 661 := ⟨by decide +kernel, rfl⟩
theorem iL_law_661 : At cL_law 661 (.iadd) 1 662 := ⟨by decide +kernel, rfl⟩
theorem iL_law_662 : At cL_law 662 (.iaload) 1 663 := ⟨by decide +kernel, rfl⟩
theorem iL_law_663 : At cL_law 663 (.invokevirtual 92) 3 666 := ⟨by decide +kernel, rfl⟩
theorem iL_law_666 : At cL_law 666 (.if_icmp .eq 295) 3 669 := ⟨by decide +kernel, rfl⟩
theorem iL_law_669 : At cL_law 669 (.iconst 0) 1 670 := ⟨by decide +kernel, rfl⟩
theorem iL_law_670 : At cL_law 670 (.ireturn) 1 671 := ⟨by decide +kernel, rfl⟩
theorem iL_law_671 : At cL_law 671 (.aload_n 1) 1 672 := ⟨by decide +kernel, rfl⟩
theorem iL_law_672 : At cL_law 672 (.aload_n 0) 1 673 := ⟨by decide +kernel, rfl⟩
theorem iL_law_673 : At cL_law 673 (.iload_n 3) 1 674 := ⟨by decide +kernel, rfl⟩
theorem iL_law_674 : At cL_law 674 (.iconst 1) 1 675 := ⟨by decide +kernel, rfl⟩
theorem iL_law_675 : At cL_law 675 (.iadd) 1 676 := ⟨by decide +kernel, rfl⟩
theorem iL_law_676 : At cL_law 676 (.iaload) 1 677 := ⟨by decide +kernel, rfl⟩
theorem iL_law_677 : At cL_law 677 (.aload_n 0) 1 678 := ⟨by decide +kernel, rfl⟩
theorem iL_law_678 : At cL_law 678 (.iload_n 3) 1 679 := ⟨by decide +kernel, rfl⟩
theorem iL_law_679 : At cL_law 679 (.iconst 2) 1 680 := ⟨by decide +kernel, rfl⟩
theorem iL_law_680 : At cL_law 680 (.iadd) 1 681 := ⟨by decide +kernel, rfl⟩
theorem iL_law_681 : At cL_law 681 (.iaload) 1 682 := ⟨by decide +kernel, rfl⟩
theorem iL_law_682 : At cL_law 682 (.invokevirtual 93) 3 685 := ⟨by decide +kernel, rfl⟩
theorem iL_law_685 : At cL_law 685 (.aload_n 2) 1 686 := ⟨by decide +kernel, rfl⟩
theorem iL_law_686 : At cL_law 686 (.aload_n 0) 1 687 := ⟨by decide +kernel, rfl⟩
theorem iL_law_687 : At cL_law 687 (.iload_n 3) 1 688 := ⟨by decide +kernel, rfl⟩
theorem iL_law_688 : At cL_law 688 (.iconst 1) 1 689 := ⟨by decide +kernel, rfl⟩
theorem iL_law_689 : At cL_law 689 (.iadd) 1 690 := ⟨by decide +kernel, rfl⟩
theorem iL_law_690 : At cL_law 690 (.iaload) 1 691 := ⟨by decide +kernel, rfl⟩
theorem iL_law_691 : At cL_law 691 (.aload_n 0) 1 692 := ⟨by decide +kernel, rfl⟩
theorem iL_law_692 : At cL_law 692 (.iload_n 3) 1 693 := ⟨by decide +kernel, rfl⟩
theorem iL_law_693 : At cL_law 693 (.iconst 2) 1 694 := ⟨by decide +kernel, rfl⟩
theorem iL_law_694 : At cL_law 694 (.iadd) 1 695 := ⟨by decide +kernel, rfl⟩
theorem iL_law_695 : At cL_law 695 (.iaload) 1 696 := ⟨by decide +kernel, rfl⟩
theorem iL_law_696 : At cL_law 696 (.invokevirtual 96) 3 699 := ⟨by decide +kernel, rfl⟩
theorem iL_law_699 : At cL_law 699 (.if_icmp .eq 262) 3 702 := ⟨by decide +kernel, rfl⟩
theorem iL_law_702 : At cL_law 702 (.iconst 0) 1 703 := ⟨by decide +kernel, rfl⟩
theorem iL_law_703 : At cL_law 703 (.ireturn) 1 704 := ⟨by decide +kernel, rfl⟩
theorem iL_law_704 : At cL_law 704 (.aload_n 1) 1 705 := ⟨by decide +kernel, rfl⟩
theorem iL_law_705 : At cL_law 705 (.aload_n 0) 1 706 := ⟨by decide +kernel, rfl⟩
theorem iL_law_706 : At cL_law 706 (.iload_n 3) 1 707 := ⟨by decide +kernel, rfl⟩
theorem iL_law_707 : At cL_law 707 (.iconst 1) 1 708 := ⟨by decide +kernel, rfl⟩
theorem iL_law_708 : At cL_law 708 (.iadd) 1 709 := ⟨by decide +kernel, rfl⟩
theorem iL_law_709 : At cL_law 709 (.iaload) 1 710 := ⟨by decide +kernel, rfl⟩
theorem iL_law_710 : At cL_law 710 (.aload_n 0) 1 711 := ⟨by decide +kernel, rfl⟩
theorem iL_law_711 : At cL_law 711 (.iload_n 3) 1 712 := ⟨by decide +kernel, rfl⟩
theorem iL_law_712 : At cL_law 712 (.iconst 2) 1 713 := ⟨by decide +kernel, rfl⟩
theorem iL_law_713 : At cL_law 713 (.iadd) 1 714 := ⟨by decide +kernel, rfl⟩
theorem iL_law_714 : At cL_law 714 (.iaload) 1 715 := ⟨by decide +kernel, rfl⟩
theorem iL_law_715 : At cL_law 715 (.invokevirtual 97) 3 718 := ⟨by decide +kernel, rfl⟩
theorem iL_law_718 : At cL_law 718 (.aload_n 2) 1 719 := ⟨by decide +kernel, rfl⟩
theorem iL_law_719 : At cL_law 719 (.aload_n 0) 1 720 := ⟨by decide +kernel, rfl⟩
theorem iL_law_720 : At cL_law 720 (.iload_n 3) 1 721 := ⟨by decide +kernel, rfl⟩
theorem iL_law_721 : At cL_law 721 (.iconst 1) 1 722 := ⟨by decide +kernel, rfl⟩
theorem iL_law_722 : At cL_law 722 (.iadd) 1 723 := ⟨by decide +kernel, rfl⟩
theorem iL_law_723 : At cL_law 723 (.iaload) 1 724 := ⟨by decide +kernel, rfl⟩
theorem iL_law_724 : At cL_law 724 (.aload_n 0) 1 725 := ⟨by decide +kernel, rfl⟩
theorem iL_law_725 : At cL_law 725 (.iload_n 3) 1 726 := ⟨by decide +kernel, rfl⟩
theorem iL_law_726 : At cL_law 726 (.iconst 2) 1 727 := ⟨by decide +kernel, rfl⟩
theorem iL_law_727 : At cL_law 727 (.iadd) 1 728 := ⟨by decide +kernel, rfl⟩
theorem iL_law_728 : At cL_law 728 (.iaload) 1 729 := ⟨by decide +kernel, rfl⟩
theorem iL_law_729 : At cL_law 729 (.invokevirtual 100) 3 732 := ⟨by decide +kernel, rfl⟩
theorem iL_law_732 : At cL_law 732 (.if_icmp .eq 229) 3 735 := ⟨by decide +kernel, rfl⟩
theorem iL_law_735 : At cL_law 735 (.iconst 0) 1 736 := ⟨by decide +kernel, rfl⟩
theorem iL_law_736 : At cL_law 736 (.ireturn) 1 737 := ⟨by decide +kernel, rfl⟩
theorem iL_law_737 : At cL_law 737 (.aload_n 1) 1 738 := ⟨by decide +kernel, rfl⟩
theorem iL_law_738 : At cL_law 738 (.aload_n 0) 1 739 := ⟨by decide +kernel, rfl⟩
theorem iL_law_739 : At cL_law 739 (.iload_n 3) 1 740 := ⟨by decide +kernel, rfl⟩
theorem iL_law_740 : At cL_law 740 (.iconst 1) 1 741 := ⟨by decide +kernel, rfl⟩
theorem iL_law_741 : At cL_law 741 (.iadd) 1 742 := ⟨by decide +kernel, rfl⟩
theorem iL_law_742 : At cL_law 742 (.iaload) 1 743 := ⟨by decide +kernel, rfl⟩
theorem iL_law_743 : At cL_law 743 (.aload_n 0) 1 744 := ⟨by decide +kernel, rfl⟩
theorem iL_law_744 : At cL_law 744 (.iload_n 3) 1 745 := ⟨by decide +kernel, rfl⟩
theorem iL_law_745 : At cL_law 745 (.iconst 2) 1 746 := ⟨by decide +kernel, rfl⟩
theorem iL_law_746 : At cL_law 746 (.iadd) 1 747 := ⟨by decide +kernel, rfl⟩
theorem iL_law_747 : At cL_law 747 (.iaload) 1 748 := ⟨by decide +kernel, rfl⟩
theorem iL_law_748 : At cL_law 748 (.aload_n 0) 1 749 := ⟨by decide +kernel, rfl⟩
theorem iL_law_749 : At cL_law 749 (.iload_n 3) 1 750 := ⟨by decide +kernel, rfl⟩
theorem iL_law_750 : At cL_law 750 (.iconst 3) 1 751 := ⟨by decide +kernel, rfl⟩
theorem iL_law_751 : At cL_law 751 (.iadd) 1 752 := ⟨by decide +kernel, rfl⟩
theorem iL_law_752 : At cL_law 752 (.iaload) 1 753 := ⟨by decide +kernel, rfl⟩
theorem iL_law_753 : At cL_law 753 (.invokevirtual 101) 3 756 := ⟨by decide +kernel, rfl⟩
theorem iL_law_756 : At cL_law 756 (.aload_n 2) 1 757 := ⟨by decide +kernel, rfl⟩
theorem iL_law_757 : At cL_law 757 (.aload_n 0) 1 758 := ⟨by decide +kernel, rfl⟩
theorem iL_law_758 : At cL_law 758 (.iload_n 3) 1 759 := ⟨by decide +kernel, rfl⟩
theorem iL_law_759 : At cL_law 759 (.iconst 1) 1 760 := ⟨by decide +kernel, rfl⟩
theorem iL_law_760 : At cL_law 760 (.iadd) 1 761 := ⟨by decide +kernel, rfl⟩
theorem iL_law_761 : At cL_law 761 (.iaload) 1 762 := ⟨by decide +kernel, rfl⟩
theorem iL_law_762 : At cL_law 762 (.aload_n 0) 1 763 := ⟨by decide +kernel, rfl⟩
theorem iL_law_763 : At cL_law 763 (.iload_n 3) 1 764 := ⟨by decide +kernel, rfl⟩
theorem iL_law_764 : At cL_law 764 (.iconst 2) 1 765 := ⟨by decide +kernel, rfl⟩
theorem iL_law_765 : At cL_law 765 (.iadd) 1 766 := ⟨by decide +kernel, rfl⟩
theorem iL_law_766 : At cL_law 766 (.iaload) 1 767 := ⟨by decide +kernel, rfl⟩
theorem iL_law_767 : At cL_law 767 (.aload_n 0) 1 768 := ⟨by decide +kernel, rfl⟩
theorem iL_law_768 : At cL_law 768 (.iload_n 3) 1 769 := ⟨by decide +kernel, rfl⟩
theorem iL_law_769 : At cL_law 769 (.iconst 3) 1 770 := ⟨by decide +kernel, rfl⟩
theorem iL_law_770 : At cL_law 770 (.iadd) 1 771 := ⟨by decide +kernel, rfl⟩
theorem iL_law_771 : At cL_law 771 (.iaload) 1 772 := ⟨by decide +kernel, rfl⟩
theorem iL_law_772 : At cL_law 772 (.invokevirtual 104) 3 775 := ⟨by decide +kernel, rfl⟩
theorem iL_law_775 : At cL_law 775 (.if_icmp .eq 186) 3 778 := ⟨by decide +kernel, rfl⟩
theorem iL_law_778 : At cL_law 778 (.iconst 0) 1 779 := ⟨by decide +kernel, rfl⟩
theorem iL_law_779 : At cL_law 779 (.ireturn) 1 780 := ⟨by decide +kernel, rfl⟩
theorem iL_law_780 : At cL_law 780 (.aload_n 1) 1 781 := ⟨by decide +kernel, rfl⟩
theorem iL_law_781 : At cL_law 781 (.aload_n 0) 1 782 := ⟨by decide +kernel, rfl⟩
theorem iL_law_782 : At cL_law 782 (.iload_n 3) 1 783 := ⟨by decide +kernel, rfl⟩
theorem iL_law_783 : At cL_law 783 (.iconst 1) 1 784 := ⟨by decide +kernel, rfl⟩
theorem iL_law_784 : At cL_law 784 (.iadd) 1 785 := ⟨by decide +kernel, rfl⟩
theorem iL_law_785 : At cL_law 785 (.iaload) 1 786 := ⟨by decide +kernel, rfl⟩
theorem iL_law_786 : At cL_law 786 (.aload_n 0) 1 787 := ⟨by decide +kernel, rfl⟩
theorem iL_law_787 : At cL_law 787 (.iload_n 3) 1 788 := ⟨by decide +kernel, rfl⟩
theorem iL_law_788 : At cL_law 788 (.iconst 2) 1 789 := ⟨by decide +kernel, rfl⟩
theorem iL_law_789 : At cL_law 789 (.iadd) 1 790 := ⟨by decide +kernel, rfl⟩
theorem iL_law_790 : At cL_law 790 (.iaload) 1 791 := ⟨by decide +kernel, rfl⟩
theorem iL_law_791 : At cL_law 791 (.invokevirtual 105) 3 794 := ⟨by decide +kernel, rfl⟩
theorem iL_law_794 : At cL_law 794 (.aload_n 2) 1 795 := ⟨by decide +kernel, rfl⟩
theorem iL_law_795 : At cL_law 795 (.aload_n 0) 1 796 := ⟨by decide +kernel, rfl⟩
theorem iL_law_796 : At cL_law 796 (.iload_n 3) 1 797 := ⟨by decide +kernel, rfl⟩
theorem iL_law_797 : At cL_law 797 (.iconst 1) 1 798 := ⟨by decide +kernel, rfl⟩
theorem iL_law_798 : At cL_law 798 (.iadd) 1 799 := ⟨by decide +kernel, rfl⟩
theorem iL_law_799 : At cL_law 799 (.iaload) 1 800 := ⟨by decide +kernel, rfl⟩
theorem iL_law_800 : At cL_law 800 (.aload_n 0) 1 801 := ⟨by decide +kernel, rfl⟩
theorem iL_law_801 : At cL_law 801 (.iload_n 3) 1 802 := ⟨by decide +kernel, rfl⟩
theorem iL_law_802 : At cL_law 802 (.iconst 2) 1 803 := ⟨by decide +kernel, rfl⟩
theorem iL_law_803 : At cL_law 803 (.iadd) 1 804 := ⟨by decide +kernel, rfl⟩
theorem iL_law_804 : At cL_law 804 (.iaload) 1 805 := ⟨by decide +kernel, rfl⟩
theorem iL_law_805 : At cL_law 805 (.invokevirtual 108) 3 808 := ⟨by decide +kernel, rfl⟩
theorem iL_law_808 : At cL_law 808 (.if_icmp .eq 153) 3 811 := ⟨by decide +kernel, rfl⟩
theorem iL_law_811 : At cL_law 811 (.iconst 0) 1 812 := ⟨by decide +kernel, rfl⟩
theorem iL_law_812 : At cL_law 812 (.ireturn) 1 813 := ⟨by decide +kernel, rfl⟩
theorem iL_law_813 : At cL_law 813 (.aload_n 1) 1 814 := ⟨by decide +kernel, rfl⟩
theorem iL_law_814 : At cL_law 814 (.aload_n 0) 1 815 := ⟨by decide +kernel, rfl⟩
theorem iL_law_815 : At cL_law 815 (.iload_n 3) 1 816 := ⟨by decide +kernel, rfl⟩
theorem iL_law_816 : At cL_law 816 (.iconst 1) 1 817 := ⟨by decide +kernel, rfl⟩
theorem iL_law_817 : At cL_law 817 (.iadd) 1 818 := ⟨by decide +kernel, rfl⟩
theorem iL_law_818 : At cL_law 818 (.iaload) 1 819 := ⟨by decide +kernel, rfl⟩
theorem iL_law_819 : At cL_law 819 (.invokevirtual 109) 3 822 := ⟨by decide +kernel, rfl⟩
theorem iL_law_822 : At cL_law 822 (.aload_n 2) 1 823 := ⟨by decide +kernel, rfl⟩
theorem iL_law_823 : At cL_law 823 (.aload_n 0) 1 824 := ⟨by decide +kernel, rfl⟩
theorem iL_law_824 : At cL_law 824 (.iload_n 3) 1 825 := ⟨by decide +kernel, rfl⟩
theorem iL_law_825 : At cL_law 825 (.iconst 1) 1 826 := ⟨by decide +kernel, rfl⟩
theorem iL_law_826 : At cL_law 826 (.iadd) 1 827 := ⟨by decide +kernel, rfl⟩
theorem iL_law_827 : At cL_law 827 (.iaload) 1 828 := ⟨by decide +kernel, rfl⟩
theorem iL_law_828 : At cL_law 828 (.invokevirtual 112) 3 831 := ⟨by decide +kernel, rfl⟩
theorem iL_law_831 : At cL_law 831 (.if_icmp .eq 130) 3 834 := ⟨by decide +kernel, rfl⟩
theorem iL_law_834 : At cL_law 834 (.iconst 0) 1 835 := ⟨by decide +kernel, rfl⟩
theorem iL_law_835 : At cL_law 835 (.ireturn) 1 836 := ⟨by decide +kernel, rfl⟩
theorem iL_law_836 : At cL_law 836 (.aload_n 1) 1 837 := ⟨by decide +kernel, rfl⟩
theorem iL_law_837 : At cL_law 837 (.aload_n 0) 1 838 := ⟨by decide +kernel, rfl⟩
theorem iL_law_838 : At cL_law 838 (.iload_n 3) 1 839 := ⟨by decide +kernel, rfl⟩
theorem iL_law_839 : At cL_law 839 (.iconst 1) 1 840 := ⟨by decide +kernel, rfl⟩
theorem iL_law_840 : At cL_law 840 (.iadd) 1 841 := ⟨by decide +kernel, rfl⟩
theorem iL_law_841 : At cL_law 841 (.iaload) 1 842 := ⟨by decide +kernel, rfl⟩
theorem iL_law_842 : At cL_law 842 (.invokevirtual 113) 3 845 := ⟨by decide +kernel, rfl⟩
theorem iL_law_845 : At cL_law 845 (.aload_n 2) 1 846 := ⟨by decide +kernel, rfl⟩
theorem iL_law_846 : At cL_law 846 (.aload_n 0) 1 847 := ⟨by decide +kernel, rfl⟩
theorem iL_law_847 : At cL_law 847 (.iload_n 3) 1 848 := ⟨by decide +kernel, rfl⟩
theorem iL_law_848 : At cL_law 848 (.iconst 1) 1 849 := ⟨by decide +kernel, rfl⟩
theorem iL_law_849 : At cL_law 849 (.iadd) 1 850 := ⟨by decide +kernel, rfl⟩
theorem iL_law_850 : At cL_law 850 (.iaload) 1 851 := ⟨by decide +kernel, rfl⟩
theorem iL_law_851 : At cL_law 851 (.invokevirtual 116) 3 854 := ⟨by decide +kernel, rfl⟩
theorem iL_law_854 : At cL_law 854 (.if_icmp .eq 107) 3 857 := ⟨by decide +kernel, rfl⟩
theorem iL_law_857 : At cL_law 857 (.iconst 0) 1 858 := ⟨by decide +kernel, rfl⟩
theorem iL_law_858 : At cL_law 858 (.ireturn) 1 859 := ⟨by decide +kernel, rfl⟩
theorem iL_law_859 : At cL_law 859 (.aload_n 1) 1 860 := ⟨by decide +kernel, rfl⟩
theorem iL_law_860 : At cL_law 860 (.aload_n 0) 1 861 := ⟨by decide +kernel, rfl⟩
theorem iL_law_861 : At cL_law 861 (.iload_n 3) 1 862 := ⟨by decide +kernel, rfl⟩
theorem iL_law_862 : At cL_law 862 (.iconst 1) 1 863 := ⟨by decide +kernel, rfl⟩
theorem iL_law_863 : At cL_law 863 (.iadd) 1 864 := ⟨by decide +kernel, rfl⟩
theorem iL_law_864 : At cL_law 864 (.iaload) 1 865 := ⟨by decide +kernel, rfl⟩
theorem iL_law_865 : At cL_law 865 (.aload_n 0) 1 866 := ⟨by decide +kernel, rfl⟩
theorem iL_law_866 : At cL_law 866 (.iload_n 3) 1 867 := ⟨by decide +kernel, rfl⟩
theorem iL_law_867 : At cL_law 867 (.iconst 2) 1 868 := ⟨by decide +kernel, rfl⟩
theorem iL_law_868 : At cL_law 868 (.iadd) 1 869 := ⟨by decide +kernel, rfl⟩
theorem iL_law_869 : At cL_law 869 (.iaload) 1 870 := ⟨by decide +kernel, rfl⟩
theorem iL_law_870 : At cL_law 870 (.invokevirtual 117) 3 873 := ⟨by decide +kernel, rfl⟩
theorem iL_law_873 : At cL_law 873 (.aload_n 2) 1 874 := ⟨by decide +kernel, rfl⟩
theorem iL_law_874 : At cL_law 874 (.aload_n 0) 1 875 := ⟨by decide +kernel, rfl⟩
theorem iL_law_875 : At cL_law 875 (.iload_n 3) 1 876 := ⟨by decide +kernel, rfl⟩
theorem iL_law_876 : At cL_law 876 (.iconst 1) 1 877 := ⟨by decide +kernel, rfl⟩
theorem iL_law_877 : At cL_law 877 (.iadd) 1 878 := ⟨by decide +kernel, rfl⟩
theorem iL_law_878 : At cL_law 878 (.iaload) 1 879 := ⟨by decide +kernel, rfl⟩
theorem iL_law_879 : At cL_law 879 (.aload_n 0) 1 880 := ⟨by decide +kernel, rfl⟩
theorem iL_law_880 : At cL_law 880 (.iload_n 3) 1 881 := ⟨by decide +kernel, rfl⟩
theorem iL_law_881 : At cL_law 881 (.iconst 2) 1 882 := ⟨by decide +kernel, rfl⟩
theorem iL_law_882 : At cL_law 882 (.iadd) 1 883 := ⟨by decide +kernel, rfl⟩
theorem iL_law_883 : At cL_law 883 (.iaload) 1 884 := ⟨by decide +kernel, rfl⟩
theorem iL_law_884 : At cL_law 884 (.invokevirtual 120) 3 887 := ⟨by decide +kernel, rfl⟩
theorem iL_law_887 : At cL_law 887 (.if_icmp .eq 74) 3 890 := ⟨by decide +kernel, rfl⟩
theorem iL_law_890 : At cL_law 890 (.iconst 0) 1 891 := ⟨by decide +kernel, rfl⟩
theorem iL_law_891 : At cL_law 891 (.ireturn) 1 892 := ⟨by decide +kernel, rfl⟩
theorem iL_law_892 : At cL_law 892 (.aload_n 1) 1 893 := ⟨by decide +kernel, rfl⟩
theorem iL_law_893 : At cL_law 893 (.aload_n 0) 1 894 := ⟨by decide +kernel, rfl⟩
theorem iL_law_894 : At cL_law 894 (.iload_n 3) 1 895 := ⟨by decide +kernel, rfl⟩
theorem iL_law_895 : At cL_law 895 (.iconst 1) 1 896 := ⟨by decide +kernel, rfl⟩
theorem iL_law_896 : At cL_law 896 (.iadd) 1 897 := ⟨by decide +kernel, rfl⟩
theorem iL_law_897 : At cL_law 897 (.iaload) 1 898 := ⟨by decide +kernel, rfl⟩
theorem iL_law_898 : At cL_law 898 (.invokevirtual 121) 3 901 := ⟨by decide +kernel, rfl⟩
theorem iL_law_901 : At cL_law 901 (.aload_n 2) 1 902 := ⟨by decide +kernel, rfl⟩
theorem iL_law_902 : At cL_law 902 (.aload_n 0) 1 903 := ⟨by decide +kernel, rfl⟩
theorem iL_law_903 : At cL_law 903 (.iload_n 3) 1 904 := ⟨by decide +kernel, rfl⟩
theorem iL_law_904 : At cL_law 904 (.iconst 1) 1 905 := ⟨by decide +kernel, rfl⟩
theorem iL_law_905 : At cL_law 905 (.iadd) 1 906 := ⟨by decide +kernel, rfl⟩
theorem iL_law_906 : At cL_law 906 (.iaload) 1 907 := ⟨by decide +kernel, rfl⟩
theorem iL_law_907 : At cL_law 907 (.invokevirtual 124) 3 910 := ⟨by decide +kernel, rfl⟩
theorem iL_law_910 : At cL_law 910 (.if_icmp .eq 51) 3 913 := ⟨by decide +kernel, rfl⟩
theorem iL_law_913 : At cL_law 913 (.iconst 0) 1 914 := ⟨by decide +kernel, rfl⟩
theorem iL_law_914 : At cL_law 914 (.ireturn) 1 915 := ⟨by decide +kernel, rfl⟩
theorem iL_law_915 : At cL_law 915 (.aload_n 1) 1 916 := ⟨by decide +kernel, rfl⟩
theorem iL_law_916 : At cL_law 916 (.aload_n 0) 1 917 := ⟨by decide +kernel, rfl⟩
theorem iL_law_917 : At cL_law 917 (.iload_n 3) 1 918 := ⟨by decide +kernel, rfl⟩
theorem iL_law_918 : At cL_law 918 (.iconst 1) 1 919 := ⟨by decide +kernel, rfl⟩
theorem iL_law_919 : At cL_law 919 (.iadd) 1 920 := ⟨by decide +kernel, rfl⟩
theorem iL_law_920 : At cL_law 920 (.iaload) 1 921 := ⟨by decide +kernel, rfl⟩
theorem iL_law_921 : At cL_law 921 (.invokevirtual 125) 3 924 := ⟨by decide +kernel, rfl⟩
theorem iL_law_924 : At cL_law 924 (.aload_n 2) 1 925 := ⟨by decide +kernel, rfl⟩
theorem iL_law_925 : At cL_law 925 (.aload_n 0) 1 926 := ⟨by decide +kernel, rfl⟩
theorem iL_law_926 : At cL_law 926 (.iload_n 3) 1 927 := ⟨by decide +kernel, rfl⟩
theorem iL_law_927 : At cL_law 927 (.iconst 1) 1 928 := ⟨by decide +kernel, rfl⟩
theorem iL_law_928 : At cL_law 928 (.iadd) 1 929 := ⟨by decide +kernel, rfl⟩
theorem iL_law_929 : At cL_law 929 (.iaload) 1 930 := ⟨by decide +kernel, rfl⟩
theorem iL_law_930 : At cL_law 930 (.invokevirtual 128) 3 933 := ⟨by decide +kernel, rfl⟩
theorem iL_law_933 : At cL_law 933 (.if_icmp .eq 28) 3 936 := ⟨by decide +kernel, rfl⟩
theorem iL_law_936 : At cL_law 936 (.iconst 0) 1 937 := ⟨by decide +kernel, rfl⟩
theorem iL_law_937 : At cL_law 937 (.ireturn) 1 938 := ⟨by decide +kernel, rfl⟩
theorem iL_law_938 : At cL_law 938 (.aload_n 1) 1 939 := ⟨by decide +kernel, rfl⟩
theorem iL_law_939 : At cL_law 939 (.aload_n 0) 1 940 := ⟨by decide +kernel, rfl⟩
theorem iL_law_940 : At cL_law 940 (.iload_n 3) 1 941 := ⟨by decide +kernel, rfl⟩
theorem iL_law_941 : At cL_law 941 (.iconst 1) 1 942 := ⟨by decide +kernel, rfl⟩
theorem iL_law_942 : At cL_law 942 (.iadd) 1 943 := ⟨by decide +kernel, rfl⟩
theorem iL_law_943 : At cL_law 943 (.iaload) 1 944 := ⟨by decide +kernel, rfl⟩
theorem iL_law_944 : At cL_law 944 (.invokevirtual 129) 3 947 := ⟨by decide +kernel, rfl⟩
theorem iL_law_947 : At cL_law 947 (.aload_n 2) 1 948 := ⟨by decide +kernel, rfl⟩
theorem iL_law_948 : At cL_law 948 (.aload_n 0) 1 949 := ⟨by decide +kernel, rfl⟩
theorem iL_law_949 : At cL_law 949 (.iload_n 3) 1 950 := ⟨by decide +kernel, rfl⟩
theorem iL_law_950 : At cL_law 950 (.iconst 1) 1 951 := ⟨by decide +kernel, rfl⟩
theorem iL_law_951 : At cL_law 951 (.iadd) 1 952 := ⟨by decide +kernel, rfl⟩
theorem iL_law_952 : At cL_law 952 (.iaload) 1 953 := ⟨by decide +kernel, rfl⟩
theorem iL_law_953 : At cL_law 953 (.invokevirtual 132) 3 956 := ⟨by decide +kernel, rfl⟩
theorem iL_law_956 : At cL_law 956 (.if_icmp .eq 5) 3 959 := ⟨by decide +kernel, rfl⟩
theorem iL_law_959 : At cL_law 959 (.iconst 0) 1 960 := ⟨by decide +kernel, rfl⟩
theorem iL_law_960 : At cL_law 960 (.ireturn) 1 961 := ⟨by decide +kernel, rfl⟩
theorem iL_law_961 : At cL_law 961 (.iinc 3 4) 3 964 := ⟨by decide +kernel, rfl⟩
theorem iL_law_964 : At cL_law 964 (.goto (-946)) 3 967 := ⟨by decide +kernel, rfl⟩
theorem iL_law_967 : At cL_law 967 (.iconst 1) 1 968 := ⟨by decide +kernel, rfl⟩
theorem iL_law_968 : At cL_law 968 (.ireturn) 1 969 := ⟨by decide +kernel, rfl⟩
end
section
/-! ===== THE LAYER: one world for all; values are numbers, places of cells, texts; V: the walk, SS: a contract ===== -/
abbrev Mi : Type := MethodName × ByteArray × Nat × Option FieldType
def GW : List Cond := lw_tbl.filter goodWord
def isNest : Cond → Bool
  | .fieldLinkNest .. => true
  | .methodLinkNest .. => true
  | _ => false
def NW : List Cond := tables_1.filter isNest
def wds (M : Mi) : List Cond := .code M.1 M.2.1 M.2.2.1 M.2.2.2 :: GW
theorem gw_t {w : Cond} (i : Nat) (h : tables_1[i]? = some w) (hg : goodWord w = true) : w ∈ GW := List.mem_filter.mpr ⟨List.mem_append_right _ (List.mem_of_getElem? h), hg⟩
theorem gw_s {w : Cond} (h : w ∈ k2_sels lw_privs) (hg : goodWord w = true) : w ∈ GW := List.mem_filter.mpr ⟨List.mem_append_left _ h, hg⟩
theorem nw_t {w : Cond} (i : Nat) (h : tables_1[i]? = some w) (hg : isNest w = true) : w ∈ NW := List.mem_filter.mpr ⟨List.mem_of_getElem? h, hg⟩
theorem gw_good {M M' : Mi} (h : Cond.code M'.1 M'.2.1 M'.2.2.1 M'.2.2.2 ∈ GW) : GoodIn (wds M) (wds M') := by
  intro w hw
  have hw2 : w ∈ GW := (List.mem_cons.mp hw).elim (fun e => e ▸ h) id
  exact ⟨List.mem_cons_of_mem _ hw2, good_of_word (List.mem_filter.mp hw2).2⟩
def i32 (z : Int) : Int32 := Int32.ofInt z
def i64 (z : Int) : Int64 := Int64.ofInt z
abbrev AV : Type := Int ⊕ Nat ⊕ Int ⊕ Nat
abbrev vI (z : Int) : AV := .inl z
abbrev vR (q : Nat) : AV := .inr (.inl q)
abbrev vL (z : Int) : AV := .inr (.inr (.inl z))
abbrev vX (i : Nat) : AV := .inr (.inr (.inr i))
/-- the surroundings: the launch, the classes' numbers and slots, the array classes, the texts' cells and their rows -/
abbrev Ev : Type := Launch × va_G × (Nat → ClassId) × (Nat → Nat) × (Nat → Nat)
def cv (E : Ev) (ad : Nat → Nat) : AV → Value
  | .inl z => .int (i32 z)
  | .inr (.inl q) => .ref (ad q)
  | .inr (.inr (.inl z)) => .long (i64 z)
  | .inr (.inr (.inr 0)) => .null
  | .inr (.inr (.inr (i + 1))) => if i < 6 then .ref (E.2.2.2.1 i) else .ref (E.2.2.2.2 (i - 6))
abbrev Ly : Type := (Nat × Nat) ⊕ (Nat × List Nat) ⊕ (Nat × List Nat)
abbrev yA (t n : Nat) : Ly := .inl (t, n)
abbrev yQ (t : Nat) (cs : List Nat) : Ly := .inr (.inl (t, cs))
abbrev yO (ci : Nat) (cs : List Nat) : Ly := .inr (.inr (ci, cs))
abbrev St : Type := Nat → Nat → Int
def fv (ad : Nat → Nat) (σ : St) (q k : Nat) : Nat → Value
  | 0 => .int (i32 (σ q k))
  | 1 => .null
  | r + 2 => .ref (ad r)
def qv (ad : Nat → Nat) : Nat → Option Nat
  | 0 => none
  | 1 => none
  | r + 2 => some (ad r)
def ce (K : Nat → ClassId) (ad : Nat → Nat) (σ α : St) (q : Nat) : Ly → va_E
  | .inl (t, n) => .inl (K t, n, .inl (fun j => i32 (α q j)))
  | .inr (.inl (t, cs)) => .inl (K t, cs.length, .inr (.inr (.inr (.inr (fun j => qv ad (cs.getD j 1))))))
  | .inr (.inr (ci, cs)) => .inr (ci, (List.range cs.length).map (fun k => fv ad σ q k (cs.getD k 1)))
def mW (L : List Ly) (K : Nat → ClassId) (ad : Nat → Nat) (σ α : St) : va_W := (List.range L.length).map (fun q => (ad q, ce K ad σ α q (L.getD q (yA 0 0))))
theorem mW_len (L : List Ly) (K : Nat → ClassId) (ad : Nat → Nat) (σ α : St) : (mW L K ad σ α).length = L.length := by simp [mW]
theorem mW_get {L : List Ly} (K : Nat → ClassId) (ad : Nat → Nat) (σ α : St) {q : Nat} {y : Ly} (h : L[q]? = some y) : (mW L K ad σ α)[q]? = some (ad q, ce K ad σ α q y) := by
  have hq : q < L.length := (List.getElem?_eq_some_iff.mp h).1
  simp [mW, List.getElem?_map, List.getElem?_range hq, List.getD_eq_getElem?_getD, h]
theorem mW_inv {L : List Ly} {K : Nat → ClassId} {ad : Nat → Nat} {σ α : St} {k : Nat} {e : Nat × va_E} (h : (mW L K ad σ α)[k]? = some e) : ∃ y, L[k]? = some y ∧ e = (ad k, ce K ad σ α k y) := by
  have hk : k < L.length := by rw [← mW_len L K ad σ α]; exact (List.getElem?_eq_some_iff.mp h).1
  refine ⟨L[k], List.getElem?_eq_getElem hk, ?_⟩
  rw [mW_get K ad σ α (List.getElem?_eq_getElem hk)] at h
  exact (Option.some.inj h).symm
def uS (σ : St) (q k : Nat) (v : Int) : St := fun q' k' => if q' = q ∧ k' = k then v else σ q' k'
def uA (α : St) (q : Nat) (f : Nat → Int) : St := fun q' => if q' = q then f else α q'
def uF (f : Nat → Int) (k : Nat) (v : Int) : Nat → Int := fun j => if j = k then v else f j
theorem mW_setL {L : List Ly} {K : Nat → ClassId} {ad : Nat → Nat} {σ α σ' α' : St} {q : Nat} {y : Ly} {e : va_E} (h : q < L.length) (he : e = ce K ad σ' α' q y) (ho : ∀ j z, j ≠ q → ce K ad σ' α' j z = ce K ad σ α j z) : (mW L K ad σ α).set q (ad q, e) = mW (L.set q y) K ad σ' α' := by
  subst he
  apply List.ext_getElem?
  intro j
  rw [List.getElem?_set]
  by_cases hj : q = j
  · subst hj
    rw [if_pos rfl, mW_len, if_pos h, mW_get (y := y)]
    rw [List.getElem?_set, if_pos rfl, if_pos h]
  · rw [if_neg hj]
    by_cases hl : j < L.length
    · rw [mW_get (y := L[j]) K ad σ α (List.getElem?_eq_getElem hl), mW_get (y := L[j]) K ad σ' α', ho j _ (Ne.symm hj)]
      rw [List.getElem?_set, if_neg hj]
      exact List.getElem?_eq_getElem hl
    · rw [List.getElem?_eq_none (by rw [mW_len]; omega), List.getElem?_eq_none (by rw [mW_len, List.length_set]; omega)]
theorem mW_set {L : List Ly} {K : Nat → ClassId} {ad : Nat → Nat} {σ α σ' α' : St} {q : Nat} {y : Ly} {e : va_E} (h : L[q]? = some y) (he : e = ce K ad σ' α' q y) (ho : ∀ j z, j ≠ q → ce K ad σ' α' j z = ce K ad σ α j z) : (mW L K ad σ α).set q (ad q, e) = mW L K ad σ' α' := by
  have hq : q < L.length := (List.getElem?_eq_some_iff.mp h).1
  rw [mW_setL hq he ho]
  congr 1
  apply List.ext_getElem?
  intro j
  rw [List.getElem?_set]
  by_cases hj : q = j
  · subst hj; rw [if_pos rfl, if_pos hq, h]
  · rw [if_neg hj]
theorem ce_uS {K : Nat → ClassId} {ad : Nat → Nat} {σ α : St} {q k : Nat} {v : Int} : ∀ j z, j ≠ q → ce K ad (uS σ q k v) α j z = ce K ad σ α j z := by
  intro j z hj
  have hf : ∀ k', (uS σ q k v) j k' = σ j k' := fun k' => by simp [uS, hj]
  have hv : ∀ k' c, fv ad (uS σ q k v) j k' c = fv ad σ j k' c := by
    intro k' c
    match c with
    | 0 => simp only [fv, hf]
    | 1 => rfl
    | r + 2 => rfl
  match z with
  | .inl (t, n) => rfl
  | .inr (.inl (t, cs)) => rfl
  | .inr (.inr (ci, cs)) => simp only [ce, hv]
theorem ce_uA {K : Nat → ClassId} {ad : Nat → Nat} {σ α : St} {q : Nat} {f : Nat → Int} : ∀ j z, j ≠ q → ce K ad σ (uA α q f) j z = ce K ad σ α j z := by
  intro j z hj
  match z with
  | .inl (t, n) => simp only [ce, uA, if_neg hj]
  | .inr (.inl (t, cs)) => rfl
  | .inr (.inr (ci, cs)) => rfl
def ty4 (K : Nat → ClassId) : List (ClassId × FieldType) := [(K 0, .int), (K 1, .boolean), (K 2, .object RX0), (K 3, .object RX1)]
def NS (U : State) : Prop := ∀ w ∈ NW, va_Nw w U
theorem NS.warm {s U : State} (hW : s.WarmedH U.vm) (h : NS s) : NS U := by
  intro w hw
  have h1 := (List.mem_filter.mp hw).2
  have h2 := h w hw
  match w, h1, h2 with
  | .fieldLinkNest .., _, h2 => exact va_Nw.warmF hW h2
  | .methodLinkNest .., _, h2 => exact va_Nw.warmM hW h2
/-- the texts of the class: their entries, their lengths, their bytes -/
def sxI : List Nat := [48, 57, 62, 67, 72, 77]
def sxT : List String := ["casting", "section", "joint", "riser", "chill", "rule"]
def sxN : List Nat := [7, 7, 5, 5, 5, 4]
def sxB : List (List Int32) := [[99, 97, 115, 116, 105, 110, 103], [115, 101, 99, 116, 105, 111, 110], [106, 111, 105, 110, 116], [114, 105, 115, 101, 114], [99, 104, 105, 108, 108], [114, 117, 108, 101]]
def SX (E : Ev) (A : Nat → Prop) (U : State) (H : Heap) : Prop :=
  vk_S 6 sxN sxB E.2.2.2.1 E.2.2.2.2 A U H ∧ (∀ i, i < 6 → vk_R RX5 (sxI.getD i 0) (sxT.getD i "") (E.2.2.2.1 i) U) ∧ va_Z "java/lang/String" "COMPACT_STRINGS" "Z" (.int 1) A U H
theorem SX.go {E : Ev} {A B : Nat → Prop} {s U : State} {H H1 : Heap} (h : SX E A s H) (hW : s.WarmedH U.vm) (hq : ∀ a : Nat, a < H.size → ¬ A a → H1[a]? = H[a]?) (hAB : ∀ q, B q → A q) : SX E B U H1 :=
  ⟨((h.1.kept hq).narrow hAB).moved hW.alike, fun i hi => (h.2.1 i hi).warm hW, ((h.2.2.kept hq).narrow hAB).moved hW.alike⟩
theorem SX.same {E : Ev} {A : Nat → Prop} {s U : State} {H : Heap} (h : SX E A s H) (hv : U.vm = s.vm) : SX E A U H :=
  ⟨h.1.moved (by rw [hv]; exact Vm.Alike.refl _), fun i hi => (h.2.1 i hi).same hv, h.2.2.moved (by rw [hv]; exact Vm.Alike.refl _)⟩
def AA (ad : Nat → Nat) (n sz : Nat) : Nat → Prop := fun q => (∃ j, j < n ∧ q = ad j) ∨ sz ≤ q
def PreW (E : Ev) (L : List Ly) (ad : Nat → Nat) (σ α : St) (sz : Nat) (U : State) : Prop :=
  U.heap.size = sz ∧ va_P E.2.1 vwCl (mW L E.2.2.1 ad σ α) U.heap ∧ va_K E.2.1 vwCl (ty4 E.2.2.1) U ∧ va_D (fun _ => True) (mW L E.2.2.1 ad σ α) ∧ NS U ∧ SX E (AA ad L.length sz) U U.heap
abbrev Pst : Type := Option AV → List Ly → St → St → Prop
def PostW (E : Ev) (ad : Nat → Nat) (n sz : Nat) (post : Pst) : Array Value → State → Outcome → State → Prop := fun _ st oc t =>
  (∃ (r : Option AV) (L' : List Ly) (ad' : Nat → Nat) (σ' α' : St), oc = .returned (r.map (cv E ad')) ∧ post r L' σ' α' ∧ n ≤ L'.length ∧ (∀ j, j < n ∨ L'.length ≤ j → ad' j = ad j) ∧ va_P E.2.1 vwCl (mW L' E.2.2.1 ad' σ' α') t.heap ∧ va_D (AA ad n sz) (mW L' E.2.2.1 ad' σ' α')) ∧ va_F (AA ad n sz) st t
def rmd (d mc ms : Nat) : Room := { frames := d, cells := mc, slots := ms, locals := 40 * d }
def SS (d : Nat) (M : Mi) (mc ms : Nat) (av : List AV) (L : List Ly) (σ α : St) (post : Pst) : Prop :=
  ∀ (E : Ev) (ad : Nat → Nat) (sz : Nat), Met E.1 M.1 (wds M) (rmd d mc ms) (va_Pc (av.map (cv E ad)) (PreW E L ad σ α sz)) (PostW E ad L.length sz post) mc ms (AA ad L.length sz)
abbrev Cx : Type := Nat × Nat × List AV × Nat × Pst
def Ctx (M : Mi) (X : Cx) (E : Ev) (ad0 : Nat → Nat) (p : Program) (s : State) (m : MethodId) (meth : Method) (c : Code) : Prop :=
  p.tables.exec = Jvm.exec ∧ c.code = M.2.1 ∧ meth.sig.returnType = M.2.2.2 ∧ meth.locks = false ∧ c.maxLocals = M.2.2.1 ∧ s.vm.findClass M.1.cls = some m.cls ∧ meth.name = M.1.name ∧ (∀ w ∈ wds M, w.before (X.2.2.1.map (cv E ad0)).toArray s = true) ∧ va_K E.2.1 vwCl (ty4 E.2.2.1) s ∧ NS s ∧ SX E (AA ad0 X.2.2.2.1 s.heap.size) s s.heap
def LV (E : Ev) (ad : Nat → Nat) (nL : Nat) (lv : List (Option AV)) (ls : Array Slot) : Prop := ls.size = nL ∧ lv_wf ls ∧ ∀ (i : Nat) (v : AV), lv[i]? = some (some v) → ls[i]? = some (Slot.val (cv E ad v))
def V (d : Nat) (M : Mi) (X : Cx) (k n : Nat) (L : List Ly) (σ α : St) (pc : Nat) (lv : List (Option AV)) (st : List AV) : Prop :=
  ∀ (E : Ev) (ad0 ad : Nat → Nat) (p : Program) (e : Env) (s : State) (m : MethodId) (below : List Frame) (meth : Method) (c : Code) (H : Heap) (locs : List Loc) (ls : Array Slot),
    Ctx M X E ad0 p s m meth c → X.2.2.2.1 ≤ L.length → (∀ j, j < X.2.2.2.1 ∨ L.length ≤ j → ad j = ad0 j) →
    va_P E.2.1 vwCl (mW L E.2.2.1 ad σ α) H → va_D (AA ad0 X.2.2.2.1 s.heap.size) (mW L E.2.2.1 ad σ α) → va_S (AA ad0 X.2.2.2.1 s.heap.size) s.heap H locs → LV E ad M.2.2.1 lv ls →
    W p E.1 e (rmd d X.1 X.2.1) s m (X.2.2.1.map (cv E ad0)).toArray below meth c H locs k n (MQ below (PostW E ad0 X.2.2.2.1 s.heap.size X.2.2.2.2) (X.2.2.1.map (cv E ad0)).toArray s X.1 X.2.1 (AA ad0 X.2.2.2.1 s.heap.size)) (F0 m pc ls (st.map (cv E ad)))
end
section
abbrev InR (z : Int) : Prop := -2147483648 ≤ z ∧ z ≤ 2147483647
theorem i32_t {z : Int} (h : InR z) : (i32 z).toInt = z := Int32.toInt_ofInt_of_le (by have := h.1; omega) (by have := h.2; omega)
theorem i32_add (x y : Int) : i32 x + i32 y = i32 (x + y) := (Int32.ofInt_add x y).symm
theorem i32_sub (x y : Int) : i32 x - i32 y = i32 (x - y) := (Int32.ofInt_sub x y).symm
theorem i32_mul (x y : Int) : i32 x * i32 y = i32 (x * y) := (Int32.ofInt_mul x y).symm
theorem i32_lt {x y : Int} (h : InR x ∧ InR y) : i32 x < i32 y ↔ x < y := by rw [Int32.lt_iff_toInt_lt, i32_t h.1, i32_t h.2]
theorem i32_le {x y : Int} (h : InR x ∧ InR y) : i32 x ≤ i32 y ↔ x ≤ y := by rw [Int32.le_iff_toInt_le, i32_t h.1, i32_t h.2]
theorem i32_eq {x y : Int} (h : InR x ∧ InR y) : i32 x = i32 y ↔ x = y := by
  constructor
  · intro e
    have := congrArg Int32.toInt e
    rwa [i32_t h.1, i32_t h.2] at this
  · intro e; rw [e]
theorem i32_0 : i32 0 = 0 := rfl
theorem i32_cl {z : Int} (h0 : 0 ≤ z) (h1 : z ≤ 2147483647) : (i32 z).toNatClampNeg = z.toNat := by
  have h := i32_t (z := z) ⟨by omega, h1⟩
  show (i32 z).toInt.toNat = z.toNat
  rw [h]
theorem i32_in {z : Int} {n : Nat} (h0 : 0 ≤ z) (h1 : z < n) (hn : n ≤ 2147483647) : vp_in (i32 z) n := by
  rw [vp_in_iff, i32_t ⟨by omega, by omega⟩]
  exact ⟨h0, h1⟩
theorem i32_nat (n : Nat) : i32 (n : Int) = nI n := Int32.ofInt_eq_ofNat
section ROWS
variable {d : Nat} {M : Mi} {X : Cx} {k n : Nat} {L : List Ly} {σ α : St} {pc nx : Nat} {lv : List (Option AV)} {st : List AV}
theorem V.lvw {lv' : List (Option AV)} (h : ∀ (i : Nat) (v : AV), lv'[i]? = some (some v) → lv[i]? = some (some v)) (kk : V d M X k n L σ α pc lv' st) : V d M X k n L σ α pc lv st := by
  intro E ad0 ad p e s m below meth c H locs ls C h1 h2 hP hD hS hl
  exact kk E ad0 ad p e s m below meth c H locs ls C h1 h2 hP hD hS ⟨hl.1, hl.2.1, fun i v hi => hl.2.2 i v (h i v hi)⟩
theorem v_iconst {z : Int} (hd : At M.2.1 pc (.iconst z) 1 nx) (kk : V d M X k n L σ α nx lv (vI z :: st)) : V d M X k n L σ α pc lv st := by
  obtain ⟨hd, rfl⟩ := hd
  intro E ad0 ad p e s m below meth c H locs ls C h1 h2 hP hD hS hl
  exact lv_iconst C.1 C.2.1 hd rfl (kk E ad0 ad p e s m below meth c H locs ls C h1 h2 hP hD hS hl)
theorem v_bipush {z : Int} (hd : At M.2.1 pc (.bipush z) 2 nx) (hz : (Int8.ofInt z).toInt32 = i32 z) (kk : V d M X k n L σ α nx lv (vI z :: st)) : V d M X k n L σ α pc lv st := by
  obtain ⟨hd, rfl⟩ := hd
  intro E ad0 ad p e s m below meth c H locs ls C h1 h2 hP hD hS hl
  exact lv_bipush C.1 C.2.1 hd hz (kk E ad0 ad p e s m below meth c H locs ls C h1 h2 hP hD hS hl)
theorem v_sipush {z : Int} (hd : At M.2.1 pc (.sipush z) 3 nx) (hz : (Int16.ofInt z).toInt32 = i32 z) (kk : V d M X k n L σ α nx lv (vI z :: st)) : V d M X k n L σ α pc lv st := by
  obtain ⟨hd, rfl⟩ := hd
  intro E ad0 ad p e s m below meth c H locs ls C h1 h2 hP hD hS hl
  exact lv_sipush C.1 C.2.1 hd hz (kk E ad0 ad p e s m below meth c H locs ls C h1 h2 hP hD hS hl)
theorem v_iload_n {i : Fin 4} {z : Int} (hd : At M.2.1 pc (.iload_n i) 1 nx) (hi : lv[(i : Nat)]? = some (some (vI z))) (kk : V d M X k n L σ α nx lv (vI z :: st)) : V d M X k n L σ α pc lv st := by
  obtain ⟨hd, rfl⟩ := hd
  intro E ad0 ad p e s m below meth c H locs ls C h1 h2 hP hD hS hl
  exact lv_iload_n C.1 C.2.1 hd rfl (hl.2.2 _ _ hi) (kk E ad0 ad p e s m below meth c H locs ls C h1 h2 hP hD hS hl)
theorem v_iload {i : Nat} {z : Int} (hd : At M.2.1 pc (.iload i) 2 nx) (hi : lv[i]? = some (some (vI z))) (kk : V d M X k n L σ α nx lv (vI z :: st)) : V d M X k n L σ α pc lv st := by
  obtain ⟨hd, rfl⟩ := hd
  intro E ad0 ad p e s m below meth c H locs ls C h1 h2 hP hD hS hl
  exact lv_iload C.1 C.2.1 hd (hl.2.2 _ _ hi) (kk E ad0 ad p e s m below meth c H locs ls C h1 h2 hP hD hS hl)
theorem v_lload_n {i : Fin 4} {z : Int} (hd : At M.2.1 pc (.lload_n i) 1 nx) (hi : lv[(i : Nat)]? = some (some (vL z))) (kk : V d M X k n L σ α nx lv (vL z :: st)) : V d M X k n L σ α pc lv st := by
  obtain ⟨hd, rfl⟩ := hd
  intro E ad0 ad p e s m below meth c H locs ls C h1 h2 hP hD hS hl
  exact lv_lload_n C.1 C.2.1 hd rfl (hl.2.2 _ _ hi) (kk E ad0 ad p e s m below meth c H locs ls C h1 h2 hP hD hS hl)
theorem v_lload {i : Nat} {z : Int} (hd : At M.2.1 pc (.lload i) 2 nx) (hi : lv[i]? = some (some (vL z))) (kk : V d M X k n L σ α nx lv (vL z :: st)) : V d M X k n L σ α pc lv st := by
  obtain ⟨hd, rfl⟩ := hd
  intro E ad0 ad p e s m below meth c H locs ls C h1 h2 hP hD hS hl
  exact lv_lload C.1 C.2.1 hd (hl.2.2 _ _ hi) (kk E ad0 ad p e s m below meth c H locs ls C h1 h2 hP hD hS hl)
theorem v_aload_n {i : Fin 4} {q : Nat} (hd : At M.2.1 pc (.aload_n i) 1 nx) (hi : lv[(i : Nat)]? = some (some (vR q))) (kk : V d M X k n L σ α nx lv (vR q :: st)) : V d M X k n L σ α pc lv st := by
  obtain ⟨hd, rfl⟩ := hd
  intro E ad0 ad p e s m below meth c H locs ls C h1 h2 hP hD hS hl
  exact lv_aload_n C.1 C.2.1 hd rfl (hl.2.2 _ _ hi) (kk E ad0 ad p e s m below meth c H locs ls C h1 h2 hP hD hS hl)
theorem cv_cat (E : Ev) (ad : Nat → Nat) (v : AV) (hv : ∀ z, v ≠ vL z) : (cv E ad v).category = 1 := by
  match v with
  | .inl z => rfl
  | .inr (.inl q) => rfl
  | .inr (.inr (.inl z)) => exact absurd rfl (hv z)
  | .inr (.inr (.inr 0)) => rfl
  | .inr (.inr (.inr (i + 1))) =>
    show (if i < 6 then Value.ref (E.2.2.2.1 i) else Value.ref (E.2.2.2.2 (i - 6))).category = 1
    split <;> rfl
/-- what a store leaves of the locals: no long stands there -/
theorem LV.store {E : Ev} {ad : Nat → Nat} {nL : Nat} {ls : Array Slot} {i : Nat} {v : AV} (h : LV E ad nL lv ls) (hn : lv.all (fun o => match o with | some (.inr (.inr (.inl _))) => false | _ => true) = true) (hl : lv.length ≤ nL) (ls' : Array Slot) (l0 : List (Nat × Value)) (hl0 : ∀ j w, lv[j]? = some (some w) → (j, cv E ad w) ∈ l0)
    (h' : lv_has ls' nL ((i, cv E ad v) :: l0.filter (fun q => !(q.1 == i) && !(q.1 + 1 == i && q.2.category == 2)))) : LV E ad nL (lv.set i (some v)) ls' := by
  refine ⟨h'.1, h'.2.1, fun j w hj => ?_⟩
  rw [List.getElem?_set] at hj
  by_cases hij : i = j
  · subst hij
    rw [if_pos rfl] at hj
    split at hj
    · cases hj; exact h'.2.2 (i, cv E ad v) List.mem_cons_self
    · cases hj
  · rw [if_neg hij] at hj
    refine h'.2.2 (j, cv E ad w) (List.mem_cons_of_mem _ (List.mem_filter.mpr ⟨hl0 j w hj, ?_⟩))
    have hw : (cv E ad w).category = 1 := by
      apply cv_cat
      intro z hz
      subst hz
      have := List.all_eq_true.mp hn _ (List.mem_of_getElem? hj)
      simp at this
    simp [hw, Ne.symm hij]
def lvl (E : Ev) (ad : Nat → Nat) (lv : List (Option AV)) : List (Nat × Value) := (List.range lv.length).filterMap (fun j => (lv.getD j none).map (fun w => (j, cv E ad w)))
theorem lvl_in {E : Ev} {ad : Nat → Nat} : ∀ j w, lv[j]? = some (some w) → (j, cv E ad w) ∈ lvl E ad lv := by
  intro j w h
  have hj : j < lv.length := (List.getElem?_eq_some_iff.mp h).1
  exact List.mem_filterMap.mpr ⟨j, List.mem_range.mpr hj, by simp [List.getD_eq_getElem?_getD, h]⟩
theorem LV.has {E : Ev} {ad : Nat → Nat} {nL : Nat} {ls : Array Slot} (h : LV E ad nL lv ls) : lv_has ls nL (lvl E ad lv) := by
  refine ⟨h.1, h.2.1, fun q hq => ?_⟩
  obtain ⟨j, hj, he⟩ := List.mem_filterMap.mp hq
  have hj2 := List.mem_range.mp hj
  cases hw : lv.getD j none with
  | none => rw [hw] at he; cases he
  | some w =>
    rw [hw] at he
    cases he
    refine h.2.2 j w ?_
    rw [List.getD_eq_getElem?_getD] at hw
    rw [List.getElem?_eq_getElem hj2] at hw ⊢
    simpa using hw
abbrev noL (lv : List (Option AV)) : Prop := lv.all (fun o => match o with | some (.inr (.inr (.inl _))) => false | _ => true) = true
theorem v_istore_n {i : Fin 4} {z : Int} {lv' : List (Option AV)} (hd : At M.2.1 pc (.istore_n i) 1 nx) (hn : noL lv ∧ lv.length = M.2.2.1 ∧ (i : Nat) < M.2.2.1) (hl' : lv.set i (some (vI z)) = lv') (kk : V d M X k n L σ α nx lv' st) : V d M X k n L σ α pc lv (vI z :: st) := by
  obtain ⟨hd, rfl⟩ := hd
  subst hl'
  intro E ad0 ad p e s m below meth c H locs ls C h1 h2 hP hD hS hl
  exact lv_istore_n C.1 C.2.1 hd rfl hl.has hn.2.2 rfl fun ls' h' => kk E ad0 ad p e s m below meth c H locs ls' C h1 h2 hP hD hS (LV.store (v := vI z) hl hn.1 (Nat.le_of_eq hn.2.1) ls' _ lvl_in h')
theorem v_istore {i : Nat} {z : Int} {lv' : List (Option AV)} (hd : At M.2.1 pc (.istore i) 2 nx) (hn : noL lv ∧ lv.length = M.2.2.1 ∧ i < M.2.2.1) (hl' : lv.set i (some (vI z)) = lv') (kk : V d M X k n L σ α nx lv' st) : V d M X k n L σ α pc lv (vI z :: st) := by
  obtain ⟨hd, rfl⟩ := hd
  subst hl'
  intro E ad0 ad p e s m below meth c H locs ls C h1 h2 hP hD hS hl
  exact lv_istore C.1 C.2.1 hd hl.has hn.2.2 rfl fun ls' h' => kk E ad0 ad p e s m below meth c H locs ls' C h1 h2 hP hD hS (LV.store (v := vI z) hl hn.1 (Nat.le_of_eq hn.2.1) ls' _ lvl_in h')
theorem v_astore_n {i : Fin 4} {q : Nat} {lv' : List (Option AV)} (hd : At M.2.1 pc (.astore_n i) 1 nx) (hn : noL lv ∧ lv.length = M.2.2.1 ∧ (i : Nat) < M.2.2.1) (hl' : lv.set i (some (vR q)) = lv') (kk : V d M X k n L σ α nx lv' st) : V d M X k n L σ α pc lv (vR q :: st) := by
  obtain ⟨hd, rfl⟩ := hd
  subst hl'
  intro E ad0 ad p e s m below meth c H locs ls C h1 h2 hP hD hS hl
  exact lv_astore_n C.1 C.2.1 hd rfl hl.has hn.2.2 rfl fun ls' h' => kk E ad0 ad p e s m below meth c H locs ls' C h1 h2 hP hD hS (LV.store (v := vR q) hl hn.1 (Nat.le_of_eq hn.2.1) ls' _ lvl_in h')
theorem v_iinc {i : Nat} {x z : Int} {lv' : List (Option AV)} (hd : At M.2.1 pc (.iinc i z) 3 nx) (hn : noL lv ∧ lv.length = M.2.2.1 ∧ i < M.2.2.1) (hi : lv[i]? = some (some (vI x))) (hl' : lv.set i (some (vI (x + z))) = lv') (kk : V d M X k n L σ α nx lv' st) : V d M X k n L σ α pc lv st := by
  obtain ⟨hd, rfl⟩ := hd
  subst hl'
  intro E ad0 ad p e s m below meth c H locs ls C h1 h2 hP hD hS hl
  obtain ⟨j, hj⟩ := List.getElem?_of_mem (lvl_in (E := E) (ad := ad) _ _ hi)
  exact lv_iinc (v := i32 (x + z)) C.1 C.2.1 hd hl.has hj (i32_add x z) hn.2.2 rfl fun ls' h' => kk E ad0 ad p e s m below meth c H locs ls' C h1 h2 hP hD hS (LV.store (v := vI (x + z)) hl hn.1 (Nat.le_of_eq hn.2.1) ls' _ lvl_in h')
theorem v_iadd {x y : Int} (hd : At M.2.1 pc .iadd 1 nx) (kk : V d M X k n L σ α nx lv (vI (x + y) :: st)) : V d M X k n L σ α pc lv (vI y :: vI x :: st) := by
  obtain ⟨hd, rfl⟩ := hd
  intro E ad0 ad p e s m below meth c H locs ls C h1 h2 hP hD hS hl
  refine lv_iadd (x := i32 x) (y := i32 y) C.1 C.2.1 hd ?_
  rw [i32_add]
  exact kk E ad0 ad p e s m below meth c H locs ls C h1 h2 hP hD hS hl
theorem v_isub {x y : Int} (hd : At M.2.1 pc .isub 1 nx) (kk : V d M X k n L σ α nx lv (vI (x - y) :: st)) : V d M X k n L σ α pc lv (vI y :: vI x :: st) := by
  obtain ⟨hd, rfl⟩ := hd
  intro E ad0 ad p e s m below meth c H locs ls C h1 h2 hP hD hS hl
  refine lv_isub (x := i32 x) (y := i32 y) C.1 C.2.1 hd ?_
  rw [i32_sub]
  exact kk E ad0 ad p e s m below meth c H locs ls C h1 h2 hP hD hS hl
theorem v_imul {x y : Int} (hd : At M.2.1 pc .imul 1 nx) (kk : V d M X k n L σ α nx lv (vI (x * y) :: st)) : V d M X k n L σ α pc lv (vI y :: vI x :: st) := by
  obtain ⟨hd, rfl⟩ := hd
  intro E ad0 ad p e s m below meth c H locs ls C h1 h2 hP hD hS hl
  refine lv_imul (x := i32 x) (y := i32 y) C.1 C.2.1 hd ?_
  rw [i32_mul]
  exact kk E ad0 ad p e s m below meth c H locs ls C h1 h2 hP hD hS hl
theorem v_dup {v : AV} (hd : At M.2.1 pc .dup 1 nx) (hv : ∀ z, v ≠ vL z) (kk : V d M X k n L σ α nx lv (v :: v :: st)) : V d M X k n L σ α pc lv (v :: st) := by
  obtain ⟨hd, rfl⟩ := hd
  intro E ad0 ad p e s m below meth c H locs ls C h1 h2 hP hD hS hl
  exact lv_dup C.1 C.2.1 hd (cv_cat E ad v hv) (kk E ad0 ad p e s m below meth c H locs ls C h1 h2 hP hD hS hl)
theorem v_dup2 {v w : AV} (hd : At M.2.1 pc .dup2 1 nx) (hv : (∀ z, v ≠ vL z) ∧ ∀ z, w ≠ vL z) (kk : V d M X k n L σ α nx lv (v :: w :: v :: w :: st)) : V d M X k n L σ α pc lv (v :: w :: st) := by
  obtain ⟨hd, rfl⟩ := hd
  intro E ad0 ad p e s m below meth c H locs ls C h1 h2 hP hD hS hl
  exact lv_dup2_11 C.1 C.2.1 hd (cv_cat E ad v hv.1) (cv_cat E ad w hv.2) (kk E ad0 ad p e s m below meth c H locs ls C h1 h2 hP hD hS hl)
theorem v_pop {v : AV} (hd : At M.2.1 pc .pop 1 nx) (hv : ∀ z, v ≠ vL z) (kk : V d M X k n L σ α nx lv st) : V d M X k n L σ α pc lv (v :: st) := by
  obtain ⟨hd, rfl⟩ := hd
  intro E ad0 ad p e s m below meth c H locs ls C h1 h2 hP hD hS hl
  exact lv_pop C.1 C.2.1 hd (cv_cat E ad v hv) (kk E ad0 ad p e s m below meth c H locs ls C h1 h2 hP hD hS hl)
theorem v_goto {off : Int} {tgt : Nat} (hd : At M.2.1 pc (.goto off) 3 nx) (ht : (pc : Int) + off = (tgt : Int)) (kk : V d M X k n L σ α tgt lv st) : V d M X k n L σ α pc lv st := by
  obtain ⟨hd, rfl⟩ := hd
  intro E ad0 ad p e s m below meth c H locs ls C h1 h2 hP hD hS hl
  exact lv_goto C.1 C.2.1 hd ht (kk E ad0 ad p e s m below meth c H locs ls C h1 h2 hP hD hS hl)
theorem v_icmp_eq {x y off : Int} {tgt : Nat} (hd : At M.2.1 pc (.if_icmp .eq off) 3 nx) (ht : (pc : Int) + off = (tgt : Int)) (h : InR x ∧ InR y) (kt : x = y → V d M X k n L σ α tgt lv st) (kf : ¬ x = y → V d M X k n L σ α nx lv st) : V d M X k n L σ α pc lv (vI y :: vI x :: st) := by
  obtain ⟨hd, rfl⟩ := hd
  intro E ad0 ad p e s m below meth c H locs ls C h1 h2 hP hD hS hl
  exact lv_icmp_eq (x := i32 x) (y := i32 y) C.1 C.2.1 hd ht (fun q => kt ((i32_eq h).mp q) E ad0 ad p e s m below meth c H locs ls C h1 h2 hP hD hS hl) (fun q => kf (fun r => q ((i32_eq h).mpr r)) E ad0 ad p e s m below meth c H locs ls C h1 h2 hP hD hS hl)
theorem v_if_eq {x off : Int} {tgt : Nat} (hd : At M.2.1 pc (.ifCond .eq off) 3 nx) (ht : (pc : Int) + off = (tgt : Int)) (hx : InR x) (kt : x = 0 → V d M X k n L σ α tgt lv st) (kf : ¬ x = 0 → V d M X k n L σ α nx lv st) : V d M X k n L σ α pc lv (vI x :: st) := by
  obtain ⟨hd, rfl⟩ := hd
  have h : InR x ∧ InR 0 := ⟨hx, by omega, by omega⟩
  intro E ad0 ad p e s m below meth c H locs ls C h1 h2 hP hD hS hl
  exact lv_if_eq (x := i32 x) C.1 C.2.1 hd ht (fun q => kt ((i32_eq h).mp q) E ad0 ad p e s m below meth c H locs ls C h1 h2 hP hD hS hl) (fun q => kf (fun r => q ((i32_eq h).mpr r)) E ad0 ad p e s m below meth c H locs ls C h1 h2 hP hD hS hl)
theorem v_icmp_ne {x y off : Int} {tgt : Nat} (hd : At M.2.1 pc (.if_icmp .ne off) 3 nx) (ht : (pc : Int) + off = (tgt : Int)) (h : InR x ∧ InR y) (kt : ¬ x = y → V d M X k n L σ α tgt lv st) (kf : x = y → V d M X k n L σ α nx lv st) : V d M X k n L σ α pc lv (vI y :: vI x :: st) := by
  obtain ⟨hd, rfl⟩ := hd
  intro E ad0 ad p e s m below meth c H locs ls C h1 h2 hP hD hS hl
  exact lv_icmp_ne (x := i32 x) (y := i32 y) C.1 C.2.1 hd ht (fun q => kt ((not_congr (i32_eq h)).mp q) E ad0 ad p e s m below meth c H locs ls C h1 h2 hP hD hS hl) (fun q => kf ((i32_eq h).mp q) E ad0 ad p e s m below meth c H locs ls C h1 h2 hP hD hS hl)
theorem v_if_ne {x off : Int} {tgt : Nat} (hd : At M.2.1 pc (.ifCond .ne off) 3 nx) (ht : (pc : Int) + off = (tgt : Int)) (hx : InR x) (kt : ¬ x = 0 → V d M X k n L σ α tgt lv st) (kf : x = 0 → V d M X k n L σ α nx lv st) : V d M X k n L σ α pc lv (vI x :: st) := by
  obtain ⟨hd, rfl⟩ := hd
  have h : InR x ∧ InR 0 := ⟨hx, by omega, by omega⟩
  intro E ad0 ad p e s m below meth c H locs ls C h1 h2 hP hD hS hl
  exact lv_if_ne (x := i32 x) C.1 C.2.1 hd ht (fun q => kt ((not_congr (i32_eq h)).mp q) E ad0 ad p e s m below meth c H locs ls C h1 h2 hP hD hS hl) (fun q => kf ((i32_eq h).mp q) E ad0 ad p e s m below meth c H locs ls C h1 h2 hP hD hS hl)
theorem v_icmp_lt {x y off : Int} {tgt : Nat} (hd : At M.2.1 pc (.if_icmp .lt off) 3 nx) (ht : (pc : Int) + off = (tgt : Int)) (h : InR x ∧ InR y) (kt : x < y → V d M X k n L σ α tgt lv st) (kf : ¬ x < y → V d M X k n L σ α nx lv st) : V d M X k n L σ α pc lv (vI y :: vI x :: st) := by
  obtain ⟨hd, rfl⟩ := hd
  intro E ad0 ad p e s m below meth c H locs ls C h1 h2 hP hD hS hl
  exact lv_icmp_lt (x := i32 x) (y := i32 y) C.1 C.2.1 hd ht (fun q => kt ((i32_lt h).mp q) E ad0 ad p e s m below meth c H locs ls C h1 h2 hP hD hS hl) (fun q => kf (fun r => q ((i32_lt h).mpr r)) E ad0 ad p e s m below meth c H locs ls C h1 h2 hP hD hS hl)
theorem v_if_lt {x off : Int} {tgt : Nat} (hd : At M.2.1 pc (.ifCond .lt off) 3 nx) (ht : (pc : Int) + off = (tgt : Int)) (hx : InR x) (kt : x < 0 → V d M X k n L σ α tgt lv st) (kf : ¬ x < 0 → V d M X k n L σ α nx lv st) : V d M X k n L σ α pc lv (vI x :: st) := by
  obtain ⟨hd, rfl⟩ := hd
  have h : InR x ∧ InR 0 := ⟨hx, by omega, by omega⟩
  intro E ad0 ad p e s m below meth c H locs ls C h1 h2 hP hD hS hl
  exact lv_if_lt (x := i32 x) C.1 C.2.1 hd ht (fun q => kt ((i32_lt h).mp q) E ad0 ad p e s m below meth c H locs ls C h1 h2 hP hD hS hl) (fun q => kf (fun r => q ((i32_lt h).mpr r)) E ad0 ad p e s m below meth c H locs ls C h1 h2 hP hD hS hl)
theorem v_icmp_ge {x y off : Int} {tgt : Nat} (hd : At M.2.1 pc (.if_icmp .ge off) 3 nx) (ht : (pc : Int) + off = (tgt : Int)) (h : InR x ∧ InR y) (kt : y ≤ x → V d M X k n L σ α tgt lv st) (kf : ¬ y ≤ x → V d M X k n L σ α nx lv st) : V d M X k n L σ α pc lv (vI y :: vI x :: st) := by
  obtain ⟨hd, rfl⟩ := hd
  intro E ad0 ad p e s m below meth c H locs ls C h1 h2 hP hD hS hl
  exact lv_icmp_ge (x := i32 x) (y := i32 y) C.1 C.2.1 hd ht (fun q => kt ((i32_le ⟨h.2, h.1⟩).mp q) E ad0 ad p e s m below meth c H locs ls C h1 h2 hP hD hS hl) (fun q => kf (fun r => q ((i32_le ⟨h.2, h.1⟩).mpr r)) E ad0 ad p e s m below meth c H locs ls C h1 h2 hP hD hS hl)
theorem v_if_ge {x off : Int} {tgt : Nat} (hd : At M.2.1 pc (.ifCond .ge off) 3 nx) (ht : (pc : Int) + off = (tgt : Int)) (hx : InR x) (kt : 0 ≤ x → V d M X k n L σ α tgt lv st) (kf : ¬ 0 ≤ x → V d M X k n L σ α nx lv st) : V d M X k n L σ α pc lv (vI x :: st) := by
  obtain ⟨hd, rfl⟩ := hd
  have h : InR x ∧ InR 0 := ⟨hx, by omega, by omega⟩
  intro E ad0 ad p e s m below meth c H locs ls C h1 h2 hP hD hS hl
  exact lv_if_ge (x := i32 x) C.1 C.2.1 hd ht (fun q => kt ((i32_le ⟨h.2, h.1⟩).mp q) E ad0 ad p e s m below meth c H locs ls C h1 h2 hP hD hS hl) (fun q => kf (fun r => q ((i32_le ⟨h.2, h.1⟩).mpr r)) E ad0 ad p e s m below meth c H locs ls C h1 h2 hP hD hS hl)
theorem v_icmp_gt {x y off : Int} {tgt : Nat} (hd : At M.2.1 pc (.if_icmp .gt off) 3 nx) (ht : (pc : Int) + off = (tgt : Int)) (h : InR x ∧ InR y) (kt : y < x → V d M X k n L σ α tgt lv st) (kf : ¬ y < x → V d M X k n L σ α nx lv st) : V d M X k n L σ α pc lv (vI y :: vI x :: st) := by
  obtain ⟨hd, rfl⟩ := hd
  intro E ad0 ad p e s m below meth c H locs ls C h1 h2 hP hD hS hl
  exact lv_icmp_gt (x := i32 x) (y := i32 y) C.1 C.2.1 hd ht (fun q => kt ((i32_lt ⟨h.2, h.1⟩).mp q) E ad0 ad p e s m below meth c H locs ls C h1 h2 hP hD hS hl) (fun q => kf (fun r => q ((i32_lt ⟨h.2, h.1⟩).mpr r)) E ad0 ad p e s m below meth c H locs ls C h1 h2 hP hD hS hl)
theorem v_if_gt {x off : Int} {tgt : Nat} (hd : At M.2.1 pc (.ifCond .gt off) 3 nx) (ht : (pc : Int) + off = (tgt : Int)) (hx : InR x) (kt : 0 < x → V d M X k n L σ α tgt lv st) (kf : ¬ 0 < x → V d M X k n L σ α nx lv st) : V d M X k n L σ α pc lv (vI x :: st) := by
  obtain ⟨hd, rfl⟩ := hd
  have h : InR x ∧ InR 0 := ⟨hx, by omega, by omega⟩
  intro E ad0 ad p e s m below meth c H locs ls C h1 h2 hP hD hS hl
  exact lv_if_gt (x := i32 x) C.1 C.2.1 hd ht (fun q => kt ((i32_lt ⟨h.2, h.1⟩).mp q) E ad0 ad p e s m below meth c H locs ls C h1 h2 hP hD hS hl) (fun q => kf (fun r => q ((i32_lt ⟨h.2, h.1⟩).mpr r)) E ad0 ad p e s m below meth c H locs ls C h1 h2 hP hD hS hl)
theorem v_icmp_le {x y off : Int} {tgt : Nat} (hd : At M.2.1 pc (.if_icmp .le off) 3 nx) (ht : (pc : Int) + off = (tgt : Int)) (h : InR x ∧ InR y) (kt : x ≤ y → V d M X k n L σ α tgt lv st) (kf : ¬ x ≤ y → V d M X k n L σ α nx lv st) : V d M X k n L σ α pc lv (vI y :: vI x :: st) := by
  obtain ⟨hd, rfl⟩ := hd
  intro E ad0 ad p e s m below meth c H locs ls C h1 h2 hP hD hS hl
  exact lv_icmp_le (x := i32 x) (y := i32 y) C.1 C.2.1 hd ht (fun q => kt ((i32_le h).mp q) E ad0 ad p e s m below meth c H locs ls C h1 h2 hP hD hS hl) (fun q => kf (fun r => q ((i32_le h).mpr r)) E ad0 ad p e s m below meth c H locs ls C h1 h2 hP hD hS hl)
theorem v_if_le {x off : Int} {tgt : Nat} (hd : At M.2.1 pc (.ifCond .le off) 3 nx) (ht : (pc : Int) + off = (tgt : Int)) (hx : InR x) (kt : x ≤ 0 → V d M X k n L σ α tgt lv st) (kf : ¬ x ≤ 0 → V d M X k n L σ α nx lv st) : V d M X k n L σ α pc lv (vI x :: st) := by
  obtain ⟨hd, rfl⟩ := hd
  have h : InR x ∧ InR 0 := ⟨hx, by omega, by omega⟩
  intro E ad0 ad p e s m below meth c H locs ls C h1 h2 hP hD hS hl
  exact lv_if_le (x := i32 x) C.1 C.2.1 hd ht (fun q => kt ((i32_le h).mp q) E ad0 ad p e s m below meth c H locs ls C h1 h2 hP hD hS hl) (fun q => kf (fun r => q ((i32_le h).mpr r)) E ad0 ad p e s m below meth c H locs ls C h1 h2 hP hD hS hl)
end ROWS
end
section
section HEAP
variable {d : Nat} {M : Mi} {X : Cx} {k n : Nat} {L : List Ly} {σ α : St} {pc nx : Nat} {lv : List (Option AV)} {st : List AV}
theorem Ctx.gw {E : Ev} {ad0 : Nat → Nat} {p : Program} {s : State} {m : MethodId} {meth : Method} {c : Code} (C : Ctx M X E ad0 p s m meth c) {w : Cond} (h : w ∈ GW) : w.before (X.2.2.1.map (cv E ad0)).toArray s = true := C.2.2.2.2.2.2.2.1 w (List.mem_cons_of_mem _ h)
theorem Ctx.gwa {E : Ev} {ad0 : Nat → Nat} {p : Program} {s : State} {m : MethodId} {meth : Method} {c : Code} (C : Ctx M X E ad0 p s m meth c) : ∀ w ∈ GW, w.before (X.2.2.1.map (cv E ad0)).toArray s = true := fun _ h => C.gw h
theorem Ctx.own {E : Ev} {ad0 : Nat → Nat} {p : Program} {s : State} {m : MethodId} {meth : Method} {c : Code} (C : Ctx M X E ad0 p s m meth c) : s.vm.findClass M.1.cls = some m.cls := C.2.2.2.2.2.1
theorem Ctx.K {E : Ev} {ad0 : Nat → Nat} {p : Program} {s : State} {m : MethodId} {meth : Method} {c : Code} (C : Ctx M X E ad0 p s m meth c) : va_K E.2.1 vwCl (ty4 E.2.2.1) s := C.2.2.2.2.2.2.2.2.1
theorem Ctx.ns {E : Ev} {ad0 : Nat → Nat} {p : Program} {s : State} {m : MethodId} {meth : Method} {c : Code} (C : Ctx M X E ad0 p s m meth c) : NS s := C.2.2.2.2.2.2.2.2.2.1
theorem Ctx.sx {E : Ev} {ad0 : Nat → Nat} {p : Program} {s : State} {m : MethodId} {meth : Method} {c : Code} (C : Ctx M X E ad0 p s m meth c) : SX E (AA ad0 X.2.2.2.1 s.heap.size) s s.heap := C.2.2.2.2.2.2.2.2.2.2
theorem Ctx.ml {E : Ev} {ad0 : Nat → Nat} {p : Program} {s : State} {m : MethodId} {meth : Method} {c : Code} (C : Ctx M X E ad0 p s m meth c) : c.maxLocals = M.2.2.1 := C.2.2.2.2.1
/-- a field's link: the entry idx of class own names the field k of the class ci -/
def FL (own : String) (idx ci k : Nat) : Prop := ∃ C T N, vwCl[ci]? = some (C, T, N) ∧ k < N ∧ (∀ w ∈ u_ws C T N, w ∈ GW) ∧ (Cond.fieldLink own idx (T k).1 (T k).2.1 (T k).2.2.1 ∈ GW ∨ ∃ host, Cond.fieldLinkNest own idx (T k).1 (T k).2.1 (T k).2.2.1 host ∈ NW)
theorem ce_obj (K : Nat → ClassId) (ad : Nat → Nat) (σ α : St) (q ci : Nat) (cs : List Nat) : ce K ad σ α q (yO ci cs) = .inr (ci, (List.range cs.length).map (fun k => fv ad σ q k (cs.getD k 1))) := rfl
theorem fs_at {ad : Nat → Nat} {q f c : Nat} {cs : List Nat} (hc : cs[f]? = some c) : ((List.range cs.length).map (fun k => fv ad σ q k (cs.getD k 1)))[f]? = some (fv ad σ q f c) := by
  have hf : f < cs.length := (List.getElem?_eq_some_iff.mp hc).1
  simp [List.getElem?_map, List.getElem?_range hf, List.getD_eq_getElem?_getD, hc]
theorem v_get {q ci f idx c : Nat} {cs : List Nat} (v : AV) (hv : ∀ E ad, fv ad σ q f c = cv E ad v) (hd : At M.2.1 pc (.getfield idx) 3 nx) (hf : FL M.1.cls idx ci f) (hL : L[q]? = some (yO ci cs)) (hc : cs[f]? = some c) (kk : V d M X k n L σ α nx lv (v :: st)) : V d M X k n L σ α pc lv (vR q :: st) := by
  obtain ⟨hd, rfl⟩ := hd
  obtain ⟨C0, T, N, hcl, hk, hin, hlk⟩ := hf
  intro E ad0 ad p e s m below meth c' H locs ls C h1 h2 hP hD hS hl
  have kk' := kk E ad0 ad p e s m below meth c' H locs ls C h1 h2 hP hD hS hl
  have he := mW_get E.2.2.1 ad σ α hL
  rw [ce_obj] at he
  rcases hlk with hlk | ⟨host, hlk⟩
  · exact va_get C.1 C.2.1 C.gwa hin C.own C.K hP q he hcl f hk (C.gw hlk) (fun _ h => h) (v := cv E ad v) (by rw [← hv E ad]; exact fs_at hc) hd kk'
  · exact va_getN C.1 C.2.1 C.gwa hin C.own C.K hP q he hcl f hk (va_Nw.use rfl (C.ns _ hlk)) (fun _ h => h) (v := cv E ad v) (by rw [← hv E ad]; exact fs_at hc) hd kk'
theorem v_getI {q ci f idx : Nat} {cs : List Nat} {z : Int} (hd : At M.2.1 pc (.getfield idx) 3 nx) (hf : FL M.1.cls idx ci f) (hL : L[q]? = some (yO ci cs)) (hc : cs[f]? = some 0) (hz : σ q f = z) (kk : V d M X k n L σ α nx lv (vI z :: st)) : V d M X k n L σ α pc lv (vR q :: st) :=
  v_get (vI z) (fun E ad => by rw [← hz]; rfl) hd hf hL hc kk
theorem v_getR {q ci f idx r : Nat} {cs : List Nat} (hd : At M.2.1 pc (.getfield idx) 3 nx) (hf : FL M.1.cls idx ci f) (hL : L[q]? = some (yO ci cs)) (hc : cs[f]? = some (r + 2)) (kk : V d M X k n L σ α nx lv (vR r :: st)) : V d M X k n L σ α pc lv (vR q :: st) :=
  v_get (vR r) (fun E ad => rfl) hd hf hL hc kk
/-- a field that may be written: an int, or a boolean -/
def PL (own : String) (idx ci k : Nat) (b : Bool) : Prop := ∃ C T N, vwCl[ci]? = some (C, T, N) ∧ k < N ∧ (∀ w ∈ u_ws C T N, w ∈ GW) ∧ (Cond.fieldLink own idx (T k).1 (T k).2.1 (T k).2.2.1 ∈ GW ∨ ∃ host, Cond.fieldLinkNest own idx (T k).1 (T k).2.1 (T k).2.2.1 host ∈ NW) ∧ (T k).2.2.2 = false ∧ (∃ ty0 : Nat → FieldType, ∀ k, k < N → parseFieldDescriptor (T k).2.2.1 = some (ty0 k)) ∧ (∀ a, a < N → ∀ b, b < N → a ≠ b → (T a).2.1 ≠ (T b).2.1) ∧ parseFieldDescriptor (T k).2.2.1 = some (if b then .boolean else .int)
theorem bool_nf {z : Int} (h : z = 0 ∨ z = 1) : narrow .boolean (.int (i32 z)) = .int (i32 z) ∧ fits .boolean (.int (i32 z)) = true := by
  rcases h with rfl | rfl <;> decide +kernel
theorem fs_set {ad : Nat → Nat} {q f : Nat} {cs : List Nat} {z : Int} (hc : cs[f]? = some 0) : ((List.range cs.length).map (fun k => fv ad σ q k (cs.getD k 1))).set f (.int (i32 z)) = (List.range cs.length).map (fun k => fv ad (uS σ q f z) q k (cs.getD k 1)) := by
  have hf : f < cs.length := (List.getElem?_eq_some_iff.mp hc).1
  apply List.ext_getElem?
  intro j
  rw [List.getElem?_set]
  by_cases hj : f = j
  · subst hj
    rw [if_pos rfl, if_pos (by simpa using hf), fs_at hc]
    simp [fv, uS]
  · rw [if_neg hj]
    by_cases hl : j < cs.length
    · simp only [List.getElem?_map, List.getElem?_range hl, Option.map_some]
      congr 1
      match cs.getD j 1 with
      | 0 => simp [fv, uS, Ne.symm hj]
      | 1 => rfl
      | r + 2 => rfl
    · rw [List.getElem?_eq_none (by simpa using hl), List.getElem?_eq_none (by simpa using hl)]
theorem v_put {q ci f idx : Nat} {cs : List Nat} {z : Int} {b : Bool} (hd : At M.2.1 pc (.putfield idx) 3 nx) (hf : PL M.1.cls idx ci f b) (hL : L[q]? = some (yO ci cs)) (hc : cs[f]? = some 0) (hb : b = true → z = 0 ∨ z = 1) (kk : V d M X k n L (uS σ q f z) α nx lv st) : V d M X k n L σ α pc lv (vI z :: vR q :: st) := by
  obtain ⟨hd, rfl⟩ := hd
  obtain ⟨C0, T, N, hcl, hk, hin, hlk, hfin, ⟨ty0, hty⟩, hnm, hpd⟩ := hf
  intro E ad0 ad p e s m below meth c' H locs ls C h1 h2 hP hD hS hl
  have he := mW_get E.2.2.1 ad σ α hL
  rw [ce_obj] at he
  have hnf : narrow (if b then .boolean else .int) (.int (i32 z)) = .int (i32 z) ∧ fits (if b then .boolean else .int) (.int (i32 z)) = true := by
    cases b with
    | true => exact bool_nf (hb rfl)
    | false => exact ⟨rfl, rfl⟩
  have hlen : f < ((List.range cs.length).map (fun k => fv ad σ q k (cs.getD k 1))).length := by simpa using (List.getElem?_eq_some_iff.mp hc).1
  have hset : (mW L E.2.2.1 ad σ α).set q (ad q, .inr (ci, ((List.range cs.length).map (fun k => fv ad σ q k (cs.getD k 1))).set f (.int (i32 z)))) = mW L E.2.2.1 ad (uS σ q f z) α := mW_set hL (by rw [fs_set hc]; rfl) ce_uS
  rcases hlk with hlk | ⟨host, hlk⟩
  · refine va_put (v := .int (i32 z)) C.1 C.2.1 C.gwa hin ty0 hty hnm C.own C.K hP hD hS q he hcl f hk (C.gw hlk) (fun _ h => h) hfin hpd hnf.1 hnf.2 hlen hd (fun H1 locs1 hP1 hD1 hS1 => ?_)
    rw [hset] at hP1 hD1
    exact kk E ad0 ad p e s m below meth c' H1 locs1 ls C h1 h2 hP1 hD1 hS1 hl
  · refine va_putN (v := .int (i32 z)) C.1 C.2.1 C.gwa hin ty0 hty hnm C.own C.K hP hD hS q he hcl f hk (va_Nw.use rfl (C.ns _ hlk)) (fun _ h => h) hfin hpd hnf.1 hnf.2 hlen hd (fun H1 locs1 hP1 hD1 hS1 => ?_)
    rw [hset] at hP1 hD1
    exact kk E ad0 ad p e s m below meth c' H1 locs1 ls C h1 h2 hP1 hD1 hS1 hl
theorem v_iaload {q N : Nat} {z w : Int} (hd : At M.2.1 pc .iaload 1 nx) (hL : L[q]? = some (yA 0 N)) (hz : 0 ≤ z ∧ z < N ∧ N ≤ 2147483647) (hw : α q z.toNat = w) (kk : V d M X k n L σ α nx lv (vI w :: st)) : V d M X k n L σ α pc lv (vI z :: vR q :: st) := by
  obtain ⟨hd, rfl⟩ := hd
  subst hw
  intro E ad0 ad p e s m below meth c' H locs ls C h1 h2 hP hD hS hl
  have kk' := kk E ad0 ad p e s m below meth c' H locs ls C h1 h2 hP hD hS hl
  refine va_iald C.1 C.2.1 C.K hP q 0 (mW_get E.2.2.1 ad σ α hL) rfl (i32_in hz.1 hz.2.1 hz.2.2) hd ?_
  rw [i32_cl hz.1 (by omega)]
  exact kk'
theorem v_baload {q N : Nat} {z w : Int} (hd : At M.2.1 pc .baload 1 nx) (hL : L[q]? = some (yA 1 N)) (hz : 0 ≤ z ∧ z < N ∧ N ≤ 2147483647) (hw : α q z.toNat = w) (kk : V d M X k n L σ α nx lv (vI w :: st)) : V d M X k n L σ α pc lv (vI z :: vR q :: st) := by
  obtain ⟨hd, rfl⟩ := hd
  subst hw
  intro E ad0 ad p e s m below meth c' H locs ls C h1 h2 hP hD hS hl
  have kk' := kk E ad0 ad p e s m below meth c' H locs ls C h1 h2 hP hD hS hl
  refine va_zald C.1 C.2.1 C.K hP q 1 (mW_get E.2.2.1 ad σ α hL) rfl (i32_in hz.1 hz.2.1 hz.2.2) hd ?_
  rw [i32_cl hz.1 (by omega)]
  exact kk'
theorem upd_i32 (f : Nat → Int) (k : Nat) (x : Int) : upd (fun j => i32 (f j)) k (i32 x) = fun j => i32 (uF f k x j) := by
  funext j
  by_cases h : j = k <;> simp [upd, uF, h]
theorem v_iastore {q N : Nat} {z x : Int} (hd : At M.2.1 pc .iastore 1 nx) (hL : L[q]? = some (yA 0 N)) (hz : 0 ≤ z ∧ z < N ∧ N ≤ 2147483647) (kk : V d M X k n L σ (uA α q (uF (α q) z.toNat x)) nx lv st) : V d M X k n L σ α pc lv (vI x :: vI z :: vR q :: st) := by
  obtain ⟨hd, rfl⟩ := hd
  intro E ad0 ad p e s m below meth c' H locs ls C h1 h2 hP hD hS hl
  refine va_iast (x := i32 x) C.1 C.2.1 C.K hP hD hS q 0 (mW_get E.2.2.1 ad σ α hL) rfl (i32_in hz.1 hz.2.1 hz.2.2) hd (fun H1 locs1 hP1 hD1 hS1 => ?_)
  have hset : (mW L E.2.2.1 ad σ α).set q (ad q, .inl (E.2.2.1 0, N, .inl (upd (fun j => i32 (α q j)) (i32 z).toNatClampNeg (i32 x)))) = mW L E.2.2.1 ad σ (uA α q (uF (α q) z.toNat x)) := by
    refine mW_set hL ?_ ce_uA
    rw [i32_cl hz.1 (by omega), upd_i32]
    simp [ce, uA]
  rw [hset] at hP1 hD1
  exact kk E ad0 ad p e s m below meth c' H1 locs1 ls C h1 h2 hP1 hD1 hS1 hl
theorem bool_nar {z : Int} (h : z = 0 ∨ z = 1) : vp_nar .boolean (i32 z) = i32 z := by
  rcases h with rfl | rfl <;> decide +kernel
theorem v_bastore {q N : Nat} {z x : Int} (hd : At M.2.1 pc .bastore 1 nx) (hL : L[q]? = some (yA 1 N)) (hz : 0 ≤ z ∧ z < N ∧ N ≤ 2147483647) (hx : x = 0 ∨ x = 1) (kk : V d M X k n L σ (uA α q (uF (α q) z.toNat x)) nx lv st) : V d M X k n L σ α pc lv (vI x :: vI z :: vR q :: st) := by
  obtain ⟨hd, rfl⟩ := hd
  intro E ad0 ad p e s m below meth c' H locs ls C h1 h2 hP hD hS hl
  refine va_zast (x := i32 x) C.1 C.2.1 C.K hP hD hS q 1 (mW_get E.2.2.1 ad σ α hL) rfl (i32_in hz.1 hz.2.1 hz.2.2) hd (fun H1 locs1 hP1 hD1 hS1 => ?_)
  have hset : (mW L E.2.2.1 ad σ α).set q (ad q, .inl (E.2.2.1 1, N, .inl (upd (fun j => i32 (α q j)) (i32 z).toNatClampNeg (vp_nar .boolean (i32 x))))) = mW L E.2.2.1 ad σ (uA α q (uF (α q) z.toNat x)) := by
    refine mW_set hL ?_ ce_uA
    rw [i32_cl hz.1 (by omega), bool_nar hx, upd_i32]
    simp [ce, uA]
  rw [hset] at hP1 hD1
  exact kk E ad0 ad p e s m below meth c' H1 locs1 ls C h1 h2 hP1 hD1 hS1 hl
theorem v_aaload {q t : Nat} {z : Int} {cs : List Nat} {r : Nat} (hd : At M.2.1 pc .aaload 1 nx) (hL : L[q]? = some (yQ t cs)) (ht : t = 2 ∨ t = 3) (hz : 0 ≤ z ∧ z < cs.length ∧ cs.length ≤ 2147483647) (hr : cs[z.toNat]? = some (r + 2)) (kk : V d M X k n L σ α nx lv (vR r :: st)) : V d M X k n L σ α pc lv (vI z :: vR q :: st) := by
  obtain ⟨hd, rfl⟩ := hd
  intro E ad0 ad p e s m below meth c' H locs ls C h1 h2 hP hD hS hl
  have kk' := kk E ad0 ad p e s m below meth c' H locs ls C h1 h2 hP hD hS hl
  have hq : va_rf (qv ad (cs.getD (i32 z).toNatClampNeg 1)) = .ref (ad r) := by
    rw [i32_cl hz.1 (by omega), List.getD_eq_getElem?_getD, hr]
    rfl
  rcases ht with rfl | rfl
  · refine va_aldq (C := RX0) C.1 C.2.1 C.K hP q 2 (mW_get E.2.2.1 ad σ α hL) rfl (i32_in hz.1 hz.2.1 hz.2.2) hd ?_
    rw [hq]
    exact kk'
  · refine va_aldq (C := RX1) C.1 C.2.1 C.K hP q 3 (mW_get E.2.2.1 ad σ α hL) rfl (i32_in hz.1 hz.2.1 hz.2.2) hd ?_
    rw [hq]
    exact kk'
theorem Ctx.post {E : Ev} {ad0 ad : Nat → Nat} {p : Program} {s : State} {m : MethodId} {meth : Method} {c : Code} {H : Heap} {locs : List Loc} {r : Option AV} (C : Ctx M X E ad0 p s m meth c) (h1 : X.2.2.2.1 ≤ L.length) (h2 : ∀ j, j < X.2.2.2.1 ∨ L.length ≤ j → ad j = ad0 j) (hP : va_P E.2.1 vwCl (mW L E.2.2.1 ad σ α) H) (hD : va_D (AA ad0 X.2.2.2.1 s.heap.size) (mW L E.2.2.1 ad σ α)) (hS : va_S (AA ad0 X.2.2.2.1 s.heap.size) s.heap H locs) (hp : X.2.2.2.2 r L σ α) {t : State} (ht : t.heap = H) {a : Array Value} {v : Option Value} (hv : v = r.map (cv E ad)) : PostW E ad0 X.2.2.2.1 s.heap.size X.2.2.2.2 a s (.returned v) t := by
  subst hv
  exact ⟨⟨r, L, ad, σ, α, rfl, hp, h1, h2, by rw [ht]; exact hP, hD⟩, hS.F ht⟩
theorem v_iretT {z : Int} {ty : FieldType} (hd : At M.2.1 pc .ireturn 1 nx) (hr : M.2.2.2 = some ty) (hn : narrow ty (.int (i32 z)) = .int (i32 z)) (hk : k ≤ X.1 ∧ n ≤ X.2.1) (hp : X.2.2.2.2 (some (vI z)) L σ α) : V d M X k n L σ α pc lv [vI z] := by
  obtain ⟨hd, rfl⟩ := hd
  intro E ad0 ad p e s m below meth c' H locs ls C h1 h2 hP hD hS hl
  have hlk := C.2.2.2.1
  refine W.widen hk.1 hk.2 ?_
  exact W.zret (v := i32 z) C.1 C.2.1 (C.2.2.1.trans hr) hn (fun t ht hW => C.post h1 h2 hP hD hS hp ht rfl) hS.2.2 hd hlk
theorem v_ireti {z : Int} (hd : At M.2.1 pc .ireturn 1 nx) (hr : M.2.2.2 = some .int) (hk : k ≤ X.1 ∧ n ≤ X.2.1) (hp : X.2.2.2.2 (some (vI z)) L σ α) : V d M X k n L σ α pc lv [vI z] := v_iretT hd hr rfl hk hp
theorem v_iretb {z : Int} (hd : At M.2.1 pc .ireturn 1 nx) (hr : M.2.2.2 = some .boolean) (hk : k ≤ X.1 ∧ n ≤ X.2.1) (hz : z = 0 ∨ z = 1) (hp : X.2.2.2.2 (some (vI z)) L σ α) : V d M X k n L σ α pc lv [vI z] := v_iretT hd hr (bool_nf hz).1 hk hp
theorem v_vret (hd : At M.2.1 pc .return_ 1 nx) (hr : M.2.2.2 = none) (hk : k ≤ X.1 ∧ n ≤ X.2.1) (hp : X.2.2.2.2 none L σ α) : V d M X k n L σ α pc lv [] := by
  obtain ⟨hd, rfl⟩ := hd
  intro E ad0 ad p e s m below meth c' H locs ls C h1 h2 hP hD hS hl
  have hlk := C.2.2.2.1
  refine W.widen hk.1 hk.2 ?_
  exact W.vret C.1 C.2.1 (C.2.2.1.trans hr) (fun t ht hW => C.post h1 h2 hP hD hS hp ht rfl) hS.2.2 hd hlk
end HEAP
end
section
/-- the locals at the entry -/
def lvA : List AV → List (Option AV)
  | [] => []
  | .inr (.inr (.inl z)) :: vs => some (vL z) :: none :: lvA vs
  | v :: vs => some v :: lvA vs
theorem lvA_args (E : Ev) (ad : Nat → Nat) : ∀ (av : List AV) (b i : Nat) (v : AV), (lvA av)[i]? = some (some v) → (b + i, cv E ad v) ∈ lv_args b (av.map (cv E ad))
  | [], b, i, v, h => by simp [lvA] at h
  | .inr (.inr (.inl z)) :: vs, b, i, v, h => by
    match i with
    | 0 =>
      have h : some (some (vL z)) = some (some v) := h
      cases h
      exact List.mem_cons_self
    | 1 =>
      have h : some (none : Option AV) = some (some v) := h
      cases h
    | i + 2 =>
      have h : (lvA vs)[i]? = some (some v) := h
      refine List.mem_cons_of_mem _ ?_
      show _ ∈ lv_args (if (2 : Nat) = 2 then b + 2 else b + 1) (vs.map (cv E ad))
      rw [if_pos rfl, show b + (i + 2) = b + 2 + i by omega]
      exact lvA_args E ad vs (b + 2) i v h
  | .inl z :: vs, b, i, v, h => lvA_args1 E ad (.inl z) vs b i v (fun b i v h => lvA_args E ad vs b i v h) (by intro z h; cases h) h
  | .inr (.inl q) :: vs, b, i, v, h => lvA_args1 E ad (.inr (.inl q)) vs b i v (fun b i v h => lvA_args E ad vs b i v h) (by intro z h; cases h) h
  | .inr (.inr (.inr q)) :: vs, b, i, v, h => lvA_args1 E ad (.inr (.inr (.inr q))) vs b i v (fun b i v h => lvA_args E ad vs b i v h) (by intro z h; cases h) h
where
  lvA_args1 (E : Ev) (ad : Nat → Nat) (w : AV) (vs : List AV) (b i : Nat) (v : AV) (ih : ∀ (b i : Nat) (v : AV), (lvA vs)[i]? = some (some v) → (b + i, cv E ad v) ∈ lv_args b (vs.map (cv E ad))) (hw : ∀ z, w ≠ vL z) (h : (some w :: lvA vs)[i]? = some (some v)) : (b + i, cv E ad v) ∈ lv_args b ((w :: vs).map (cv E ad)) := by
    match i with
    | 0 =>
      have h : some (some w) = some (some v) := h
      cases h
      exact List.mem_cons_self
    | i + 1 =>
      have h : (lvA vs)[i]? = some (some v) := h
      refine List.mem_cons_of_mem _ ?_
      show _ ∈ lv_args (if (cv E ad w).category = 2 then b + 2 else b + 1) (vs.map (cv E ad))
      rw [cv_cat E ad w hw, if_neg (by decide), show b + (i + 1) = b + 1 + i by omega]
      exact ih (b + 1) i v h
theorem lvA_len (E : Ev) (ad : Nat → Nat) : ∀ av : List AV, (lg_sl (av.map (cv E ad))).length = (lvA av).length := by
  have key : ∀ (w : AV) (vs : List AV), (∀ z, w ≠ vL z) → (lg_sl (vs.map (cv E ad))).length = (lvA vs).length → (lg_sl ((w :: vs).map (cv E ad))).length = (lvA vs).length + 1 := by
    intro w vs hw ih
    unfold lg_sl at ih ⊢
    simp only [List.map_cons, List.flatMap_cons, List.length_append, ih, cv_cat E ad w hw]
    simp; omega
  intro av
  induction av with
  | nil => rfl
  | cons w vs ih =>
    match w with
    | .inr (.inr (.inl z)) =>
      unfold lg_sl at ih ⊢
      simp only [List.map_cons, List.flatMap_cons, List.length_append, ih]
      simp [cv, Value.category, lvA]; omega
    | .inl z => exact key _ vs (by intro z h; cases h) ih
    | .inr (.inl q) => exact key _ vs (by intro z h; cases h) ih
    | .inr (.inr (.inr q)) => exact key _ vs (by intro z h; cases h) ih
theorem AA_D {ad : Nat → Nat} {L : List Ly} {K : Nat → ClassId} {σ α : St} {sz : Nat} {A : Nat → Prop} (h : va_D A (mW L K ad σ α)) : va_D (AA ad L.length sz) (mW L K ad σ α) := by
  refine ⟨h.1, fun k q hk => ?_⟩
  obtain ⟨y, hy, rfl⟩ := mW_inv hk
  exact Or.inl ⟨k, (List.getElem?_eq_some_iff.mp hy).1, rfl⟩
/-- a contract out of a walk -/
theorem SS.of {d : Nat} {M : Mi} {mc ms : Nat} {av : List AV} {L : List Ly} {σ α : St} {post : Pst} {lv : List (Option AV)} (hy : plainName M.1.cls = true) (hlen : (lvA av).length ≤ M.2.2.1) (hlv : lvA av ++ List.replicate (M.2.2.1 - (lvA av).length) none = lv)
    (kk : V d M (mc, ms, av, L.length, post) 0 0 L σ α 0 lv []) : SS d M mc ms av L σ α post := by
  intro E ad sz
  refine Met.ofW (cc := M.2.1) (maxL := M.2.2.1) (ret := M.2.2.2) hy rfl ?_
  intro p e s m args below meth c s₁ B hml hv
  obtain ⟨rfl, hsz, hP, hK, hD0, hN, hX⟩ := hv
  have hts := atoms_spec (ws := wds M) B.pre
  have hown : s.vm.findClass M.1.cls = some m.cls := findClass_of_methodNamed B.named
  subst hsz
  have hl := lv_entry (av.map (cv E ad)) (n := M.2.2.1) (by rw [lvA_len]; exact hlen)
  rw [lg_entry_eq]
  refine kk E ad ad p e s m below meth c s.heap [] _ ⟨B.exec, B.bytes, B.returns, B.notSynchronized, hml, hown, (name_of_methodNamed B.named B.method).1, hts, hK, hN, hX⟩ (Nat.le_refl _) (fun _ _ => rfl) hP (AA_D hD0) va_S.rf ⟨hl.1, hl.2.1, fun i v hi => ?_⟩
  have hi2 : (lvA av)[i]? = some (some v) := by
    rw [← hlv] at hi
    by_cases h : i < (lvA av).length
    · rwa [List.getElem?_append_left h] at hi
    · rw [List.getElem?_append_right (by omega)] at hi
      rw [List.getElem?_replicate] at hi
      split at hi <;> cases hi
  have := lvA_args E ad av 0 i v hi2
  rw [Nat.zero_add] at this
  exact hl.2.2 (i, cv E ad v) this
/-- what a method must be to be called -/
def MI (M : Mi) (na : Nat) : Prop := Cond.code M.1 M.2.1 M.2.2.1 M.2.2.2 ∈ GW ∧ Cond.initialized M.1.cls ∈ GW ∧ (M.1.cls ≠ "java/lang/invoke/MethodHandle" ∧ M.1.cls ≠ "java/lang/invoke/VarHandle" ∧ (parseMethodDescriptor M.1.desc).map (fun d => d.parameters.length) = some na) ∧ M.2.2.1 ≤ 21
def MV (M : Mi) : Prop := Cond.instanceMethod M.1 ∈ GW ∧ Cond.selects M.1.cls M.1 M.1 ∈ GW
def ML (own : String) (idx : Nat) (y : MethodName) : Prop := Cond.methodLink own idx y ∈ GW ∨ ∃ host, Cond.methodLinkNest own idx y host ∈ NW
theorem PreW.blind {E : Ev} {L : List Ly} {ad : Nat → Nat} {σ α : St} {sz : Nat} {av : List Value} : FrameBlind (va_Pc av (PreW E L ad σ α sz)) := by
  intro a U g mk q
  obtain ⟨q0, q1, qP, qK, qD, qN, qX⟩ := q
  exact ⟨q0, q1, qP, va_K.moved (u := U) (U := U.calling g mk a) (Vm.Alike.refl U.vm) qK, qD, fun w hw => va_Nw.same (by have := (List.mem_filter.mp hw).2; match w, this with | .fieldLinkNest .., _ => rfl | .methodLinkNest .., _ => rfl) (u := U) rfl (qN w hw), qX.same (s := U) rfl⟩
section CALLS
variable {d : Nat} {M : Mi} {X : Cx} {k n : Nat} {L : List Ly} {σ α : St} {pc nx : Nat} {lv : List (Option AV)} {st : List AV}
theorem AA_sub {E : Ev} {ad0 ad : Nat → Nat} {n0 : Nat} {s : State} {H : Heap} {locs : List Loc} (hD : va_D (AA ad0 n0 s.heap.size) (mW L E.2.2.1 ad σ α)) (hS : va_S (AA ad0 n0 s.heap.size) s.heap H locs) : ∀ q, AA ad L.length H.size q → AA ad0 n0 s.heap.size q := by
  intro q h
  rcases h with ⟨j, hj, rfl⟩ | h
  · exact hD.2 j _ (mW_get E.2.2.1 ad σ α (List.getElem?_eq_getElem hj))
  · exact Or.inr (Nat.le_trans hS.1 h)
theorem Ctx.pre {E : Ev} {ad0 ad : Nat → Nat} {p : Program} {s : State} {m : MethodId} {meth : Method} {c : Code} {H : Heap} {locs : List Loc} (C : Ctx M X E ad0 p s m meth c) (hP : va_P E.2.1 vwCl (mW L E.2.2.1 ad σ α) H) (hD : va_D (AA ad0 X.2.2.2.1 s.heap.size) (mW L E.2.2.1 ad σ α)) (hS : va_S (AA ad0 X.2.2.2.1 s.heap.size) s.heap H locs) {U : State} (hU : U.heap = H) (hW : s.WarmedH U.vm) : PreW E L ad σ α H.size U := by
  refine ⟨by rw [hU], by rw [hU]; exact hP, va_K.moved hW.alike C.K, hD.weaken (fun _ _ _ _ => trivial), C.ns.warm hW, ?_⟩
  rw [hU]
  exact C.sx.go hW hS.2.1 (AA_sub hD hS)
/-- behind any call: the world that the callee leaves -/
theorem v_back {E : Ev} {ad0 ad : Nat → Nat} {p : Program} {e : Env} {s : State} {m : MethodId} {below : List Frame} {meth : Method} {c : Code} {H : Heap} {locs : List Loc} {ls : Array Slot} {mc ms : Nat} {st0 : List Value} {rest : List AV} {post : Pst} {a : Array Value}
    (C : Ctx M X E ad0 p s m meth c) (h1 : X.2.2.2.1 ≤ L.length) (h2 : ∀ j, j < X.2.2.2.1 ∨ L.length ≤ j → ad j = ad0 j) (hD : va_D (AA ad0 X.2.2.2.1 s.heap.size) (mW L E.2.2.1 ad σ α)) (hS : va_S (AA ad0 X.2.2.2.1 s.heap.size) s.heap H locs)
    (hr : va_Run p E.1 e (rmd d X.1 X.2.1) s m (X.2.2.1.map (cv E ad0)).toArray below meth c H locs k n mc ms (F0 m pc ls st0) (rest.map (cv E ad)) (PostW E ad L.length H.size post a) (AA ad L.length H.size))
    (hl : LV E ad M.2.2.1 lv ls)
    (hwf : ∀ (r : Option AV) (L' : List Ly) (σ' α' : St) (ad' : Nat → Nat), post r L' σ' α' → L.length ≤ L'.length → (∀ j, j < L.length ∨ L'.length ≤ j → ad' j = ad j) → rest.map (cv E ad) = rest.map (cv E ad') ∧ LV E ad' M.2.2.1 lv ls)
    (kk : ∀ (r : Option AV) (L' : List Ly) (σ' α' : St), post r L' σ' α' → V d M X (k + mc) (n + ms) L' σ' α' (pc + 3) lv (r.toList ++ rest)) :
    W p E.1 e (rmd d X.1 X.2.1) s m (X.2.2.1.map (cv E ad0)).toArray below meth c H locs k n (MQ below (PostW E ad0 X.2.2.2.1 s.heap.size X.2.2.2.2) (X.2.2.1.map (cv E ad0)).toArray s X.1 X.2.1 (AA ad0 X.2.2.2.1 s.heap.size)) (F0 m pc ls st0) := by
  intro T hT Y
  obtain ⟨v, st₀, t, T', L1, h0, Y', hL1, e1, e2, ⟨⟨r, L', ad', σ', α', hv, hp, hn, had, hP', hD'⟩, hz, hk⟩, go⟩ := hr T hT Y
  cases hv
  rw [h0] at hz hk
  have hsub := AA_sub hD hS
  obtain ⟨hrest, hl'⟩ := hwf r L' σ' α' ad' hp hn had
  have hS' : va_S (AA ad0 X.2.2.2.1 s.heap.size) s.heap T'.heap (locs ++ L1) := by
    refine ⟨Nat.le_trans hS.1 (by rw [e1]; exact hz), fun q g1 g2 => ?_, fun q hq => ?_⟩
    · rw [e1, hk q (Nat.lt_of_lt_of_le g1 hS.1) (fun z => g2 (hsub q z))]
      exact hS.2.1 q g1 g2
    · rcases List.mem_append.mp hq with h | h
      · exact hS.2.2 q h
      · exact hsub _ (hL1 q h)
  obtain ⟨t2, a1, b1⟩ := kk r L' σ' α' hp E ad0 ad' p e s m below meth c T'.heap (locs ++ L1) ls C (Nat.le_trans h1 hn)
    (fun j hj => by
      rcases hj with hj | hj
      · rw [had j (Or.inl (Nat.lt_of_lt_of_le hj h1)), h2 j (Or.inl hj)]
      · rw [had j (Or.inr hj), h2 j (Or.inr (Nat.le_trans hn hj))])
    (by rw [e1]; exact hP') (hD'.weaken (fun _ _ _ h => hsub _ h)) hS' hl' T' rfl Y'
  refine ⟨t2, go t2 ?_, b1⟩
  have hst : (r.map (cv E ad')).toList ++ rest.map (cv E ad) = (r.toList ++ rest).map (cv E ad') := by
    rw [hrest]
    cases r <;> simp
  show Steps _ _ _ (T'.setTop { method := m, pc := pc + 3, locals := ls, stack := (r.map (cv E ad')).toList ++ rest.map (cv E ad), locked := none }) t2
  rw [hst]
  exact a1
end CALLS
end
section
theorem s_l : ∀ n, n < 32 → ((nI n &&& 31).toBitVec.smod 32).toNat = n := by decide +kernel
theorem s_u : ∀ n, n < 32 → (((nI n).toUInt32 &&& Int32.toUInt32 31).toBitVec % 32).toNat = n := by decide +kernel
theorem nx_and (a b : Nat) : nI a &&& nI b = nI (a &&& b) := by
  apply Int32.toBitVec_inj.1
  show BitVec.ofNat 32 a &&& BitVec.ofNat 32 b = BitVec.ofNat 32 (a &&& b)
  apply BitVec.eq_of_getLsbD_eq
  intro i hi
  simp [hi]
theorem nx_or (a b : Nat) : nI a ||| nI b = nI (a ||| b) := by
  apply Int32.toBitVec_inj.1
  show BitVec.ofNat 32 a ||| BitVec.ofNat 32 b = BitVec.ofNat 32 (a ||| b)
  apply BitVec.eq_of_getLsbD_eq
  intro i hi
  simp [hi]
theorem nx_not (b : Nat) : nI b ^^^ (-1) = i32 (-(b : Int) - 1) := by
  have h : i32 (-(b : Int) - 1) = -(nI b) - 1 := by
    rw [← i32_sub, show i32 (-(b : Int)) = -(i32 b) from Int32.ofInt_neg b, i32_nat]
    rfl
  rw [h]
  apply Int32.toBitVec_inj.1
  show BitVec.ofNat 32 b ^^^ BitVec.allOnes 32 = -(BitVec.ofNat 32 b) - 1#32
  rw [BitVec.xor_allOnes, BitVec.neg_eq_not_add, BitVec.add_sub_cancel]
theorem nx_andn (a b : Nat) : nI a &&& i32 (-(b : Int) - 1) = nI (a ^^^ (a &&& b)) := by
  rw [← nx_not]
  apply Int32.toBitVec_inj.1
  show BitVec.ofNat 32 a &&& (BitVec.ofNat 32 b ^^^ BitVec.allOnes 32) = BitVec.ofNat 32 (a ^^^ (a &&& b))
  apply BitVec.eq_of_getLsbD_eq
  intro i hi
  rw [BitVec.getLsbD_and, BitVec.getLsbD_xor, BitVec.getLsbD_allOnes, BitVec.getLsbD_ofNat, BitVec.getLsbD_ofNat, BitVec.getLsbD_ofNat, Nat.testBit_xor, Nat.testBit_and]
  simp only [hi, decide_true, Bool.true_and]
  cases a.testBit i <;> cases b.testBit i <;> rfl
theorem i32_nat' {x : Int} (h : 0 ≤ x) : i32 x = nI x.toNat := by
  obtain ⟨a, rfl⟩ := Int.eq_ofNat_of_zero_le h
  exact i32_nat a
section MORE
variable {d : Nat} {M : Mi} {X : Cx} {k n : Nat} {L : List Ly} {σ α : St} {pc nx : Nat} {lv : List (Option AV)} {st : List AV}
theorem v_ior {x y : Int} (hd : At M.2.1 pc .ior 1 nx) (hx : 0 ≤ x ∧ 0 ≤ y) (kk : V d M X k n L σ α nx lv (vI ((x.toNat ||| y.toNat : Nat) : Int) :: st)) : V d M X k n L σ α pc lv (vI y :: vI x :: st) := by
  obtain ⟨hd, rfl⟩ := hd
  intro E ad0 ad p e s m below meth c H locs ls C h1 h2 hP hD hS hl
  refine lv_ior (x := i32 x) (y := i32 y) C.1 C.2.1 hd ?_
  rw [i32_nat' hx.1, i32_nat' hx.2, nx_or, ← i32_nat]
  exact kk E ad0 ad p e s m below meth c H locs ls C h1 h2 hP hD hS hl
theorem v_iand {x y : Int} (hd : At M.2.1 pc .iand 1 nx) (hx : 0 ≤ x ∧ 0 ≤ y) (kk : V d M X k n L σ α nx lv (vI ((x.toNat &&& y.toNat : Nat) : Int) :: st)) : V d M X k n L σ α pc lv (vI y :: vI x :: st) := by
  obtain ⟨hd, rfl⟩ := hd
  intro E ad0 ad p e s m below meth c H locs ls C h1 h2 hP hD hS hl
  refine lv_iand (x := i32 x) (y := i32 y) C.1 C.2.1 hd ?_
  rw [i32_nat' hx.1, i32_nat' hx.2, nx_and, ← i32_nat]
  exact kk E ad0 ad p e s m below meth c H locs ls C h1 h2 hP hD hS hl
theorem v_iand1 {x : Int} (hd : At M.2.1 pc .iand 1 nx) (hx : 0 ≤ x) (kk : V d M X k n L σ α nx lv (vI (x % 2) :: st)) : V d M X k n L σ α pc lv (vI 1 :: vI x :: st) := by
  refine v_iand hd ⟨hx, by omega⟩ ?_
  have : ((x.toNat &&& (1 : Int).toNat : Nat) : Int) = x % 2 := by
    show ((x.toNat &&& 1 : Nat) : Int) = _
    rw [Nat.and_one_is_mod]
    omega
  rw [this]
  exact kk
theorem v_inot {x : Int} (hd : At M.2.1 pc .ixor 1 nx) (hx : 0 ≤ x) (kk : V d M X k n L σ α nx lv (vI (-x - 1) :: st)) : V d M X k n L σ α pc lv (vI (-1) :: vI x :: st) := by
  obtain ⟨hd, rfl⟩ := hd
  intro E ad0 ad p e s m below meth c H locs ls C h1 h2 hP hD hS hl
  refine lv_ixor (x := i32 x) (y := i32 (-1)) C.1 C.2.1 hd ?_
  have : i32 x ^^^ i32 (-1) = i32 (-x - 1) := by
    rw [i32_nat' hx]
    show nI x.toNat ^^^ (-1) = _
    rw [nx_not]
    congr 1
    omega
  rw [this]
  exact kk E ad0 ad p e s m below meth c H locs ls C h1 h2 hP hD hS hl
theorem v_iandn {x y : Int} (hd : At M.2.1 pc .iand 1 nx) (hx : 0 ≤ x ∧ 0 ≤ y) (kk : V d M X k n L σ α nx lv (vI ((x.toNat ^^^ (x.toNat &&& y.toNat) : Nat) : Int) :: st)) : V d M X k n L σ α pc lv (vI (-y - 1) :: vI x :: st) := by
  obtain ⟨hd, rfl⟩ := hd
  intro E ad0 ad p e s m below meth c H locs ls C h1 h2 hP hD hS hl
  refine lv_iand (x := i32 x) (y := i32 (-y - 1)) C.1 C.2.1 hd ?_
  have : i32 x &&& i32 (-y - 1) = i32 ((x.toNat ^^^ (x.toNat &&& y.toNat) : Nat) : Int) := by
    rw [i32_nat' hx.1, show -y - 1 = -((y.toNat : Nat) : Int) - 1 by omega, nx_andn, i32_nat]
  rw [this]
  exact kk E ad0 ad p e s m below meth c H locs ls C h1 h2 hP hD hS hl
theorem v_ishl1 {y : Int} (hd : At M.2.1 pc .ishl 1 nx) (hy : 0 ≤ y ∧ y < 31) (kk : V d M X k n L σ α nx lv (vI ((2 ^ y.toNat : Nat) : Int) :: st)) : V d M X k n L σ α pc lv (vI y :: vI 1 :: st) := by
  obtain ⟨hd, rfl⟩ := hd
  intro E ad0 ad p e s m below meth c H locs ls C h1 h2 hP hD hS hl
  refine lv_ishl (x := i32 1) (y := i32 y) C.1 C.2.1 hd ?_
  have : i32 1 <<< (i32 y &&& 31) = i32 ((2 ^ y.toNat : Nat) : Int) := by
    rw [i32_nat' hy.1, i32_nat, show i32 1 = nI 1 from rfl, pk_shlN _ y.toNat (s_l _ (by omega))]
    · rw [Nat.one_mul]
    · rw [Nat.one_mul]; exact Nat.pow_lt_pow_right (by decide) (by omega)
  rw [this]
  exact kk E ad0 ad p e s m below meth c H locs ls C h1 h2 hP hD hS hl
theorem toNat_div (x : Int) (hx : 0 ≤ x) (j : Nat) : ((x.toNat / 2 ^ j : Nat) : Int) = x / 2 ^ j := by
  obtain ⟨a, rfl⟩ := Int.eq_ofNat_of_zero_le hx
  simp
theorem v_ishr {x y : Int} (hd : At M.2.1 pc .ishr 1 nx) (hx : 0 ≤ x ∧ x ≤ 2147483647) (hy : 0 ≤ y ∧ y < 32) (kk : V d M X k n L σ α nx lv (vI (x / 2 ^ y.toNat) :: st)) : V d M X k n L σ α pc lv (vI y :: vI x :: st) := by
  obtain ⟨hd, rfl⟩ := hd
  intro E ad0 ad p e s m below meth c H locs ls C h1 h2 hP hD hS hl
  refine lv_ishr (x := i32 x) (y := i32 y) C.1 C.2.1 hd ?_
  have : i32 x >>> (i32 y &&& 31) = i32 (x / 2 ^ y.toNat) := by
    rw [i32_nat' hy.1, i32_nat' hx.1, pk_shrN (by omega) _ y.toNat (s_l _ (by omega)), ← i32_nat, toNat_div x hx.1]
  rw [this]
  exact kk E ad0 ad p e s m below meth c H locs ls C h1 h2 hP hD hS hl
theorem v_iushr {x y : Int} (hd : At M.2.1 pc .iushr 1 nx) (hx : 0 ≤ x ∧ x ≤ 2147483647) (hy : 0 ≤ y ∧ y < 32) (kk : V d M X k n L σ α nx lv (vI (x / 2 ^ y.toNat) :: st)) : V d M X k n L σ α pc lv (vI y :: vI x :: st) := by
  obtain ⟨hd, rfl⟩ := hd
  intro E ad0 ad p e s m below meth c H locs ls C h1 h2 hP hD hS hl
  have : ((i32 x).toUInt32 >>> ((i32 y).toUInt32 &&& Int32.toUInt32 31)).toInt32 = i32 (x / 2 ^ y.toNat) := by
    rw [i32_nat' hy.1, i32_nat' hx.1, pk_ushrN (by omega) _ y.toNat (s_u _ (by omega)), ← i32_nat, toNat_div x hx.1]
  exact lv_iushr (x := i32 x) (y := i32 y) C.1 C.2.1 hd this (kk E ad0 ad p e s m below meth c H locs ls C h1 h2 hP hD hS hl)
theorem v_idiv {x y : Int} (hd : At M.2.1 pc .idiv 1 nx) (hx : 0 ≤ x ∧ x ≤ 2147483647) (hy : 0 < y ∧ y ≤ 2147483647) (kk : V d M X k n L σ α nx lv (vI (x / y) :: st)) : V d M X k n L σ α pc lv (vI y :: vI x :: st) := by
  obtain ⟨hd, rfl⟩ := hd
  obtain ⟨a, rfl⟩ := Int.eq_ofNat_of_zero_le hx.1
  obtain ⟨b, rfl⟩ := Int.eq_ofNat_of_zero_le (Int.le_of_lt hy.1)
  intro E ad0 ad p e s m below meth c H locs ls C h1 h2 hP hD hS hl
  have hne : ¬ i32 (b : Int) = 0 := by
    show ¬ i32 (b : Int) = i32 0
    rw [i32_eq ⟨⟨by omega, by omega⟩, ⟨by omega, by omega⟩⟩]
    omega
  refine lv_idiv (x := i32 a) (y := i32 b) C.1 C.2.1 hd hne ?_
  rw [i32_nat, i32_nat, pk_div (by omega) (by omega) (by omega), ← i32_nat, Int.natCast_ediv]
  exact kk E ad0 ad p e s m below meth c H locs ls C h1 h2 hP hD hS hl
theorem v_irem {x y : Int} (hd : At M.2.1 pc .irem 1 nx) (hx : 0 ≤ x ∧ x ≤ 2147483647) (hy : 0 < y ∧ y ≤ 2147483647) (kk : V d M X k n L σ α nx lv (vI (x % y) :: st)) : V d M X k n L σ α pc lv (vI y :: vI x :: st) := by
  obtain ⟨hd, rfl⟩ := hd
  obtain ⟨a, rfl⟩ := Int.eq_ofNat_of_zero_le hx.1
  obtain ⟨b, rfl⟩ := Int.eq_ofNat_of_zero_le (Int.le_of_lt hy.1)
  intro E ad0 ad p e s m below meth c H locs ls C h1 h2 hP hD hS hl
  have hne : ¬ i32 (b : Int) = 0 := by
    show ¬ i32 (b : Int) = i32 0
    rw [i32_eq ⟨⟨by omega, by omega⟩, ⟨by omega, by omega⟩⟩]
    omega
  refine lv_irem (x := i32 a) (y := i32 b) C.1 C.2.1 hd hne ?_
  rw [i32_nat, i32_nat, pk_rem (by omega) (by omega) (by omega), ← i32_nat, Int.natCast_emod]
  exact kk E ad0 ad p e s m below meth c H locs ls C h1 h2 hP hD hS hl
theorem v_tabIn {x dflt lo hi off : Int} {offs : Array Int} {len tgt : Nat} (hd : At M.2.1 pc (.tableswitch dflt lo hi offs) len nx) (hx : InR x) (h : lo ≤ x ∧ x ≤ hi) (ho : offs[(x - lo).toNat]? = some off) (ht : (pc : Int) + off = (tgt : Int)) (kk : V d M X k n L σ α tgt lv st) : V d M X k n L σ α pc lv (vI x :: st) := by
  obtain ⟨hd, rfl⟩ := hd
  intro E ad0 ad p e s m below meth c H locs ls C h1 h2 hP hD hS hl
  exact lv_tableIn (x := i32 x) C.1 C.2.1 hd (by rw [i32_t hx]; omega) (by rw [i32_t hx]; omega) (by rw [i32_t hx]; exact ho) ht (kk E ad0 ad p e s m below meth c H locs ls C h1 h2 hP hD hS hl)
theorem v_tabOut {x dflt lo hi : Int} {offs : Array Int} {len tgt : Nat} (hd : At M.2.1 pc (.tableswitch dflt lo hi offs) len nx) (hx : InR x) (h : x < lo ∨ hi < x) (ht : (pc : Int) + dflt = (tgt : Int)) (kk : V d M X k n L σ α tgt lv st) : V d M X k n L σ α pc lv (vI x :: st) := by
  obtain ⟨hd, rfl⟩ := hd
  intro E ad0 ad p e s m below meth c H locs ls C h1 h2 hP hD hS hl
  exact lv_tableOut (x := i32 x) C.1 C.2.1 hd (by rw [i32_t hx]; exact h) ht (kk E ad0 ad p e s m below meth c H locs ls C h1 h2 hP hD hS hl)
theorem v_lookup {x dflt off : Int} {ps : Array (Int × Int)} {len tgt : Nat} (hd : At M.2.1 pc (.lookupswitch dflt ps) len nx) (hp : (ps.toList.zip (ps.toList.drop 1)).all (fun (a, next) => a.1 < next.1) = true) (hx : InR x) (ho : Op.lookupswitch.offset ps.toList dflt x = off) (ht : (pc : Int) + off = (tgt : Int)) (kk : V d M X k n L σ α tgt lv st) : V d M X k n L σ α pc lv (vI x :: st) := by
  obtain ⟨hd, rfl⟩ := hd
  intro E ad0 ad p e s m below meth c H locs ls C h1 h2 hP hD hS hl
  exact lv_lookup (x := i32 x) C.1 C.2.1 hd hp (by rw [i32_t hx]; exact ho) ht (kk E ad0 ad p e s m below meth c H locs ls C h1 h2 hP hD hS hl)
theorem i64_t {z : Int} (h : InR z) : (i64 z).toInt = z := Int64.toInt_ofInt_of_le (by have := h.1; omega) (by have := h.2; omega)
theorem v_i2l {x : Int} (hd : At M.2.1 pc .i2l 1 nx) (hx : InR x) (kk : V d M X k n L σ α nx lv (vL x :: st)) : V d M X k n L σ α pc lv (vI x :: st) := by
  obtain ⟨hd, rfl⟩ := hd
  intro E ad0 ad p e s m below meth c H locs ls C h1 h2 hP hD hS hl
  have : (i32 x).toInt64 = i64 x := Int64.toInt_inj.mp (by rw [Int32.toInt_toInt64, i32_t hx, i64_t hx])
  exact lv_i2l (x := i32 x) C.1 C.2.1 hd this (kk E ad0 ad p e s m below meth c H locs ls C h1 h2 hP hD hS hl)
theorem v_lconst {i : Fin 2} {z : Int} (hd : At M.2.1 pc (.lconst i) 1 nx) (hz : (i : Int) = z) (kk : V d M X k n L σ α nx lv (vL z :: st)) : V d M X k n L σ α pc lv st := by
  obtain ⟨hd, rfl⟩ := hd
  subst hz
  intro E ad0 ad p e s m below meth c H locs ls C h1 h2 hP hD hS hl
  exact lv_lconst C.1 C.2.1 hd (by match i with | 0 => rfl | 1 => rfl) (kk E ad0 ad p e s m below meth c H locs ls C h1 h2 hP hD hS hl)
theorem v_ldc2 {idx : Nat} {z : Int} (hd : At M.2.1 pc (.ldc2_w idx) 3 nx) (hg : Cond.constantLong M.1.cls idx (i64 z) ∈ GW) (kk : V d M X k n L σ α nx lv (vL z :: st)) : V d M X k n L σ α pc lv st := by
  obtain ⟨hd, rfl⟩ := hd
  intro E ad0 ad p e s m below meth c H locs ls C h1 h2 hP hD hS hl
  exact lv_ldc2 C.1 C.2.1 C.own (C.gw hg) hd (kk E ad0 ad p e s m below meth c H locs ls C h1 h2 hP hD hS hl)
theorem v_ldcw {idx : Nat} {z : Int} (hd : At M.2.1 pc (.ldc_w idx) 3 nx) (hg : Cond.constant M.1.cls idx (i32 z) ∈ GW) (kk : V d M X k n L σ α nx lv (vI z :: st)) : V d M X k n L σ α pc lv st := by
  obtain ⟨hd, rfl⟩ := hd
  intro E ad0 ad p e s m below meth c H locs ls C h1 h2 hP hD hS hl
  exact lv_ldcw C.1 C.2.1 C.own (C.gw hg) hd (kk E ad0 ad p e s m below meth c H locs ls C h1 h2 hP hD hS hl)
def cmp3 (x y : Int) : Int := if x > y then 1 else if x = y then 0 else -1
theorem cmp3_lt {x y : Int} : cmp3 x y < 0 ↔ x < y := by unfold cmp3; split; omega; split <;> omega
theorem cmp3_gt {x y : Int} : 0 < cmp3 x y ↔ y < x := by unfold cmp3; split; omega; split <;> omega
theorem cmp3_r (x y : Int) : InR (cmp3 x y) := by unfold cmp3; split; decide; split <;> decide
theorem v_lcmp {x y : Int} (hd : At M.2.1 pc .lcmp 1 nx) (hx : InR x ∧ InR y) (kk : V d M X k n L σ α nx lv (vI (cmp3 x y) :: st)) : V d M X k n L σ α pc lv (vL y :: vL x :: st) := by
  obtain ⟨hd, rfl⟩ := hd
  intro E ad0 ad p e s m below meth c H locs ls C h1 h2 hP hD hS hl
  refine W.lcmp (x := i64 x) (y := i64 y) C.1 C.2.1 hd ?_
  have : lg_cmp (i64 x) (i64 y) = i32 (cmp3 x y) := by
    unfold lg_cmp cmp3
    have e1 : (i64 x > i64 y) ↔ x > y := by
      show i64 y < i64 x ↔ _
      rw [Int64.lt_iff_toInt_lt, i64_t hx.1, i64_t hx.2]
    have e2 : (i64 x = i64 y) ↔ x = y := by
      rw [← Int64.toInt_inj, i64_t hx.1, i64_t hx.2]
    by_cases h1 : x > y
    · rw [if_pos (e1.mpr h1), if_pos h1]; rfl
    · rw [if_neg (fun h => h1 (e1.mp h)), if_neg h1]
      by_cases h2 : x = y
      · rw [if_pos (e2.mpr h2), if_pos h2]; rfl
      · rw [if_neg (fun h => h2 (e2.mp h)), if_neg h2]; rfl
  rw [this]
  exact kk E ad0 ad p e s m below meth c H locs ls C h1 h2 hP hD hS hl
end MORE
end
section
/-- the whole world's layout: the class's cells in the order in which they are made, then the reference's -/
def LA : List Ly := [yO 7 [3, 5, 14, 23, 24, 29, 71, 72, 73, 80], yO 6 [4, 0], yA 0 200, yO 4 [6, 7, 8, 9, 0, 0, 0, 0], yA 0 10, yA 0 10, yA 0 10, yO 1 [10, 11, 12, 13, 0], yA 0 10, yA 0 6, yA 0 6, yA 0 6, yO 4 [15, 16, 17, 18, 0, 0, 0, 0], yA 0 10, yA 0 10, yA 0 10, yO 1 [19, 20, 21, 22, 0], yA 0 10, yA 0 6, yA 0 6, yA 0 6, yO 5 [3, 14, 0, 0, 0, 0, 0], yO 1 [25, 26, 27, 28, 0], yA 0 10, yA 0 6, yA 0 6, yA 0 6, yO 2 [30, 0, 0], yQ 3 [31, 36, 41, 46, 51, 56, 61, 66], yO 1 [32, 33, 34, 35, 0], yA 0 10, yA 0 6, yA 0 6, yA 0 6, yO 1 [37, 38, 39, 40, 0], yA 0 10, yA 0 6, yA 0 6, yA 0 6, yO 1 [42, 43, 44, 45, 0], yA 0 10, yA 0 6, yA 0 6, yA 0 6, yO 1 [47, 48, 49, 50, 0], yA 0 10, yA 0 6, yA 0 6, yA 0 6, yO 1 [52, 53, 54, 55, 0], yA 0 10, yA 0 6, yA 0 6, yA 0 6, yO 1 [57, 58, 59, 60, 0], yA 0 10, yA 0 6, yA 0 6, yA 0 6, yO 1 [62, 63, 64, 65, 0], yA 0 10, yA 0 6, yA 0 6, yA 0 6, yO 1 [67, 68, 69, 70, 0], yA 0 10, yA 0 6, yA 0 6, yA 0 6, yQ 3 [81, 86], yA 1 2, yO 3 [74, 75, 76, 77, 78, 79, 5, 24, 0], yA 0 10, yA 0 10, yA 0 10, yA 0 10, yA 0 10, yA 0 10, yQ 2 [91, 93, 95], yO 1 [82, 83, 84, 85, 0], yA 0 10, yA 0 6, yA 0 6, yA 0 6, yO 1 [87, 88, 89, 90, 0], yA 0 10, yA 0 6, yA 0 6, yA 0 6, yO 0 [92, 0, 0, 0], yA 0 8, yO 0 [94, 0, 0, 0], yA 0 8, yO 0 [96, 0, 0, 0], yA 0 8, yO 8 [98, 0, 99, 100, 101, 0, 0, 0, 0, 102, 103, 0, 104, 105, 106, 0, 0, 0, 0, 0, 0, 107, 108, 0, 109], yA 0 348, yA 0 10, yA 0 10, yA 0 10, yA 1 2, yA 0 200, yA 0 3, yA 0 3, yA 0 24, yA 0 3, yA 0 42, yA 0 10]
def catA : AV → Nat
  | .inr (.inr (.inl _)) => 2
  | _ => 1
theorem catA_eq (E : Ev) (ad : Nat → Nat) (v : AV) : (cv E ad v).category = catA v := by
  match v with
  | .inr (.inr (.inl z)) => rfl
  | .inl z => rfl
  | .inr (.inl q) => rfl
  | .inr (.inr (.inr q)) => exact cv_cat E ad _ (by intro z h; cases h)
theorem catA_sum (E : Ev) (ad : Nat → Nat) (vs : List AV) : ((vs.map (cv E ad)).map fun v => v.category).sum = (vs.map catA).sum := by
  rw [List.map_map]
  congr 1
  apply List.map_congr_left
  intro v _
  exact catA_eq E ad v
abbrev Pq : Type := Option AV → St → St → Prop
abbrev XA (av : List AV) (post : Pq) : Cx := (0, 0, av, LA.length, fun r L' s' a' => L' = LA ∧ post r s' a')
/-- a contract in the whole world -/
def CG (d : Nat) (M : Mi) (av : List AV) (σ α : St) (post : Pq) : Prop := SS d M 0 0 av LA σ α (fun r L' s' a' => L' = LA ∧ post r s' a')
abbrev CF (d : Nat) (M : Mi) (av : List AV) (σ α : St) (r : Option AV) (σ' α' : St) : Prop := CG d M av σ α (fun r' s' a' => r' = r ∧ s' = σ' ∧ a' = α')
abbrev VV (d : Nat) (M : Mi) (av : List AV) (post : Pq) (σ α : St) (pc : Nat) (lv : List (Option AV)) (st : List AV) : Prop := V d M (XA av post) 0 0 LA σ α pc lv st
theorem CG.of {d : Nat} {M : Mi} {av : List AV} {σ α : St} {post : Pq} (lv : List (Option AV)) (hy : plainName M.1.cls = true) (hlen : (lvA av).length ≤ M.2.2.1) (hlv : lvA av ++ List.replicate (M.2.2.1 - (lvA av).length) none = lv) (kk : VV d M av post σ α 0 lv []) : CG d M av σ α post := SS.of hy hlen hlv kk
section LAROWS
variable {d : Nat} {M : Mi} {X : Cx} {av : List AV} {post : Pq} {σ α : St} {pc nx : Nat} {lv : List (Option AV)} {st : List AV}
theorem r_i {z : Int} (hd : At M.2.1 pc .ireturn 1 nx) (hr : M.2.2.2 = some .int) (hp : post (some (vI z)) σ α) : VV d M av post σ α pc lv [vI z] := v_ireti hd hr ⟨Nat.le_refl _, Nat.le_refl _⟩ ⟨rfl, hp⟩
theorem r_b {z : Int} (hd : At M.2.1 pc .ireturn 1 nx) (hr : M.2.2.2 = some .boolean) (hz : z = 0 ∨ z = 1) (hp : post (some (vI z)) σ α) : VV d M av post σ α pc lv [vI z] := v_iretb hd hr ⟨Nat.le_refl _, Nat.le_refl _⟩ hz ⟨rfl, hp⟩
theorem r_v (hd : At M.2.1 pc .return_ 1 nx) (hr : M.2.2.2 = none) (hp : post none σ α) : VV d M av post σ α pc lv [] := v_vret hd hr ⟨Nat.le_refl _, Nat.le_refl _⟩ ⟨rfl, hp⟩
theorem room_ok {dc d maxL : Nat} (h : dc + 1 ≤ d) (hm : maxL ≤ 21) : (rmd dc 0 0).frames + 1 ≤ (rmd d X.1 X.2.1).frames ∧ 8 + (maxL + 11) + (rmd dc 0 0).locals ≤ (rmd d X.1 X.2.1).locals := by
  refine ⟨h, ?_⟩
  show 8 + (maxL + 11) + 40 * dc ≤ 40 * d
  omega
theorem la_back {E : Ev} {ad0 ad : Nat → Nat} {p : Program} {e : Env} {s : State} {m : MethodId} {below : List Frame} {meth : Method} {c : Code} {H : Heap} {locs : List Loc} {ls : Array Slot} {st0 : List Value} {rest : List AV} {post : Pq} {a : Array Value}
    (C : Ctx M X E ad0 p s m meth c) (h1 : X.2.2.2.1 ≤ LA.length) (h2 : ∀ j, j < X.2.2.2.1 ∨ LA.length ≤ j → ad j = ad0 j) (hD : va_D (AA ad0 X.2.2.2.1 s.heap.size) (mW LA E.2.2.1 ad σ α)) (hS : va_S (AA ad0 X.2.2.2.1 s.heap.size) s.heap H locs)
    (hr : va_Run p E.1 e (rmd d X.1 X.2.1) s m (X.2.2.1.map (cv E ad0)).toArray below meth c H locs 0 0 0 0 (F0 m pc ls st0) (rest.map (cv E ad)) (PostW E ad LA.length H.size (fun r L' s' a' => L' = LA ∧ post r s' a') a) (AA ad LA.length H.size))
    (hl : LV E ad M.2.2.1 lv ls) (kk : ∀ (r : Option AV) (σ' α' : St), post r σ' α' → V d M X 0 0 LA σ' α' (pc + 3) lv (r.toList ++ rest)) :
    W p E.1 e (rmd d X.1 X.2.1) s m (X.2.2.1.map (cv E ad0)).toArray below meth c H locs 0 0 (MQ below (PostW E ad0 X.2.2.2.1 s.heap.size X.2.2.2.2) (X.2.2.1.map (cv E ad0)).toArray s X.1 X.2.1 (AA ad0 X.2.2.2.1 s.heap.size)) (F0 m pc ls st0) := by
  refine v_back C h1 h2 hD hS hr hl ?_ ?_
  · rintro r L' σ' α' ad' ⟨rfl, -⟩ - had
    have : ad' = ad := funext fun j => had j (Nat.lt_or_ge j LA.length)
    rw [this]
    exact ⟨rfl, hl⟩
  · rintro r L' σ' α' ⟨rfl, hp⟩
    exact kk r σ' α' hp
theorem v_callV {Mc : Mi} {dc na idx q ci N : Nat} {T : u_T} {cs : List Nat} {As rest st0 : List AV} {post : Pq} (hd : At M.2.1 pc (.invokevirtual idx) 3 nx) (hlk : ML M.1.cls idx Mc.1) (hm : MI Mc na ∧ MV Mc) (hS : CG dc Mc (vR q :: As) σ α post) (hdd : dc + 1 ≤ d) (hn : As.length = na) (hL : LA[q]? = some (yO ci cs)) (hci : vwCl[ci]? = some (Mc.1.cls, T, N)) (hst : st0 = As.reverse ++ vR q :: rest) (hr : (rest.map catA).sum ≤ 8)
    (kk : ∀ (r : Option AV) (σ' α' : St), post r σ' α' → V d M X 0 0 LA σ' α' nx lv (r.toList ++ rest)) : V d M X 0 0 LA σ α pc lv st0 := by
  obtain ⟨hd, rfl⟩ := hd
  obtain ⟨⟨hmc, hmi, hmd, hmL⟩, hv1, hv2⟩ := hm
  subst hst
  intro E ad0 ad p e s m below meth c H locs ls C h1 h2 hP hD hSS hl
  have ht := C.2.2.2.2.2.2.2.1
  have hfix : CallFix p m c M.2.1 M.2.2.1 s (X.2.2.1.map (cv E ad0)).toArray (wds M) M.1.cls := ⟨C.1, C.2.1, C.ml, C.own, ht⟩
  have hpre : PreV s H Mc.1.cls (ad q) (va_Pc ((vR q :: As).map (cv E ad)) (PreW E LA ad σ α H.size)) (As.map (cv E ad)) :=
    ⟨PreW.blind, va_recv C.K hP hci (mW_get E.2.2.1 ad σ α hL), fun U hU hW => ⟨rfl, C.pre hP hD hSS hU hW⟩⟩
  have hstk : (As.reverse ++ vR q :: rest).map (cv E ad) = (As.map (cv E ad)).reverse ++ .ref (ad q) :: rest.map (cv E ad) := by simp [cv]
  have hroom : 2 * (F0 m pc ls ((As.reverse ++ vR q :: rest).map (cv E ad))).monitorRoom + ((rest.map (cv E ad)).map fun v => v.category).sum ≤ 8 := lv_room (by rw [catA_sum]; exact hr)
  rcases hlk with hlk | ⟨host, hlk⟩
  · refine la_back C h1 h2 hD hSS (va_runV (As := As.map (cv E ad)) (n := na) hfix (hS E ad H.size) ⟨callB_of na ht (gw_good hmc) rfl rfl rfl (C.gw hmi) (C.gw hlk) hmd (room_ok hdd hmL), C.gw hv1, C.gw hv2⟩ hpre rfl (by simpa using hn) hl.1 hstk hroom hd ⟨Nat.zero_le _, Nat.zero_le _⟩) hl kk
  · refine la_back C h1 h2 hD hSS (va_runVN (As := As.map (cv E ad)) (n := na) hfix (hS E ad H.size) ⟨va_cnB na ht (gw_good hmc) rfl rfl rfl (C.ns _ hlk) (C.gw hmi) hmd (room_ok hdd hmL), C.gw hv1, C.gw hv2⟩ hpre rfl (by simpa using hn) hl.1 hstk hroom hd ⟨Nat.zero_le _, Nat.zero_le _⟩) hl kk
theorem v_callS {Mc : Mi} {dc na idx : Nat} {As rest st0 : List AV} {post : Pq} (hd : At M.2.1 pc (.invokestatic idx) 3 nx) (hlk : ML M.1.cls idx Mc.1) (hm : MI Mc na ∧ Cond.static Mc.1 ∈ GW) (hS : CG dc Mc As σ α post) (hdd : dc + 1 ≤ d) (hn : As.length = na) (hst : st0 = As.reverse ++ rest) (hr : (rest.map catA).sum ≤ 8)
    (kk : ∀ (r : Option AV) (σ' α' : St), post r σ' α' → V d M X 0 0 LA σ' α' nx lv (r.toList ++ rest)) : V d M X 0 0 LA σ α pc lv st0 := by
  obtain ⟨hd, rfl⟩ := hd
  obtain ⟨⟨hmc, hmi, hmd, hmL⟩, hv1⟩ := hm
  subst hst
  intro E ad0 ad p e s m below meth c H locs ls C h1 h2 hP hD hSS hl
  have ht := C.2.2.2.2.2.2.2.1
  have hfix : CallFix p m c M.2.1 M.2.2.1 s (X.2.2.1.map (cv E ad0)).toArray (wds M) M.1.cls := ⟨C.1, C.2.1, C.ml, C.own, ht⟩
  have hpre : PreS s H (va_Pc (As.map (cv E ad)) (PreW E LA ad σ α H.size)) (As.map (cv E ad)) :=
    ⟨PreW.blind, fun U hU hW => ⟨rfl, C.pre hP hD hSS hU hW⟩⟩
  have hstk : (As.reverse ++ rest).map (cv E ad) = (As.map (cv E ad)).reverse ++ rest.map (cv E ad) := by simp
  have hroom : 2 * (F0 m pc ls ((As.reverse ++ rest).map (cv E ad))).monitorRoom + ((rest.map (cv E ad)).map fun v => v.category).sum ≤ 8 := lv_room (by rw [catA_sum]; exact hr)
  rcases hlk with hlk | ⟨host, hlk⟩
  · refine la_back C h1 h2 hD hSS (va_runS (As := As.map (cv E ad)) (n := na) hfix (hS E ad H.size) ⟨callB_of na ht (gw_good hmc) rfl rfl rfl (C.gw hmi) (C.gw hlk) hmd (room_ok hdd hmL), C.gw hv1⟩ hpre rfl (by simpa using hn) hl.1 hstk hroom hd ⟨Nat.zero_le _, Nat.zero_le _⟩) hl kk
  · refine la_back C h1 h2 hD hSS (va_runSN (As := As.map (cv E ad)) (n := na) hfix (hS E ad H.size) ⟨va_cnB na ht (gw_good hmc) rfl rfl rfl (C.ns _ hlk) (C.gw hmi) hmd (room_ok hdd hmL), C.gw hv1, trivial⟩ hpre rfl (by simpa using hn) hl.1 hstk hroom hd ⟨Nat.zero_le _, Nat.zero_le _⟩) hl kk
/-- calls whose answer and world are known -/
theorem c_V1 {Mc : Mi} {dc na idx q ci N : Nat} {T : u_T} {cs : List Nat} {As rest st0 : List AV} {v : AV} {σ' α' : St} (hd : At M.2.1 pc (.invokevirtual idx) 3 nx) (hlk : ML M.1.cls idx Mc.1) (hm : MI Mc na ∧ MV Mc) (hS : CF dc Mc (vR q :: As) σ α (some v) σ' α') (hdd : dc + 1 ≤ d) (hn : As.length = na) (hL : LA[q]? = some (yO ci cs)) (hci : vwCl[ci]? = some (Mc.1.cls, T, N)) (hst : st0 = As.reverse ++ vR q :: rest) (hr : (rest.map catA).sum ≤ 8)
    (kk : V d M X 0 0 LA σ' α' nx lv (v :: rest)) : V d M X 0 0 LA σ α pc lv st0 :=
  v_callV hd hlk hm hS hdd hn hL hci hst hr (by rintro _ _ _ ⟨rfl, rfl, rfl⟩; exact kk)
theorem c_V0 {Mc : Mi} {dc na idx q ci N : Nat} {T : u_T} {cs : List Nat} {As rest st0 : List AV} {σ' α' : St} (hd : At M.2.1 pc (.invokevirtual idx) 3 nx) (hlk : ML M.1.cls idx Mc.1) (hm : MI Mc na ∧ MV Mc) (hS : CF dc Mc (vR q :: As) σ α none σ' α') (hdd : dc + 1 ≤ d) (hn : As.length = na) (hL : LA[q]? = some (yO ci cs)) (hci : vwCl[ci]? = some (Mc.1.cls, T, N)) (hst : st0 = As.reverse ++ vR q :: rest) (hr : (rest.map catA).sum ≤ 8)
    (kk : V d M X 0 0 LA σ' α' nx lv rest) : V d M X 0 0 LA σ α pc lv st0 :=
  v_callV hd hlk hm hS hdd hn hL hci hst hr (by rintro _ _ _ ⟨rfl, rfl, rfl⟩; exact kk)
theorem c_S1 {Mc : Mi} {dc na idx : Nat} {As rest st0 : List AV} {v : AV} {σ' α' : St} (hd : At M.2.1 pc (.invokestatic idx) 3 nx) (hlk : ML M.1.cls idx Mc.1) (hm : MI Mc na ∧ Cond.static Mc.1 ∈ GW) (hS : CF dc Mc As σ α (some v) σ' α') (hdd : dc + 1 ≤ d) (hn : As.length = na) (hst : st0 = As.reverse ++ rest) (hr : (rest.map catA).sum ≤ 8)
    (kk : V d M X 0 0 LA σ' α' nx lv (v :: rest)) : V d M X 0 0 LA σ α pc lv st0 :=
  v_callS hd hlk hm hS hdd hn hst hr (by rintro _ _ _ ⟨rfl, rfl, rfl⟩; exact kk)
theorem c_S0 {Mc : Mi} {dc na idx : Nat} {As rest st0 : List AV} {σ' α' : St} (hd : At M.2.1 pc (.invokestatic idx) 3 nx) (hlk : ML M.1.cls idx Mc.1) (hm : MI Mc na ∧ Cond.static Mc.1 ∈ GW) (hS : CF dc Mc As σ α none σ' α') (hdd : dc + 1 ≤ d) (hn : As.length = na) (hst : st0 = As.reverse ++ rest) (hr : (rest.map catA).sum ≤ 8)
    (kk : V d M X 0 0 LA σ' α' nx lv rest) : V d M X 0 0 LA σ α pc lv st0 :=
  v_callS hd hlk hm hS hdd hn hst hr (by rintro _ _ _ ⟨rfl, rfl, rfl⟩; exact kk)
end LAROWS
end
section
theorem uw0 : ∀ w ∈ u_ws RX0 TX0 4, w ∈ GW := by decide +kernel
theorem uw1 : ∀ w ∈ u_ws RX1 TX1 5, w ∈ GW := by decide +kernel
theorem uw2 : ∀ w ∈ u_ws RX2 TX2 3, w ∈ GW := by decide +kernel
theorem uw3 : ∀ w ∈ u_ws RX3 TX3 9, w ∈ GW := by decide +kernel
theorem uw4 : ∀ w ∈ u_ws RX4 TX4 8, w ∈ GW := by decide +kernel
theorem uw5 : ∀ w ∈ u_ws RX5 TX5 7, w ∈ GW := by decide +kernel
theorem uw6 : ∀ w ∈ u_ws RX6 TX6 2, w ∈ GW := by decide +kernel
theorem uw7 : ∀ w ∈ u_ws RX7 TX7 10, w ∈ GW := by decide +kernel
theorem uw8 : ∀ w ∈ u_ws RX8 TX8 25, w ∈ GW := by decide +kernel
abbrev mX0_init : Mi := (yX0_init, cX0_init, 1, none)
theorem kX0_init : MI mX0_init 0 ∧ Cond.instanceMethod mX0_init.1 ∈ GW := ⟨⟨gw_t 222 (by decide +kernel) rfl, gw_t 8 (by decide +kernel) rfl, by decide +kernel, by decide⟩, gw_t 221 (by decide +kernel) rfl⟩
abbrev mX0_begin : Mi := (yX0_begin, cX0_begin, 2, none)
theorem kX0_begin : MI mX0_begin 1 ∧ MV mX0_begin := ⟨⟨gw_t 668 (by decide +kernel) rfl, gw_t 8 (by decide +kernel) rfl, by decide +kernel, by decide⟩, gw_t 667 (by decide +kernel) rfl, gw_s (by decide +kernel) rfl⟩
abbrev mX0_vanish : Mi := (yX0_vanish, cX0_vanish, 1, none)
theorem kX0_vanish : MI mX0_vanish 0 ∧ MV mX0_vanish := ⟨⟨gw_t 442 (by decide +kernel) rfl, gw_t 8 (by decide +kernel) rfl, by decide +kernel, by decide⟩, gw_t 441 (by decide +kernel) rfl, gw_s (by decide +kernel) rfl⟩
abbrev mX0_addThing : Mi := (yX0_addThing, cX0_addThing, 3, (some .int))
theorem kX0_addThing : MI mX0_addThing 2 ∧ MV mX0_addThing := ⟨⟨gw_t 676 (by decide +kernel) rfl, gw_t 8 (by decide +kernel) rfl, by decide +kernel, by decide⟩, gw_t 675 (by decide +kernel) rfl, gw_s (by decide +kernel) rfl⟩
abbrev mX0_addAll : Mi := (yX0_addAll, cX0_addAll, 2, (some .int))
theorem kX0_addAll : MI mX0_addAll 1 ∧ MV mX0_addAll := ⟨⟨gw_t 719 (by decide +kernel) rfl, gw_t 8 (by decide +kernel) rfl, by decide +kernel, by decide⟩, gw_t 718 (by decide +kernel) rfl, gw_s (by decide +kernel) rfl⟩
abbrev mX0_greatest : Mi := (yX0_greatest, cX0_greatest, 3, (some .int))
theorem kX0_greatest : MI mX0_greatest 0 ∧ MV mX0_greatest := ⟨⟨gw_t 691 (by decide +kernel) rfl, gw_t 8 (by decide +kernel) rfl, by decide +kernel, by decide⟩, gw_t 690 (by decide +kernel) rfl, gw_s (by decide +kernel) rfl⟩
abbrev mX0_smallest : Mi := (yX0_smallest, cX0_smallest, 3, (some .int))
theorem kX0_smallest : MI mX0_smallest 0 ∧ MV mX0_smallest := ⟨⟨gw_t 698 (by decide +kernel) rfl, gw_t 8 (by decide +kernel) rfl, by decide +kernel, by decide⟩, gw_t 697 (by decide +kernel) rfl, gw_s (by decide +kernel) rfl⟩
abbrev mX0_arrange : Mi := (yX0_arrange, cX0_arrange, 4, none)
theorem kX0_arrange : MI mX0_arrange 0 ∧ MV mX0_arrange := ⟨⟨gw_t 711 (by decide +kernel) rfl, gw_t 8 (by decide +kernel) rfl, by decide +kernel, by decide⟩, gw_t 710 (by decide +kernel) rfl, gw_s (by decide +kernel) rfl⟩
abbrev mX0_together : Mi := (yX0_together, cX0_together, 3, (some .int))
theorem kX0_together : MI mX0_together 0 ∧ MV mX0_together := ⟨⟨gw_t 728 (by decide +kernel) rfl, gw_t 8 (by decide +kernel) rfl, by decide +kernel, by decide⟩, gw_t 727 (by decide +kernel) rfl, gw_s (by decide +kernel) rfl⟩
abbrev mX1_init : Mi := (yX1_init, cX1_init, 1, none)
theorem kX1_init : MI mX1_init 0 ∧ Cond.instanceMethod mX1_init.1 ∈ GW := ⟨⟨gw_t 53 (by decide +kernel) rfl, gw_t 4 (by decide +kernel) rfl, by decide +kernel, by decide⟩, gw_t 52 (by decide +kernel) rfl⟩
abbrev mX1_clear : Mi := (yX1_clear, cX1_clear, 1, none)
theorem kX1_clear : MI mX1_clear 0 ∧ MV mX1_clear := ⟨⟨gw_t 378 (by decide +kernel) rfl, gw_t 4 (by decide +kernel) rfl, by decide +kernel, by decide⟩, gw_t 377 (by decide +kernel) rfl, gw_s (by decide +kernel) rfl⟩
abbrev mX1_copyFrom : Mi := (yX1_copyFrom, cX1_copyFrom, 2, none)
theorem kX1_copyFrom : MI mX1_copyFrom 1 ∧ MV mX1_copyFrom := ⟨⟨gw_t 297 (by decide +kernel) rfl, gw_t 4 (by decide +kernel) rfl, by decide +kernel, by decide⟩, gw_t 296 (by decide +kernel) rfl, gw_s (by decide +kernel) rfl⟩
abbrev mX1_addRiser : Mi := (yX1_addRiser, cX1_addRiser, 4, none)
theorem kX1_addRiser : MI mX1_addRiser 3 ∧ MV mX1_addRiser := ⟨⟨gw_t 412 (by decide +kernel) rfl, gw_t 4 (by decide +kernel) rfl, by decide +kernel, by decide⟩, gw_t 411 (by decide +kernel) rfl, gw_s (by decide +kernel) rfl⟩
abbrev mX1_removeRiser : Mi := (yX1_removeRiser, cX1_removeRiser, 3, none)
theorem kX1_removeRiser : MI mX1_removeRiser 1 ∧ MV mX1_removeRiser := ⟨⟨gw_t 568 (by decide +kernel) rfl, gw_t 4 (by decide +kernel) rfl, by decide +kernel, by decide⟩, gw_t 567 (by decide +kernel) rfl, gw_s (by decide +kernel) rfl⟩
abbrev mX2_init : Mi := (yX2_init, cX2_init, 2, none)
theorem kX2_init : MI mX2_init 0 ∧ Cond.instanceMethod mX2_init.1 ∈ GW := ⟨⟨gw_t 160 (by decide +kernel) rfl, gw_t 6 (by decide +kernel) rfl, by decide +kernel, by decide⟩, gw_t 159 (by decide +kernel) rfl⟩
abbrev mX2_remember : Mi := (yX2_remember, cX2_remember, 2, none)
theorem kX2_remember : MI mX2_remember 1 ∧ MV mX2_remember := ⟨⟨gw_t 555 (by decide +kernel) rfl, gw_t 6 (by decide +kernel) rfl, by decide +kernel, by decide⟩, gw_t 554 (by decide +kernel) rfl, gw_s (by decide +kernel) rfl⟩
abbrev mX2_recall : Mi := (yX2_recall, cX2_recall, 2, none)
theorem kX2_recall : MI mX2_recall 1 ∧ MV mX2_recall := ⟨⟨gw_t 597 (by decide +kernel) rfl, gw_t 6 (by decide +kernel) rfl, by decide +kernel, by decide⟩, gw_t 596 (by decide +kernel) rfl, gw_s (by decide +kernel) rfl⟩
abbrev mX3_init : Mi := (yX3_init, cX3_init, 3, none)
theorem kX3_init : MI mX3_init 2 ∧ Cond.instanceMethod mX3_init.1 ∈ GW := ⟨⟨gw_t 180 (by decide +kernel) rfl, gw_t 7 (by decide +kernel) rfl, by decide +kernel, by decide⟩, gw_t 179 (by decide +kernel) rfl⟩
abbrev mX3_settle : Mi := (yX3_settle, cX3_settle, 2, none)
theorem kX3_settle : MI mX3_settle 0 ∧ MV mX3_settle := ⟨⟨gw_t 454 (by decide +kernel) rfl, gw_t 7 (by decide +kernel) rfl, by decide +kernel, by decide⟩, gw_t 453 (by decide +kernel) rfl, gw_s (by decide +kernel) rfl⟩
abbrev mX3_belowWith : Mi := (yX3_belowWith, cX3_belowWith, 3, (some .int))
theorem kX3_belowWith : MI mX3_belowWith 2 ∧ MV mX3_belowWith := ⟨⟨gw_t 458 (by decide +kernel) rfl, gw_t 7 (by decide +kernel) rfl, by decide +kernel, by decide⟩, gw_t 457 (by decide +kernel) rfl, gw_s (by decide +kernel) rfl⟩
abbrev mX3_isNeighbour : Mi := (yX3_isNeighbour, cX3_isNeighbour, 3, (some .boolean))
theorem kX3_isNeighbour : MI mX3_isNeighbour 2 ∧ MV mX3_isNeighbour := ⟨⟨gw_t 470 (by decide +kernel) rfl, gw_t 7 (by decide +kernel) rfl, by decide +kernel, by decide⟩, gw_t 469 (by decide +kernel) rfl, gw_s (by decide +kernel) rfl⟩
abbrev mX3_isSooner : Mi := (yX3_isSooner, cX3_isSooner, 5, (some .boolean))
theorem kX3_isSooner : MI mX3_isSooner 2 ∧ MV mX3_isSooner := ⟨⟨gw_t 474 (by decide +kernel) rfl, gw_t 7 (by decide +kernel) rfl, by decide +kernel, by decide⟩, gw_t 473 (by decide +kernel) rfl, gw_s (by decide +kernel) rfl⟩
abbrev mX3_later : Mi := (yX3_later, cX3_later, 3, (some .int))
theorem kX3_later : MI mX3_later 2 ∧ MV mX3_later := ⟨⟨gw_t 482 (by decide +kernel) rfl, gw_t 7 (by decide +kernel) rfl, by decide +kernel, by decide⟩, gw_t 481 (by decide +kernel) rfl, gw_s (by decide +kernel) rfl⟩
abbrev mX3_latestNeighbour : Mi := (yX3_latestNeighbour, cX3_latestNeighbour, 4, (some .int))
theorem kX3_latestNeighbour : MI mX3_latestNeighbour 1 ∧ MV mX3_latestNeighbour := ⟨⟨gw_t 478 (by decide +kernel) rfl, gw_t 7 (by decide +kernel) rfl, by decide +kernel, by decide⟩, gw_t 477 (by decide +kernel) rfl, gw_s (by decide +kernel) rfl⟩
abbrev mX3_isTop : Mi := (yX3_isTop, cX3_isTop, 3, (some .boolean))
theorem kX3_isTop : MI mX3_isTop 1 ∧ MV mX3_isTop := ⟨⟨gw_t 466 (by decide +kernel) rfl, gw_t 7 (by decide +kernel) rfl, by decide +kernel, by decide⟩, gw_t 465 (by decide +kernel) rfl, gw_s (by decide +kernel) rfl⟩
abbrev mX3_climb : Mi := (yX3_climb, cX3_climb, 4, none)
theorem kX3_climb : MI mX3_climb 1 ∧ MV mX3_climb := ⟨⟨gw_t 462 (by decide +kernel) rfl, gw_t 7 (by decide +kernel) rfl, by decide +kernel, by decide⟩, gw_t 461 (by decide +kernel) rfl, gw_s (by decide +kernel) rfl⟩
abbrev mX3_basin : Mi := (yX3_basin, cX3_basin, 4, (some .int))
theorem kX3_basin : MI mX3_basin 1 ∧ MV mX3_basin := ⟨⟨gw_t 514 (by decide +kernel) rfl, gw_t 7 (by decide +kernel) rfl, by decide +kernel, by decide⟩, gw_t 513 (by decide +kernel) rfl, gw_s (by decide +kernel) rfl⟩
abbrev mX3_passBetween : Mi := (yX3_passBetween, cX3_passBetween, 6, (some .int))
theorem kX3_passBetween : MI mX3_passBetween 2 ∧ MV mX3_passBetween := ⟨⟨gw_t 490 (by decide +kernel) rfl, gw_t 7 (by decide +kernel) rfl, by decide +kernel, by decide⟩, gw_t 489 (by decide +kernel) rfl, gw_s (by decide +kernel) rfl⟩
abbrev mX3_drowner : Mi := (yX3_drowner, cX3_drowner, 4, (some .int))
theorem kX3_drowner : MI mX3_drowner 1 ∧ MV mX3_drowner := ⟨⟨gw_t 486 (by decide +kernel) rfl, gw_t 7 (by decide +kernel) rfl, by decide +kernel, by decide⟩, gw_t 485 (by decide +kernel) rfl, gw_s (by decide +kernel) rfl⟩
abbrev mX3_drowns : Mi := (yX3_drowns, cX3_drowns, 3, (some .boolean))
theorem kX3_drowns : MI mX3_drowns 2 ∧ MV mX3_drowns := ⟨⟨gw_t 494 (by decide +kernel) rfl, gw_t 7 (by decide +kernel) rfl, by decide +kernel, by decide⟩, gw_t 493 (by decide +kernel) rfl, gw_s (by decide +kernel) rfl⟩
abbrev mX3_headOf : Mi := (yX3_headOf, cX3_headOf, 4, (some .int))
theorem kX3_headOf : MI mX3_headOf 1 ∧ MV mX3_headOf := ⟨⟨gw_t 498 (by decide +kernel) rfl, gw_t 7 (by decide +kernel) rfl, by decide +kernel, by decide⟩, gw_t 497 (by decide +kernel) rfl, gw_s (by decide +kernel) rfl⟩
abbrev mX3_tops : Mi := (yX3_tops, cX3_tops, 3, (some .int))
theorem kX3_tops : MI mX3_tops 0 ∧ MV mX3_tops := ⟨⟨gw_t 583 (by decide +kernel) rfl, gw_t 7 (by decide +kernel) rfl, by decide +kernel, by decide⟩, gw_t 582 (by decide +kernel) rfl, gw_s (by decide +kernel) rfl⟩
abbrev mX3_drownedTops : Mi := (yX3_drownedTops, cX3_drownedTops, 3, (some .int))
theorem kX3_drownedTops : MI mX3_drownedTops 0 ∧ MV mX3_drownedTops := ⟨⟨gw_t 749 (by decide +kernel) rfl, gw_t 7 (by decide +kernel) rfl, by decide +kernel, by decide⟩, gw_t 748 (by decide +kernel) rfl, gw_s (by decide +kernel) rfl⟩
abbrev mX3_allRisers : Mi := (yX3_allRisers, cX3_allRisers, 1, (some .int))
theorem kX3_allRisers : MI mX3_allRisers 0 ∧ MV mX3_allRisers := ⟨⟨gw_t 518 (by decide +kernel) rfl, gw_t 7 (by decide +kernel) rfl, by decide +kernel, by decide⟩, gw_t 517 (by decide +kernel) rfl, gw_s (by decide +kernel) rfl⟩
abbrev mX3_outlasts : Mi := (yX3_outlasts, cX3_outlasts, 4, (some .boolean))
theorem kX3_outlasts : MI mX3_outlasts 3 ∧ MV mX3_outlasts := ⟨⟨gw_t 526 (by decide +kernel) rfl, gw_t 7 (by decide +kernel) rfl, by decide +kernel, by decide⟩, gw_t 525 (by decide +kernel) rfl, gw_s (by decide +kernel) rfl⟩
abbrev mX3_feeder : Mi := (yX3_feeder, cX3_feeder, 4, (some .int))
theorem kX3_feeder : MI mX3_feeder 2 ∧ MV mX3_feeder := ⟨⟨gw_t 522 (by decide +kernel) rfl, gw_t 7 (by decide +kernel) rfl, by decide +kernel, by decide⟩, gw_t 521 (by decide +kernel) rfl, gw_s (by decide +kernel) rfl⟩
abbrev mX3_fedTops : Mi := (yX3_fedTops, cX3_fedTops, 4, (some .int))
theorem kX3_fedTops : MI mX3_fedTops 1 ∧ MV mX3_fedTops := ⟨⟨gw_t 543 (by decide +kernel) rfl, gw_t 7 (by decide +kernel) rfl, by decide +kernel, by decide⟩, gw_t 542 (by decide +kernel) rfl, gw_s (by decide +kernel) rfl⟩
abbrev mX3_starvedBy : Mi := (yX3_starvedBy, cX3_starvedBy, 3, (some .int))
theorem kX3_starvedBy : MI mX3_starvedBy 1 ∧ MV mX3_starvedBy := ⟨⟨gw_t 538 (by decide +kernel) rfl, gw_t 7 (by decide +kernel) rfl, by decide +kernel, by decide⟩, gw_t 537 (by decide +kernel) rfl, gw_s (by decide +kernel) rfl⟩
abbrev mX3_fewestRisers : Mi := (yX3_fewestRisers, cX3_fewestRisers, 5, (some .int))
theorem kX3_fewestRisers : MI mX3_fewestRisers 0 ∧ MV mX3_fewestRisers := ⟨⟨gw_t 657 (by decide +kernel) rfl, gw_t 7 (by decide +kernel) rfl, by decide +kernel, by decide⟩, gw_t 656 (by decide +kernel) rfl, gw_s (by decide +kernel) rfl⟩
abbrev mX3_leastVolume : Mi := (yX3_leastVolume, cX3_leastVolume, 4, (some .int))
theorem kX3_leastVolume : MI mX3_leastVolume 2 ∧ MV mX3_leastVolume := ⟨⟨gw_t 633 (by decide +kernel) rfl, gw_t 7 (by decide +kernel) rfl, by decide +kernel, by decide⟩, gw_t 632 (by decide +kernel) rfl, gw_s (by decide +kernel) rfl⟩
abbrev mX3_atRank : Mi := (yX3_atRank, cX3_atRank, 3, (some .int))
theorem kX3_atRank : MI mX3_atRank 1 ∧ MV mX3_atRank := ⟨⟨gw_t 616 (by decide +kernel) rfl, gw_t 7 (by decide +kernel) rfl, by decide +kernel, by decide⟩, gw_t 615 (by decide +kernel) rfl, gw_s (by decide +kernel) rfl⟩
abbrev mX3_rank : Mi := (yX3_rank, cX3_rank, 4, (some .int))
theorem kX3_rank : MI mX3_rank 1 ∧ MV mX3_rank := ⟨⟨gw_t 620 (by decide +kernel) rfl, gw_t 7 (by decide +kernel) rfl, by decide +kernel, by decide⟩, gw_t 619 (by decide +kernel) rfl, gw_s (by decide +kernel) rfl⟩
abbrev mX3_topsIfChilled : Mi := (yX3_topsIfChilled, cX3_topsIfChilled, 5, (some .int))
theorem kX3_topsIfChilled : MI mX3_topsIfChilled 2 ∧ MV mX3_topsIfChilled := ⟨⟨gw_t 645 (by decide +kernel) rfl, gw_t 7 (by decide +kernel) rfl, by decide +kernel, by decide⟩, gw_t 644 (by decide +kernel) rfl, gw_s (by decide +kernel) rfl⟩
abbrev mX3_bestChilled : Mi := (yX3_bestChilled, cX3_bestChilled, 6, (some .int))
theorem kX3_bestChilled : MI mX3_bestChilled 1 ∧ MV mX3_bestChilled := ⟨⟨gw_t 641 (by decide +kernel) rfl, gw_t 7 (by decide +kernel) rfl, by decide +kernel, by decide⟩, gw_t 640 (by decide +kernel) rfl, gw_s (by decide +kernel) rfl⟩
abbrev mX3_commonPart : Mi := (yX3_commonPart, cX3_commonPart, 3, (some .int))
theorem kX3_commonPart : MI mX3_commonPart 1 ∧ MV mX3_commonPart := ⟨⟨gw_t 502 (by decide +kernel) rfl, gw_t 7 (by decide +kernel) rfl, by decide +kernel, by decide⟩, gw_t 501 (by decide +kernel) rfl, gw_s (by decide +kernel) rfl⟩
abbrev mX4_init : Mi := (yX4_init, cX4_init, 1, none)
theorem kX4_init : MI mX4_init 0 ∧ Cond.instanceMethod mX4_init.1 ∈ GW := ⟨⟨gw_t 47 (by decide +kernel) rfl, gw_t 3 (by decide +kernel) rfl, by decide +kernel, by decide⟩, gw_t 46 (by decide +kernel) rfl⟩
abbrev mX4_clear : Mi := (yX4_clear, cX4_clear, 1, none)
theorem kX4_clear : MI mX4_clear 0 ∧ MV mX4_clear := ⟨⟨gw_t 374 (by decide +kernel) rfl, gw_t 3 (by decide +kernel) rfl, by decide +kernel, by decide⟩, gw_t 373 (by decide +kernel) rfl, gw_s (by decide +kernel) rfl⟩
abbrev mX4_copyFrom : Mi := (yX4_copyFrom, cX4_copyFrom, 2, none)
theorem kX4_copyFrom : MI mX4_copyFrom 1 ∧ MV mX4_copyFrom := ⟨⟨gw_t 290 (by decide +kernel) rfl, gw_t 3 (by decide +kernel) rfl, by decide +kernel, by decide⟩, gw_t 289 (by decide +kernel) rfl, gw_s (by decide +kernel) rfl⟩
abbrev mX4_setRule : Mi := (yX4_setRule, cX4_setRule, 4, none)
theorem kX4_setRule : MI mX4_setRule 3 ∧ MV mX4_setRule := ⟨⟨gw_t 302 (by decide +kernel) rfl, gw_t 3 (by decide +kernel) rfl, by decide +kernel, by decide⟩, gw_t 301 (by decide +kernel) rfl, gw_s (by decide +kernel) rfl⟩
abbrev mX4_addSection : Mi := (yX4_addSection, cX4_addSection, 3, none)
theorem kX4_addSection : MI mX4_addSection 2 ∧ MV mX4_addSection := ⟨⟨gw_t 394 (by decide +kernel) rfl, gw_t 3 (by decide +kernel) rfl, by decide +kernel, by decide⟩, gw_t 393 (by decide +kernel) rfl, gw_s (by decide +kernel) rfl⟩
abbrev mX4_join : Mi := (yX4_join, cX4_join, 3, none)
theorem kX4_join : MI mX4_join 2 ∧ MV mX4_join := ⟨⟨gw_t 403 (by decide +kernel) rfl, gw_t 3 (by decide +kernel) rfl, by decide +kernel, by decide⟩, gw_t 402 (by decide +kernel) rfl, gw_s (by decide +kernel) rfl⟩
abbrev mX4_joints : Mi := (yX4_joints, cX4_joints, 3, (some .int))
theorem kX4_joints : MI mX4_joints 0 ∧ MV mX4_joints := ⟨⟨gw_t 740 (by decide +kernel) rfl, gw_t 3 (by decide +kernel) rfl, by decide +kernel, by decide⟩, gw_t 739 (by decide +kernel) rfl, gw_s (by decide +kernel) rfl⟩
abbrev mX5_init : Mi := (yX5_init, cX5_init, 3, none)
theorem kX5_init : MI mX5_init 2 ∧ Cond.instanceMethod mX5_init.1 ∈ GW := ⟨⟨gw_t 129 (by decide +kernel) rfl, gw_t 5 (by decide +kernel) rfl, by decide +kernel, by decide⟩, gw_t 128 (by decide +kernel) rfl⟩
abbrev mX5_read : Mi := (yX5_read, cX5_read, 3, (some .int))
theorem kX5_read : MI mX5_read 1 ∧ MV mX5_read := ⟨⟨gw_t 286 (by decide +kernel) rfl, gw_t 5 (by decide +kernel) rfl, by decide +kernel, by decide⟩, gw_t 285 (by decide +kernel) rfl, gw_s (by decide +kernel) rfl⟩
abbrev mX5_clauseStands : Mi := (yX5_clauseStands, cX5_clauseStands, 1, (some .boolean))
theorem kX5_clauseStands : MI mX5_clauseStands 0 ∧ MV mX5_clauseStands := ⟨⟨gw_t 317 (by decide +kernel) rfl, gw_t 5 (by decide +kernel) rfl, by decide +kernel, by decide⟩, gw_t 316 (by decide +kernel) rfl, gw_s (by decide +kernel) rfl⟩
abbrev mX5_sectionStands : Mi := (yX5_sectionStands, cX5_sectionStands, 2, (some .boolean))
theorem kX5_sectionStands : MI mX5_sectionStands 0 ∧ MV mX5_sectionStands := ⟨⟨gw_t 386 (by decide +kernel) rfl, gw_t 5 (by decide +kernel) rfl, by decide +kernel, by decide⟩, gw_t 385 (by decide +kernel) rfl, gw_s (by decide +kernel) rfl⟩
abbrev mX5_jointStands : Mi := (yX5_jointStands, cX5_jointStands, 2, (some .boolean))
theorem kX5_jointStands : MI mX5_jointStands 0 ∧ MV mX5_jointStands := ⟨⟨gw_t 399 (by decide +kernel) rfl, gw_t 5 (by decide +kernel) rfl, by decide +kernel, by decide⟩, gw_t 398 (by decide +kernel) rfl, gw_s (by decide +kernel) rfl⟩
abbrev mX5_riserStands : Mi := (yX5_riserStands, cX5_riserStands, 3, (some .boolean))
theorem kX5_riserStands : MI mX5_riserStands 0 ∧ MV mX5_riserStands := ⟨⟨gw_t 408 (by decide +kernel) rfl, gw_t 5 (by decide +kernel) rfl, by decide +kernel, by decide⟩, gw_t 407 (by decide +kernel) rfl, gw_s (by decide +kernel) rfl⟩
abbrev mX5_chillStands : Mi := (yX5_chillStands, cX5_chillStands, 2, (some .boolean))
theorem kX5_chillStands : MI mX5_chillStands 0 ∧ MV mX5_chillStands := ⟨⟨gw_t 417 (by decide +kernel) rfl, gw_t 5 (by decide +kernel) rfl, by decide +kernel, by decide⟩, gw_t 416 (by decide +kernel) rfl, gw_s (by decide +kernel) rfl⟩
abbrev mX5_ruleStands : Mi := (yX5_ruleStands, cX5_ruleStands, 3, (some .boolean))
theorem kX5_ruleStands : MI mX5_ruleStands 0 ∧ MV mX5_ruleStands := ⟨⟨gw_t 422 (by decide +kernel) rfl, gw_t 5 (by decide +kernel) rfl, by decide +kernel, by decide⟩, gw_t 421 (by decide +kernel) rfl, gw_s (by decide +kernel) rfl⟩
abbrev mX5_numberStands : Mi := (yX5_numberStands, cX5_numberStands, 4, (some .boolean))
theorem kX5_numberStands : MI mX5_numberStands 2 ∧ MV mX5_numberStands := ⟨⟨gw_t 390 (by decide +kernel) rfl, gw_t 5 (by decide +kernel) rfl, by decide +kernel, by decide⟩, gw_t 389 (by decide +kernel) rfl, gw_s (by decide +kernel) rfl⟩
abbrev mX5_step : Mi := (yX5_step, cX5_step, 1, none)
theorem kX5_step : MI mX5_step 0 ∧ MV mX5_step := ⟨⟨gw_t 306 (by decide +kernel) rfl, gw_t 5 (by decide +kernel) rfl, by decide +kernel, by decide⟩, gw_t 305 (by decide +kernel) rfl, gw_s (by decide +kernel) rfl⟩
abbrev mX5_kindOf : Mi := (yX5_kindOf, cX5_kindOf, 1, (some .int))
theorem kX5_kindOf : MI mX5_kindOf 1 ∧ Cond.static mX5_kindOf.1 ∈ GW := ⟨⟨gw_t 313 (by decide +kernel) rfl, gw_t 5 (by decide +kernel) rfl, by decide +kernel, by decide⟩, gw_t 312 (by decide +kernel) rfl⟩
abbrev mX5_isSemicolon : Mi := (yX5_isSemicolon, cX5_isSemicolon, 1, (some .boolean))
theorem kX5_isSemicolon : MI mX5_isSemicolon 0 ∧ MV mX5_isSemicolon := ⟨⟨gw_t 427 (by decide +kernel) rfl, gw_t 5 (by decide +kernel) rfl, by decide +kernel, by decide⟩, gw_t 426 (by decide +kernel) rfl, gw_s (by decide +kernel) rfl⟩
abbrev mX5_isWord : Mi := (yX5_isWord, cX5_isWord, 3, (some .boolean))
theorem kX5_isWord : MI mX5_isWord 1 ∧ MV mX5_isWord := ⟨⟨gw_t 322 (by decide +kernel) rfl, gw_t 5 (by decide +kernel) rfl, by decide +kernel, by decide⟩, gw_t 321 (by decide +kernel) rfl, gw_s (by decide +kernel) rfl⟩
abbrev mX6_init : Mi := (yX6_init, cX6_init, 1, none)
theorem kX6_init : MI mX6_init 0 ∧ Cond.instanceMethod mX6_init.1 ∈ GW := ⟨⟨gw_t 30 (by decide +kernel) rfl, gw_t 2 (by decide +kernel) rfl, by decide +kernel, by decide⟩, gw_t 29 (by decide +kernel) rfl⟩
abbrev mX6_letterAt : Mi := (yX6_letterAt, cX6_letterAt, 2, (some .int))
theorem kX6_letterAt : MI mX6_letterAt 1 ∧ MV mX6_letterAt := ⟨⟨gw_t 310 (by decide +kernel) rfl, gw_t 2 (by decide +kernel) rfl, by decide +kernel, by decide⟩, gw_t 309 (by decide +kernel) rfl, gw_s (by decide +kernel) rfl⟩
abbrev mX7_init : Mi := (yX7_init, cX7_init, 2, none)
theorem kX7_init : MI mX7_init 0 ∧ Cond.instanceMethod mX7_init.1 ∈ GW := ⟨⟨gw_t 22 (by decide +kernel) rfl, gw_t 1 (by decide +kernel) rfl, by decide +kernel, by decide⟩, gw_t 21 (by decide +kernel) rfl⟩
abbrev mX7_write : Mi := (yX7_write, cX7_write, 2, (some .int))
theorem kX7_write : MI mX7_write 1 ∧ MV mX7_write := ⟨⟨gw_t 274 (by decide +kernel) rfl, gw_t 1 (by decide +kernel) rfl, by decide +kernel, by decide⟩, gw_t 272 (by decide +kernel) rfl, gw_t 273 (by decide +kernel) rfl⟩
abbrev mX7_erase : Mi := (yX7_erase, cX7_erase, 2, (some .int))
theorem kX7_erase : MI mX7_erase 0 ∧ MV mX7_erase := ⟨⟨gw_t 278 (by decide +kernel) rfl, gw_t 1 (by decide +kernel) rfl, by decide +kernel, by decide⟩, gw_t 276 (by decide +kernel) rfl, gw_t 277 (by decide +kernel) rfl⟩
abbrev mX7_fault : Mi := (yX7_fault, cX7_fault, 1, (some .int))
theorem kX7_fault : MI mX7_fault 0 ∧ MV mX7_fault := ⟨⟨gw_t 282 (by decide +kernel) rfl, gw_t 1 (by decide +kernel) rfl, by decide +kernel, by decide⟩, gw_t 280 (by decide +kernel) rfl, gw_t 281 (by decide +kernel) rfl⟩
abbrev mX7_casting : Mi := (yX7_casting, cX7_casting, 1, (some .int))
theorem kX7_casting : MI mX7_casting 0 ∧ MV mX7_casting := ⟨⟨gw_t 432 (by decide +kernel) rfl, gw_t 1 (by decide +kernel) rfl, by decide +kernel, by decide⟩, gw_t 430 (by decide +kernel) rfl, gw_t 431 (by decide +kernel) rfl⟩
abbrev mX7_section : Mi := (yX7_section, cX7_section, 3, (some .int))
theorem kX7_section : MI mX7_section 2 ∧ MV mX7_section := ⟨⟨gw_t 446 (by decide +kernel) rfl, gw_t 1 (by decide +kernel) rfl, by decide +kernel, by decide⟩, gw_t 444 (by decide +kernel) rfl, gw_t 445 (by decide +kernel) rfl⟩
abbrev mX7_top : Mi := (yX7_top, cX7_top, 3, (some .int))
theorem kX7_top : MI mX7_top 2 ∧ MV mX7_top := ⟨⟨gw_t 510 (by decide +kernel) rfl, gw_t 1 (by decide +kernel) rfl, by decide +kernel, by decide⟩, gw_t 508 (by decide +kernel) rfl, gw_t 509 (by decide +kernel) rfl⟩
abbrev mX7_riser : Mi := (yX7_riser, cX7_riser, 3, (some .int))
theorem kX7_riser : MI mX7_riser 2 ∧ MV mX7_riser := ⟨⟨gw_t 530 (by decide +kernel) rfl, gw_t 1 (by decide +kernel) rfl, by decide +kernel, by decide⟩, gw_t 528 (by decide +kernel) rfl, gw_t 529 (by decide +kernel) rfl⟩
abbrev mX7_put : Mi := (yX7_put, cX7_put, 4, (some .int))
theorem kX7_put : MI mX7_put 3 ∧ MV mX7_put := ⟨⟨gw_t 548 (by decide +kernel) rfl, gw_t 1 (by decide +kernel) rfl, by decide +kernel, by decide⟩, gw_t 546 (by decide +kernel) rfl, gw_t 547 (by decide +kernel) rfl⟩
abbrev mX7_take : Mi := (yX7_take, cX7_take, 2, (some .int))
theorem kX7_take : MI mX7_take 1 ∧ MV mX7_take := ⟨⟨gw_t 564 (by decide +kernel) rfl, gw_t 1 (by decide +kernel) rfl, by decide +kernel, by decide⟩, gw_t 562 (by decide +kernel) rfl, gw_t 563 (by decide +kernel) rfl⟩
abbrev mX7_move : Mi := (yX7_move, cX7_move, 4, (some .int))
theorem kX7_move : MI mX7_move 3 ∧ MV mX7_move := ⟨⟨gw_t 572 (by decide +kernel) rfl, gw_t 1 (by decide +kernel) rfl, by decide +kernel, by decide⟩, gw_t 570 (by decide +kernel) rfl, gw_t 571 (by decide +kernel) rfl⟩
abbrev mX7_chill : Mi := (yX7_chill, cX7_chill, 3, (some .int))
theorem kX7_chill : MI mX7_chill 2 ∧ MV mX7_chill := ⟨⟨gw_t 579 (by decide +kernel) rfl, gw_t 1 (by decide +kernel) rfl, by decide +kernel, by decide⟩, gw_t 577 (by decide +kernel) rfl, gw_t 578 (by decide +kernel) rfl⟩
abbrev mX7_undo : Mi := (yX7_undo, cX7_undo, 1, (some .int))
theorem kX7_undo : MI mX7_undo 0 ∧ MV mX7_undo := ⟨⟨gw_t 593 (by decide +kernel) rfl, gw_t 1 (by decide +kernel) rfl, by decide +kernel, by decide⟩, gw_t 591 (by decide +kernel) rfl, gw_t 592 (by decide +kernel) rfl⟩
abbrev mX7_keep : Mi := (yX7_keep, cX7_keep, 2, (some .int))
theorem kX7_keep : MI mX7_keep 1 ∧ MV mX7_keep := ⟨⟨gw_t 601 (by decide +kernel) rfl, gw_t 1 (by decide +kernel) rfl, by decide +kernel, by decide⟩, gw_t 599 (by decide +kernel) rfl, gw_t 600 (by decide +kernel) rfl⟩
abbrev mX7_back : Mi := (yX7_back, cX7_back, 2, (some .int))
theorem kX7_back : MI mX7_back 1 ∧ MV mX7_back := ⟨⟨gw_t 608 (by decide +kernel) rfl, gw_t 1 (by decide +kernel) rfl, by decide +kernel, by decide⟩, gw_t 606 (by decide +kernel) rfl, gw_t 607 (by decide +kernel) rfl⟩
abbrev mX7_order : Mi := (yX7_order, cX7_order, 2, (some .int))
theorem kX7_order : MI mX7_order 1 ∧ MV mX7_order := ⟨⟨gw_t 612 (by decide +kernel) rfl, gw_t 1 (by decide +kernel) rfl, by decide +kernel, by decide⟩, gw_t 610 (by decide +kernel) rfl, gw_t 611 (by decide +kernel) rfl⟩
abbrev mX7_pass : Mi := (yX7_pass, cX7_pass, 3, (some .int))
theorem kX7_pass : MI mX7_pass 2 ∧ MV mX7_pass := ⟨⟨gw_t 624 (by decide +kernel) rfl, gw_t 1 (by decide +kernel) rfl, by decide +kernel, by decide⟩, gw_t 622 (by decide +kernel) rfl, gw_t 623 (by decide +kernel) rfl⟩
abbrev mX7_need : Mi := (yX7_need, cX7_need, 3, (some .int))
theorem kX7_need : MI mX7_need 2 ∧ MV mX7_need := ⟨⟨gw_t 629 (by decide +kernel) rfl, gw_t 1 (by decide +kernel) rfl, by decide +kernel, by decide⟩, gw_t 627 (by decide +kernel) rfl, gw_t 628 (by decide +kernel) rfl⟩
abbrev mX7_best : Mi := (yX7_best, cX7_best, 4, (some .int))
theorem kX7_best : MI mX7_best 2 ∧ MV mX7_best := ⟨⟨gw_t 637 (by decide +kernel) rfl, gw_t 1 (by decide +kernel) rfl, by decide +kernel, by decide⟩, gw_t 635 (by decide +kernel) rfl, gw_t 636 (by decide +kernel) rfl⟩
abbrev mX7_least : Mi := (yX7_least, cX7_least, 3, (some .int))
theorem kX7_least : MI mX7_least 1 ∧ MV mX7_least := ⟨⟨gw_t 653 (by decide +kernel) rfl, gw_t 1 (by decide +kernel) rfl, by decide +kernel, by decide⟩, gw_t 651 (by decide +kernel) rfl, gw_t 652 (by decide +kernel) rfl⟩
abbrev mX7_bin : Mi := (yX7_bin, cX7_bin, 3, (some .int))
theorem kX7_bin : MI mX7_bin 2 ∧ MV mX7_bin := ⟨⟨gw_t 661 (by decide +kernel) rfl, gw_t 1 (by decide +kernel) rfl, by decide +kernel, by decide⟩, gw_t 659 (by decide +kernel) rfl, gw_t 660 (by decide +kernel) rfl⟩
abbrev mX7_addWhole : Mi := (yX7_addWhole, cX7_addWhole, 3, (some .int))
theorem kX7_addWhole : MI mX7_addWhole 2 ∧ MV mX7_addWhole := ⟨⟨gw_t 672 (by decide +kernel) rfl, gw_t 1 (by decide +kernel) rfl, by decide +kernel, by decide⟩, gw_t 670 (by decide +kernel) rfl, gw_t 671 (by decide +kernel) rfl⟩
abbrev mX7_addPair : Mi := (yX7_addPair, cX7_addPair, 4, (some .int))
theorem kX7_addPair : MI mX7_addPair 3 ∧ MV mX7_addPair := ⟨⟨gw_t 680 (by decide +kernel) rfl, gw_t 1 (by decide +kernel) rfl, by decide +kernel, by decide⟩, gw_t 678 (by decide +kernel) rfl, gw_t 679 (by decide +kernel) rfl⟩
abbrev mX7_find : Mi := (yX7_find, cX7_find, 4, (some .int))
theorem kX7_find : MI mX7_find 2 ∧ MV mX7_find := ⟨⟨gw_t 687 (by decide +kernel) rfl, gw_t 1 (by decide +kernel) rfl, by decide +kernel, by decide⟩, gw_t 685 (by decide +kernel) rfl, gw_t 686 (by decide +kernel) rfl⟩
abbrev mX7_pop : Mi := (yX7_pop, cX7_pop, 3, (some .int))
theorem kX7_pop : MI mX7_pop 1 ∧ MV mX7_pop := ⟨⟨gw_t 703 (by decide +kernel) rfl, gw_t 1 (by decide +kernel) rfl, by decide +kernel, by decide⟩, gw_t 701 (by decide +kernel) rfl, gw_t 702 (by decide +kernel) rfl⟩
abbrev mX7_sort : Mi := (yX7_sort, cX7_sort, 3, (some .int))
theorem kX7_sort : MI mX7_sort 1 ∧ MV mX7_sort := ⟨⟨gw_t 707 (by decide +kernel) rfl, gw_t 1 (by decide +kernel) rfl, by decide +kernel, by decide⟩, gw_t 705 (by decide +kernel) rfl, gw_t 706 (by decide +kernel) rfl⟩
abbrev mX7_pour : Mi := (yX7_pour, cX7_pour, 3, (some .int))
theorem kX7_pour : MI mX7_pour 2 ∧ MV mX7_pour := ⟨⟨gw_t 715 (by decide +kernel) rfl, gw_t 1 (by decide +kernel) rfl, by decide +kernel, by decide⟩, gw_t 713 (by decide +kernel) rfl, gw_t 714 (by decide +kernel) rfl⟩
abbrev mX7_sum : Mi := (yX7_sum, cX7_sum, 2, (some .int))
theorem kX7_sum : MI mX7_sum 1 ∧ MV mX7_sum := ⟨⟨gw_t 724 (by decide +kernel) rfl, gw_t 1 (by decide +kernel) rfl, by decide +kernel, by decide⟩, gw_t 722 (by decide +kernel) rfl, gw_t 723 (by decide +kernel) rfl⟩
abbrev mX7_drop : Mi := (yX7_drop, cX7_drop, 3, (some .int))
theorem kX7_drop : MI mX7_drop 1 ∧ MV mX7_drop := ⟨⟨gw_t 732 (by decide +kernel) rfl, gw_t 1 (by decide +kernel) rfl, by decide +kernel, by decide⟩, gw_t 730 (by decide +kernel) rfl, gw_t 731 (by decide +kernel) rfl⟩
abbrev mX7_count : Mi := (yX7_count, cX7_count, 2, (some .int))
theorem kX7_count : MI mX7_count 1 ∧ MV mX7_count := ⟨⟨gw_t 736 (by decide +kernel) rfl, gw_t 1 (by decide +kernel) rfl, by decide +kernel, by decide⟩, gw_t 734 (by decide +kernel) rfl, gw_t 735 (by decide +kernel) rfl⟩
abbrev mX7_isSection : Mi := (yX7_isSection, cX7_isSection, 2, (some .boolean))
theorem kX7_isSection : MI mX7_isSection 1 ∧ MV mX7_isSection := ⟨⟨gw_t 450 (by decide +kernel) rfl, gw_t 1 (by decide +kernel) rfl, by decide +kernel, by decide⟩, gw_t 449 (by decide +kernel) rfl, gw_s (by decide +kernel) rfl⟩
abbrev mX7_isRiser : Mi := (yX7_isRiser, cX7_isRiser, 2, (some .boolean))
theorem kX7_isRiser : MI mX7_isRiser 1 ∧ MV mX7_isRiser := ⟨⟨gw_t 534 (by decide +kernel) rfl, gw_t 1 (by decide +kernel) rfl, by decide +kernel, by decide⟩, gw_t 533 (by decide +kernel) rfl, gw_s (by decide +kernel) rfl⟩
abbrev mX7_isSize : Mi := (yX7_isSize, cX7_isSize, 1, (some .boolean))
theorem kX7_isSize : MI mX7_isSize 1 ∧ Cond.static mX7_isSize.1 ∈ GW := ⟨⟨gw_t 551 (by decide +kernel) rfl, gw_t 1 (by decide +kernel) rfl, by decide +kernel, by decide⟩, gw_t 550 (by decide +kernel) rfl⟩
abbrev mX7_isChillStep : Mi := (yX7_isChillStep, cX7_isChillStep, 1, (some .boolean))
theorem kX7_isChillStep : MI mX7_isChillStep 1 ∧ Cond.static mX7_isChillStep.1 ∈ GW := ⟨⟨gw_t 575 (by decide +kernel) rfl, gw_t 1 (by decide +kernel) rfl, by decide +kernel, by decide⟩, gw_t 574 (by decide +kernel) rfl⟩
abbrev mX7_isKeepPlace : Mi := (yX7_isKeepPlace, cX7_isKeepPlace, 1, (some .boolean))
theorem kX7_isKeepPlace : MI mX7_isKeepPlace 1 ∧ Cond.static mX7_isKeepPlace.1 ∈ GW := ⟨⟨gw_t 604 (by decide +kernel) rfl, gw_t 1 (by decide +kernel) rfl, by decide +kernel, by decide⟩, gw_t 603 (by decide +kernel) rfl⟩
abbrev mX7_isBin : Mi := (yX7_isBin, cX7_isBin, 1, (some .boolean))
theorem kX7_isBin : MI mX7_isBin 1 ∧ Cond.static mX7_isBin.1 ∈ GW := ⟨⟨gw_t 664 (by decide +kernel) rfl, gw_t 1 (by decide +kernel) rfl, by decide +kernel, by decide⟩, gw_t 663 (by decide +kernel) rfl⟩
abbrev mX7_isPairPart : Mi := (yX7_isPairPart, cX7_isPairPart, 1, (some .boolean))
theorem kX7_isPairPart : MI mX7_isPairPart 1 ∧ Cond.static mX7_isPairPart.1 ∈ GW := ⟨⟨gw_t 683 (by decide +kernel) rfl, gw_t 1 (by decide +kernel) rfl, by decide +kernel, by decide⟩, gw_t 682 (by decide +kernel) rfl⟩
abbrev mX7_oneIf : Mi := (yX7_oneIf, cX7_oneIf, 1, (some .int))
theorem kX7_oneIf : MI mX7_oneIf 1 ∧ Cond.static mX7_oneIf.1 ∈ GW := ⟨⟨gw_t 506 (by decide +kernel) rfl, gw_t 1 (by decide +kernel) rfl, by decide +kernel, by decide⟩, gw_t 505 (by decide +kernel) rfl⟩
abbrev mX7_forgetAll : Mi := (yX7_forgetAll, cX7_forgetAll, 2, none)
theorem kX7_forgetAll : MI mX7_forgetAll 0 ∧ MV mX7_forgetAll := ⟨⟨gw_t 438 (by decide +kernel) rfl, gw_t 1 (by decide +kernel) rfl, by decide +kernel, by decide⟩, gw_t 437 (by decide +kernel) rfl, gw_s (by decide +kernel) rfl⟩
abbrev mX7_countOfTops : Mi := (yX7_countOfTops, cX7_countOfTops, 2, (some .int))
theorem kX7_countOfTops : MI mX7_countOfTops 1 ∧ MV mX7_countOfTops := ⟨⟨gw_t 745 (by decide +kernel) rfl, gw_t 1 (by decide +kernel) rfl, by decide +kernel, by decide⟩, gw_t 744 (by decide +kernel) rfl, gw_s (by decide +kernel) rfl⟩
abbrev mX7_thingsOfAllBins : Mi := (yX7_thingsOfAllBins, cX7_thingsOfAllBins, 3, (some .int))
theorem kX7_thingsOfAllBins : MI mX7_thingsOfAllBins 0 ∧ MV mX7_thingsOfAllBins := ⟨⟨gw_t 754 (by decide +kernel) rfl, gw_t 1 (by decide +kernel) rfl, by decide +kernel, by decide⟩, gw_t 753 (by decide +kernel) rfl, gw_s (by decide +kernel) rfl⟩
abbrev mX8_init : Mi := (yX8_init, cX8_init, 1, none)
theorem kX8_init : MI mX8_init 0 ∧ Cond.instanceMethod mX8_init.1 ∈ GW := ⟨⟨gw_t 759 (by decide +kernel) rfl, gw_t 9 (by decide +kernel) rfl, by decide +kernel, by decide⟩, gw_t 758 (by decide +kernel) rfl⟩
abbrev mX8_in : Mi := (yX8_in, cX8_in, 6, (some .boolean))
theorem kX8_in : MI mX8_in 3 ∧ Cond.static mX8_in.1 ∈ GW := ⟨⟨gw_t 844 (by decide +kernel) rfl, gw_t 9 (by decide +kernel) rfl, by decide +kernel, by decide⟩, gw_t 843 (by decide +kernel) rfl⟩
abbrev mX8_has : Mi := (yX8_has, cX8_has, 2, (some .boolean))
theorem kX8_has : MI mX8_has 2 ∧ Cond.static mX8_has.1 ∈ GW := ⟨⟨gw_t 936 (by decide +kernel) rfl, gw_t 9 (by decide +kernel) rfl, by decide +kernel, by decide⟩, gw_t 935 (by decide +kernel) rfl⟩
abbrev mX8_ones : Mi := (yX8_ones, cX8_ones, 3, (some .int))
theorem kX8_ones : MI mX8_ones 1 ∧ Cond.static mX8_ones.1 ∈ GW := ⟨⟨gw_t 1030 (by decide +kernel) rfl, gw_t 9 (by decide +kernel) rfl, by decide +kernel, by decide⟩, gw_t 1029 (by decide +kernel) rfl⟩
abbrev mX8_copyRow : Mi := (yX8_copyRow, cX8_copyRow, 4, none)
theorem kX8_copyRow : MI mX8_copyRow 2 ∧ MV mX8_copyRow := ⟨⟨gw_t 910 (by decide +kernel) rfl, gw_t 9 (by decide +kernel) rfl, by decide +kernel, by decide⟩, gw_t 909 (by decide +kernel) rfl, gw_s (by decide +kernel) rfl⟩
abbrev mX8_anew : Mi := (yX8_anew, cX8_anew, 2, none)
theorem kX8_anew : MI mX8_anew 0 ∧ MV mX8_anew := ⟨⟨gw_t 898 (by decide +kernel) rfl, gw_t 9 (by decide +kernel) rfl, by decide +kernel, by decide⟩, gw_t 897 (by decide +kernel) rfl, gw_s (by decide +kernel) rfl⟩
abbrev mX8_write : Mi := (yX8_write, cX8_write, 2, (some .int))
theorem kX8_write : MI mX8_write 1 ∧ MV mX8_write := ⟨⟨gw_t 840 (by decide +kernel) rfl, gw_t 9 (by decide +kernel) rfl, by decide +kernel, by decide⟩, gw_t 838 (by decide +kernel) rfl, gw_t 839 (by decide +kernel) rfl⟩
abbrev mX8_erase : Mi := (yX8_erase, cX8_erase, 2, (some .int))
theorem kX8_erase : MI mX8_erase 0 ∧ MV mX8_erase := ⟨⟨gw_t 848 (by decide +kernel) rfl, gw_t 9 (by decide +kernel) rfl, by decide +kernel, by decide⟩, gw_t 846 (by decide +kernel) rfl, gw_t 847 (by decide +kernel) rfl⟩
abbrev mX8_isSmall : Mi := (yX8_isSmall, cX8_isSmall, 1, (some .boolean))
theorem kX8_isSmall : MI mX8_isSmall 1 ∧ Cond.static mX8_isSmall.1 ∈ GW := ⟨⟨gw_t 863 (by decide +kernel) rfl, gw_t 9 (by decide +kernel) rfl, by decide +kernel, by decide⟩, gw_t 862 (by decide +kernel) rfl⟩
abbrev mX8_isDigit : Mi := (yX8_isDigit, cX8_isDigit, 1, (some .boolean))
theorem kX8_isDigit : MI mX8_isDigit 1 ∧ Cond.static mX8_isDigit.1 ∈ GW := ⟨⟨gw_t 868 (by decide +kernel) rfl, gw_t 9 (by decide +kernel) rfl, by decide +kernel, by decide⟩, gw_t 867 (by decide +kernel) rfl⟩
abbrev mX8_nextToken : Mi := (yX8_nextToken, cX8_nextToken, 1, none)
theorem kX8_nextToken : MI mX8_nextToken 0 ∧ MV mX8_nextToken := ⟨⟨gw_t 860 (by decide +kernel) rfl, gw_t 9 (by decide +kernel) rfl, by decide +kernel, by decide⟩, gw_t 859 (by decide +kernel) rfl, gw_s (by decide +kernel) rfl⟩
abbrev mX8_wordHere : Mi := (yX8_wordHere, cX8_wordHere, 4, (some .int))
theorem kX8_wordHere : MI mX8_wordHere 0 ∧ MV mX8_wordHere := ⟨⟨gw_t 878 (by decide +kernel) rfl, gw_t 9 (by decide +kernel) rfl, by decide +kernel, by decide⟩, gw_t 877 (by decide +kernel) rfl, gw_s (by decide +kernel) rfl⟩
abbrev mX8_number : Mi := (yX8_number, cX8_number, 7, (some .boolean))
theorem kX8_number : MI mX8_number 4 ∧ MV mX8_number := ⟨⟨gw_t 886 (by decide +kernel) rfl, gw_t 9 (by decide +kernel) rfl, by decide +kernel, by decide⟩, gw_t 885 (by decide +kernel) rfl, gw_s (by decide +kernel) rfl⟩
abbrev mX8_readsSection : Mi := (yX8_readsSection, cX8_readsSection, 3, (some .boolean))
theorem kX8_readsSection : MI mX8_readsSection 2 ∧ MV mX8_readsSection := ⟨⟨gw_t 890 (by decide +kernel) rfl, gw_t 9 (by decide +kernel) rfl, by decide +kernel, by decide⟩, gw_t 889 (by decide +kernel) rfl, gw_s (by decide +kernel) rfl⟩
abbrev mX8_readsRest : Mi := (yX8_readsRest, cX8_readsRest, 2, (some .boolean))
theorem kX8_readsRest : MI mX8_readsRest 1 ∧ MV mX8_readsRest := ⟨⟨gw_t 882 (by decide +kernel) rfl, gw_t 9 (by decide +kernel) rfl, by decide +kernel, by decide⟩, gw_t 881 (by decide +kernel) rfl, gw_s (by decide +kernel) rfl⟩
abbrev mX8_addRiser : Mi := (yX8_addRiser, cX8_addRiser, 5, none)
theorem kX8_addRiser : MI mX8_addRiser 3 ∧ MV mX8_addRiser := ⟨⟨gw_t 902 (by decide +kernel) rfl, gw_t 9 (by decide +kernel) rfl, by decide +kernel, by decide⟩, gw_t 901 (by decide +kernel) rfl, gw_s (by decide +kernel) rfl⟩
abbrev mX8_does : Mi := (yX8_does, cX8_does, 2, none)
theorem kX8_does : MI mX8_does 1 ∧ MV mX8_does := ⟨⟨gw_t 894 (by decide +kernel) rfl, gw_t 9 (by decide +kernel) rfl, by decide +kernel, by decide⟩, gw_t 893 (by decide +kernel) rfl, gw_s (by decide +kernel) rfl⟩
abbrev mX8_readsClause : Mi := (yX8_readsClause, cX8_readsClause, 2, (some .boolean))
theorem kX8_readsClause : MI mX8_readsClause 0 ∧ MV mX8_readsClause := ⟨⟨gw_t 874 (by decide +kernel) rfl, gw_t 9 (by decide +kernel) rfl, by decide +kernel, by decide⟩, gw_t 873 (by decide +kernel) rfl, gw_s (by decide +kernel) rfl⟩
abbrev mX8_reads : Mi := (yX8_reads, cX8_reads, 3, (some .boolean))
theorem kX8_reads : MI mX8_reads 1 ∧ MV mX8_reads := ⟨⟨gw_t 856 (by decide +kernel) rfl, gw_t 9 (by decide +kernel) rfl, by decide +kernel, by decide⟩, gw_t 855 (by decide +kernel) rfl, gw_s (by decide +kernel) rfl⟩
abbrev mX8_fault : Mi := (yX8_fault, cX8_fault, 1, (some .int))
theorem kX8_fault : MI mX8_fault 0 ∧ MV mX8_fault := ⟨⟨gw_t 852 (by decide +kernel) rfl, gw_t 9 (by decide +kernel) rfl, by decide +kernel, by decide⟩, gw_t 850 (by decide +kernel) rfl, gw_t 851 (by decide +kernel) rfl⟩
abbrev mX8_casting : Mi := (yX8_casting, cX8_casting, 2, (some .int))
theorem kX8_casting : MI mX8_casting 0 ∧ MV mX8_casting := ⟨⟨gw_t 906 (by decide +kernel) rfl, gw_t 9 (by decide +kernel) rfl, by decide +kernel, by decide⟩, gw_t 904 (by decide +kernel) rfl, gw_t 905 (by decide +kernel) rfl⟩
abbrev mX8_isSection : Mi := (yX8_isSection, cX8_isSection, 2, (some .boolean))
theorem kX8_isSection : MI mX8_isSection 1 ∧ MV mX8_isSection := ⟨⟨gw_t 918 (by decide +kernel) rfl, gw_t 9 (by decide +kernel) rfl, by decide +kernel, by decide⟩, gw_t 917 (by decide +kernel) rfl, gw_s (by decide +kernel) rfl⟩
abbrev mX8_skinOf : Mi := (yX8_skinOf, cX8_skinOf, 2, (some .int))
theorem kX8_skinOf : MI mX8_skinOf 1 ∧ MV mX8_skinOf := ⟨⟨gw_t 922 (by decide +kernel) rfl, gw_t 9 (by decide +kernel) rfl, by decide +kernel, by decide⟩, gw_t 921 (by decide +kernel) rfl, gw_s (by decide +kernel) rfl⟩
abbrev mX8_isLater : Mi := (yX8_isLater, cX8_isLater, 5, (some .boolean))
theorem kX8_isLater : MI mX8_isLater 2 ∧ MV mX8_isLater := ⟨⟨gw_t 940 (by decide +kernel) rfl, gw_t 9 (by decide +kernel) rfl, by decide +kernel, by decide⟩, gw_t 939 (by decide +kernel) rfl, gw_s (by decide +kernel) rfl⟩
abbrev mX8_latest : Mi := (yX8_latest, cX8_latest, 4, (some .int))
theorem kX8_latest : MI mX8_latest 1 ∧ MV mX8_latest := ⟨⟨gw_t 933 (by decide +kernel) rfl, gw_t 9 (by decide +kernel) rfl, by decide +kernel, by decide⟩, gw_t 932 (by decide +kernel) rfl, gw_s (by decide +kernel) rfl⟩
abbrev mX8_divisor : Mi := (yX8_divisor, cX8_divisor, 5, (some .int))
theorem kX8_divisor : MI mX8_divisor 2 ∧ Cond.static mX8_divisor.1 ∈ GW := ⟨⟨gw_t 925 (by decide +kernel) rfl, gw_t 9 (by decide +kernel) rfl, by decide +kernel, by decide⟩, gw_t 924 (by decide +kernel) rfl⟩
abbrev mX8_isTop : Mi := (yX8_isTop, cX8_isTop, 3, (some .boolean))
theorem kX8_isTop : MI mX8_isTop 1 ∧ MV mX8_isTop := ⟨⟨gw_t 929 (by decide +kernel) rfl, gw_t 9 (by decide +kernel) rfl, by decide +kernel, by decide⟩, gw_t 928 (by decide +kernel) rfl, gw_s (by decide +kernel) rfl⟩
abbrev mX8_tops : Mi := (yX8_tops, cX8_tops, 3, (some .int))
theorem kX8_tops : MI mX8_tops 0 ∧ MV mX8_tops := ⟨⟨gw_t 965 (by decide +kernel) rfl, gw_t 9 (by decide +kernel) rfl, by decide +kernel, by decide⟩, gw_t 964 (by decide +kernel) rfl, gw_s (by decide +kernel) rfl⟩
abbrev mX8_topOf : Mi := (yX8_topOf, cX8_topOf, 3, (some .int))
theorem kX8_topOf : MI mX8_topOf 1 ∧ MV mX8_topOf := ⟨⟨gw_t 944 (by decide +kernel) rfl, gw_t 9 (by decide +kernel) rfl, by decide +kernel, by decide⟩, gw_t 943 (by decide +kernel) rfl, gw_s (by decide +kernel) rfl⟩
abbrev mX8_basin : Mi := (yX8_basin, cX8_basin, 4, (some .int))
theorem kX8_basin : MI mX8_basin 1 ∧ MV mX8_basin := ⟨⟨gw_t 973 (by decide +kernel) rfl, gw_t 9 (by decide +kernel) rfl, by decide +kernel, by decide⟩, gw_t 972 (by decide +kernel) rfl, gw_s (by decide +kernel) rfl⟩
abbrev mX8_passOf : Mi := (yX8_passOf, cX8_passOf, 8, (some .int))
theorem kX8_passOf : MI mX8_passOf 2 ∧ MV mX8_passOf := ⟨⟨gw_t 969 (by decide +kernel) rfl, gw_t 9 (by decide +kernel) rfl, by decide +kernel, by decide⟩, gw_t 968 (by decide +kernel) rfl, gw_s (by decide +kernel) rfl⟩
abbrev mX8_isHigh : Mi := (yX8_isHigh, cX8_isHigh, 3, (some .boolean))
theorem kX8_isHigh : MI mX8_isHigh 2 ∧ MV mX8_isHigh := ⟨⟨gw_t 977 (by decide +kernel) rfl, gw_t 9 (by decide +kernel) rfl, by decide +kernel, by decide⟩, gw_t 976 (by decide +kernel) rfl, gw_s (by decide +kernel) rfl⟩
abbrev mX8_drownedIn : Mi := (yX8_drownedIn, cX8_drownedIn, 6, (some .int))
theorem kX8_drownedIn : MI mX8_drownedIn 1 ∧ MV mX8_drownedIn := ⟨⟨gw_t 961 (by decide +kernel) rfl, gw_t 9 (by decide +kernel) rfl, by decide +kernel, by decide⟩, gw_t 960 (by decide +kernel) rfl, gw_s (by decide +kernel) rfl⟩
abbrev mX8_head : Mi := (yX8_head, cX8_head, 4, (some .int))
theorem kX8_head : MI mX8_head 1 ∧ MV mX8_head := ⟨⟨gw_t 957 (by decide +kernel) rfl, gw_t 9 (by decide +kernel) rfl, by decide +kernel, by decide⟩, gw_t 956 (by decide +kernel) rfl, gw_s (by decide +kernel) rfl⟩
abbrev mX8_layHeads : Mi := (yX8_layHeads, cX8_layHeads, 2, none)
theorem kX8_layHeads : MI mX8_layHeads 0 ∧ MV mX8_layHeads := ⟨⟨gw_t 953 (by decide +kernel) rfl, gw_t 9 (by decide +kernel) rfl, by decide +kernel, by decide⟩, gw_t 952 (by decide +kernel) rfl, gw_s (by decide +kernel) rfl⟩
abbrev mX8_outlasts : Mi := (yX8_outlasts, cX8_outlasts, 4, (some .boolean))
theorem kX8_outlasts : MI mX8_outlasts 3 ∧ MV mX8_outlasts := ⟨⟨gw_t 989 (by decide +kernel) rfl, gw_t 9 (by decide +kernel) rfl, by decide +kernel, by decide⟩, gw_t 988 (by decide +kernel) rfl, gw_s (by decide +kernel) rfl⟩
abbrev mX8_feeder : Mi := (yX8_feeder, cX8_feeder, 4, (some .int))
theorem kX8_feeder : MI mX8_feeder 2 ∧ MV mX8_feeder := ⟨⟨gw_t 985 (by decide +kernel) rfl, gw_t 9 (by decide +kernel) rfl, by decide +kernel, by decide⟩, gw_t 984 (by decide +kernel) rfl, gw_s (by decide +kernel) rfl⟩
abbrev mX8_fedBy : Mi := (yX8_fedBy, cX8_fedBy, 5, (some .int))
theorem kX8_fedBy : MI mX8_fedBy 1 ∧ MV mX8_fedBy := ⟨⟨gw_t 1005 (by decide +kernel) rfl, gw_t 9 (by decide +kernel) rfl, by decide +kernel, by decide⟩, gw_t 1004 (by decide +kernel) rfl, gw_s (by decide +kernel) rfl⟩
abbrev mX8_allRisers : Mi := (yX8_allRisers, cX8_allRisers, 1, (some .int))
theorem kX8_allRisers : MI mX8_allRisers 0 ∧ MV mX8_allRisers := ⟨⟨gw_t 981 (by decide +kernel) rfl, gw_t 9 (by decide +kernel) rfl, by decide +kernel, by decide⟩, gw_t 980 (by decide +kernel) rfl, gw_s (by decide +kernel) rfl⟩
abbrev mX8_fed : Mi := (yX8_fed, cX8_fed, 1, (some .int))
theorem kX8_fed : MI mX8_fed 0 ∧ MV mX8_fed := ⟨⟨gw_t 1001 (by decide +kernel) rfl, gw_t 9 (by decide +kernel) rfl, by decide +kernel, by decide⟩, gw_t 1000 (by decide +kernel) rfl, gw_s (by decide +kernel) rfl⟩
abbrev mX8_section : Mi := (yX8_section, cX8_section, 3, (some .int))
theorem kX8_section : MI mX8_section 2 ∧ MV mX8_section := ⟨⟨gw_t 914 (by decide +kernel) rfl, gw_t 9 (by decide +kernel) rfl, by decide +kernel, by decide⟩, gw_t 912 (by decide +kernel) rfl, gw_t 913 (by decide +kernel) rfl⟩
abbrev mX8_top : Mi := (yX8_top, cX8_top, 4, (some .int))
theorem kX8_top : MI mX8_top 2 ∧ MV mX8_top := ⟨⟨gw_t 948 (by decide +kernel) rfl, gw_t 9 (by decide +kernel) rfl, by decide +kernel, by decide⟩, gw_t 946 (by decide +kernel) rfl, gw_t 947 (by decide +kernel) rfl⟩
abbrev mX8_isRiser : Mi := (yX8_isRiser, cX8_isRiser, 2, (some .boolean))
theorem kX8_isRiser : MI mX8_isRiser 1 ∧ MV mX8_isRiser := ⟨⟨gw_t 997 (by decide +kernel) rfl, gw_t 9 (by decide +kernel) rfl, by decide +kernel, by decide⟩, gw_t 996 (by decide +kernel) rfl, gw_s (by decide +kernel) rfl⟩
abbrev mX8_riser : Mi := (yX8_riser, cX8_riser, 3, (some .int))
theorem kX8_riser : MI mX8_riser 2 ∧ MV mX8_riser := ⟨⟨gw_t 993 (by decide +kernel) rfl, gw_t 9 (by decide +kernel) rfl, by decide +kernel, by decide⟩, gw_t 991 (by decide +kernel) rfl, gw_t 992 (by decide +kernel) rfl⟩
abbrev mX8_keepPast : Mi := (yX8_keepPast, cX8_keepPast, 2, none)
theorem kX8_keepPast : MI mX8_keepPast 0 ∧ MV mX8_keepPast := ⟨⟨gw_t 1014 (by decide +kernel) rfl, gw_t 9 (by decide +kernel) rfl, by decide +kernel, by decide⟩, gw_t 1013 (by decide +kernel) rfl, gw_s (by decide +kernel) rfl⟩
abbrev mX8_put : Mi := (yX8_put, cX8_put, 4, (some .int))
theorem kX8_put : MI mX8_put 3 ∧ MV mX8_put := ⟨⟨gw_t 1009 (by decide +kernel) rfl, gw_t 9 (by decide +kernel) rfl, by decide +kernel, by decide⟩, gw_t 1007 (by decide +kernel) rfl, gw_t 1008 (by decide +kernel) rfl⟩
abbrev mX8_take : Mi := (yX8_take, cX8_take, 3, (some .int))
theorem kX8_take : MI mX8_take 1 ∧ MV mX8_take := ⟨⟨gw_t 1018 (by decide +kernel) rfl, gw_t 9 (by decide +kernel) rfl, by decide +kernel, by decide⟩, gw_t 1016 (by decide +kernel) rfl, gw_t 1017 (by decide +kernel) rfl⟩
abbrev mX8_move : Mi := (yX8_move, cX8_move, 4, (some .int))
theorem kX8_move : MI mX8_move 3 ∧ MV mX8_move := ⟨⟨gw_t 1022 (by decide +kernel) rfl, gw_t 9 (by decide +kernel) rfl, by decide +kernel, by decide⟩, gw_t 1020 (by decide +kernel) rfl, gw_t 1021 (by decide +kernel) rfl⟩
abbrev mX8_chill : Mi := (yX8_chill, cX8_chill, 3, (some .int))
theorem kX8_chill : MI mX8_chill 2 ∧ MV mX8_chill := ⟨⟨gw_t 1027 (by decide +kernel) rfl, gw_t 9 (by decide +kernel) rfl, by decide +kernel, by decide⟩, gw_t 1025 (by decide +kernel) rfl, gw_t 1026 (by decide +kernel) rfl⟩
abbrev mX8_undo : Mi := (yX8_undo, cX8_undo, 1, (some .int))
theorem kX8_undo : MI mX8_undo 0 ∧ MV mX8_undo := ⟨⟨gw_t 1034 (by decide +kernel) rfl, gw_t 9 (by decide +kernel) rfl, by decide +kernel, by decide⟩, gw_t 1032 (by decide +kernel) rfl, gw_t 1033 (by decide +kernel) rfl⟩
abbrev mX8_keep : Mi := (yX8_keep, cX8_keep, 2, (some .int))
theorem kX8_keep : MI mX8_keep 1 ∧ MV mX8_keep := ⟨⟨gw_t 1038 (by decide +kernel) rfl, gw_t 9 (by decide +kernel) rfl, by decide +kernel, by decide⟩, gw_t 1036 (by decide +kernel) rfl, gw_t 1037 (by decide +kernel) rfl⟩
abbrev mX8_back : Mi := (yX8_back, cX8_back, 2, (some .int))
theorem kX8_back : MI mX8_back 1 ∧ MV mX8_back := ⟨⟨gw_t 1042 (by decide +kernel) rfl, gw_t 9 (by decide +kernel) rfl, by decide +kernel, by decide⟩, gw_t 1040 (by decide +kernel) rfl, gw_t 1041 (by decide +kernel) rfl⟩
abbrev mX8_order : Mi := (yX8_order, cX8_order, 5, (some .int))
theorem kX8_order : MI mX8_order 1 ∧ MV mX8_order := ⟨⟨gw_t 1046 (by decide +kernel) rfl, gw_t 9 (by decide +kernel) rfl, by decide +kernel, by decide⟩, gw_t 1044 (by decide +kernel) rfl, gw_t 1045 (by decide +kernel) rfl⟩
abbrev mX8_pass : Mi := (yX8_pass, cX8_pass, 5, (some .int))
theorem kX8_pass : MI mX8_pass 2 ∧ MV mX8_pass := ⟨⟨gw_t 1050 (by decide +kernel) rfl, gw_t 9 (by decide +kernel) rfl, by decide +kernel, by decide⟩, gw_t 1048 (by decide +kernel) rfl, gw_t 1049 (by decide +kernel) rfl⟩
abbrev mX8_need : Mi := (yX8_need, cX8_need, 4, (some .int))
theorem kX8_need : MI mX8_need 2 ∧ MV mX8_need := ⟨⟨gw_t 1054 (by decide +kernel) rfl, gw_t 9 (by decide +kernel) rfl, by decide +kernel, by decide⟩, gw_t 1052 (by decide +kernel) rfl, gw_t 1053 (by decide +kernel) rfl⟩
abbrev mX8_best : Mi := (yX8_best, cX8_best, 8, (some .int))
theorem kX8_best : MI mX8_best 2 ∧ MV mX8_best := ⟨⟨gw_t 1058 (by decide +kernel) rfl, gw_t 9 (by decide +kernel) rfl, by decide +kernel, by decide⟩, gw_t 1056 (by decide +kernel) rfl, gw_t 1057 (by decide +kernel) rfl⟩
abbrev mX8_least : Mi := (yX8_least, cX8_least, 5, (some .int))
theorem kX8_least : MI mX8_least 1 ∧ MV mX8_least := ⟨⟨gw_t 1062 (by decide +kernel) rfl, gw_t 9 (by decide +kernel) rfl, by decide +kernel, by decide⟩, gw_t 1060 (by decide +kernel) rfl, gw_t 1061 (by decide +kernel) rfl⟩
abbrev mX8_isBin : Mi := (yX8_isBin, cX8_isBin, 1, (some .boolean))
theorem kX8_isBin : MI mX8_isBin 1 ∧ Cond.static mX8_isBin.1 ∈ GW := ⟨⟨gw_t 1069 (by decide +kernel) rfl, gw_t 9 (by decide +kernel) rfl, by decide +kernel, by decide⟩, gw_t 1068 (by decide +kernel) rfl⟩
abbrev mX8_bin : Mi := (yX8_bin, cX8_bin, 3, (some .int))
theorem kX8_bin : MI mX8_bin 2 ∧ MV mX8_bin := ⟨⟨gw_t 1066 (by decide +kernel) rfl, gw_t 9 (by decide +kernel) rfl, by decide +kernel, by decide⟩, gw_t 1064 (by decide +kernel) rfl, gw_t 1065 (by decide +kernel) rfl⟩
abbrev mX8_add : Mi := (yX8_add, cX8_add, 4, (some .int))
theorem kX8_add : MI mX8_add 3 ∧ MV mX8_add := ⟨⟨gw_t 1080 (by decide +kernel) rfl, gw_t 9 (by decide +kernel) rfl, by decide +kernel, by decide⟩, gw_t 1079 (by decide +kernel) rfl, gw_s (by decide +kernel) rfl⟩
abbrev mX8_addWhole : Mi := (yX8_addWhole, cX8_addWhole, 3, (some .int))
theorem kX8_addWhole : MI mX8_addWhole 2 ∧ MV mX8_addWhole := ⟨⟨gw_t 1074 (by decide +kernel) rfl, gw_t 9 (by decide +kernel) rfl, by decide +kernel, by decide⟩, gw_t 1072 (by decide +kernel) rfl, gw_t 1073 (by decide +kernel) rfl⟩
abbrev mX8_addPair : Mi := (yX8_addPair, cX8_addPair, 4, (some .int))
theorem kX8_addPair : MI mX8_addPair 3 ∧ MV mX8_addPair := ⟨⟨gw_t 1084 (by decide +kernel) rfl, gw_t 9 (by decide +kernel) rfl, by decide +kernel, by decide⟩, gw_t 1082 (by decide +kernel) rfl, gw_t 1083 (by decide +kernel) rfl⟩
abbrev mX8_find : Mi := (yX8_find, cX8_find, 5, (some .int))
theorem kX8_find : MI mX8_find 2 ∧ MV mX8_find := ⟨⟨gw_t 1088 (by decide +kernel) rfl, gw_t 9 (by decide +kernel) rfl, by decide +kernel, by decide⟩, gw_t 1086 (by decide +kernel) rfl, gw_t 1087 (by decide +kernel) rfl⟩
abbrev mX8_pop : Mi := (yX8_pop, cX8_pop, 2, (some .int))
theorem kX8_pop : MI mX8_pop 1 ∧ MV mX8_pop := ⟨⟨gw_t 1092 (by decide +kernel) rfl, gw_t 9 (by decide +kernel) rfl, by decide +kernel, by decide⟩, gw_t 1090 (by decide +kernel) rfl, gw_t 1091 (by decide +kernel) rfl⟩
abbrev mX8_sort : Mi := (yX8_sort, cX8_sort, 5, (some .int))
theorem kX8_sort : MI mX8_sort 1 ∧ MV mX8_sort := ⟨⟨gw_t 1096 (by decide +kernel) rfl, gw_t 9 (by decide +kernel) rfl, by decide +kernel, by decide⟩, gw_t 1094 (by decide +kernel) rfl, gw_t 1095 (by decide +kernel) rfl⟩
abbrev mX8_pour : Mi := (yX8_pour, cX8_pour, 4, (some .int))
theorem kX8_pour : MI mX8_pour 2 ∧ MV mX8_pour := ⟨⟨gw_t 1100 (by decide +kernel) rfl, gw_t 9 (by decide +kernel) rfl, by decide +kernel, by decide⟩, gw_t 1098 (by decide +kernel) rfl, gw_t 1099 (by decide +kernel) rfl⟩
abbrev mX8_sum : Mi := (yX8_sum, cX8_sum, 4, (some .int))
theorem kX8_sum : MI mX8_sum 1 ∧ MV mX8_sum := ⟨⟨gw_t 1104 (by decide +kernel) rfl, gw_t 9 (by decide +kernel) rfl, by decide +kernel, by decide⟩, gw_t 1102 (by decide +kernel) rfl, gw_t 1103 (by decide +kernel) rfl⟩
abbrev mX8_drop : Mi := (yX8_drop, cX8_drop, 3, (some .int))
theorem kX8_drop : MI mX8_drop 1 ∧ MV mX8_drop := ⟨⟨gw_t 1108 (by decide +kernel) rfl, gw_t 9 (by decide +kernel) rfl, by decide +kernel, by decide⟩, gw_t 1106 (by decide +kernel) rfl, gw_t 1107 (by decide +kernel) rfl⟩
abbrev mX8_joints : Mi := (yX8_joints, cX8_joints, 3, (some .int))
theorem kX8_joints : MI mX8_joints 0 ∧ MV mX8_joints := ⟨⟨gw_t 1116 (by decide +kernel) rfl, gw_t 9 (by decide +kernel) rfl, by decide +kernel, by decide⟩, gw_t 1115 (by decide +kernel) rfl, gw_s (by decide +kernel) rfl⟩
abbrev mX8_drowned : Mi := (yX8_drowned, cX8_drowned, 4, (some .int))
theorem kX8_drowned : MI mX8_drowned 0 ∧ MV mX8_drowned := ⟨⟨gw_t 1120 (by decide +kernel) rfl, gw_t 9 (by decide +kernel) rfl, by decide +kernel, by decide⟩, gw_t 1119 (by decide +kernel) rfl, gw_s (by decide +kernel) rfl⟩
abbrev mX8_allThings : Mi := (yX8_allThings, cX8_allThings, 3, (some .int))
theorem kX8_allThings : MI mX8_allThings 0 ∧ MV mX8_allThings := ⟨⟨gw_t 1124 (by decide +kernel) rfl, gw_t 9 (by decide +kernel) rfl, by decide +kernel, by decide⟩, gw_t 1123 (by decide +kernel) rfl, gw_s (by decide +kernel) rfl⟩
abbrev mX8_count : Mi := (yX8_count, cX8_count, 2, (some .int))
theorem kX8_count : MI mX8_count 1 ∧ MV mX8_count := ⟨⟨gw_t 1112 (by decide +kernel) rfl, gw_t 9 (by decide +kernel) rfl, by decide +kernel, by decide⟩, gw_t 1110 (by decide +kernel) rfl, gw_t 1111 (by decide +kernel) rfl⟩
abbrev mJ6_bitCount_0f7a4 : Mi := (yJ6_bitCount_0f7a4, cJ6_bitCount_0f7a4, 1, (some .int))
theorem kJ6_bitCount_0f7a4 : MI mJ6_bitCount_0f7a4 1 ∧ Cond.static mJ6_bitCount_0f7a4.1 ∈ GW := ⟨⟨gw_t 586 (by decide +kernel) rfl, gw_t 17 (by decide +kernel) rfl, by decide +kernel, by decide⟩, gw_t 585 (by decide +kernel) rfl⟩
abbrev mJ9_max_7cf53 : Mi := (yJ9_max_7cf53, cJ9_max_7cf53, 2, (some .int))
theorem kJ9_max_7cf53 : MI mJ9_max_7cf53 2 ∧ Cond.static mJ9_max_7cf53.1 ∈ GW := ⟨⟨gw_t 694 (by decide +kernel) rfl, gw_t 16 (by decide +kernel) rfl, by decide +kernel, by decide⟩, gw_t 693 (by decide +kernel) rfl⟩
abbrev mJ9_min_7cf53 : Mi := (yJ9_min_7cf53, cJ9_min_7cf53, 2, (some .int))
theorem kJ9_min_7cf53 : MI mJ9_min_7cf53 2 ∧ Cond.static mJ9_min_7cf53.1 ∈ GW := ⟨⟨gw_t 559 (by decide +kernel) rfl, gw_t 16 (by decide +kernel) rfl, by decide +kernel, by decide⟩, gw_t 558 (by decide +kernel) rfl⟩
abbrev mJ0_length_8abf5 : Mi := (yJ0_length_8abf5, cJ0_length_8abf5, 1, (some .int))
theorem kJ0_length_8abf5 : MI mJ0_length_8abf5 0 ∧ MV mJ0_length_8abf5 := ⟨⟨gw_t 326 (by decide +kernel) rfl, gw_t 11 (by decide +kernel) rfl, by decide +kernel, by decide⟩, gw_t 324 (by decide +kernel) rfl, gw_t 325 (by decide +kernel) rfl⟩
abbrev mJ0_charAt_5068e : Mi := (yJ0_charAt_5068e, cJ0_charAt_5068e, 2, (some .char))
theorem kJ0_charAt_5068e : MI mJ0_charAt_5068e 1 ∧ MV mJ0_charAt_5068e := ⟨⟨gw_t 336 (by decide +kernel) rfl, gw_t 11 (by decide +kernel) rfl, by decide +kernel, by decide⟩, gw_t 334 (by decide +kernel) rfl, gw_t 335 (by decide +kernel) rfl⟩
abbrev mJ0_coder_7d493 : Mi := (yJ0_coder_7d493, cJ0_coder_7d493, 1, (some .byte))
theorem kJ0_coder_7d493 : MI mJ0_coder_7d493 0 ∧ MV mJ0_coder_7d493 := ⟨⟨gw_t 330 (by decide +kernel) rfl, gw_t 11 (by decide +kernel) rfl, by decide +kernel, by decide⟩, gw_t 328 (by decide +kernel) rfl, gw_t 329 (by decide +kernel) rfl⟩
abbrev mJ0_isLatin1_aae02 : Mi := (yJ0_isLatin1_aae02, cJ0_isLatin1_aae02, 1, (some .boolean))
theorem kJ0_isLatin1_aae02 : MI mJ0_isLatin1_aae02 0 ∧ MV mJ0_isLatin1_aae02 := ⟨⟨gw_t 340 (by decide +kernel) rfl, gw_t 11 (by decide +kernel) rfl, by decide +kernel, by decide⟩, gw_t 338 (by decide +kernel) rfl, gw_t 339 (by decide +kernel) rfl⟩
abbrev mJ1_charAt_3b067 : Mi := (yJ1_charAt_3b067, cJ1_charAt_3b067, 2, (some .char))
theorem kJ1_charAt_3b067 : MI mJ1_charAt_3b067 2 ∧ Cond.static mJ1_charAt_3b067.1 ∈ GW := ⟨⟨gw_t 343 (by decide +kernel) rfl, gw_t 12 (by decide +kernel) rfl, by decide +kernel, by decide⟩, gw_t 342 (by decide +kernel) rfl⟩
abbrev mJ7_fill_53178 : Mi := (yJ7_fill_53178, cJ7_fill_53178, 4, none)
theorem kJ7_fill_53178 : MI mJ7_fill_53178 2 ∧ Cond.static mJ7_fill_53178.1 ∈ GW := ⟨⟨gw_t 381 (by decide +kernel) rfl, gw_t 15 (by decide +kernel) rfl, by decide +kernel, by decide⟩, gw_t 380 (by decide +kernel) rfl⟩
theorem lL_9 : ML RL 9 yX7_init := Or.inl (gw_t 20 (by decide +kernel) rfl)
theorem lX7_9 : ML RX7 9 yX6_init := Or.inr ⟨"FeedCheck", nw_t 28 (by decide +kernel) rfl⟩
theorem fX6_9 : FL RX6 9 6 0 := ⟨RX6, TX6, 2, rfl, by decide, uw6, Or.inl (gw_t 32 (by decide +kernel) rfl)⟩
theorem fX7_77 : FL RX7 77 6 0 := ⟨RX6, TX6, 2, rfl, by decide, uw6, Or.inr ⟨"FeedCheck", nw_t 33 (by decide +kernel) rfl⟩⟩
theorem fX6_15 : FL RX6 15 6 1 := ⟨RX6, TX6, 2, rfl, by decide, uw6, Or.inl (gw_t 34 (by decide +kernel) rfl)⟩
theorem pX6_15 : PL RX6 15 6 1 false := ⟨RX6, TX6, 2, rfl, by decide, uw6, Or.inl (gw_t 34 (by decide +kernel) rfl), rfl, ⟨tyX6, tyX6_ok⟩, nmX6, by decide +kernel⟩
theorem fX7_73 : FL RX7 73 6 1 := ⟨RX6, TX6, 2, rfl, by decide, uw6, Or.inr ⟨"FeedCheck", nw_t 35 (by decide +kernel) rfl⟩⟩
theorem pX7_73 : PL RX7 73 6 1 false := ⟨RX6, TX6, 2, rfl, by decide, uw6, Or.inr ⟨"FeedCheck", nw_t 35 (by decide +kernel) rfl⟩, rfl, ⟨tyX6, tyX6_ok⟩, nmX6, by decide +kernel⟩
theorem fX5_125 : FL RX5 125 6 1 := ⟨RX6, TX6, 2, rfl, by decide, uw6, Or.inr ⟨"FeedCheck", nw_t 36 (by decide +kernel) rfl⟩⟩
theorem pX5_125 : PL RX5 125 6 1 false := ⟨RX6, TX6, 2, rfl, by decide, uw6, Or.inr ⟨"FeedCheck", nw_t 36 (by decide +kernel) rfl⟩, rfl, ⟨tyX6, tyX6_ok⟩, nmX6, by decide +kernel⟩
theorem lX7_18 : ML RX7 18 yX4_init := Or.inr ⟨"FeedCheck", nw_t 45 (by decide +kernel) rfl⟩
theorem lX4_23 : ML RX4 23 yX1_init := Or.inr ⟨"FeedCheck", nw_t 51 (by decide +kernel) rfl⟩
theorem fX1_9 : FL RX1 9 1 0 := ⟨RX1, TX1, 5, rfl, by decide, uw1, Or.inl (gw_t 55 (by decide +kernel) rfl)⟩
theorem fX3_48 : FL RX3 48 1 0 := ⟨RX1, TX1, 5, rfl, by decide, uw1, Or.inr ⟨"FeedCheck", nw_t 56 (by decide +kernel) rfl⟩⟩
theorem fX7_114 : FL RX7 114 1 0 := ⟨RX1, TX1, 5, rfl, by decide, uw1, Or.inr ⟨"FeedCheck", nw_t 57 (by decide +kernel) rfl⟩⟩
theorem fX5_112 : FL RX5 112 1 0 := ⟨RX1, TX1, 5, rfl, by decide, uw1, Or.inr ⟨"FeedCheck", nw_t 58 (by decide +kernel) rfl⟩⟩
theorem fX1_15 : FL RX1 15 1 1 := ⟨RX1, TX1, 5, rfl, by decide, uw1, Or.inl (gw_t 59 (by decide +kernel) rfl)⟩
theorem fX7_163 : FL RX7 163 1 1 := ⟨RX1, TX1, 5, rfl, by decide, uw1, Or.inr ⟨"FeedCheck", nw_t 60 (by decide +kernel) rfl⟩⟩
theorem fX3_109 : FL RX3 109 1 1 := ⟨RX1, TX1, 5, rfl, by decide, uw1, Or.inr ⟨"FeedCheck", nw_t 61 (by decide +kernel) rfl⟩⟩
theorem fX1_18 : FL RX1 18 1 2 := ⟨RX1, TX1, 5, rfl, by decide, uw1, Or.inl (gw_t 62 (by decide +kernel) rfl)⟩
theorem fX7_166 : FL RX7 166 1 2 := ⟨RX1, TX1, 5, rfl, by decide, uw1, Or.inr ⟨"FeedCheck", nw_t 63 (by decide +kernel) rfl⟩⟩
theorem fX3_112 : FL RX3 112 1 2 := ⟨RX1, TX1, 5, rfl, by decide, uw1, Or.inr ⟨"FeedCheck", nw_t 64 (by decide +kernel) rfl⟩⟩
theorem fX1_21 : FL RX1 21 1 3 := ⟨RX1, TX1, 5, rfl, by decide, uw1, Or.inl (gw_t 65 (by decide +kernel) rfl)⟩
theorem fX7_167 : FL RX7 167 1 3 := ⟨RX1, TX1, 5, rfl, by decide, uw1, Or.inr ⟨"FeedCheck", nw_t 66 (by decide +kernel) rfl⟩⟩
theorem fX3_113 : FL RX3 113 1 3 := ⟨RX1, TX1, 5, rfl, by decide, uw1, Or.inr ⟨"FeedCheck", nw_t 67 (by decide +kernel) rfl⟩⟩
theorem fX1_30 : FL RX1 30 1 4 := ⟨RX1, TX1, 5, rfl, by decide, uw1, Or.inl (gw_t 68 (by decide +kernel) rfl)⟩
theorem pX1_30 : PL RX1 30 1 4 false := ⟨RX1, TX1, 5, rfl, by decide, uw1, Or.inl (gw_t 68 (by decide +kernel) rfl), rfl, ⟨tyX1, tyX1_ok⟩, nmX1, by decide +kernel⟩
theorem fX5_103 : FL RX5 103 1 4 := ⟨RX1, TX1, 5, rfl, by decide, uw1, Or.inr ⟨"FeedCheck", nw_t 69 (by decide +kernel) rfl⟩⟩
theorem pX5_103 : PL RX5 103 1 4 false := ⟨RX1, TX1, 5, rfl, by decide, uw1, Or.inr ⟨"FeedCheck", nw_t 69 (by decide +kernel) rfl⟩, rfl, ⟨tyX1, tyX1_ok⟩, nmX1, by decide +kernel⟩
theorem fX7_174 : FL RX7 174 1 4 := ⟨RX1, TX1, 5, rfl, by decide, uw1, Or.inr ⟨"FeedCheck", nw_t 70 (by decide +kernel) rfl⟩⟩
theorem pX7_174 : PL RX7 174 1 4 false := ⟨RX1, TX1, 5, rfl, by decide, uw1, Or.inr ⟨"FeedCheck", nw_t 70 (by decide +kernel) rfl⟩, rfl, ⟨tyX1, tyX1_ok⟩, nmX1, by decide +kernel⟩
theorem fX3_100 : FL RX3 100 1 4 := ⟨RX1, TX1, 5, rfl, by decide, uw1, Or.inr ⟨"FeedCheck", nw_t 71 (by decide +kernel) rfl⟩⟩
theorem pX3_100 : PL RX3 100 1 4 false := ⟨RX1, TX1, 5, rfl, by decide, uw1, Or.inr ⟨"FeedCheck", nw_t 71 (by decide +kernel) rfl⟩, rfl, ⟨tyX1, tyX1_ok⟩, nmX1, by decide +kernel⟩
theorem fX4_9 : FL RX4 9 4 0 := ⟨RX4, TX4, 8, rfl, by decide, uw4, Or.inl (gw_t 83 (by decide +kernel) rfl)⟩
theorem fX3_45 : FL RX3 45 4 0 := ⟨RX4, TX4, 8, rfl, by decide, uw4, Or.inr ⟨"FeedCheck", nw_t 84 (by decide +kernel) rfl⟩⟩
theorem fX7_108 : FL RX7 108 4 0 := ⟨RX4, TX4, 8, rfl, by decide, uw4, Or.inr ⟨"FeedCheck", nw_t 85 (by decide +kernel) rfl⟩⟩
theorem fX4_15 : FL RX4 15 4 1 := ⟨RX4, TX4, 8, rfl, by decide, uw4, Or.inl (gw_t 86 (by decide +kernel) rfl)⟩
theorem fX3_72 : FL RX3 72 4 1 := ⟨RX4, TX4, 8, rfl, by decide, uw4, Or.inr ⟨"FeedCheck", nw_t 87 (by decide +kernel) rfl⟩⟩
theorem fX7_111 : FL RX7 111 4 1 := ⟨RX4, TX4, 8, rfl, by decide, uw4, Or.inr ⟨"FeedCheck", nw_t 88 (by decide +kernel) rfl⟩⟩
theorem fX4_18 : FL RX4 18 4 2 := ⟨RX4, TX4, 8, rfl, by decide, uw4, Or.inl (gw_t 89 (by decide +kernel) rfl)⟩
theorem fX3_75 : FL RX3 75 4 2 := ⟨RX4, TX4, 8, rfl, by decide, uw4, Or.inr ⟨"FeedCheck", nw_t 90 (by decide +kernel) rfl⟩⟩
theorem fX7_117 : FL RX7 117 4 2 := ⟨RX4, TX4, 8, rfl, by decide, uw4, Or.inr ⟨"FeedCheck", nw_t 91 (by decide +kernel) rfl⟩⟩
theorem fX4_24 : FL RX4 24 4 3 := ⟨RX4, TX4, 8, rfl, by decide, uw4, Or.inl (gw_t 92 (by decide +kernel) rfl)⟩
theorem fX7_89 : FL RX7 89 4 3 := ⟨RX4, TX4, 8, rfl, by decide, uw4, Or.inr ⟨"FeedCheck", nw_t 93 (by decide +kernel) rfl⟩⟩
theorem fX5_99 : FL RX5 99 4 3 := ⟨RX4, TX4, 8, rfl, by decide, uw4, Or.inr ⟨"FeedCheck", nw_t 94 (by decide +kernel) rfl⟩⟩
theorem fX4_38 : FL RX4 38 4 4 := ⟨RX4, TX4, 8, rfl, by decide, uw4, Or.inl (gw_t 95 (by decide +kernel) rfl)⟩
theorem pX4_38 : PL RX4 38 4 4 false := ⟨RX4, TX4, 8, rfl, by decide, uw4, Or.inl (gw_t 95 (by decide +kernel) rfl), rfl, ⟨tyX4, tyX4_ok⟩, nmX4, by decide +kernel⟩
theorem fX3_38 : FL RX3 38 4 4 := ⟨RX4, TX4, 8, rfl, by decide, uw4, Or.inr ⟨"FeedCheck", nw_t 96 (by decide +kernel) rfl⟩⟩
theorem pX3_38 : PL RX3 38 4 4 false := ⟨RX4, TX4, 8, rfl, by decide, uw4, Or.inr ⟨"FeedCheck", nw_t 96 (by decide +kernel) rfl⟩, rfl, ⟨tyX4, tyX4_ok⟩, nmX4, by decide +kernel⟩
theorem fX5_82 : FL RX5 82 4 4 := ⟨RX4, TX4, 8, rfl, by decide, uw4, Or.inr ⟨"FeedCheck", nw_t 97 (by decide +kernel) rfl⟩⟩
theorem pX5_82 : PL RX5 82 4 4 false := ⟨RX4, TX4, 8, rfl, by decide, uw4, Or.inr ⟨"FeedCheck", nw_t 97 (by decide +kernel) rfl⟩, rfl, ⟨tyX4, tyX4_ok⟩, nmX4, by decide +kernel⟩
theorem fX7_265 : FL RX7 265 4 4 := ⟨RX4, TX4, 8, rfl, by decide, uw4, Or.inr ⟨"FeedCheck", nw_t 98 (by decide +kernel) rfl⟩⟩
theorem pX7_265 : PL RX7 265 4 4 false := ⟨RX4, TX4, 8, rfl, by decide, uw4, Or.inr ⟨"FeedCheck", nw_t 98 (by decide +kernel) rfl⟩, rfl, ⟨tyX4, tyX4_ok⟩, nmX4, by decide +kernel⟩
theorem fX4_28 : FL RX4 28 4 5 := ⟨RX4, TX4, 8, rfl, by decide, uw4, Or.inl (gw_t 99 (by decide +kernel) rfl)⟩
theorem pX4_28 : PL RX4 28 4 5 false := ⟨RX4, TX4, 8, rfl, by decide, uw4, Or.inl (gw_t 99 (by decide +kernel) rfl), rfl, ⟨tyX4, tyX4_ok⟩, nmX4, by decide +kernel⟩
theorem fX3_106 : FL RX3 106 4 5 := ⟨RX4, TX4, 8, rfl, by decide, uw4, Or.inr ⟨"FeedCheck", nw_t 100 (by decide +kernel) rfl⟩⟩
theorem pX3_106 : PL RX3 106 4 5 false := ⟨RX4, TX4, 8, rfl, by decide, uw4, Or.inr ⟨"FeedCheck", nw_t 100 (by decide +kernel) rfl⟩, rfl, ⟨tyX4, tyX4_ok⟩, nmX4, by decide +kernel⟩
theorem fX7_274 : FL RX7 274 4 5 := ⟨RX4, TX4, 8, rfl, by decide, uw4, Or.inr ⟨"FeedCheck", nw_t 101 (by decide +kernel) rfl⟩⟩
theorem pX7_274 : PL RX7 274 4 5 false := ⟨RX4, TX4, 8, rfl, by decide, uw4, Or.inr ⟨"FeedCheck", nw_t 101 (by decide +kernel) rfl⟩, rfl, ⟨tyX4, tyX4_ok⟩, nmX4, by decide +kernel⟩
theorem fX4_32 : FL RX4 32 4 6 := ⟨RX4, TX4, 8, rfl, by decide, uw4, Or.inl (gw_t 102 (by decide +kernel) rfl)⟩
theorem pX4_32 : PL RX4 32 4 6 false := ⟨RX4, TX4, 8, rfl, by decide, uw4, Or.inl (gw_t 102 (by decide +kernel) rfl), rfl, ⟨tyX4, tyX4_ok⟩, nmX4, by decide +kernel⟩
theorem fX3_103 : FL RX3 103 4 6 := ⟨RX4, TX4, 8, rfl, by decide, uw4, Or.inr ⟨"FeedCheck", nw_t 103 (by decide +kernel) rfl⟩⟩
theorem pX3_103 : PL RX3 103 4 6 false := ⟨RX4, TX4, 8, rfl, by decide, uw4, Or.inr ⟨"FeedCheck", nw_t 103 (by decide +kernel) rfl⟩, rfl, ⟨tyX4, tyX4_ok⟩, nmX4, by decide +kernel⟩
theorem fX7_277 : FL RX7 277 4 6 := ⟨RX4, TX4, 8, rfl, by decide, uw4, Or.inr ⟨"FeedCheck", nw_t 104 (by decide +kernel) rfl⟩⟩
theorem pX7_277 : PL RX7 277 4 6 false := ⟨RX4, TX4, 8, rfl, by decide, uw4, Or.inr ⟨"FeedCheck", nw_t 104 (by decide +kernel) rfl⟩, rfl, ⟨tyX4, tyX4_ok⟩, nmX4, by decide +kernel⟩
theorem fX4_35 : FL RX4 35 4 7 := ⟨RX4, TX4, 8, rfl, by decide, uw4, Or.inl (gw_t 105 (by decide +kernel) rfl)⟩
theorem pX4_35 : PL RX4 35 4 7 false := ⟨RX4, TX4, 8, rfl, by decide, uw4, Or.inl (gw_t 105 (by decide +kernel) rfl), rfl, ⟨tyX4, tyX4_ok⟩, nmX4, by decide +kernel⟩
theorem fX3_97 : FL RX3 97 4 7 := ⟨RX4, TX4, 8, rfl, by decide, uw4, Or.inr ⟨"FeedCheck", nw_t 106 (by decide +kernel) rfl⟩⟩
theorem pX3_97 : PL RX3 97 4 7 false := ⟨RX4, TX4, 8, rfl, by decide, uw4, Or.inr ⟨"FeedCheck", nw_t 106 (by decide +kernel) rfl⟩, rfl, ⟨tyX4, tyX4_ok⟩, nmX4, by decide +kernel⟩
theorem fX7_280 : FL RX7 280 4 7 := ⟨RX4, TX4, 8, rfl, by decide, uw4, Or.inr ⟨"FeedCheck", nw_t 107 (by decide +kernel) rfl⟩⟩
theorem pX7_280 : PL RX7 280 4 7 false := ⟨RX4, TX4, 8, rfl, by decide, uw4, Or.inr ⟨"FeedCheck", nw_t 107 (by decide +kernel) rfl⟩, rfl, ⟨tyX4, tyX4_ok⟩, nmX4, by decide +kernel⟩
theorem lX7_28 : ML RX7 28 yX5_init := Or.inr ⟨"FeedCheck", nw_t 127 (by decide +kernel) rfl⟩
theorem fX5_9 : FL RX5 9 5 0 := ⟨RX5, TX5, 7, rfl, by decide, uw5, Or.inl (gw_t 131 (by decide +kernel) rfl)⟩
theorem fX5_15 : FL RX5 15 5 1 := ⟨RX5, TX5, 7, rfl, by decide, uw5, Or.inl (gw_t 132 (by decide +kernel) rfl)⟩
theorem fX5_42 : FL RX5 42 5 2 := ⟨RX5, TX5, 7, rfl, by decide, uw5, Or.inl (gw_t 133 (by decide +kernel) rfl)⟩
theorem pX5_42 : PL RX5 42 5 2 false := ⟨RX5, TX5, 7, rfl, by decide, uw5, Or.inl (gw_t 133 (by decide +kernel) rfl), rfl, ⟨tyX5, tyX5_ok⟩, nmX5, by decide +kernel⟩
theorem fX5_39 : FL RX5 39 5 3 := ⟨RX5, TX5, 7, rfl, by decide, uw5, Or.inl (gw_t 134 (by decide +kernel) rfl)⟩
theorem pX5_39 : PL RX5 39 5 3 false := ⟨RX5, TX5, 7, rfl, by decide, uw5, Or.inl (gw_t 134 (by decide +kernel) rfl), rfl, ⟨tyX5, tyX5_ok⟩, nmX5, by decide +kernel⟩
theorem fX5_25 : FL RX5 25 5 4 := ⟨RX5, TX5, 7, rfl, by decide, uw5, Or.inl (gw_t 135 (by decide +kernel) rfl)⟩
theorem pX5_25 : PL RX5 25 5 4 false := ⟨RX5, TX5, 7, rfl, by decide, uw5, Or.inl (gw_t 135 (by decide +kernel) rfl), rfl, ⟨tyX5, tyX5_ok⟩, nmX5, by decide +kernel⟩
theorem fX5_89 : FL RX5 89 5 5 := ⟨RX5, TX5, 7, rfl, by decide, uw5, Or.inl (gw_t 136 (by decide +kernel) rfl)⟩
theorem pX5_89 : PL RX5 89 5 5 false := ⟨RX5, TX5, 7, rfl, by decide, uw5, Or.inl (gw_t 136 (by decide +kernel) rfl), rfl, ⟨tyX5, tyX5_ok⟩, nmX5, by decide +kernel⟩
theorem fX5_29 : FL RX5 29 5 6 := ⟨RX5, TX5, 7, rfl, by decide, uw5, Or.inl (gw_t 137 (by decide +kernel) rfl)⟩
theorem pX5_29 : PL RX5 29 5 6 false := ⟨RX5, TX5, 7, rfl, by decide, uw5, Or.inl (gw_t 137 (by decide +kernel) rfl), rfl, ⟨tyX5, tyX5_ok⟩, nmX5, by decide +kernel⟩
theorem fX7_98 : FL RX7 98 5 6 := ⟨RX5, TX5, 7, rfl, by decide, uw5, Or.inr ⟨"FeedCheck", nw_t 138 (by decide +kernel) rfl⟩⟩
theorem pX7_98 : PL RX7 98 5 6 false := ⟨RX5, TX5, 7, rfl, by decide, uw5, Or.inr ⟨"FeedCheck", nw_t 138 (by decide +kernel) rfl⟩, rfl, ⟨tyX5, tyX5_ok⟩, nmX5, by decide +kernel⟩
theorem lX7_37 : ML RX7 37 yX1_init := Or.inr ⟨"FeedCheck", nw_t 155 (by decide +kernel) rfl⟩
theorem lX7_44 : ML RX7 44 yX2_init := Or.inr ⟨"FeedCheck", nw_t 158 (by decide +kernel) rfl⟩
theorem lX2_17 : ML RX2 17 yX1_init := Or.inr ⟨"FeedCheck", nw_t 164 (by decide +kernel) rfl⟩
theorem fX2_11 : FL RX2 11 2 0 := ⟨RX2, TX2, 3, rfl, by decide, uw2, Or.inl (gw_t 165 (by decide +kernel) rfl)⟩
theorem fX2_18 : FL RX2 18 2 1 := ⟨RX2, TX2, 3, rfl, by decide, uw2, Or.inl (gw_t 166 (by decide +kernel) rfl)⟩
theorem pX2_18 : PL RX2 18 2 1 false := ⟨RX2, TX2, 3, rfl, by decide, uw2, Or.inl (gw_t 166 (by decide +kernel) rfl), rfl, ⟨tyX2, tyX2_ok⟩, nmX2, by decide +kernel⟩
theorem fX2_26 : FL RX2 26 2 2 := ⟨RX2, TX2, 3, rfl, by decide, uw2, Or.inl (gw_t 167 (by decide +kernel) rfl)⟩
theorem pX2_26 : PL RX2 26 2 2 false := ⟨RX2, TX2, 3, rfl, by decide, uw2, Or.inl (gw_t 167 (by decide +kernel) rfl), rfl, ⟨tyX2, tyX2_ok⟩, nmX2, by decide +kernel⟩
theorem fX7_199 : FL RX7 199 2 2 := ⟨RX2, TX2, 3, rfl, by decide, uw2, Or.inr ⟨"FeedCheck", nw_t 168 (by decide +kernel) rfl⟩⟩
theorem pX7_199 : PL RX7 199 2 2 false := ⟨RX2, TX2, 3, rfl, by decide, uw2, Or.inr ⟨"FeedCheck", nw_t 168 (by decide +kernel) rfl⟩, rfl, ⟨tyX2, tyX2_ok⟩, nmX2, by decide +kernel⟩
theorem lX7_59 : ML RX7 59 yX3_init := Or.inr ⟨"FeedCheck", nw_t 178 (by decide +kernel) rfl⟩
theorem fX3_9 : FL RX3 9 3 0 := ⟨RX3, TX3, 9, rfl, by decide, uw3, Or.inl (gw_t 182 (by decide +kernel) rfl)⟩
theorem fX7_120 : FL RX7 120 3 0 := ⟨RX3, TX3, 9, rfl, by decide, uw3, Or.inr ⟨"FeedCheck", nw_t 183 (by decide +kernel) rfl⟩⟩
theorem fX3_15 : FL RX3 15 3 1 := ⟨RX3, TX3, 9, rfl, by decide, uw3, Or.inl (gw_t 184 (by decide +kernel) rfl)⟩
theorem fX7_127 : FL RX7 127 3 1 := ⟨RX3, TX3, 9, rfl, by decide, uw3, Or.inr ⟨"FeedCheck", nw_t 185 (by decide +kernel) rfl⟩⟩
theorem fX3_18 : FL RX3 18 3 2 := ⟨RX3, TX3, 9, rfl, by decide, uw3, Or.inl (gw_t 186 (by decide +kernel) rfl)⟩
theorem fX7_137 : FL RX7 137 3 2 := ⟨RX3, TX3, 9, rfl, by decide, uw3, Or.inr ⟨"FeedCheck", nw_t 187 (by decide +kernel) rfl⟩⟩
theorem fX3_21 : FL RX3 21 3 3 := ⟨RX3, TX3, 9, rfl, by decide, uw3, Or.inl (gw_t 188 (by decide +kernel) rfl)⟩
theorem fX7_140 : FL RX7 140 3 3 := ⟨RX3, TX3, 9, rfl, by decide, uw3, Or.inr ⟨"FeedCheck", nw_t 189 (by decide +kernel) rfl⟩⟩
theorem fX3_24 : FL RX3 24 3 4 := ⟨RX3, TX3, 9, rfl, by decide, uw3, Or.inl (gw_t 190 (by decide +kernel) rfl)⟩
theorem fX7_146 : FL RX7 146 3 4 := ⟨RX3, TX3, 9, rfl, by decide, uw3, Or.inr ⟨"FeedCheck", nw_t 191 (by decide +kernel) rfl⟩⟩
theorem fX3_27 : FL RX3 27 3 5 := ⟨RX3, TX3, 9, rfl, by decide, uw3, Or.inl (gw_t 192 (by decide +kernel) rfl)⟩
theorem fX7_149 : FL RX7 149 3 5 := ⟨RX3, TX3, 9, rfl, by decide, uw3, Or.inr ⟨"FeedCheck", nw_t 193 (by decide +kernel) rfl⟩⟩
theorem fX3_30 : FL RX3 30 3 6 := ⟨RX3, TX3, 9, rfl, by decide, uw3, Or.inl (gw_t 194 (by decide +kernel) rfl)⟩
theorem fX3_34 : FL RX3 34 3 7 := ⟨RX3, TX3, 9, rfl, by decide, uw3, Or.inl (gw_t 195 (by decide +kernel) rfl)⟩
theorem fX3_44 : FL RX3 44 3 8 := ⟨RX3, TX3, 9, rfl, by decide, uw3, Or.inl (gw_t 196 (by decide +kernel) rfl)⟩
theorem pX3_44 : PL RX3 44 3 8 false := ⟨RX3, TX3, 9, rfl, by decide, uw3, Or.inl (gw_t 196 (by decide +kernel) rfl), rfl, ⟨tyX3, tyX3_ok⟩, nmX3, by decide +kernel⟩
theorem lX7_72 : ML RX7 72 yX0_init := Or.inr ⟨"FeedCheck", nw_t 220 (by decide +kernel) rfl⟩
theorem fX0_9 : FL RX0 9 0 0 := ⟨RX0, TX0, 4, rfl, by decide, uw0, Or.inl (gw_t 224 (by decide +kernel) rfl)⟩
theorem fX7_249 : FL RX7 249 0 0 := ⟨RX0, TX0, 4, rfl, by decide, uw0, Or.inr ⟨"FeedCheck", nw_t 225 (by decide +kernel) rfl⟩⟩
theorem fX0_15 : FL RX0 15 0 1 := ⟨RX0, TX0, 4, rfl, by decide, uw0, Or.inl (gw_t 226 (by decide +kernel) rfl)⟩
theorem pX0_15 : PL RX0 15 0 1 true := ⟨RX0, TX0, 4, rfl, by decide, uw0, Or.inl (gw_t 226 (by decide +kernel) rfl), rfl, ⟨tyX0, tyX0_ok⟩, nmX0, by decide +kernel⟩
theorem fX7_238 : FL RX7 238 0 1 := ⟨RX0, TX0, 4, rfl, by decide, uw0, Or.inr ⟨"FeedCheck", nw_t 227 (by decide +kernel) rfl⟩⟩
theorem pX7_238 : PL RX7 238 0 1 true := ⟨RX0, TX0, 4, rfl, by decide, uw0, Or.inr ⟨"FeedCheck", nw_t 227 (by decide +kernel) rfl⟩, rfl, ⟨tyX0, tyX0_ok⟩, nmX0, by decide +kernel⟩
theorem fX0_19 : FL RX0 19 0 2 := ⟨RX0, TX0, 4, rfl, by decide, uw0, Or.inl (gw_t 228 (by decide +kernel) rfl)⟩
theorem pX0_19 : PL RX0 19 0 2 false := ⟨RX0, TX0, 4, rfl, by decide, uw0, Or.inl (gw_t 228 (by decide +kernel) rfl), rfl, ⟨tyX0, tyX0_ok⟩, nmX0, by decide +kernel⟩
theorem fX0_23 : FL RX0 23 0 3 := ⟨RX0, TX0, 4, rfl, by decide, uw0, Or.inl (gw_t 229 (by decide +kernel) rfl)⟩
theorem pX0_23 : PL RX0 23 0 3 false := ⟨RX0, TX0, 4, rfl, by decide, uw0, Or.inl (gw_t 229 (by decide +kernel) rfl), rfl, ⟨tyX0, tyX0_ok⟩, nmX0, by decide +kernel⟩
theorem fX7_242 : FL RX7 242 0 3 := ⟨RX0, TX0, 4, rfl, by decide, uw0, Or.inr ⟨"FeedCheck", nw_t 230 (by decide +kernel) rfl⟩⟩
theorem pX7_242 : PL RX7 242 0 3 false := ⟨RX0, TX0, 4, rfl, by decide, uw0, Or.inr ⟨"FeedCheck", nw_t 230 (by decide +kernel) rfl⟩, rfl, ⟨tyX0, tyX0_ok⟩, nmX0, by decide +kernel⟩
theorem fX7_10 : FL RX7 10 7 0 := ⟨RX7, TX7, 10, rfl, by decide, uw7, Or.inl (gw_t 240 (by decide +kernel) rfl)⟩
theorem fX7_19 : FL RX7 19 7 1 := ⟨RX7, TX7, 10, rfl, by decide, uw7, Or.inl (gw_t 241 (by decide +kernel) rfl)⟩
theorem fX7_23 : FL RX7 23 7 2 := ⟨RX7, TX7, 10, rfl, by decide, uw7, Or.inl (gw_t 242 (by decide +kernel) rfl)⟩
theorem fX7_31 : FL RX7 31 7 3 := ⟨RX7, TX7, 10, rfl, by decide, uw7, Or.inl (gw_t 243 (by decide +kernel) rfl)⟩
theorem fX7_38 : FL RX7 38 7 4 := ⟨RX7, TX7, 10, rfl, by decide, uw7, Or.inl (gw_t 244 (by decide +kernel) rfl)⟩
theorem fX7_45 : FL RX7 45 7 5 := ⟨RX7, TX7, 10, rfl, by decide, uw7, Or.inl (gw_t 245 (by decide +kernel) rfl)⟩
theorem fX7_49 : FL RX7 49 7 6 := ⟨RX7, TX7, 10, rfl, by decide, uw7, Or.inl (gw_t 246 (by decide +kernel) rfl)⟩
theorem fX7_53 : FL RX7 53 7 7 := ⟨RX7, TX7, 10, rfl, by decide, uw7, Or.inl (gw_t 247 (by decide +kernel) rfl)⟩
theorem fX7_62 : FL RX7 62 7 8 := ⟨RX7, TX7, 10, rfl, by decide, uw7, Or.inl (gw_t 248 (by decide +kernel) rfl)⟩
theorem fX7_68 : FL RX7 68 7 9 := ⟨RX7, TX7, 10, rfl, by decide, uw7, Or.inl (gw_t 249 (by decide +kernel) rfl)⟩
theorem lL_13 : ML RL 13 yX7_write := Or.inl (gw_t 271 (by decide +kernel) rfl)
theorem lL_18 : ML RL 18 yX7_erase := Or.inl (gw_t 275 (by decide +kernel) rfl)
theorem lL_23 : ML RL 23 yX7_fault := Or.inl (gw_t 279 (by decide +kernel) rfl)
theorem lX7_81 : ML RX7 81 yX5_read := Or.inr ⟨"FeedCheck", nw_t 283 (by decide +kernel) rfl⟩
theorem lX5_19 : ML RX5 19 yX4_copyFrom := Or.inr ⟨"FeedCheck", nw_t 287 (by decide +kernel) rfl⟩
theorem lX4_54 : ML RX4 54 yX1_copyFrom := Or.inr ⟨"FeedCheck", nw_t 294 (by decide +kernel) rfl⟩
theorem lX4_44 : ML RX4 44 yX4_setRule := Or.inl (gw_t 299 (by decide +kernel) rfl)
theorem lX5_32 : ML RX5 32 yX5_step := Or.inl (gw_t 303 (by decide +kernel) rfl)
theorem lX5_119 : ML RX5 119 yX6_letterAt := Or.inr ⟨"FeedCheck", nw_t 307 (by decide +kernel) rfl⟩
theorem lX5_128 : ML RX5 128 yX5_kindOf := Or.inl (gw_t 311 (by decide +kernel) rfl)
theorem lX5_35 : ML RX5 35 yX5_clauseStands := Or.inl (gw_t 314 (by decide +kernel) rfl)
theorem lX5_50 : ML RX5 50 yX5_isWord := Or.inl (gw_t 319 (by decide +kernel) rfl)
theorem lX5_131 : ML RX5 131 yJ0_length_8abf5 := Or.inl (gw_t 323 (by decide +kernel) rfl)
theorem lJ0_335 : ML RJ0 335 yJ0_coder_7d493 := Or.inl (gw_t 327 (by decide +kernel) rfl)
theorem lX5_136 : ML RX5 136 yJ0_charAt_5068e := Or.inl (gw_t 333 (by decide +kernel) rfl)
theorem lJ0_492 : ML RJ0 492 yJ0_isLatin1_aae02 := Or.inl (gw_t 337 (by decide +kernel) rfl)
theorem lJ0_495 : ML RJ0 495 yJ1_charAt_3b067 := Or.inl (gw_t 341 (by decide +kernel) rfl)
theorem lX5_54 : ML RX5 54 yX4_clear := Or.inr ⟨"FeedCheck", nw_t 371 (by decide +kernel) rfl⟩
theorem lX4_41 : ML RX4 41 yX1_clear := Or.inr ⟨"FeedCheck", nw_t 375 (by decide +kernel) rfl⟩
theorem lX1_24 : ML RX1 24 yJ7_fill_53178 := Or.inl (gw_t 379 (by decide +kernel) rfl)
theorem lX5_59 : ML RX5 59 yX5_sectionStands := Or.inl (gw_t 383 (by decide +kernel) rfl)
theorem lX5_85 : ML RX5 85 yX5_numberStands := Or.inl (gw_t 387 (by decide +kernel) rfl)
theorem lX5_92 : ML RX5 92 yX4_addSection := Or.inr ⟨"FeedCheck", nw_t 391 (by decide +kernel) rfl⟩
theorem lX5_64 : ML RX5 64 yX5_jointStands := Or.inl (gw_t 396 (by decide +kernel) rfl)
theorem lX5_96 : ML RX5 96 yX4_join := Or.inr ⟨"FeedCheck", nw_t 400 (by decide +kernel) rfl⟩
theorem lX5_69 : ML RX5 69 yX5_riserStands := Or.inl (gw_t 405 (by decide +kernel) rfl)
theorem lX5_108 : ML RX5 108 yX1_addRiser := Or.inr ⟨"FeedCheck", nw_t 409 (by decide +kernel) rfl⟩
theorem lX5_74 : ML RX5 74 yX5_chillStands := Or.inl (gw_t 414 (by decide +kernel) rfl)
theorem lX5_79 : ML RX5 79 yX5_ruleStands := Or.inl (gw_t 419 (by decide +kernel) rfl)
theorem lX5_116 : ML RX5 116 yX4_setRule := Or.inr ⟨"FeedCheck", nw_t 423 (by decide +kernel) rfl⟩
theorem lX5_45 : ML RX5 45 yX5_isSemicolon := Or.inl (gw_t 424 (by decide +kernel) rfl)
theorem lL_27 : ML RL 27 yX7_casting := Or.inl (gw_t 429 (by decide +kernel) rfl)
theorem lX7_85 : ML RX7 85 yX4_copyFrom := Or.inr ⟨"FeedCheck", nw_t 433 (by decide +kernel) rfl⟩
theorem lX7_92 : ML RX7 92 yX1_copyFrom := Or.inr ⟨"FeedCheck", nw_t 434 (by decide +kernel) rfl⟩
theorem lX7_95 : ML RX7 95 yX7_forgetAll := Or.inl (gw_t 435 (by decide +kernel) rfl)
theorem lX7_262 : ML RX7 262 yX0_vanish := Or.inr ⟨"FeedCheck", nw_t 439 (by decide +kernel) rfl⟩
theorem lL_31 : ML RL 31 yX7_section := Or.inl (gw_t 443 (by decide +kernel) rfl)
theorem lX7_101 : ML RX7 101 yX7_isSection := Or.inl (gw_t 447 (by decide +kernel) rfl)
theorem lX7_105 : ML RX7 105 yX3_settle := Or.inr ⟨"FeedCheck", nw_t 451 (by decide +kernel) rfl⟩
theorem lX3_53 : ML RX3 53 yX3_belowWith := Or.inl (gw_t 455 (by decide +kernel) rfl)
theorem lX3_57 : ML RX3 57 yX3_climb := Or.inl (gw_t 459 (by decide +kernel) rfl)
theorem lX3_61 : ML RX3 61 yX3_isTop := Or.inl (gw_t 463 (by decide +kernel) rfl)
theorem lX3_82 : ML RX3 82 yX3_isNeighbour := Or.inl (gw_t 467 (by decide +kernel) rfl)
theorem lX3_78 : ML RX3 78 yX3_isSooner := Or.inl (gw_t 471 (by decide +kernel) rfl)
theorem lX3_88 : ML RX3 88 yX3_latestNeighbour := Or.inl (gw_t 475 (by decide +kernel) rfl)
theorem lX3_85 : ML RX3 85 yX3_later := Or.inl (gw_t 479 (by decide +kernel) rfl)
theorem lX3_65 : ML RX3 65 yX3_drowner := Or.inl (gw_t 483 (by decide +kernel) rfl)
theorem lX3_91 : ML RX3 91 yX3_passBetween := Or.inl (gw_t 487 (by decide +kernel) rfl)
theorem lX3_94 : ML RX3 94 yX3_drowns := Or.inl (gw_t 491 (by decide +kernel) rfl)
theorem lX3_69 : ML RX3 69 yX3_headOf := Or.inl (gw_t 495 (by decide +kernel) rfl)
theorem lX7_123 : ML RX7 123 yX3_commonPart := Or.inr ⟨"FeedCheck", nw_t 499 (by decide +kernel) rfl⟩
theorem lX7_130 : ML RX7 130 yX3_isTop := Or.inr ⟨"FeedCheck", nw_t 503 (by decide +kernel) rfl⟩
theorem lX7_133 : ML RX7 133 yX7_oneIf := Or.inl (gw_t 504 (by decide +kernel) rfl)
theorem lL_36 : ML RL 36 yX7_top := Or.inl (gw_t 507 (by decide +kernel) rfl)
theorem lX7_143 : ML RX7 143 yX3_basin := Or.inr ⟨"FeedCheck", nw_t 511 (by decide +kernel) rfl⟩
theorem lX7_152 : ML RX7 152 yX3_allRisers := Or.inr ⟨"FeedCheck", nw_t 515 (by decide +kernel) rfl⟩
theorem lX7_156 : ML RX7 156 yX3_feeder := Or.inr ⟨"FeedCheck", nw_t 519 (by decide +kernel) rfl⟩
theorem lX3_114 : ML RX3 114 yX3_outlasts := Or.inl (gw_t 523 (by decide +kernel) rfl)
theorem lL_40 : ML RL 40 yX7_riser := Or.inl (gw_t 527 (by decide +kernel) rfl)
theorem lX7_160 : ML RX7 160 yX7_isRiser := Or.inl (gw_t 531 (by decide +kernel) rfl)
theorem lX7_168 : ML RX7 168 yX3_starvedBy := Or.inr ⟨"FeedCheck", nw_t 535 (by decide +kernel) rfl⟩
theorem lX3_121 : ML RX3 121 yX3_allRisers := Or.inl (gw_t 539 (by decide +kernel) rfl)
theorem lX3_125 : ML RX3 125 yX3_fedTops := Or.inl (gw_t 540 (by decide +kernel) rfl)
theorem lX3_118 : ML RX3 118 yX3_feeder := Or.inl (gw_t 544 (by decide +kernel) rfl)
theorem lL_44 : ML RL 44 yX7_put := Or.inl (gw_t 545 (by decide +kernel) rfl)
theorem lX7_171 : ML RX7 171 yX7_isSize := Or.inl (gw_t 549 (by decide +kernel) rfl)
theorem lX7_177 : ML RX7 177 yX2_remember := Or.inr ⟨"FeedCheck", nw_t 552 (by decide +kernel) rfl⟩
theorem lX2_22 : ML RX2 22 yX1_copyFrom := Or.inr ⟨"FeedCheck", nw_t 556 (by decide +kernel) rfl⟩
theorem lX2_29 : ML RX2 29 yJ9_min_7cf53 := Or.inl (gw_t 557 (by decide +kernel) rfl)
theorem lX7_180 : ML RX7 180 yX1_addRiser := Or.inr ⟨"FeedCheck", nw_t 560 (by decide +kernel) rfl⟩
theorem lL_49 : ML RL 49 yX7_take := Or.inl (gw_t 561 (by decide +kernel) rfl)
theorem lX7_184 : ML RX7 184 yX1_removeRiser := Or.inr ⟨"FeedCheck", nw_t 565 (by decide +kernel) rfl⟩
theorem lL_53 : ML RL 53 yX7_move := Or.inl (gw_t 569 (by decide +kernel) rfl)
theorem lX7_188 : ML RX7 188 yX7_isChillStep := Or.inl (gw_t 573 (by decide +kernel) rfl)
theorem lL_57 : ML RL 57 yX7_chill := Or.inl (gw_t 576 (by decide +kernel) rfl)
theorem lX7_191 : ML RX7 191 yX3_tops := Or.inr ⟨"FeedCheck", nw_t 580 (by decide +kernel) rfl⟩
theorem lX7_194 : ML RX7 194 yJ6_bitCount_0f7a4 := Or.inl (gw_t 584 (by decide +kernel) rfl)
theorem gJ6_265 : Cond.constant RJ6 265 (i32 1431655765) ∈ GW := gw_t 587 (by decide +kernel) rfl
theorem gJ6_266 : Cond.constant RJ6 266 (i32 858993459) ∈ GW := gw_t 588 (by decide +kernel) rfl
theorem gJ6_267 : Cond.constant RJ6 267 (i32 252645135) ∈ GW := gw_t 589 (by decide +kernel) rfl
theorem lL_61 : ML RL 61 yX7_undo := Or.inl (gw_t 590 (by decide +kernel) rfl)
theorem lX7_202 : ML RX7 202 yX2_recall := Or.inr ⟨"FeedCheck", nw_t 594 (by decide +kernel) rfl⟩
theorem lL_65 : ML RL 65 yX7_keep := Or.inl (gw_t 598 (by decide +kernel) rfl)
theorem lX7_205 : ML RX7 205 yX7_isKeepPlace := Or.inl (gw_t 602 (by decide +kernel) rfl)
theorem lL_69 : ML RL 69 yX7_back := Or.inl (gw_t 605 (by decide +kernel) rfl)
theorem lL_73 : ML RL 73 yX7_order := Or.inl (gw_t 609 (by decide +kernel) rfl)
theorem lX7_208 : ML RX7 208 yX3_atRank := Or.inr ⟨"FeedCheck", nw_t 613 (by decide +kernel) rfl⟩
theorem lX3_133 : ML RX3 133 yX3_rank := Or.inl (gw_t 617 (by decide +kernel) rfl)
theorem lL_77 : ML RL 77 yX7_pass := Or.inl (gw_t 621 (by decide +kernel) rfl)
theorem lX7_211 : ML RX7 211 yX3_passBetween := Or.inr ⟨"FeedCheck", nw_t 625 (by decide +kernel) rfl⟩
theorem lL_81 : ML RL 81 yX7_need := Or.inl (gw_t 626 (by decide +kernel) rfl)
theorem lX7_214 : ML RX7 214 yX3_leastVolume := Or.inr ⟨"FeedCheck", nw_t 630 (by decide +kernel) rfl⟩
theorem lL_85 : ML RL 85 yX7_best := Or.inl (gw_t 634 (by decide +kernel) rfl)
theorem lX7_217 : ML RX7 217 yX3_bestChilled := Or.inr ⟨"FeedCheck", nw_t 638 (by decide +kernel) rfl⟩
theorem lX3_144 : ML RX3 144 yX3_topsIfChilled := Or.inl (gw_t 642 (by decide +kernel) rfl)
theorem lX3_136 : ML RX3 136 yJ9_min_7cf53 := Or.inl (gw_t 646 (by decide +kernel) rfl)
theorem lX3_141 : ML RX3 141 yX3_tops := Or.inl (gw_t 647 (by decide +kernel) rfl)
theorem lX3_128 : ML RX3 128 yJ6_bitCount_0f7a4 := Or.inl (gw_t 648 (by decide +kernel) rfl)
theorem lX7_220 : ML RX7 220 yX3_topsIfChilled := Or.inr ⟨"FeedCheck", nw_t 649 (by decide +kernel) rfl⟩
theorem lL_89 : ML RL 89 yX7_least := Or.inl (gw_t 650 (by decide +kernel) rfl)
theorem lX7_223 : ML RX7 223 yX3_fewestRisers := Or.inr ⟨"FeedCheck", nw_t 654 (by decide +kernel) rfl⟩
theorem lL_93 : ML RL 93 yX7_bin := Or.inl (gw_t 658 (by decide +kernel) rfl)
theorem lX7_226 : ML RX7 226 yX7_isBin := Or.inl (gw_t 662 (by decide +kernel) rfl)
theorem lX7_229 : ML RX7 229 yX0_begin := Or.inr ⟨"FeedCheck", nw_t 665 (by decide +kernel) rfl⟩
theorem lL_97 : ML RL 97 yX7_addWhole := Or.inl (gw_t 669 (by decide +kernel) rfl)
theorem lX7_232 : ML RX7 232 yX0_addThing := Or.inr ⟨"FeedCheck", nw_t 673 (by decide +kernel) rfl⟩
theorem lL_101 : ML RL 101 yX7_addPair := Or.inl (gw_t 677 (by decide +kernel) rfl)
theorem lX7_235 : ML RX7 235 yX7_isPairPart := Or.inl (gw_t 681 (by decide +kernel) rfl)
theorem lL_105 : ML RL 105 yX7_find := Or.inl (gw_t 684 (by decide +kernel) rfl)
theorem lX7_243 : ML RX7 243 yX0_greatest := Or.inr ⟨"FeedCheck", nw_t 688 (by decide +kernel) rfl⟩
theorem lX0_32 : ML RX0 32 yJ9_max_7cf53 := Or.inl (gw_t 692 (by decide +kernel) rfl)
theorem lX7_246 : ML RX7 246 yX0_smallest := Or.inr ⟨"FeedCheck", nw_t 695 (by decide +kernel) rfl⟩
theorem lX0_38 : ML RX0 38 yJ9_min_7cf53 := Or.inl (gw_t 699 (by decide +kernel) rfl)
theorem lL_109 : ML RL 109 yX7_pop := Or.inl (gw_t 700 (by decide +kernel) rfl)
theorem lL_113 : ML RL 113 yX7_sort := Or.inl (gw_t 704 (by decide +kernel) rfl)
theorem lX7_252 : ML RX7 252 yX0_arrange := Or.inr ⟨"FeedCheck", nw_t 708 (by decide +kernel) rfl⟩
theorem lL_117 : ML RL 117 yX7_pour := Or.inl (gw_t 712 (by decide +kernel) rfl)
theorem lX7_255 : ML RX7 255 yX0_addAll := Or.inr ⟨"FeedCheck", nw_t 716 (by decide +kernel) rfl⟩
theorem lL_121 : ML RL 121 yX7_sum := Or.inl (gw_t 721 (by decide +kernel) rfl)
theorem lX7_259 : ML RX7 259 yX0_together := Or.inr ⟨"FeedCheck", nw_t 725 (by decide +kernel) rfl⟩
theorem lL_125 : ML RL 125 yX7_drop := Or.inl (gw_t 729 (by decide +kernel) rfl)
theorem lL_129 : ML RL 129 yX7_count := Or.inl (gw_t 733 (by decide +kernel) rfl)
theorem lX7_268 : ML RX7 268 yX4_joints := Or.inr ⟨"FeedCheck", nw_t 737 (by decide +kernel) rfl⟩
theorem lX4_58 : ML RX4 58 yJ6_bitCount_0f7a4 := Or.inl (gw_t 741 (by decide +kernel) rfl)
theorem lX7_271 : ML RX7 271 yX7_countOfTops := Or.inl (gw_t 742 (by decide +kernel) rfl)
theorem lX7_286 : ML RX7 286 yX3_drownedTops := Or.inr ⟨"FeedCheck", nw_t 746 (by decide +kernel) rfl⟩
theorem lX7_289 : ML RX7 289 yX3_fedTops := Or.inr ⟨"FeedCheck", nw_t 750 (by decide +kernel) rfl⟩
theorem lX7_283 : ML RX7 283 yX7_thingsOfAllBins := Or.inl (gw_t 751 (by decide +kernel) rfl)
theorem lL_12 : ML RL 12 yX8_init := Or.inl (gw_t 757 (by decide +kernel) rfl)
theorem fX8_7 : FL RX8 7 8 0 := ⟨RX8, TX8, 25, rfl, by decide, uw8, Or.inl (gw_t 761 (by decide +kernel) rfl)⟩
theorem fX8_57 : FL RX8 57 8 1 := ⟨RX8, TX8, 25, rfl, by decide, uw8, Or.inl (gw_t 762 (by decide +kernel) rfl)⟩
theorem pX8_57 : PL RX8 57 8 1 false := ⟨RX8, TX8, 25, rfl, by decide, uw8, Or.inl (gw_t 762 (by decide +kernel) rfl), rfl, ⟨tyX8, tyX8_ok⟩, nmX8, by decide +kernel⟩
theorem fX8_13 : FL RX8 13 8 2 := ⟨RX8, TX8, 25, rfl, by decide, uw8, Or.inl (gw_t 763 (by decide +kernel) rfl)⟩
theorem fX8_16 : FL RX8 16 8 3 := ⟨RX8, TX8, 25, rfl, by decide, uw8, Or.inl (gw_t 764 (by decide +kernel) rfl)⟩
theorem fX8_19 : FL RX8 19 8 4 := ⟨RX8, TX8, 25, rfl, by decide, uw8, Or.inl (gw_t 765 (by decide +kernel) rfl)⟩
theorem fX8_22 : FL RX8 22 8 5 := ⟨RX8, TX8, 25, rfl, by decide, uw8, Or.inl (gw_t 766 (by decide +kernel) rfl)⟩
theorem pX8_22 : PL RX8 22 8 5 false := ⟨RX8, TX8, 25, rfl, by decide, uw8, Or.inl (gw_t 766 (by decide +kernel) rfl), rfl, ⟨tyX8, tyX8_ok⟩, nmX8, by decide +kernel⟩
theorem fX8_26 : FL RX8 26 8 6 := ⟨RX8, TX8, 25, rfl, by decide, uw8, Or.inl (gw_t 767 (by decide +kernel) rfl)⟩
theorem pX8_26 : PL RX8 26 8 6 false := ⟨RX8, TX8, 25, rfl, by decide, uw8, Or.inl (gw_t 767 (by decide +kernel) rfl), rfl, ⟨tyX8, tyX8_ok⟩, nmX8, by decide +kernel⟩
theorem fX8_29 : FL RX8 29 8 7 := ⟨RX8, TX8, 25, rfl, by decide, uw8, Or.inl (gw_t 768 (by decide +kernel) rfl)⟩
theorem pX8_29 : PL RX8 29 8 7 false := ⟨RX8, TX8, 25, rfl, by decide, uw8, Or.inl (gw_t 768 (by decide +kernel) rfl), rfl, ⟨tyX8, tyX8_ok⟩, nmX8, by decide +kernel⟩
theorem fX8_144 : FL RX8 144 8 8 := ⟨RX8, TX8, 25, rfl, by decide, uw8, Or.inl (gw_t 769 (by decide +kernel) rfl)⟩
theorem pX8_144 : PL RX8 144 8 8 false := ⟨RX8, TX8, 25, rfl, by decide, uw8, Or.inl (gw_t 769 (by decide +kernel) rfl), rfl, ⟨tyX8, tyX8_ok⟩, nmX8, by decide +kernel⟩
theorem fX8_32 : FL RX8 32 8 9 := ⟨RX8, TX8, 25, rfl, by decide, uw8, Or.inl (gw_t 770 (by decide +kernel) rfl)⟩
theorem fX8_36 : FL RX8 36 8 10 := ⟨RX8, TX8, 25, rfl, by decide, uw8, Or.inl (gw_t 771 (by decide +kernel) rfl)⟩
theorem fX8_66 : FL RX8 66 8 11 := ⟨RX8, TX8, 25, rfl, by decide, uw8, Or.inl (gw_t 772 (by decide +kernel) rfl)⟩
theorem pX8_66 : PL RX8 66 8 11 false := ⟨RX8, TX8, 25, rfl, by decide, uw8, Or.inl (gw_t 772 (by decide +kernel) rfl), rfl, ⟨tyX8, tyX8_ok⟩, nmX8, by decide +kernel⟩
theorem fX8_39 : FL RX8 39 8 12 := ⟨RX8, TX8, 25, rfl, by decide, uw8, Or.inl (gw_t 773 (by decide +kernel) rfl)⟩
theorem fX8_42 : FL RX8 42 8 13 := ⟨RX8, TX8, 25, rfl, by decide, uw8, Or.inl (gw_t 774 (by decide +kernel) rfl)⟩
theorem fX8_45 : FL RX8 45 8 14 := ⟨RX8, TX8, 25, rfl, by decide, uw8, Or.inl (gw_t 775 (by decide +kernel) rfl)⟩
theorem fX8_80 : FL RX8 80 8 15 := ⟨RX8, TX8, 25, rfl, by decide, uw8, Or.inl (gw_t 776 (by decide +kernel) rfl)⟩
theorem pX8_80 : PL RX8 80 8 15 false := ⟨RX8, TX8, 25, rfl, by decide, uw8, Or.inl (gw_t 776 (by decide +kernel) rfl), rfl, ⟨tyX8, tyX8_ok⟩, nmX8, by decide +kernel⟩
theorem fX8_77 : FL RX8 77 8 16 := ⟨RX8, TX8, 25, rfl, by decide, uw8, Or.inl (gw_t 777 (by decide +kernel) rfl)⟩
theorem pX8_77 : PL RX8 77 8 16 false := ⟨RX8, TX8, 25, rfl, by decide, uw8, Or.inl (gw_t 777 (by decide +kernel) rfl), rfl, ⟨tyX8, tyX8_ok⟩, nmX8, by decide +kernel⟩
theorem fX8_93 : FL RX8 93 8 17 := ⟨RX8, TX8, 25, rfl, by decide, uw8, Or.inl (gw_t 778 (by decide +kernel) rfl)⟩
theorem pX8_93 : PL RX8 93 8 17 false := ⟨RX8, TX8, 25, rfl, by decide, uw8, Or.inl (gw_t 778 (by decide +kernel) rfl), rfl, ⟨tyX8, tyX8_ok⟩, nmX8, by decide +kernel⟩
theorem fX8_115 : FL RX8 115 8 18 := ⟨RX8, TX8, 25, rfl, by decide, uw8, Or.inl (gw_t 779 (by decide +kernel) rfl)⟩
theorem pX8_115 : PL RX8 115 8 18 false := ⟨RX8, TX8, 25, rfl, by decide, uw8, Or.inl (gw_t 779 (by decide +kernel) rfl), rfl, ⟨tyX8, tyX8_ok⟩, nmX8, by decide +kernel⟩
theorem fX8_129 : FL RX8 129 8 19 := ⟨RX8, TX8, 25, rfl, by decide, uw8, Or.inl (gw_t 780 (by decide +kernel) rfl)⟩
theorem pX8_129 : PL RX8 129 8 19 false := ⟨RX8, TX8, 25, rfl, by decide, uw8, Or.inl (gw_t 780 (by decide +kernel) rfl), rfl, ⟨tyX8, tyX8_ok⟩, nmX8, by decide +kernel⟩
theorem fX8_121 : FL RX8 121 8 20 := ⟨RX8, TX8, 25, rfl, by decide, uw8, Or.inl (gw_t 781 (by decide +kernel) rfl)⟩
theorem pX8_121 : PL RX8 121 8 20 true := ⟨RX8, TX8, 25, rfl, by decide, uw8, Or.inl (gw_t 781 (by decide +kernel) rfl), rfl, ⟨tyX8, tyX8_ok⟩, nmX8, by decide +kernel⟩
theorem fX8_48 : FL RX8 48 8 21 := ⟨RX8, TX8, 25, rfl, by decide, uw8, Or.inl (gw_t 782 (by decide +kernel) rfl)⟩
theorem fX8_51 : FL RX8 51 8 22 := ⟨RX8, TX8, 25, rfl, by decide, uw8, Or.inl (gw_t 783 (by decide +kernel) rfl)⟩
theorem fX8_163 : FL RX8 163 8 23 := ⟨RX8, TX8, 25, rfl, by decide, uw8, Or.inl (gw_t 784 (by decide +kernel) rfl)⟩
theorem pX8_163 : PL RX8 163 8 23 false := ⟨RX8, TX8, 25, rfl, by decide, uw8, Or.inl (gw_t 784 (by decide +kernel) rfl), rfl, ⟨tyX8, tyX8_ok⟩, nmX8, by decide +kernel⟩
theorem fX8_54 : FL RX8 54 8 24 := ⟨RX8, TX8, 25, rfl, by decide, uw8, Or.inl (gw_t 785 (by decide +kernel) rfl)⟩
theorem lL_17 : ML RL 17 yX8_write := Or.inl (gw_t 837 (by decide +kernel) rfl)
theorem gX8_60 : Cond.constantLong RX8 60 (i64 255) ∈ GW := gw_t 841 (by decide +kernel) rfl
theorem lX8_62 : ML RX8 62 yX8_in := Or.inl (gw_t 842 (by decide +kernel) rfl)
theorem lL_22 : ML RL 22 yX8_erase := Or.inl (gw_t 845 (by decide +kernel) rfl)
theorem lL_26 : ML RL 26 yX8_fault := Or.inl (gw_t 849 (by decide +kernel) rfl)
theorem lX8_136 : ML RX8 136 yX8_reads := Or.inl (gw_t 853 (by decide +kernel) rfl)
theorem lX8_90 : ML RX8 90 yX8_nextToken := Or.inl (gw_t 857 (by decide +kernel) rfl)
theorem lX8_83 : ML RX8 83 yX8_isSmall := Or.inl (gw_t 861 (by decide +kernel) rfl)
theorem gX8_69 : Cond.constantLong RX8 69 (i64 97) ∈ GW := gw_t 864 (by decide +kernel) rfl
theorem gX8_71 : Cond.constantLong RX8 71 (i64 122) ∈ GW := gw_t 865 (by decide +kernel) rfl
theorem lX8_87 : ML RX8 87 yX8_isDigit := Or.inl (gw_t 866 (by decide +kernel) rfl)
theorem gX8_73 : Cond.constantLong RX8 73 (i64 48) ∈ GW := gw_t 869 (by decide +kernel) rfl
theorem gX8_75 : Cond.constantLong RX8 75 (i64 57) ∈ GW := gw_t 870 (by decide +kernel) rfl
theorem lX8_132 : ML RX8 132 yX8_readsClause := Or.inl (gw_t 871 (by decide +kernel) rfl)
theorem lX8_111 : ML RX8 111 yX8_wordHere := Or.inl (gw_t 875 (by decide +kernel) rfl)
theorem lX8_118 : ML RX8 118 yX8_readsRest := Or.inl (gw_t 879 (by decide +kernel) rfl)
theorem lX8_96 : ML RX8 96 yX8_number := Or.inl (gw_t 883 (by decide +kernel) rfl)
theorem lX8_100 : ML RX8 100 yX8_readsSection := Or.inl (gw_t 887 (by decide +kernel) rfl)
theorem lX8_125 : ML RX8 125 yX8_does := Or.inl (gw_t 891 (by decide +kernel) rfl)
theorem lX8_104 : ML RX8 104 yX8_anew := Or.inl (gw_t 895 (by decide +kernel) rfl)
theorem lX8_107 : ML RX8 107 yX8_addRiser := Or.inl (gw_t 899 (by decide +kernel) rfl)
theorem lL_30 : ML RL 30 yX8_casting := Or.inl (gw_t 903 (by decide +kernel) rfl)
theorem lX8_140 : ML RX8 140 yX8_copyRow := Or.inl (gw_t 907 (by decide +kernel) rfl)
theorem lL_35 : ML RL 35 yX8_section := Or.inl (gw_t 911 (by decide +kernel) rfl)
theorem lX8_204 : ML RX8 204 yX8_isSection := Or.inl (gw_t 915 (by decide +kernel) rfl)
theorem lX8_147 : ML RX8 147 yX8_skinOf := Or.inl (gw_t 919 (by decide +kernel) rfl)
theorem lX8_207 : ML RX8 207 yX8_divisor := Or.inl (gw_t 923 (by decide +kernel) rfl)
theorem lX8_160 : ML RX8 160 yX8_isTop := Or.inl (gw_t 926 (by decide +kernel) rfl)
theorem lX8_157 : ML RX8 157 yX8_latest := Or.inl (gw_t 930 (by decide +kernel) rfl)
theorem lX8_151 : ML RX8 151 yX8_has := Or.inl (gw_t 934 (by decide +kernel) rfl)
theorem lX8_154 : ML RX8 154 yX8_isLater := Or.inl (gw_t 937 (by decide +kernel) rfl)
theorem lX8_166 : ML RX8 166 yX8_topOf := Or.inl (gw_t 941 (by decide +kernel) rfl)
theorem lL_39 : ML RL 39 yX8_top := Or.inl (gw_t 945 (by decide +kernel) rfl)
theorem gX8_210 : Cond.constantLong RX8 210 (i64 4) ∈ GW := gw_t 949 (by decide +kernel) rfl
theorem lX8_195 : ML RX8 195 yX8_layHeads := Or.inl (gw_t 950 (by decide +kernel) rfl)
theorem lX8_185 : ML RX8 185 yX8_head := Or.inl (gw_t 954 (by decide +kernel) rfl)
theorem lX8_182 : ML RX8 182 yX8_drownedIn := Or.inl (gw_t 958 (by decide +kernel) rfl)
theorem lX8_172 : ML RX8 172 yX8_tops := Or.inl (gw_t 962 (by decide +kernel) rfl)
theorem lX8_175 : ML RX8 175 yX8_passOf := Or.inl (gw_t 966 (by decide +kernel) rfl)
theorem lX8_169 : ML RX8 169 yX8_basin := Or.inl (gw_t 970 (by decide +kernel) rfl)
theorem lX8_179 : ML RX8 179 yX8_isHigh := Or.inl (gw_t 974 (by decide +kernel) rfl)
theorem lX8_198 : ML RX8 198 yX8_allRisers := Or.inl (gw_t 978 (by decide +kernel) rfl)
theorem lX8_192 : ML RX8 192 yX8_feeder := Or.inl (gw_t 982 (by decide +kernel) rfl)
theorem lX8_188 : ML RX8 188 yX8_outlasts := Or.inl (gw_t 986 (by decide +kernel) rfl)
theorem lL_43 : ML RL 43 yX8_riser := Or.inl (gw_t 990 (by decide +kernel) rfl)
theorem lX8_212 : ML RX8 212 yX8_isRiser := Or.inl (gw_t 994 (by decide +kernel) rfl)
theorem lX8_215 : ML RX8 215 yX8_fed := Or.inl (gw_t 998 (by decide +kernel) rfl)
theorem lX8_201 : ML RX8 201 yX8_fedBy := Or.inl (gw_t 1002 (by decide +kernel) rfl)
theorem lL_48 : ML RL 48 yX8_put := Or.inl (gw_t 1006 (by decide +kernel) rfl)
theorem gX8_218 : Cond.constantLong RX8 218 (i64 99) ∈ GW := gw_t 1010 (by decide +kernel) rfl
theorem lX8_220 : ML RX8 220 yX8_keepPast := Or.inl (gw_t 1011 (by decide +kernel) rfl)
theorem lL_52 : ML RL 52 yX8_take := Or.inl (gw_t 1015 (by decide +kernel) rfl)
theorem lL_56 : ML RL 56 yX8_move := Or.inl (gw_t 1019 (by decide +kernel) rfl)
theorem gX8_223 : Cond.constantLong RX8 223 (i64 9) ∈ GW := gw_t 1023 (by decide +kernel) rfl
theorem lL_60 : ML RL 60 yX8_chill := Or.inl (gw_t 1024 (by decide +kernel) rfl)
theorem lX8_225 : ML RX8 225 yX8_ones := Or.inl (gw_t 1028 (by decide +kernel) rfl)
theorem lL_64 : ML RL 64 yX8_undo := Or.inl (gw_t 1031 (by decide +kernel) rfl)
theorem lL_68 : ML RL 68 yX8_keep := Or.inl (gw_t 1035 (by decide +kernel) rfl)
theorem lL_72 : ML RL 72 yX8_back := Or.inl (gw_t 1039 (by decide +kernel) rfl)
theorem lL_76 : ML RL 76 yX8_order := Or.inl (gw_t 1043 (by decide +kernel) rfl)
theorem lL_80 : ML RL 80 yX8_pass := Or.inl (gw_t 1047 (by decide +kernel) rfl)
theorem lL_84 : ML RL 84 yX8_need := Or.inl (gw_t 1051 (by decide +kernel) rfl)
theorem lL_88 : ML RL 88 yX8_best := Or.inl (gw_t 1055 (by decide +kernel) rfl)
theorem lL_92 : ML RL 92 yX8_least := Or.inl (gw_t 1059 (by decide +kernel) rfl)
theorem lL_96 : ML RL 96 yX8_bin := Or.inl (gw_t 1063 (by decide +kernel) rfl)
theorem lX8_230 : ML RX8 230 yX8_isBin := Or.inl (gw_t 1067 (by decide +kernel) rfl)
theorem gX8_228 : Cond.constantLong RX8 228 (i64 2) ∈ GW := gw_t 1070 (by decide +kernel) rfl
theorem lL_100 : ML RL 100 yX8_addWhole := Or.inl (gw_t 1071 (by decide +kernel) rfl)
theorem gX8_233 : Cond.constantLong RX8 233 (i64 (-999)) ∈ GW := gw_t 1075 (by decide +kernel) rfl
theorem gX8_235 : Cond.constantLong RX8 235 (i64 999) ∈ GW := gw_t 1076 (by decide +kernel) rfl
theorem lX8_237 : ML RX8 237 yX8_add := Or.inl (gw_t 1077 (by decide +kernel) rfl)
theorem lL_104 : ML RL 104 yX8_addPair := Or.inl (gw_t 1081 (by decide +kernel) rfl)
theorem lL_108 : ML RL 108 yX8_find := Or.inl (gw_t 1085 (by decide +kernel) rfl)
theorem lL_112 : ML RL 112 yX8_pop := Or.inl (gw_t 1089 (by decide +kernel) rfl)
theorem lL_116 : ML RL 116 yX8_sort := Or.inl (gw_t 1093 (by decide +kernel) rfl)
theorem lL_120 : ML RL 120 yX8_pour := Or.inl (gw_t 1097 (by decide +kernel) rfl)
theorem lL_124 : ML RL 124 yX8_sum := Or.inl (gw_t 1101 (by decide +kernel) rfl)
theorem lL_128 : ML RL 128 yX8_drop := Or.inl (gw_t 1105 (by decide +kernel) rfl)
theorem lL_132 : ML RL 132 yX8_count := Or.inl (gw_t 1109 (by decide +kernel) rfl)
theorem lX8_241 : ML RX8 241 yX8_joints := Or.inl (gw_t 1113 (by decide +kernel) rfl)
theorem lX8_244 : ML RX8 244 yX8_drowned := Or.inl (gw_t 1117 (by decide +kernel) rfl)
theorem lX8_247 : ML RX8 247 yX8_allThings := Or.inl (gw_t 1121 (by decide +kernel) rfl)
end
section
def b2i (b : Bool) : Int := if b then 1 else 0
theorem b2i_01 (b : Bool) : b2i b = 0 ∨ b2i b = 1 := by cases b <;> simp [b2i]
theorem b2i_r (b : Bool) : InR (b2i b) := by cases b <;> decide
theorem cf_i {z z' : Int} (h : z = z') : some (vI z) = some (vI z') := by rw [h]
/-- a count upward: what is behind k helps at k -/
theorem ind_up (P : Nat → Prop) (N : Nat) (h : ∀ k, k ≤ N → (k < N → P (k + 1)) → P k) : ∀ k, k ≤ N → P k := by
  have key : ∀ f k, k + f = N → P k := by
    intro f
    induction f with
    | zero => intro k hk; exact h k (by omega) (fun h2 => absurd h2 (by omega))
    | succ f ih => intro k hk; exact h k (by omega) (fun _ => ih (k + 1) (by omega))
  intro k hk
  exact key (N - k) k (by omega)
/-- a count downward -/
theorem ind_dn (P : Nat → Prop) (h0 : P 0) (h : ∀ k, P k → P (k + 1)) : ∀ k, P k := by
  intro k
  induction k with
  | zero => exact h0
  | succ k ih => exact h k ih
/-- a measure that falls -/
theorem ind_me {S : Type} (P : S → Prop) (μ : S → Nat) (h : ∀ x, (∀ y, μ y < μ x → P y) → P x) : ∀ x, P x := by
  have key : ∀ n x, μ x < n → P x := by
    intro n
    induction n with
    | zero => intro x hx; omega
    | succ n ih => intro x hx; exact h x (fun y hy => ih y (by omega))
  intro x
  exact key (μ x + 1) x (by omega)
section PAT
variable {d : Nat} {M : Mi} {X : Cx} {k n : Nat} {L : List Ly} {σ α : St} {pc nx : Nat} {lv : List (Option AV)} {st : List AV}
theorem V.as {σ' α' : St} {lv' : List (Option AV)} {st' : List AV} (h : V d M X k n L σ' α' pc lv' st') (e1 : σ = σ') (e2 : α = α') (e3 : lv = lv') (e4 : st = st') : V d M X k n L σ α pc lv st := by subst e1 e2 e3 e4; exact h
theorem v_bif_eq {b : Bool} {off : Int} {tgt : Nat} (hd : At M.2.1 pc (.ifCond .eq off) 3 nx) (ht : (pc : Int) + off = (tgt : Int)) (kt : b = false → V d M X k n L σ α tgt lv st) (kf : b = true → V d M X k n L σ α nx lv st) : V d M X k n L σ α pc lv (vI (b2i b) :: st) :=
  v_if_eq hd ht (b2i_r b) (fun h => kt (by cases b <;> simp [b2i] at h ⊢)) (fun h => kf (by cases b <;> simp [b2i] at h ⊢))
theorem v_bif_ne {b : Bool} {off : Int} {tgt : Nat} (hd : At M.2.1 pc (.ifCond .ne off) 3 nx) (ht : (pc : Int) + off = (tgt : Int)) (kt : b = true → V d M X k n L σ α tgt lv st) (kf : b = false → V d M X k n L σ α nx lv st) : V d M X k n L σ α pc lv (vI (b2i b) :: st) :=
  v_if_ne hd ht (b2i_r b) (fun h => kt (by cases b <;> simp [b2i] at h ⊢)) (fun h => kf (by cases b <;> simp [b2i] at h ⊢))
theorem v_is0 {y0 : Option AV} {r : List (Option AV)} {z : Int} (hd : At M.2.1 pc (.istore_n 0) 1 nx) (hn : noL (y0 :: r) ∧ (y0 :: r).length = M.2.2.1) (kk : V d M X k n L σ α nx (some (vI z) :: r) st) : V d M X k n L σ α pc (y0 :: r) (vI z :: st) := v_istore_n hd ⟨hn.1, hn.2, by rw [← hn.2]; show 0 < _; simp only [List.length_cons]; omega⟩ rfl kk
theorem v_as0 {y0 : Option AV} {r : List (Option AV)} {q : Nat} (hd : At M.2.1 pc (.astore_n 0) 1 nx) (hn : noL (y0 :: r) ∧ (y0 :: r).length = M.2.2.1) (kk : V d M X k n L σ α nx (some (vR q) :: r) st) : V d M X k n L σ α pc (y0 :: r) (vR q :: st) := v_astore_n hd ⟨hn.1, hn.2, by rw [← hn.2]; show 0 < _; simp only [List.length_cons]; omega⟩ rfl kk
theorem v_in0 {r : List (Option AV)} {x z : Int} (hd : At M.2.1 pc (.iinc 0 z) 3 nx) (hn : noL (some (vI x) :: r) ∧ (some (vI x) :: r).length = M.2.2.1) (kk : V d M X k n L σ α nx (some (vI (x + z)) :: r) st) : V d M X k n L σ α pc (some (vI x) :: r) st := v_iinc hd ⟨hn.1, hn.2, by rw [← hn.2]; show 0 < _; simp only [List.length_cons]; omega⟩ rfl rfl kk
theorem v_is1 {a0 y0 : Option AV} {r : List (Option AV)} {z : Int} (hd : At M.2.1 pc (.istore_n 1) 1 nx) (hn : noL (a0 :: y0 :: r) ∧ (a0 :: y0 :: r).length = M.2.2.1) (kk : V d M X k n L σ α nx (a0 :: some (vI z) :: r) st) : V d M X k n L σ α pc (a0 :: y0 :: r) (vI z :: st) := v_istore_n hd ⟨hn.1, hn.2, by rw [← hn.2]; show 1 < _; simp only [List.length_cons]; omega⟩ rfl kk
theorem v_as1 {a0 y0 : Option AV} {r : List (Option AV)} {q : Nat} (hd : At M.2.1 pc (.astore_n 1) 1 nx) (hn : noL (a0 :: y0 :: r) ∧ (a0 :: y0 :: r).length = M.2.2.1) (kk : V d M X k n L σ α nx (a0 :: some (vR q) :: r) st) : V d M X k n L σ α pc (a0 :: y0 :: r) (vR q :: st) := v_astore_n hd ⟨hn.1, hn.2, by rw [← hn.2]; show 1 < _; simp only [List.length_cons]; omega⟩ rfl kk
theorem v_in1 {a0 : Option AV} {r : List (Option AV)} {x z : Int} (hd : At M.2.1 pc (.iinc 1 z) 3 nx) (hn : noL (a0 :: some (vI x) :: r) ∧ (a0 :: some (vI x) :: r).length = M.2.2.1) (kk : V d M X k n L σ α nx (a0 :: some (vI (x + z)) :: r) st) : V d M X k n L σ α pc (a0 :: some (vI x) :: r) st := v_iinc hd ⟨hn.1, hn.2, by rw [← hn.2]; show 1 < _; simp only [List.length_cons]; omega⟩ rfl rfl kk
theorem v_is2 {a0 a1 y0 : Option AV} {r : List (Option AV)} {z : Int} (hd : At M.2.1 pc (.istore_n 2) 1 nx) (hn : noL (a0 :: a1 :: y0 :: r) ∧ (a0 :: a1 :: y0 :: r).length = M.2.2.1) (kk : V d M X k n L σ α nx (a0 :: a1 :: some (vI z) :: r) st) : V d M X k n L σ α pc (a0 :: a1 :: y0 :: r) (vI z :: st) := v_istore_n hd ⟨hn.1, hn.2, by rw [← hn.2]; show 2 < _; simp only [List.length_cons]; omega⟩ rfl kk
theorem v_as2 {a0 a1 y0 : Option AV} {r : List (Option AV)} {q : Nat} (hd : At M.2.1 pc (.astore_n 2) 1 nx) (hn : noL (a0 :: a1 :: y0 :: r) ∧ (a0 :: a1 :: y0 :: r).length = M.2.2.1) (kk : V d M X k n L σ α nx (a0 :: a1 :: some (vR q) :: r) st) : V d M X k n L σ α pc (a0 :: a1 :: y0 :: r) (vR q :: st) := v_astore_n hd ⟨hn.1, hn.2, by rw [← hn.2]; show 2 < _; simp only [List.length_cons]; omega⟩ rfl kk
theorem v_in2 {a0 a1 : Option AV} {r : List (Option AV)} {x z : Int} (hd : At M.2.1 pc (.iinc 2 z) 3 nx) (hn : noL (a0 :: a1 :: some (vI x) :: r) ∧ (a0 :: a1 :: some (vI x) :: r).length = M.2.2.1) (kk : V d M X k n L σ α nx (a0 :: a1 :: some (vI (x + z)) :: r) st) : V d M X k n L σ α pc (a0 :: a1 :: some (vI x) :: r) st := v_iinc hd ⟨hn.1, hn.2, by rw [← hn.2]; show 2 < _; simp only [List.length_cons]; omega⟩ rfl rfl kk
theorem v_is3 {a0 a1 a2 y0 : Option AV} {r : List (Option AV)} {z : Int} (hd : At M.2.1 pc (.istore_n 3) 1 nx) (hn : noL (a0 :: a1 :: a2 :: y0 :: r) ∧ (a0 :: a1 :: a2 :: y0 :: r).length = M.2.2.1) (kk : V d M X k n L σ α nx (a0 :: a1 :: a2 :: some (vI z) :: r) st) : V d M X k n L σ α pc (a0 :: a1 :: a2 :: y0 :: r) (vI z :: st) := v_istore_n hd ⟨hn.1, hn.2, by rw [← hn.2]; show 3 < _; simp only [List.length_cons]; omega⟩ rfl kk
theorem v_as3 {a0 a1 a2 y0 : Option AV} {r : List (Option AV)} {q : Nat} (hd : At M.2.1 pc (.astore_n 3) 1 nx) (hn : noL (a0 :: a1 :: a2 :: y0 :: r) ∧ (a0 :: a1 :: a2 :: y0 :: r).length = M.2.2.1) (kk : V d M X k n L σ α nx (a0 :: a1 :: a2 :: some (vR q) :: r) st) : V d M X k n L σ α pc (a0 :: a1 :: a2 :: y0 :: r) (vR q :: st) := v_astore_n hd ⟨hn.1, hn.2, by rw [← hn.2]; show 3 < _; simp only [List.length_cons]; omega⟩ rfl kk
theorem v_in3 {a0 a1 a2 : Option AV} {r : List (Option AV)} {x z : Int} (hd : At M.2.1 pc (.iinc 3 z) 3 nx) (hn : noL (a0 :: a1 :: a2 :: some (vI x) :: r) ∧ (a0 :: a1 :: a2 :: some (vI x) :: r).length = M.2.2.1) (kk : V d M X k n L σ α nx (a0 :: a1 :: a2 :: some (vI (x + z)) :: r) st) : V d M X k n L σ α pc (a0 :: a1 :: a2 :: some (vI x) :: r) st := v_iinc hd ⟨hn.1, hn.2, by rw [← hn.2]; show 3 < _; simp only [List.length_cons]; omega⟩ rfl rfl kk
theorem v_is4 {a0 a1 a2 a3 y0 : Option AV} {r : List (Option AV)} {z : Int} (hd : At M.2.1 pc (.istore 4) 2 nx) (hn : noL (a0 :: a1 :: a2 :: a3 :: y0 :: r) ∧ (a0 :: a1 :: a2 :: a3 :: y0 :: r).length = M.2.2.1) (kk : V d M X k n L σ α nx (a0 :: a1 :: a2 :: a3 :: some (vI z) :: r) st) : V d M X k n L σ α pc (a0 :: a1 :: a2 :: a3 :: y0 :: r) (vI z :: st) := v_istore hd ⟨hn.1, hn.2, by rw [← hn.2]; show 4 < _; simp only [List.length_cons]; omega⟩ rfl kk
theorem v_in4 {a0 a1 a2 a3 : Option AV} {r : List (Option AV)} {x z : Int} (hd : At M.2.1 pc (.iinc 4 z) 3 nx) (hn : noL (a0 :: a1 :: a2 :: a3 :: some (vI x) :: r) ∧ (a0 :: a1 :: a2 :: a3 :: some (vI x) :: r).length = M.2.2.1) (kk : V d M X k n L σ α nx (a0 :: a1 :: a2 :: a3 :: some (vI (x + z)) :: r) st) : V d M X k n L σ α pc (a0 :: a1 :: a2 :: a3 :: some (vI x) :: r) st := v_iinc hd ⟨hn.1, hn.2, by rw [← hn.2]; show 4 < _; simp only [List.length_cons]; omega⟩ rfl rfl kk
theorem v_is5 {a0 a1 a2 a3 a4 y0 : Option AV} {r : List (Option AV)} {z : Int} (hd : At M.2.1 pc (.istore 5) 2 nx) (hn : noL (a0 :: a1 :: a2 :: a3 :: a4 :: y0 :: r) ∧ (a0 :: a1 :: a2 :: a3 :: a4 :: y0 :: r).length = M.2.2.1) (kk : V d M X k n L σ α nx (a0 :: a1 :: a2 :: a3 :: a4 :: some (vI z) :: r) st) : V d M X k n L σ α pc (a0 :: a1 :: a2 :: a3 :: a4 :: y0 :: r) (vI z :: st) := v_istore hd ⟨hn.1, hn.2, by rw [← hn.2]; show 5 < _; simp only [List.length_cons]; omega⟩ rfl kk
theorem v_in5 {a0 a1 a2 a3 a4 : Option AV} {r : List (Option AV)} {x z : Int} (hd : At M.2.1 pc (.iinc 5 z) 3 nx) (hn : noL (a0 :: a1 :: a2 :: a3 :: a4 :: some (vI x) :: r) ∧ (a0 :: a1 :: a2 :: a3 :: a4 :: some (vI x) :: r).length = M.2.2.1) (kk : V d M X k n L σ α nx (a0 :: a1 :: a2 :: a3 :: a4 :: some (vI (x + z)) :: r) st) : V d M X k n L σ α pc (a0 :: a1 :: a2 :: a3 :: a4 :: some (vI x) :: r) st := v_iinc hd ⟨hn.1, hn.2, by rw [← hn.2]; show 5 < _; simp only [List.length_cons]; omega⟩ rfl rfl kk
theorem v_is6 {a0 a1 a2 a3 a4 a5 y0 : Option AV} {r : List (Option AV)} {z : Int} (hd : At M.2.1 pc (.istore 6) 2 nx) (hn : noL (a0 :: a1 :: a2 :: a3 :: a4 :: a5 :: y0 :: r) ∧ (a0 :: a1 :: a2 :: a3 :: a4 :: a5 :: y0 :: r).length = M.2.2.1) (kk : V d M X k n L σ α nx (a0 :: a1 :: a2 :: a3 :: a4 :: a5 :: some (vI z) :: r) st) : V d M X k n L σ α pc (a0 :: a1 :: a2 :: a3 :: a4 :: a5 :: y0 :: r) (vI z :: st) := v_istore hd ⟨hn.1, hn.2, by rw [← hn.2]; show 6 < _; simp only [List.length_cons]; omega⟩ rfl kk
theorem v_in6 {a0 a1 a2 a3 a4 a5 : Option AV} {r : List (Option AV)} {x z : Int} (hd : At M.2.1 pc (.iinc 6 z) 3 nx) (hn : noL (a0 :: a1 :: a2 :: a3 :: a4 :: a5 :: some (vI x) :: r) ∧ (a0 :: a1 :: a2 :: a3 :: a4 :: a5 :: some (vI x) :: r).length = M.2.2.1) (kk : V d M X k n L σ α nx (a0 :: a1 :: a2 :: a3 :: a4 :: a5 :: some (vI (x + z)) :: r) st) : V d M X k n L σ α pc (a0 :: a1 :: a2 :: a3 :: a4 :: a5 :: some (vI x) :: r) st := v_iinc hd ⟨hn.1, hn.2, by rw [← hn.2]; show 6 < _; simp only [List.length_cons]; omega⟩ rfl rfl kk
theorem v_is7 {a0 a1 a2 a3 a4 a5 a6 y0 : Option AV} {r : List (Option AV)} {z : Int} (hd : At M.2.1 pc (.istore 7) 2 nx) (hn : noL (a0 :: a1 :: a2 :: a3 :: a4 :: a5 :: a6 :: y0 :: r) ∧ (a0 :: a1 :: a2 :: a3 :: a4 :: a5 :: a6 :: y0 :: r).length = M.2.2.1) (kk : V d M X k n L σ α nx (a0 :: a1 :: a2 :: a3 :: a4 :: a5 :: a6 :: some (vI z) :: r) st) : V d M X k n L σ α pc (a0 :: a1 :: a2 :: a3 :: a4 :: a5 :: a6 :: y0 :: r) (vI z :: st) := v_istore hd ⟨hn.1, hn.2, by rw [← hn.2]; show 7 < _; simp only [List.length_cons]; omega⟩ rfl kk
theorem v_in7 {a0 a1 a2 a3 a4 a5 a6 : Option AV} {r : List (Option AV)} {x z : Int} (hd : At M.2.1 pc (.iinc 7 z) 3 nx) (hn : noL (a0 :: a1 :: a2 :: a3 :: a4 :: a5 :: a6 :: some (vI x) :: r) ∧ (a0 :: a1 :: a2 :: a3 :: a4 :: a5 :: a6 :: some (vI x) :: r).length = M.2.2.1) (kk : V d M X k n L σ α nx (a0 :: a1 :: a2 :: a3 :: a4 :: a5 :: a6 :: some (vI (x + z)) :: r) st) : V d M X k n L σ α pc (a0 :: a1 :: a2 :: a3 :: a4 :: a5 :: a6 :: some (vI x) :: r) st := v_iinc hd ⟨hn.1, hn.2, by rw [← hn.2]; show 7 < _; simp only [List.length_cons]; omega⟩ rfl rfl kk
theorem v_is8 {a0 a1 a2 a3 a4 a5 a6 a7 y0 : Option AV} {r : List (Option AV)} {z : Int} (hd : At M.2.1 pc (.istore 8) 2 nx) (hn : noL (a0 :: a1 :: a2 :: a3 :: a4 :: a5 :: a6 :: a7 :: y0 :: r) ∧ (a0 :: a1 :: a2 :: a3 :: a4 :: a5 :: a6 :: a7 :: y0 :: r).length = M.2.2.1) (kk : V d M X k n L σ α nx (a0 :: a1 :: a2 :: a3 :: a4 :: a5 :: a6 :: a7 :: some (vI z) :: r) st) : V d M X k n L σ α pc (a0 :: a1 :: a2 :: a3 :: a4 :: a5 :: a6 :: a7 :: y0 :: r) (vI z :: st) := v_istore hd ⟨hn.1, hn.2, by rw [← hn.2]; show 8 < _; simp only [List.length_cons]; omega⟩ rfl kk
theorem v_in8 {a0 a1 a2 a3 a4 a5 a6 a7 : Option AV} {r : List (Option AV)} {x z : Int} (hd : At M.2.1 pc (.iinc 8 z) 3 nx) (hn : noL (a0 :: a1 :: a2 :: a3 :: a4 :: a5 :: a6 :: a7 :: some (vI x) :: r) ∧ (a0 :: a1 :: a2 :: a3 :: a4 :: a5 :: a6 :: a7 :: some (vI x) :: r).length = M.2.2.1) (kk : V d M X k n L σ α nx (a0 :: a1 :: a2 :: a3 :: a4 :: a5 :: a6 :: a7 :: some (vI (x + z)) :: r) st) : V d M X k n L σ α pc (a0 :: a1 :: a2 :: a3 :: a4 :: a5 :: a6 :: a7 :: some (vI x) :: r) st := v_iinc hd ⟨hn.1, hn.2, by rw [← hn.2]; show 8 < _; simp only [List.length_cons]; omega⟩ rfl rfl kk
theorem v_is9 {a0 a1 a2 a3 a4 a5 a6 a7 a8 y0 : Option AV} {r : List (Option AV)} {z : Int} (hd : At M.2.1 pc (.istore 9) 2 nx) (hn : noL (a0 :: a1 :: a2 :: a3 :: a4 :: a5 :: a6 :: a7 :: a8 :: y0 :: r) ∧ (a0 :: a1 :: a2 :: a3 :: a4 :: a5 :: a6 :: a7 :: a8 :: y0 :: r).length = M.2.2.1) (kk : V d M X k n L σ α nx (a0 :: a1 :: a2 :: a3 :: a4 :: a5 :: a6 :: a7 :: a8 :: some (vI z) :: r) st) : V d M X k n L σ α pc (a0 :: a1 :: a2 :: a3 :: a4 :: a5 :: a6 :: a7 :: a8 :: y0 :: r) (vI z :: st) := v_istore hd ⟨hn.1, hn.2, by rw [← hn.2]; show 9 < _; simp only [List.length_cons]; omega⟩ rfl kk
theorem v_in9 {a0 a1 a2 a3 a4 a5 a6 a7 a8 : Option AV} {r : List (Option AV)} {x z : Int} (hd : At M.2.1 pc (.iinc 9 z) 3 nx) (hn : noL (a0 :: a1 :: a2 :: a3 :: a4 :: a5 :: a6 :: a7 :: a8 :: some (vI x) :: r) ∧ (a0 :: a1 :: a2 :: a3 :: a4 :: a5 :: a6 :: a7 :: a8 :: some (vI x) :: r).length = M.2.2.1) (kk : V d M X k n L σ α nx (a0 :: a1 :: a2 :: a3 :: a4 :: a5 :: a6 :: a7 :: a8 :: some (vI (x + z)) :: r) st) : V d M X k n L σ α pc (a0 :: a1 :: a2 :: a3 :: a4 :: a5 :: a6 :: a7 :: a8 :: some (vI x) :: r) st := v_iinc hd ⟨hn.1, hn.2, by rw [← hn.2]; show 9 < _; simp only [List.length_cons]; omega⟩ rfl rfl kk
end PAT
end
section
section LAROWS2
variable {d : Nat} {M : Mi} {X : Cx} {σ α : St} {pc nx : Nat} {lv : List (Option AV)} {st : List AV}
theorem c_VQ {Mc : Mi} {dc na idx q ci N : Nat} {T : u_T} {cs : List Nat} {As rest st0 : List AV} {v : AV} {Q : St → St → Prop} (hd : At M.2.1 pc (.invokevirtual idx) 3 nx) (hlk : ML M.1.cls idx Mc.1) (hm : MI Mc na ∧ MV Mc) (hS : CG dc Mc (vR q :: As) σ α (fun r' s' a' => r' = some v ∧ Q s' a')) (hdd : dc + 1 ≤ d) (hn : As.length = na) (hL : LA[q]? = some (yO ci cs)) (hci : vwCl[ci]? = some (Mc.1.cls, T, N)) (hst : st0 = As.reverse ++ vR q :: rest) (hr : (rest.map catA).sum ≤ 8)
    (kk : ∀ σ' α', Q σ' α' → V d M X 0 0 LA σ' α' nx lv (v :: rest)) : V d M X 0 0 LA σ α pc lv st0 :=
  v_callV hd hlk hm hS hdd hn hL hci hst hr (by rintro _ s' a' ⟨rfl, h⟩; exact kk s' a' h)
theorem c_VN {Mc : Mi} {dc na idx q ci N : Nat} {T : u_T} {cs : List Nat} {As rest st0 : List AV} {Q : St → St → Prop} (hd : At M.2.1 pc (.invokevirtual idx) 3 nx) (hlk : ML M.1.cls idx Mc.1) (hm : MI Mc na ∧ MV Mc) (hS : CG dc Mc (vR q :: As) σ α (fun r' s' a' => r' = none ∧ Q s' a')) (hdd : dc + 1 ≤ d) (hn : As.length = na) (hL : LA[q]? = some (yO ci cs)) (hci : vwCl[ci]? = some (Mc.1.cls, T, N)) (hst : st0 = As.reverse ++ vR q :: rest) (hr : (rest.map catA).sum ≤ 8)
    (kk : ∀ σ' α', Q σ' α' → V d M X 0 0 LA σ' α' nx lv rest) : V d M X 0 0 LA σ α pc lv st0 :=
  v_callV hd hlk hm hS hdd hn hL hci hst hr (by rintro _ s' a' ⟨rfl, h⟩; exact kk s' a' h)
/-- locals of which some may be forgotten -/
def wk : List (Option AV) → List (Option AV) → Prop
  | _, [] => True
  | [], _ :: _ => False
  | _ :: l, none :: l' => wk l l'
  | a :: l, some b :: l' => a = some b ∧ wk l l'
theorem wk_at : ∀ {l l' : List (Option AV)}, wk l l' → ∀ (i : Nat) (v : AV), l'[i]? = some (some v) → l[i]? = some (some v)
  | _, [], _, i, v, h => by simp at h
  | [], _ :: _, hw, i, v, h => absurd hw (by simp [wk])
  | a :: l, none :: l', hw, i, v, h => by
    match i with
    | 0 => simp at h
    | i + 1 => exact wk_at (l := l) (l' := l') hw i v h
  | a :: l, some b :: l', hw, i, v, h => by
    match i with
    | 0 =>
      have h : some (some b) = some (some v) := h
      cases h
      exact congrArg some hw.1
    | i + 1 => exact wk_at (l := l) (l' := l') hw.2 i v h
theorem V.asw {σ' α' : St} {lv' : List (Option AV)} {st' : List AV} (h : V d M X 0 0 LA σ' α' pc lv' st') (e1 : σ = σ') (e2 : α = α') (e3 : wk lv lv') (e4 : st = st') : V d M X 0 0 LA σ α pc lv st := by
  subst e1 e2 e4
  exact V.lvw (wk_at e3) h
end LAROWS2
end
section
theorem b2i_pos {p : Prop} [Decidable p] (h : p) : b2i (decide p) = 1 := by simp [b2i, h]
theorem b2i_neg {p : Prop} [Decidable p] (h : ¬ p) : b2i (decide p) = 0 := by simp [b2i, h]
def hasB (m k : Int) : Bool := decide (m / 2 ^ k.toNat % 2 = 1)
/-- i is later than j -/
def ltr (V B : Nat → Int) (i j : Nat) : Bool := decide (V j * B i < V i * B j ∨ (V i * B j = V j * B i ∧ i < j))
/-- the latest of a set, among those below k -/
def latU (V B : Nat → Int) (m : Int) : Nat → Int
  | 0 => -1
  | k + 1 => if hasB m k && (decide (latU V B m k = -1) || ltr V B k (latU V B m k).toNat) then (k : Int) else latU V B m k
theorem latU_r (V B : Nat → Int) (m : Int) : ∀ k, -1 ≤ latU V B m k ∧ latU V B m k < k
  | 0 => by simp [latU]
  | k + 1 => by
    have h := latU_r V B m k
    unfold latU
    split <;> omega
def topR (V B N : Nat → Int) (n i : Nat) : Bool := decide (latU V B (N i) n = -1) || ltr V B i (latU V B (N i) n).toNat
theorem or_lt {a b k : Nat} (ha : a < 2 ^ k) (hb : b < 2 ^ k) : a ||| b < 2 ^ k := Nat.or_lt_two_pow ha hb
theorem pow_lt {k : Nat} : 2 ^ k < 2 ^ (k + 1) := Nat.pow_lt_pow_right (by decide) (by omega)
def onesU (x : Int) : Nat → Int
  | 0 => 0
  | k + 1 => onesU x k + x / 2 ^ k % 2
theorem onesU_r (x : Int) : ∀ k, 0 ≤ onesU x k ∧ onesU x k ≤ k
  | 0 => by simp [onesU]
  | k + 1 => by
    have h := onesU_r x k
    unfold onesU
    have h1 := Int.emod_nonneg (x / 2 ^ k) (by decide : (2 : Int) ≠ 0)
    have h2 := Int.emod_lt_of_pos (x / 2 ^ k) (by decide : (0 : Int) < 2)
    omega
/-- a casting that is well told -/
def WF (n : Nat) (V B N : Nat → Int) : Prop := n ≤ 10 ∧ ∀ i, i < n → (1 ≤ V i ∧ V i ≤ 99) ∧ (1 ≤ B i ∧ B i ≤ 189) ∧ (0 ≤ N i ∧ N i < 1024) ∧ hasB (N i) i = false
/-- the reference's view of a casting -/
def RV (σ α : St) (n : Nat) (V B N : Nat → Int) : Prop := σ 95 1 = n ∧ ∀ i, i < n → α 97 i = V i ∧ α 98 i + 10 * α 96 (19 + i) = B i ∧ α 99 i = N i
theorem prod_b {x y a b : Int} (hx : 0 ≤ x ∧ x ≤ a) (hy : 0 ≤ y ∧ y ≤ b) : 0 ≤ x * y ∧ x * y ≤ a * b := ⟨Int.mul_nonneg hx.1 hy.1, Int.mul_le_mul hx.2 hy.2 hy.1 (by omega)⟩
theorem div_pow_nn {x : Int} (hx : 0 ≤ x) (k : Nat) : 0 ≤ x / 2 ^ k := Int.ediv_nonneg hx (Int.le_of_lt (Int.pow_pos (by decide)))
end
section
/-! masks -/
def msk (p : Nat → Bool) : Nat → Nat
  | 0 => 0
  | k + 1 => msk p k ||| (if p k then 2 ^ k else 0)
theorem msk_lt (p : Nat → Bool) : ∀ k, msk p k < 2 ^ k
  | 0 => by simp [msk]
  | k + 1 => by
    unfold msk
    refine or_lt (Nat.lt_trans (msk_lt p k) pow_lt) ?_
    split
    · exact pow_lt
    · exact Nat.two_pow_pos _
theorem msk_bit (p : Nat → Bool) : ∀ k i, (msk p k).testBit i = (decide (i < k) && p i)
  | 0, i => by simp [msk]
  | k + 1, i => by
    unfold msk
    rw [Nat.testBit_or, msk_bit p k i]
    by_cases hk : p k = true
    · rw [if_pos hk, Nat.testBit_two_pow]
      by_cases hi : k = i
      · subst hi; simp [hk]
      · have : decide (i < k + 1) = decide (i < k) := by by_cases h : i < k <;> simp [h] <;> omega
        simp [hi, this]
    · rw [if_neg hk]
      simp only [Nat.zero_testBit, Bool.or_false]
      by_cases hi : k = i
      · subst hi; simp [hk]
      · have : decide (i < k + 1) = decide (i < k) := by by_cases h : i < k <;> simp [h] <;> omega
        rw [this]
theorem msk_ext {p q : Nat → Bool} : ∀ {k : Nat}, (∀ i, i < k → p i = q i) → msk p k = msk q k
  | 0, _ => rfl
  | k + 1, h => by
    unfold msk
    rw [msk_ext (fun i hi => h i (by omega)), h k (by omega)]
theorem hasB_nat (m k : Nat) : hasB m k = m.testBit k := by
  unfold hasB
  rw [Nat.testBit_eq_decide_div_mod_eq]
  have : ((m : Int) / 2 ^ (k : Int).toNat % 2 = 1) ↔ (m / 2 ^ k % 2 = 1) := by
    rw [show (k : Int).toNat = k from rfl, ← toNat_div (m : Int) (by omega) k]
    show ((m / 2 ^ k : Nat) : Int) % 2 = 1 ↔ _
    omega
  exact decide_eq_decide.mpr this
theorem hasB_msk {p : Nat → Bool} {n i : Nat} (hi : i < n) : hasB (msk p n : Nat) i = p i := by
  rw [hasB_nat, msk_bit]; simp [hi]
/-! the order of times -/
theorem cross {a b c d e f : Int} (hb : 0 < b) (hd : 0 < d) (hf : 0 < f) (h1 : c * b ≤ a * d) (h2 : e * d ≤ c * f) : e * b ≤ a * f ∧ (e * b = a * f → c * b = a * d ∧ e * d = c * f) := by
  have g1 : e * d * b ≤ c * f * b := Int.mul_le_mul_of_nonneg_right h2 (Int.le_of_lt hb)
  have g2 : c * b * f ≤ a * d * f := Int.mul_le_mul_of_nonneg_right h1 (Int.le_of_lt hf)
  rw [Int.mul_right_comm e d b, Int.mul_right_comm c f b] at g1
  rw [Int.mul_right_comm a d f] at g2
  refine ⟨Int.le_of_mul_le_mul_right (Int.le_trans g1 g2) hd, fun he => ?_⟩
  rw [he] at g1
  have e1 : c * b * f = a * f * d := Int.le_antisymm g2 g1
  have e2 : c * b * f = a * d * f := by rw [e1, Int.mul_right_comm]
  have e3 : c * b = a * d := Int.eq_of_mul_eq_mul_right (Int.ne_of_gt hf) e2
  refine ⟨e3, ?_⟩
  have e4 : e * d * b = c * f * b := by rw [Int.mul_right_comm e d b, he, Int.mul_right_comm c f b, e1]
  exact Int.eq_of_mul_eq_mul_right (Int.ne_of_gt hb) e4
theorem ltr_iff {V B : Nat → Int} {i j : Nat} : ltr V B i j = true ↔ (V j * B i < V i * B j ∨ (V i * B j = V j * B i ∧ i < j)) := by simp [ltr]
theorem ltr_irr (V B : Nat → Int) (i : Nat) : ltr V B i i = false := by
  rw [← Bool.not_eq_true, ltr_iff]; omega
theorem ltr_asy {V B : Nat → Int} {i j : Nat} (h : ltr V B i j = true) : ltr V B j i = false := by
  rw [← Bool.not_eq_true, ltr_iff]; rw [ltr_iff] at h; omega
theorem ltr_tot (V B : Nat → Int) {i j : Nat} (h : i ≠ j) (h2 : ltr V B i j = false) : ltr V B j i = true := by
  rw [← Bool.not_eq_true, ltr_iff] at h2; rw [ltr_iff]; omega
theorem ltr_tr {n : Nat} {V B N : Nat → Int} (hW : WF n V B N) {i j k : Nat} (hi : i < n) (hj : j < n) (hk : k < n) (h1 : ltr V B i j = true) (h2 : ltr V B j k = true) : ltr V B i k = true := by
  rw [ltr_iff] at h1 h2 ⊢
  have wi := (hW.2 i hi).2.1.1
  have wj := (hW.2 j hj).2.1.1
  have wk := (hW.2 k hk).2.1.1
  obtain ⟨c1, c2⟩ := cross (a := V i) (b := B i) (c := V j) (d := B j) (e := V k) (f := B k) (by omega) (by omega) (by omega) (by omega) (by omega)
  by_cases he : V k * B i = V i * B k
  · have := c2 he
    omega
  · omega
theorem latU_spec {n : Nat} {V B N : Nat → Int} (hW : WF n V B N) (m : Int) : ∀ k, k ≤ n → (latU V B m k = -1 ∧ ∀ j, j < k → hasB m j = false) ∨ ∃ b : Nat, b < k ∧ latU V B m k = b ∧ hasB m b = true ∧ ∀ j, j < k → hasB m j = true → j = b ∨ ltr V B b j = true
  | 0, _ => Or.inl ⟨rfl, fun j hj => by omega⟩
  | k + 1, hk => by
    have ih := latU_spec hW m k (by omega)
    unfold latU
    by_cases hm : hasB m k = true
    · rcases ih with ⟨e, hn⟩ | ⟨b, hb, e, hh, hmax⟩
      · refine Or.inr ⟨k, by omega, by simp [hm, e], hm, fun j hj hj2 => ?_⟩
        by_cases hjk : j = k
        · exact Or.inl hjk
        · rw [hn j (by omega)] at hj2; cases hj2
      · by_cases hl : ltr V B k b = true
        · refine Or.inr ⟨k, by omega, by simp [hm, e, hl], hm, fun j hj hj2 => ?_⟩
          by_cases hjk : j = k
          · exact Or.inl hjk
          · rcases hmax j (by omega) hj2 with rfl | h
            · exact Or.inr hl
            · exact Or.inr (ltr_tr hW (by omega) (by omega) (by omega) hl h)
        · have hl2 : ltr V B k b = false := by simpa using hl
          refine Or.inr ⟨b, by omega, ?_, hh, fun j hj hj2 => ?_⟩
          · simp [hm, e, hl2]
          · by_cases hjk : j = k
            · subst hjk
              exact Or.inr (ltr_tot V B (by omega) hl2)
            · exact hmax j (by omega) hj2
    · have hm2 : hasB m k = false := by simpa using hm
      rw [hm2]
      simp only [Bool.false_and]
      rcases ih with ⟨e, hn⟩ | ⟨b, hb, e, hh, hmax⟩
      · exact Or.inl ⟨by simpa using e, fun j hj => by
          by_cases hjk : j = k
          · subst hjk; exact hm2
          · exact hn j (by omega)⟩
      · refine Or.inr ⟨b, by omega, by simpa using e, hh, fun j hj hj2 => ?_⟩
        by_cases hjk : j = k
        · subst hjk; rw [hm2] at hj2; cases hj2
        · exact hmax j (by omega) hj2
/-- how many of those below n hold -/
def cnt (p : Nat → Bool) : Nat → Nat
  | 0 => 0
  | k + 1 => cnt p k + (if p k then 1 else 0)
theorem cnt_le (p : Nat → Bool) : ∀ k, cnt p k ≤ k
  | 0 => Nat.le_refl _
  | k + 1 => by have := cnt_le p k; unfold cnt; split <;> omega
theorem cnt_mono {p q : Nat → Bool} : ∀ {k : Nat}, (∀ j, j < k → p j = true → q j = true) → cnt p k ≤ cnt q k
  | 0, _ => Nat.le_refl _
  | k + 1, h => by
    have ih := cnt_mono (k := k) (fun j hj => h j (by omega))
    have hk := h k (by omega)
    unfold cnt
    by_cases hp : p k = true
    · simp [hp, hk hp]; exact ih
    · simp [hp]; omega
theorem cnt_lt {p q : Nat → Bool} {b : Nat} : ∀ {k : Nat}, (∀ j, j < k → p j = true → q j = true) → b < k → q b = true → p b = false → cnt p k < cnt q k
  | 0, _, hb, _, _ => by omega
  | k + 1, h, hb, h1, h2 => by
    unfold cnt
    by_cases hbk : b = k
    · subst hbk
      have := cnt_mono (k := b) (fun j hj => h j (by omega))
      simp [h1, h2]; omega
    · have ih := cnt_lt (b := b) (k := k) (fun j hj => h j (by omega)) (by omega) h1 h2
      have hk := h k (by omega)
      by_cases hp : p k = true
      · simp [hp, hk hp]; exact ih
      · simp [hp]; omega
/-- how many are later than a -/
def rnk (V B : Nat → Int) (n a : Nat) : Nat := cnt (fun j => ltr V B j a) n
theorem rnk_lt {n : Nat} {V B N : Nat → Int} (hW : WF n V B N) {a b : Nat} (ha : a < n) (hb : b < n) (h : ltr V B b a = true) : rnk V B n b < rnk V B n a :=
  cnt_lt (b := b) (fun j hj h2 => ltr_tr hW hj hb ha h2 h) hb h (ltr_irr V B b)
theorem rnk_n {n : Nat} {V B N : Nat → Int} (hW : WF n V B N) {a : Nat} (ha : a < n) : rnk V B n a < 10 := by
  have h1 : cnt (fun j => ltr V B j a) n < cnt (fun _ => true) n := cnt_lt (b := a) (fun _ _ _ => rfl) ha rfl (ltr_irr V B a)
  have h2 := cnt_le (fun _ => true) n
  have h3 := hW.1
  unfold rnk
  omega
/-- who is not a top has a later neighbour: its latest -/
theorem topR_no {n : Nat} {V B N : Nat → Int} (hW : WF n V B N) {a : Nat} (ha : a < n) (h : topR V B N n a = false) : ∃ b : Nat, b < n ∧ latU V B (N a) n = b ∧ ltr V B b a = true := by
  simp only [topR, Bool.or_eq_false_iff, decide_eq_false_iff_not] at h
  rcases latU_spec hW (N a) n (Nat.le_refl _) with ⟨e, -⟩ | ⟨b, hb, e, hh, -⟩
  · exact absurd e h.1
  · refine ⟨b, hb, e, ltr_tot V B ?_ (by have := h.2; rw [e] at this; exact this)⟩
    intro hab
    subst hab
    rw [(hW.2 a ha).2.2.2] at hh
    cases hh
theorem topR_yes {n : Nat} {V B N : Nat → Int} (hW : WF n V B N) {a : Nat} (ha : a < n) : topR V B N n a = true ↔ ∀ j, j < n → hasB (N a) j = true → ltr V B j a = false := by
  rcases latU_spec hW (N a) n (Nat.le_refl _) with ⟨e, hn⟩ | ⟨b, hb, e, hh, hmax⟩
  · simp only [topR, e]
    exact ⟨fun _ j hj h2 => (by rw [hn j hj] at h2; cases h2), fun _ => by simp⟩
  · have hab : a ≠ b := by
      intro hab; subst hab
      rw [(hW.2 a ha).2.2.2] at hh
      cases hh
    constructor
    · intro ht j hj h2
      have hab2 : ltr V B a b = true := by
        simp only [topR, e, Bool.or_eq_true, decide_eq_true_eq] at ht
        rcases ht with h | h
        · omega
        · exact h
      rcases hmax j hj h2 with rfl | h
      · exact ltr_asy hab2
      · exact ltr_asy (ltr_tr hW ha hb hj hab2 h)
    · intro h
      have := ltr_tot V B hab.symm (h b hb hh)
      simp [topR, e, this]
/-- climbing -/
def clm (V B N : Nat → Int) (n : Nat) : Nat → Nat → Nat × Nat
  | 0, a => (a, 0)
  | f + 1, a => if topR V B N n a then (a, 0) else ((clm V B N n f (latU V B (N a) n).toNat).1, (clm V B N n f (latU V B (N a) n).toNat).2 + 1)
theorem clm_in {n : Nat} {V B N : Nat → Int} (hW : WF n V B N) : ∀ f a, a < n → (clm V B N n f a).1 < n
  | 0, a, ha => ha
  | f + 1, a, ha => by
    unfold clm
    by_cases h : topR V B N n a = true
    · rw [if_pos h]; exact ha
    · rw [if_neg h]
      obtain ⟨b, hb, e, -⟩ := topR_no hW ha (by simpa using h)
      rw [e]
      exact clm_in hW f b hb
theorem clm_r {n : Nat} {V B N : Nat → Int} (f a : Nat) : (clm V B N n f a).2 ≤ f := by
  induction f generalizing a with
  | zero => exact Nat.le_refl _
  | succ f ih => unfold clm; split; exact Nat.zero_le _; have := ih (latU V B (N a) n).toNat; show _ + 1 ≤ _; omega
theorem clm_top {n : Nat} {V B N : Nat → Int} (hW : WF n V B N) : ∀ f a, a < n → rnk V B n a < f → topR V B N n (clm V B N n f a).1 = true
  | 0, a, _, h => by omega
  | f + 1, a, ha, h => by
    unfold clm
    by_cases ht : topR V B N n a = true
    · rw [if_pos ht]; exact ht
    · rw [if_neg ht]
      obtain ⟨b, hb, e, hl⟩ := topR_no hW ha (by simpa using ht)
      rw [e]
      exact clm_top hW f b hb (by have := rnk_lt hW ha hb hl; omega)
end
section
set_option maxHeartbeats 4000000 in
set_option maxRecDepth 100000 in
theorem qX8_in (σ α : St) (v l m : Int) (hv : InR v) (hl : InR l) (hm : InR m) : CF 0 mX8_in [vL v, vL l, vL m] σ α (some (vI (b2i (decide (l ≤ v ∧ v ≤ m))))) σ α := by
  refine CG.of [some (vL v), none, some (vL l), none, some (vL m), none] (by decide) (by simp [lvA]) rfl ?_
  refine v_lload_n iX8_in_0 rfl ?_
  refine v_lload_n iX8_in_1 rfl ?_
  refine v_lcmp iX8_in_2 (by exact ⟨hv, hl⟩) ?_
  refine v_if_lt (tgt := 17) iX8_in_3 (by decide) (by exact cmp3_r _ _) (fun h3 => ?_) (fun h3 => ?_)
  · (try rw [cmp3_lt] at h3); (try rw [cmp3_gt] at h10)
    refine v_iconst iX8_in_17 ?_
    exact r_b iX8_in_18 rfl (by first | exact b2i_01 _ | decide | omega) (⟨cf_i (by first | exact (b2i_pos (by omega)).symm | exact (b2i_neg (by omega)).symm), rfl, rfl⟩)
  · rw [cmp3_lt] at h3
    refine v_lload_n iX8_in_6 rfl ?_
    refine v_lload iX8_in_7 rfl ?_
    refine v_lcmp iX8_in_9 (by exact ⟨hv, hm⟩) ?_
    refine v_if_gt (tgt := 17) iX8_in_10 (by decide) (by exact cmp3_r _ _) (fun h10 => ?_) (fun h10 => ?_)
    · (try rw [cmp3_lt] at h3); (try rw [cmp3_gt] at h10)
      refine v_iconst iX8_in_17 ?_
      exact r_b iX8_in_18 rfl (by first | exact b2i_01 _ | decide | omega) (⟨cf_i (by first | exact (b2i_pos (by omega)).symm | exact (b2i_neg (by omega)).symm), rfl, rfl⟩)
    · rw [cmp3_gt] at h10
      refine v_iconst iX8_in_13 ?_
      refine v_goto (tgt := 18) iX8_in_14 (by decide) ?_
      exact r_b iX8_in_18 rfl (by first | exact b2i_01 _ | decide | omega) (⟨cf_i (by first | exact (b2i_pos (by omega)).symm | exact (b2i_neg (by omega)).symm), rfl, rfl⟩)

set_option maxHeartbeats 4000000 in
set_option maxRecDepth 100000 in
theorem qX8_has (σ α : St) (x k : Int) (hx : 0 ≤ x ∧ x ≤ 2147483647) (hk : 0 ≤ k ∧ k < 32) : CF 0 mX8_has [vI x, vI k] σ α (some (vI (b2i (hasB x k)))) σ α := by
  refine CG.of [some (vI x), some (vI k)] (by decide) (by simp [lvA]) rfl ?_
  refine v_iload_n iX8_has_0 rfl ?_
  refine v_iload_n iX8_has_1 rfl ?_
  refine v_ishr iX8_has_2 (by omega) (by omega) ?_
  refine v_iconst iX8_has_3 ?_
  refine v_iand1 iX8_has_4 (by exact div_pow_nn hx.1 _) ?_
  refine v_iconst iX8_has_5 ?_
  refine v_icmp_ne (tgt := 13) iX8_has_6 (by decide) (by omega) (fun h6 => ?_) (fun h6 => ?_)
  · refine v_iconst iX8_has_13 ?_
    exact r_b iX8_has_14 rfl (by first | exact b2i_01 _ | decide | omega) (⟨cf_i (by unfold hasB; first | exact (b2i_pos (by omega)).symm | exact (b2i_neg (by omega)).symm), rfl, rfl⟩)
  · refine v_iconst iX8_has_9 ?_
    refine v_goto (tgt := 14) iX8_has_10 (by decide) ?_
    exact r_b iX8_has_14 rfl (by first | exact b2i_01 _ | decide | omega) (⟨cf_i (by unfold hasB; first | exact (b2i_pos (by omega)).symm | exact (b2i_neg (by omega)).symm), rfl, rfl⟩)

set_option maxHeartbeats 4000000 in
set_option maxRecDepth 100000 in
theorem qX8_ones (σ α : St) (x : Int) (hx : 0 ≤ x ∧ x ≤ 2147483647) : CF 0 mX8_ones [vI x] σ α (some (vI (onesU x 10))) σ α := by
  refine CG.of [some (vI x), none, none] (by decide) (by simp [lvA]) rfl ?_
  refine v_iconst iX8_ones_0 ?_
  refine v_is1 iX8_ones_1 ⟨rfl, rfl⟩ ?_
  refine v_iconst iX8_ones_2 ?_
  refine v_is2 iX8_ones_3 ⟨rfl, rfl⟩ ?_
  refine ind_up (P := fun k => VV 0 mX8_ones [vI x] _ σ α 4 [some (vI x), some (vI (onesU x k)), some (vI (k : Int))] []) 10 ?_ 0 (by omega)
  intro k hk ih
  refine v_iload_n iX8_ones_4 rfl ?_
  refine v_bipush iX8_ones_5 (by decide) ?_
  refine v_icmp_ge (tgt := 24) iX8_ones_7 (by decide) (by omega) (fun h7 => ?_) (fun h7 => ?_)
  · have hk10 : k = 10 := by omega
    subst hk10
    refine v_iload_n iX8_ones_24 rfl ?_
    exact r_i iX8_ones_25 rfl (⟨cf_i (by rfl), rfl, rfl⟩)
  · have hk10 : k < 10 := by omega
    refine v_iload_n iX8_ones_10 rfl ?_
    refine v_iload_n iX8_ones_11 rfl ?_
    refine v_iload_n iX8_ones_12 rfl ?_
    refine v_ishr iX8_ones_13 (by omega) (by omega) ?_
    refine v_iconst iX8_ones_14 ?_
    refine v_iand1 iX8_ones_15 (by exact div_pow_nn hx.1 _) ?_
    refine v_iadd iX8_ones_16 ?_
    refine v_is1 iX8_ones_17 ⟨rfl, rfl⟩ ?_
    refine v_in2 iX8_ones_18 ⟨rfl, rfl⟩ ?_
    refine v_goto (tgt := 4) iX8_ones_21 (by decide) ?_
    rw [show ((k : Int) + 1) = ((k + 1 : Nat) : Int) from by omega]
    exact ih (by omega)

set_option maxHeartbeats 4000000 in
set_option maxRecDepth 100000 in
theorem qX8_isSmall (σ α : St) (x : Int) (hx : InR x) : CF 1 mX8_isSmall [vI x] σ α (some (vI (b2i (decide (97 ≤ x ∧ x ≤ 122))))) σ α := by
  refine CG.of [some (vI x)] (by decide) (by simp [lvA]) rfl ?_
  refine v_iload_n iX8_isSmall_0 rfl ?_
  refine v_i2l iX8_isSmall_1 (by omega) ?_
  refine v_ldc2 iX8_isSmall_2 gX8_69 ?_
  refine v_ldc2 iX8_isSmall_5 gX8_71 ?_
  refine c_S1 (Mc := mX8_in) iX8_isSmall_8 lX8_62 kX8_in (qX8_in _ _ _ _ _ hx (by decide) (by decide)) (by decide) rfl rfl (Nat.le_of_ble_eq_true rfl) ?_
  exact r_b iX8_isSmall_11 rfl (by first | exact b2i_01 _ | decide | omega) (⟨cf_i (by rfl), rfl, rfl⟩)

set_option maxHeartbeats 4000000 in
set_option maxRecDepth 100000 in
theorem qX8_isDigit (σ α : St) (x : Int) (hx : InR x) : CF 1 mX8_isDigit [vI x] σ α (some (vI (b2i (decide (48 ≤ x ∧ x ≤ 57))))) σ α := by
  refine CG.of [some (vI x)] (by decide) (by simp [lvA]) rfl ?_
  refine v_iload_n iX8_isDigit_0 rfl ?_
  refine v_i2l iX8_isDigit_1 (by omega) ?_
  refine v_ldc2 iX8_isDigit_2 gX8_73 ?_
  refine v_ldc2 iX8_isDigit_5 gX8_75 ?_
  refine c_S1 (Mc := mX8_in) iX8_isDigit_8 lX8_62 kX8_in (qX8_in _ _ _ _ _ hx (by decide) (by decide)) (by decide) rfl rfl (Nat.le_of_ble_eq_true rfl) ?_
  exact r_b iX8_isDigit_11 rfl (by first | exact b2i_01 _ | decide | omega) (⟨cf_i (by rfl), rfl, rfl⟩)

set_option maxHeartbeats 4000000 in
set_option maxRecDepth 100000 in
theorem qX8_isSection (σ α : St) (n : Nat) (i : Int) (hi : InR i) (hn : σ 95 1 = (n : Int)) (hn10 : n ≤ 10) : CF 1 mX8_isSection [vR 95, vI i] σ α (some (vI (b2i (decide (0 ≤ i ∧ i ≤ (n : Int) - 1))))) σ α := by
  refine CG.of [some (vR 95), some (vI i)] (by decide) (by simp [lvA]) rfl ?_
  refine v_iload_n iX8_isSection_0 rfl ?_
  refine v_i2l iX8_isSection_1 (by omega) ?_
  refine v_lconst (z := 0) iX8_isSection_2 rfl ?_
  refine v_aload_n iX8_isSection_3 rfl ?_
  refine v_getI iX8_isSection_4 fX8_57 rfl rfl (by exact hn) ?_
  refine v_iconst iX8_isSection_7 ?_
  refine v_isub iX8_isSection_8 ?_
  refine v_i2l iX8_isSection_9 (by omega) ?_
  refine c_S1 (Mc := mX8_in) iX8_isSection_10 lX8_62 kX8_in (qX8_in _ _ _ _ _ hi (by decide) (by omega)) (by decide) rfl rfl (Nat.le_of_ble_eq_true rfl) ?_
  exact r_b iX8_isSection_13 rfl (by first | exact b2i_01 _ | decide | omega) (⟨cf_i (by rfl), rfl, rfl⟩)

set_option maxHeartbeats 4000000 in
set_option maxRecDepth 100000 in
theorem qX8_skinOf (σ α : St) (i : Int) (hi : 0 ≤ i ∧ i < 10) : CF 0 mX8_skinOf [vR 95, vI i] σ α (some (vI (α 98 i.toNat + 10 * α 96 (19 + i.toNat)))) σ α := by
  refine CG.of [some (vR 95), some (vI i)] (by decide) (by simp [lvA]) rfl ?_
  refine v_aload_n iX8_skinOf_0 rfl ?_
  refine v_getR iX8_skinOf_1 fX8_16 rfl rfl ?_
  refine v_iload_n iX8_skinOf_4 rfl ?_
  refine v_iaload iX8_skinOf_5 rfl (by omega) rfl ?_
  refine v_bipush iX8_skinOf_6 (by decide) ?_
  refine v_aload_n iX8_skinOf_8 rfl ?_
  refine v_getR iX8_skinOf_9 fX8_7 rfl rfl ?_
  refine v_bipush iX8_skinOf_12 (by decide) ?_
  refine v_iload_n iX8_skinOf_14 rfl ?_
  refine v_iadd iX8_skinOf_15 ?_
  refine v_iaload iX8_skinOf_16 rfl (by omega) rfl ?_
  refine v_imul iX8_skinOf_17 ?_
  refine v_iadd iX8_skinOf_18 ?_
  exact r_i iX8_skinOf_19 rfl (⟨cf_i (by rw [show (19 + i).toNat = 19 + i.toNat by omega]), rfl, rfl⟩)

theorem RV.sk {σ α : St} {n : Nat} {V B N : Nat → Int} (h : RV σ α n V B N) (hn : n ≤ 10) (i : Int) (hi : 0 ≤ i ∧ i < n) : CF 0 mX8_skinOf [vR 95, vI i] σ α (some (vI (B i.toNat))) σ α := by
  rw [← (h.2 i.toNat (by omega)).2.1]
  exact qX8_skinOf σ α i (by omega)

set_option maxHeartbeats 4000000 in
set_option maxRecDepth 100000 in
theorem qX8_isLater (σ α : St) {n : Nat} {V B N : Nat → Int} (hR : RV σ α n V B N) (hW : WF n V B N) (i j : Int) (hi : 0 ≤ i ∧ i < n) (hj : 0 ≤ j ∧ j < n) : CF 1 mX8_isLater [vR 95, vI i, vI j] σ α (some (vI (b2i (ltr V B i.toNat j.toNat)))) σ α := by
  have h10 := hW.1
  have hwi := hW.2 i.toNat (by omega)
  have hwj := hW.2 j.toNat (by omega)
  have b1 := prod_b (x := V i.toNat) (y := B j.toNat) (a := 99) (b := 189) (by omega) (by omega)
  have b2 := prod_b (x := V j.toNat) (y := B i.toNat) (a := 99) (b := 189) (by omega) (by omega)
  refine CG.of [some (vR 95), some (vI i), some (vI j), none, none] (by decide) (by simp [lvA]) rfl ?_
  refine v_aload_n iX8_isLater_0 rfl ?_
  refine v_getR iX8_isLater_1 fX8_13 rfl rfl ?_
  refine v_iload_n iX8_isLater_4 rfl ?_
  refine v_iaload iX8_isLater_5 rfl (by omega) (by exact (hR.2 i.toNat (by omega)).1) ?_
  refine v_aload_n iX8_isLater_6 rfl ?_
  refine v_iload_n iX8_isLater_7 rfl ?_
  refine c_V1 (Mc := mX8_skinOf) iX8_isLater_8 lX8_147 kX8_skinOf (hR.sk h10 j hj) (by decide) rfl rfl rfl rfl (Nat.le_of_ble_eq_true rfl) ?_
  refine v_imul iX8_isLater_11 ?_
  refine v_is3 iX8_isLater_12 ⟨rfl, rfl⟩ ?_
  refine v_aload_n iX8_isLater_13 rfl ?_
  refine v_getR iX8_isLater_14 fX8_13 rfl rfl ?_
  refine v_iload_n iX8_isLater_17 rfl ?_
  refine v_iaload iX8_isLater_18 rfl (by omega) (by exact (hR.2 j.toNat (by omega)).1) ?_
  refine v_aload_n iX8_isLater_19 rfl ?_
  refine v_iload_n iX8_isLater_20 rfl ?_
  refine c_V1 (Mc := mX8_skinOf) iX8_isLater_21 lX8_147 kX8_skinOf (hR.sk h10 i hi) (by decide) rfl rfl rfl rfl (Nat.le_of_ble_eq_true rfl) ?_
  refine v_imul iX8_isLater_24 ?_
  refine v_is4 iX8_isLater_25 ⟨rfl, rfl⟩ ?_
  refine v_iload_n iX8_isLater_27 rfl ?_
  refine v_iload iX8_isLater_28 rfl ?_
  refine v_icmp_gt (tgt := 44) iX8_isLater_30 (by decide) (by omega) (fun h30 => ?_) (fun h30 => ?_)
  · refine v_iconst iX8_isLater_44 ?_
    refine v_goto (tgt := 49) iX8_isLater_45 (by decide) ?_
    exact r_b iX8_isLater_49 rfl (by first | exact b2i_01 _ | decide | omega) (⟨cf_i (by unfold ltr; first | exact (b2i_pos (by omega)).symm | exact (b2i_neg (by omega)).symm), rfl, rfl⟩)
  · refine v_iload_n iX8_isLater_33 rfl ?_
    refine v_iload iX8_isLater_34 rfl ?_
    refine v_icmp_ne (tgt := 48) iX8_isLater_36 (by decide) (by omega) (fun h36 => ?_) (fun h36 => ?_)
    · refine v_iconst iX8_isLater_48 ?_
      exact r_b iX8_isLater_49 rfl (by first | exact b2i_01 _ | decide | omega) (⟨cf_i (by unfold ltr; first | exact (b2i_pos (by omega)).symm | exact (b2i_neg (by omega)).symm), rfl, rfl⟩)
    · refine v_iload_n iX8_isLater_39 rfl ?_
      refine v_iload_n iX8_isLater_40 rfl ?_
      refine v_icmp_ge (tgt := 48) iX8_isLater_41 (by decide) (by omega) (fun h41 => ?_) (fun h41 => ?_)
      · refine v_iconst iX8_isLater_48 ?_
        exact r_b iX8_isLater_49 rfl (by first | exact b2i_01 _ | decide | omega) (⟨cf_i (by unfold ltr; first | exact (b2i_pos (by omega)).symm | exact (b2i_neg (by omega)).symm), rfl, rfl⟩)
      · refine v_iconst iX8_isLater_44 ?_
        refine v_goto (tgt := 49) iX8_isLater_45 (by decide) ?_
        exact r_b iX8_isLater_49 rfl (by first | exact b2i_01 _ | decide | omega) (⟨cf_i (by unfold ltr; first | exact (b2i_pos (by omega)).symm | exact (b2i_neg (by omega)).symm), rfl, rfl⟩)

set_option maxHeartbeats 4000000 in
set_option maxRecDepth 100000 in
theorem qX8_latest (σ α : St) {n : Nat} {V B N : Nat → Int} (hR : RV σ α n V B N) (hW : WF n V B N) (m : Int) (hm : 0 ≤ m ∧ m ≤ 2147483647) : CF 2 mX8_latest [vR 95, vI m] σ α (some (vI (latU V B m n))) σ α := by
  have h10 := hW.1
  refine CG.of [some (vR 95), some (vI m), none, none] (by decide) (by simp [lvA]) rfl ?_
  refine v_iconst iX8_latest_0 ?_
  refine v_is2 iX8_latest_1 ⟨rfl, rfl⟩ ?_
  refine v_iconst iX8_latest_2 ?_
  refine v_is3 iX8_latest_3 ⟨rfl, rfl⟩ ?_
  refine ind_up (P := fun k => VV 2 mX8_latest [vR 95, vI m] _ σ α 4 [some (vR 95), some (vI m), some (vI (latU V B m k)), some (vI (k : Int))] []) n ?_ 0 (by omega)
  intro k hk ih
  have hr := latU_r V B m k
  refine v_iload_n iX8_latest_4 rfl ?_
  refine v_aload_n iX8_latest_5 rfl ?_
  refine v_getI iX8_latest_6 fX8_57 rfl rfl (by exact hR.1) ?_
  refine v_icmp_ge (tgt := 46) iX8_latest_9 (by decide) (by omega) (fun h9 => ?_) (fun h9 => ?_)
  · have hkn : k = n := by omega
    subst hkn
    refine v_iload_n iX8_latest_46 rfl ?_
    exact r_i iX8_latest_47 rfl (⟨cf_i (by rfl), rfl, rfl⟩)
  · refine v_iload_n iX8_latest_12 rfl ?_
    refine v_iload_n iX8_latest_13 rfl ?_
    refine c_S1 (Mc := mX8_has) iX8_latest_14 lX8_151 kX8_has (qX8_has _ _ m k (by omega) (by omega)) (by decide) rfl rfl (Nat.le_of_ble_eq_true rfl) ?_
    refine v_bif_eq (tgt := 38) iX8_latest_17 (by decide) (fun h17 => ?_) (fun h17 => ?_)
    · try simp only [Int.toNat_natCast] at h17
      refine v_iload_n iX8_latest_38 rfl ?_
      refine v_is2 iX8_latest_39 ⟨rfl, rfl⟩ ?_
      refine v_in3 iX8_latest_40 ⟨rfl, rfl⟩ ?_
      refine v_goto (tgt := 4) iX8_latest_43 (by decide) ?_
      exact (ih (by omega)).as rfl rfl (by simp [latU, *]) rfl
    · try simp only [Int.toNat_natCast] at h17
      refine v_iload_n iX8_latest_20 rfl ?_
      refine v_iconst iX8_latest_21 ?_
      refine v_icmp_eq (tgt := 34) iX8_latest_22 (by decide) (by omega) (fun h22 => ?_) (fun h22 => ?_)
      · refine v_iload_n iX8_latest_34 rfl ?_
        refine v_goto (tgt := 39) iX8_latest_35 (by decide) ?_
        refine v_is2 iX8_latest_39 ⟨rfl, rfl⟩ ?_
        refine v_in3 iX8_latest_40 ⟨rfl, rfl⟩ ?_
        refine v_goto (tgt := 4) iX8_latest_43 (by decide) ?_
        exact (ih (by omega)).as rfl rfl (by simp [latU, *]) rfl
      · refine v_aload_n iX8_latest_25 rfl ?_
        refine v_iload_n iX8_latest_26 rfl ?_
        refine v_iload_n iX8_latest_27 rfl ?_
        refine c_V1 (Mc := mX8_isLater) iX8_latest_28 lX8_154 kX8_isLater (qX8_isLater σ α hR hW k _ (by omega) (by omega)) (by decide) rfl rfl rfl rfl (Nat.le_of_ble_eq_true rfl) ?_
        refine v_bif_eq (tgt := 38) iX8_latest_31 (by decide) (fun h31 => ?_) (fun h31 => ?_)
        · try simp only [Int.toNat_natCast] at h31
          refine v_iload_n iX8_latest_38 rfl ?_
          refine v_is2 iX8_latest_39 ⟨rfl, rfl⟩ ?_
          refine v_in3 iX8_latest_40 ⟨rfl, rfl⟩ ?_
          refine v_goto (tgt := 4) iX8_latest_43 (by decide) ?_
          exact (ih (by omega)).as rfl rfl (by simp [latU, *]) rfl
        · try simp only [Int.toNat_natCast] at h31
          refine v_iload_n iX8_latest_34 rfl ?_
          refine v_goto (tgt := 39) iX8_latest_35 (by decide) ?_
          refine v_is2 iX8_latest_39 ⟨rfl, rfl⟩ ?_
          refine v_in3 iX8_latest_40 ⟨rfl, rfl⟩ ?_
          refine v_goto (tgt := 4) iX8_latest_43 (by decide) ?_
          exact (ih (by omega)).as rfl rfl (by simp [latU, *]) rfl

set_option maxHeartbeats 4000000 in
set_option maxRecDepth 100000 in
theorem qX8_isTop (σ α : St) {n : Nat} {V B N : Nat → Int} (hR : RV σ α n V B N) (hW : WF n V B N) (i : Int) (hi : 0 ≤ i ∧ i < n) : CF 3 mX8_isTop [vR 95, vI i] σ α (some (vI (b2i (topR V B N n i.toNat)))) σ α := by
  have h10 := hW.1
  have hwi := hW.2 i.toNat (by omega)
  have hr := latU_r V B (N i.toNat) n
  refine CG.of [some (vR 95), some (vI i), none] (by decide) (by simp [lvA]) rfl ?_
  refine v_aload_n iX8_isTop_0 rfl ?_
  refine v_aload_n iX8_isTop_1 rfl ?_
  refine v_getR iX8_isTop_2 fX8_19 rfl rfl ?_
  refine v_iload_n iX8_isTop_5 rfl ?_
  refine v_iaload iX8_isTop_6 rfl (by omega) (by exact (hR.2 i.toNat (by omega)).2.2) ?_
  refine c_V1 (Mc := mX8_latest) iX8_isTop_7 lX8_157 kX8_latest (qX8_latest σ α hR hW _ (by omega)) (by decide) rfl rfl rfl rfl (Nat.le_of_ble_eq_true rfl) ?_
  refine v_is2 iX8_isTop_10 ⟨rfl, rfl⟩ ?_
  refine v_iload_n iX8_isTop_11 rfl ?_
  refine v_iconst iX8_isTop_12 ?_
  refine v_icmp_eq (tgt := 25) iX8_isTop_13 (by decide) (by omega) (fun h13 => ?_) (fun h13 => ?_)
  · refine v_iconst iX8_isTop_25 ?_
    refine v_goto (tgt := 30) iX8_isTop_26 (by decide) ?_
    exact r_b iX8_isTop_30 rfl (by first | exact b2i_01 _ | decide | omega) (⟨cf_i (by simp [topR, b2i, *]), rfl, rfl⟩)
  · refine v_aload_n iX8_isTop_16 rfl ?_
    refine v_iload_n iX8_isTop_17 rfl ?_
    refine v_iload_n iX8_isTop_18 rfl ?_
    refine c_V1 (Mc := mX8_isLater) iX8_isTop_19 lX8_154 kX8_isLater (qX8_isLater σ α hR hW i _ (by omega) (by omega)) (by decide) rfl rfl rfl rfl (Nat.le_of_ble_eq_true rfl) ?_
    refine v_bif_eq (tgt := 29) iX8_isTop_22 (by decide) (fun h22 => ?_) (fun h22 => ?_)
    · try simp only [Int.toNat_natCast] at h22
      refine v_iconst iX8_isTop_29 ?_
      exact r_b iX8_isTop_30 rfl (by first | exact b2i_01 _ | decide | omega) (⟨cf_i (by simp [topR, b2i, *]), rfl, rfl⟩)
    · try simp only [Int.toNat_natCast] at h22
      refine v_iconst iX8_isTop_25 ?_
      refine v_goto (tgt := 30) iX8_isTop_26 (by decide) ?_
      exact r_b iX8_isTop_30 rfl (by first | exact b2i_01 _ | decide | omega) (⟨cf_i (by simp [topR, b2i, *]), rfl, rfl⟩)

set_option maxHeartbeats 4000000 in
set_option maxRecDepth 100000 in
theorem qX8_tops (σ α : St) {n : Nat} {V B N : Nat → Int} (hR : RV σ α n V B N) (hW : WF n V B N) : CF 4 mX8_tops [vR 95] σ α (some (vI (msk (topR V B N n) n : Nat))) σ α := by
  have h10 := hW.1
  refine CG.of [some (vR 95), none, none] (by decide) (by simp [lvA]) rfl ?_
  refine v_iconst iX8_tops_0 ?_
  refine v_is1 iX8_tops_1 ⟨rfl, rfl⟩ ?_
  refine v_iconst iX8_tops_2 ?_
  refine v_is2 iX8_tops_3 ⟨rfl, rfl⟩ ?_
  refine ind_up (P := fun k => VV 4 mX8_tops [vR 95] _ σ α 4 [some (vR 95), some (vI (msk (topR V B N n) k : Nat)), some (vI (k : Int))] []) n ?_ 0 (by omega)
  intro k hk ih
  refine v_iload_n iX8_tops_4 rfl ?_
  refine v_aload_n iX8_tops_5 rfl ?_
  refine v_getI iX8_tops_6 fX8_57 rfl rfl (by exact hR.1) ?_
  refine v_icmp_ge (tgt := 36) iX8_tops_9 (by decide) (by omega) (fun h9 => ?_) (fun h9 => ?_)
  · have hkn : k = n := by omega
    subst hkn
    refine v_iload_n iX8_tops_36 rfl ?_
    exact r_i iX8_tops_37 rfl (⟨cf_i (by rfl), rfl, rfl⟩)
  · refine v_iload_n iX8_tops_12 rfl ?_
    refine v_aload_n iX8_tops_13 rfl ?_
    refine v_iload_n iX8_tops_14 rfl ?_
    refine c_V1 (Mc := mX8_isTop) iX8_tops_15 lX8_160 kX8_isTop (qX8_isTop σ α hR hW k (by omega)) (by decide) rfl rfl rfl rfl (Nat.le_of_ble_eq_true rfl) ?_
    refine v_bif_eq (tgt := 27) iX8_tops_18 (by decide) (fun h18 => ?_) (fun h18 => ?_)
    · try simp only [Int.toNat_natCast] at h18
      refine v_iconst iX8_tops_27 ?_
      refine v_ior iX8_tops_28 (by refine ⟨?_, ?_⟩ <;> first | exact Int.natCast_nonneg _ | omega) ?_
      refine v_is1 iX8_tops_29 ⟨rfl, rfl⟩ ?_
      refine v_in2 iX8_tops_30 ⟨rfl, rfl⟩ ?_
      refine v_goto (tgt := 4) iX8_tops_33 (by decide) ?_
      exact (ih (by omega)).as rfl rfl (by simp only [msk, h18, Int.toNat_natCast]; rfl) rfl
    · try simp only [Int.toNat_natCast] at h18
      refine v_iconst iX8_tops_21 ?_
      refine v_iload_n iX8_tops_22 rfl ?_
      refine v_ishl1 iX8_tops_23 (by omega) ?_
      refine v_goto (tgt := 28) iX8_tops_24 (by decide) ?_
      refine v_ior iX8_tops_28 (by refine ⟨?_, ?_⟩ <;> first | exact Int.natCast_nonneg _ | omega) ?_
      refine v_is1 iX8_tops_29 ⟨rfl, rfl⟩ ?_
      refine v_in2 iX8_tops_30 ⟨rfl, rfl⟩ ?_
      refine v_goto (tgt := 4) iX8_tops_33 (by decide) ?_
      exact (ih (by omega)).as rfl rfl (by simp only [msk, h18, Int.toNat_natCast]; rfl) rfl
end
section
theorem uS_eq (σ : St) (q k : Nat) (v : Int) : uS σ q k v q k = v := by simp [uS]
theorem uS_uS (σ : St) (q k : Nat) (v w : Int) : uS (uS σ q k v) q k w = uS σ q k w := by
  funext a b
  by_cases h : a = q ∧ b = k <;> simp [uS, h]
theorem uS_id (σ : St) (q k : Nat) : uS σ q k (σ q k) = σ := by
  funext a b
  by_cases h : a = q ∧ b = k
  · obtain ⟨rfl, rfl⟩ := h; simp [uS]
  · simp [uS, h]
theorem uA_eq (α : St) (q : Nat) (f : Nat → Int) : uA α q f q = f := by simp [uA]
theorem uA_ne (α : St) {q q' : Nat} (f : Nat → Int) (h : q' ≠ q) : uA α q f q' = α q' := by simp [uA, h]
theorem uA_uA (α : St) (q : Nat) (f g : Nat → Int) : uA (uA α q f) q g = uA α q g := by
  funext a
  by_cases h : a = q <;> simp [uA, h]
theorem uA_id (α : St) (q : Nat) : uA α q (α q) = α := by
  funext a
  by_cases h : a = q <;> simp [uA, h]
theorem uF_eq (f : Nat → Int) (k : Nat) (v : Int) : uF f k v k = v := by simp [uF]
theorem uF_ne (f : Nat → Int) {k j : Nat} (v : Int) (h : j ≠ k) : uF f k v j = f j := by simp [uF, h]
theorem uF_uF (f : Nat → Int) (k : Nat) (v w : Int) : uF (uF f k v) k w = uF f k w := by
  funext a
  by_cases h : a = k <;> simp [uF, h]
theorem uF_id (f : Nat → Int) (k : Nat) : uF f k (f k) = f := by
  funext a
  by_cases h : a = k <;> simp [uF, h]
/-- but for the steps' own cell -/
def Sc (σ σ' : St) : Prop := ∃ x, σ' = uS σ 95 23 x
theorem Sc.rf (σ : St) : Sc σ σ := ⟨σ 95 23, (uS_id σ 95 23).symm⟩
theorem Sc.tr {σ σ1 σ2 : St} (h : Sc σ σ1) (h2 : Sc σ1 σ2) : Sc σ σ2 := by
  obtain ⟨x, rfl⟩ := h
  obtain ⟨y, rfl⟩ := h2
  exact ⟨y, uS_uS _ _ _ _ _⟩
theorem Sc.put {σ σ1 : St} (h : Sc σ σ1) (y : Int) : Sc σ (uS σ1 95 23 y) := h.tr ⟨y, rfl⟩
theorem Sc.at {σ σ1 : St} (h : Sc σ σ1) {q k : Nat} (hk : ¬ (q = 95 ∧ k = 23)) : σ1 q k = σ q k := by
  obtain ⟨x, rfl⟩ := h
  simp [uS, hk]
theorem RV.sc {σ σ1 α : St} {n : Nat} {V B N : Nat → Int} (hR : RV σ α n V B N) (h : Sc σ σ1) : RV σ1 α n V B N := ⟨by rw [h.at (by decide)]; exact hR.1, hR.2⟩
theorem clm_y {n f a : Nat} {V B N : Nat → Int} (h : topR V B N n a = true) : clm V B N n (f + 1) a = (a, 0) := by simp only [clm, h, if_true]
theorem clm_n {n f a b : Nat} {V B N : Nat → Int} (h : topR V B N n a = false) (e : latU V B (N a) n = b) : clm V B N n (f + 1) a = ((clm V B N n f b).1, (clm V B N n f b).2 + 1) := by
  rw [clm, h, e]; rfl
/-- two sets of ends, gathered -/
def acc2 (c : Nat → Nat → Bool) (e : Nat → Nat → Nat) (i a : Nat) : Nat → Nat
  | 0 => a
  | k + 1 => if c i k then acc2 c e i a k ||| 2 ^ (e i k) else acc2 c e i a k
def acc1 (c : Nat → Nat → Bool) (e : Nat → Nat → Nat) (n : Nat) : Nat → Nat
  | 0 => 0
  | k + 1 => acc2 c e k (acc1 c e n k) n
theorem acc2_lt {c : Nat → Nat → Bool} {e : Nat → Nat → Nat} {n i a : Nat} (hi : i < n) (he : ∀ j, j < n → e i j < n) (ha : a < 2 ^ n) : ∀ k, k ≤ n → acc2 c e i a k < 2 ^ n
  | 0, _ => ha
  | k + 1, hk => by
    have ih := acc2_lt (c := c) hi he ha k (by omega)
    unfold acc2
    split
    · exact or_lt ih (Nat.pow_lt_pow_right (by decide) (he k (by omega)))
    · exact ih
theorem acc1_lt {c : Nat → Nat → Bool} {e : Nat → Nat → Nat} {n : Nat} (he : ∀ i j, i < n → j < n → e i j < n) : ∀ k, k ≤ n → acc1 c e n k < 2 ^ n
  | 0, _ => Nat.two_pow_pos _
  | k + 1, hk => acc2_lt (by omega) (fun j hj => he k j (by omega) hj) (acc1_lt he k (by omega)) n (Nat.le_refl _)
theorem pow10 {n a : Nat} (hn : n ≤ 10) (ha : a < 2 ^ n) : a < 1024 := Nat.lt_of_lt_of_le ha (Nat.pow_le_pow_right (by decide) hn : 2 ^ n ≤ 2 ^ 10)
def sooE (V B : Nat → Int) (i j : Nat) : Nat := if ltr V B i j then j else i
theorem sooE_in (V B : Nat → Int) {n : Nat} : ∀ i j, i < n → j < n → sooE V B i j < n := by
  intro i j hi hj
  unfold sooE
  split <;> assumption
def pasC (V B N : Nat → Int) (n : Nat) (one other : Int) (i j : Nat) : Bool := decide (((clm V B N n 10 i).1 : Int) = one) && decide (((clm V B N n 10 j).1 : Int) = other) && hasB (N i) j
def passR (V B N : Nat → Int) (n : Nat) (one other : Int) : Int := latU V B (acc1 (pasC V B N n one other) (sooE V B) n n : Nat) n
def high (c : Int) (V B : Nat → Int) (at_ top : Nat) : Bool := decide (c * V top * B at_ ≤ V at_ * 100 * B top)
def drwP (c : Int) (V B N : Nat → Int) (n top o : Nat) : Bool := topR V B N n o && ltr V B o top && (decide (passR V B N n top o ≠ -1) && high c V B (passR V B N n top o).toNat top)
def drwR (c : Int) (V B N : Nat → Int) (n top : Nat) : Int := latU V B (msk (drwP c V B N n top) n : Nat) n
theorem drw_lt {c : Int} {V B N : Nat → Int} {n top : Nat} (hW : WF n V B N) (h : ¬ drwR c V B N n top = -1) : ∃ b : Nat, b < n ∧ drwR c V B N n top = b ∧ ltr V B b top = true ∧ topR V B N n b = true := by
  rcases latU_spec hW (msk (drwP c V B N n top) n : Nat) n (Nat.le_refl _) with ⟨e, -⟩ | ⟨b, hb, e, hh, -⟩
  · exact absurd e h
  · rw [hasB_msk hb] at hh
    simp only [drwP, Bool.and_eq_true] at hh
    exact ⟨b, hb, e, hh.1.2, hh.1.1⟩
def hdF (c : Int) (V B N : Nat → Int) (n : Nat) : Nat → Nat → Nat
  | 0, a => a
  | f + 1, a => if drwR c V B N n a = -1 then a else hdF c V B N n f (drwR c V B N n a).toNat
theorem hdF_y {c : Int} {V B N : Nat → Int} {n f a : Nat} (h : drwR c V B N n a = -1) : hdF c V B N n (f + 1) a = a := by simp only [hdF, h, if_true]
theorem hdF_n {c : Int} {V B N : Nat → Int} {n f a b : Nat} (h : ¬ drwR c V B N n a = -1) (e : drwR c V B N n a = b) : hdF c V B N n (f + 1) a = hdF c V B N n f b := by
  rw [hdF, if_neg h, e]; rfl
theorem hdF_in {c : Int} {n : Nat} {V B N : Nat → Int} (hW : WF n V B N) : ∀ f a, a < n → hdF c V B N n f a < n
  | 0, a, ha => ha
  | f + 1, a, ha => by
    by_cases h : drwR c V B N n a = -1
    · rw [hdF_y h]; exact ha
    · obtain ⟨b, hb, e, -⟩ := drw_lt hW h
      rw [hdF_n h e]
      exact hdF_in hW f b hb
/-- the head of the basin of a section -/
def hds (c : Int) (V B N : Nat → Int) (n i : Nat) : Nat := hdF c V B N n 10 (clm V B N n 10 i).1
def outl (a b : Int) (V B : Nat → Int) (vol skin : Int) (top : Nat) : Bool := decide (V top * a * skin ≤ vol * b * B top)
/-- the first from k on, f of them -/
def fst1 (p : Nat → Bool) : Nat → Nat → Int
  | 0, _ => -1
  | f + 1, k => if p k then (k : Int) else fst1 p f (k + 1)
theorem fst1_r (p : Nat → Bool) : ∀ f k, -1 ≤ fst1 p f k ∧ fst1 p f k < k + f
  | 0, k => by simp [fst1]; omega
  | f + 1, k => by
    have := fst1_r p f (k + 1)
    unfold fst1
    split <;> omega
/-- the risers as a row tells them: how many, where, how much, what skin -/
def fdrP (a b : Int) (V B : Nat → Int) (hd : Nat → Int) (on vo sk : Nat → Int) (set : Int) (top r : Nat) : Bool := hasB set r && (decide (hd (on r).toNat = hd top) && outl a b V B (vo r) (sk r) top)
def fdrR (a b : Int) (V B : Nat → Int) (hd : Nat → Int) (on vo sk : Nat → Int) (many : Nat) (set : Int) (top : Nat) : Int := fst1 (fdrP a b V B hd on vo sk set top) many 0
def fedR (a b : Int) (V B N : Nat → Int) (n : Nat) (hd : Nat → Int) (on vo sk : Nat → Int) (many : Nat) (set : Int) : Nat := msk (fun i => topR V B N n i && decide (fdrR a b V B hd on vo sk many set i ≠ -1)) n
end
section
set_option maxHeartbeats 4000000 in
set_option maxRecDepth 100000 in
theorem qX8_topOf (σ α : St) {n : Nat} {V B N : Nat → Int} (hR : RV σ α n V B N) (hW : WF n V B N) (i : Int) (hi : 0 ≤ i ∧ i < n) : CF 4 mX8_topOf [vR 95, vI i] σ α (some (vI ((clm V B N n 10 i.toNat).1 : Int))) (uS σ 95 23 ((clm V B N n 10 i.toNat).2 : Int)) (α) := by
  have h10 := hW.1
  refine CG.of [some (vR 95), some (vI i), none] (by decide) (by simp [lvA]) rfl ?_
  refine v_iload_n iX8_topOf_0 rfl ?_
  refine v_is2 iX8_topOf_1 ⟨rfl, rfl⟩ ?_
  refine v_aload_n iX8_topOf_2 rfl ?_
  refine v_iconst iX8_topOf_3 ?_
  refine v_put iX8_topOf_4 pX8_163 rfl rfl (by intro h; cases h) ?_
  have key : ∀ (f a : Nat) (s0 : Int), a < n → rnk V B n a < f → (clm V B N n 10 i.toNat).1 = (clm V B N n f a).1 → ((clm V B N n 10 i.toNat).2 : Int) = s0 + (clm V B N n f a).2 → VV 4 mX8_topOf [vR 95, vI i] (fun r' s' a' => r' = some (vI ((clm V B N n 10 i.toNat).1 : Int)) ∧ s' = uS σ 95 23 ((clm V B N n 10 i.toNat).2 : Int) ∧ a' = α) (uS σ 95 23 s0) α 7 [some (vR 95), some (vI i), some (vI (a : Int))] [] := by
    intro f
    induction f with
    | zero => intro a s0 _ h; exact absurd h (by omega)
    | succ f ih =>
      intro a s0 ha hf e1 e2
      have hR' := hR.sc ⟨s0, rfl⟩
      refine v_aload_n iX8_topOf_7 rfl ?_
      refine v_iload_n iX8_topOf_8 rfl ?_
      refine c_V1 (Mc := mX8_isTop) iX8_topOf_9 lX8_160 kX8_isTop (qX8_isTop _ _ hR' hW a (by omega)) (by decide) rfl rfl rfl rfl (Nat.le_of_ble_eq_true rfl) ?_
      try simp only [Int.toNat_natCast]
      refine v_bif_ne (tgt := 39) iX8_topOf_12 (by decide) (fun h12 => ?_) (fun h12 => ?_)
      · try simp only [Int.toNat_natCast] at h12
        refine v_iload_n iX8_topOf_39 rfl ?_
        exact r_i iX8_topOf_40 rfl ((by rw [clm_y h12] at e1 e2; exact ⟨cf_i (by omega), by rw [e2]; simp, rfl⟩))
      · try simp only [Int.toNat_natCast] at h12
        obtain ⟨b, hb, e, hl⟩ := topR_no hW ha h12
        have hwa := hW.2 a ha
        rw [clm_n h12 e] at e1 e2
        refine v_aload_n iX8_topOf_15 rfl ?_
        refine v_aload_n iX8_topOf_16 rfl ?_
        refine v_getR iX8_topOf_17 fX8_19 rfl rfl ?_
        refine v_iload_n iX8_topOf_20 rfl ?_
        refine v_iaload iX8_topOf_21 rfl (by omega) (by exact (hR.2 a ha).2.2) ?_
        refine c_V1 (Mc := mX8_latest) iX8_topOf_22 lX8_157 kX8_latest (qX8_latest _ _ hR' hW _ (by omega)) (by decide) rfl rfl rfl rfl (Nat.le_of_ble_eq_true rfl) ?_
        try simp only [Int.toNat_natCast]
        rw [e]
        refine v_is2 iX8_topOf_25 ⟨rfl, rfl⟩ ?_
        refine v_aload_n iX8_topOf_26 rfl ?_
        refine v_dup iX8_topOf_27 (by intro z h; cases h) ?_
        refine v_getI iX8_topOf_28 fX8_163 rfl rfl (by exact uS_eq _ _ _ _) ?_
        refine v_iconst iX8_topOf_31 ?_
        refine v_iadd iX8_topOf_32 ?_
        refine v_put iX8_topOf_33 pX8_163 rfl rfl (by intro h; cases h) ?_
        refine v_goto (tgt := 7) iX8_topOf_36 (by decide) ?_
        exact (ih b (s0 + 1) hb (by have := rnk_lt hW ha hb hl; omega) e1 (by rw [e2]; omega)).as (uS_uS _ _ _ _ _) rfl rfl rfl
  exact (key 10 i.toNat 0 (by omega) (rnk_n hW (by omega)) rfl (by omega)).as rfl rfl (by simp; omega) rfl

set_option maxHeartbeats 4000000 in
set_option maxRecDepth 100000 in
theorem qX8_basin (σ α : St) {n : Nat} {V B N : Nat → Int} (hR : RV σ α n V B N) (hW : WF n V B N) (t : Int) (ht : InR t) : CG 5 mX8_basin [vR 95, vI t] σ α (fun r' s' a' => r' = some (vI ((msk (fun j => decide (((clm V B N n 10 j).1 : Int) = t)) n : Nat) : Int)) ∧ Sc σ s' ∧ a' = α) := by
  have h10 := hW.1
  refine CG.of [some (vR 95), some (vI t), none, none] (by decide) (by simp [lvA]) rfl ?_
  refine v_iconst iX8_basin_0 ?_
  refine v_is2 iX8_basin_1 ⟨rfl, rfl⟩ ?_
  refine v_iconst iX8_basin_2 ?_
  refine v_is3 iX8_basin_3 ⟨rfl, rfl⟩ ?_
  have key := ind_up (P := fun k => ∀ σ1, Sc σ σ1 → VV 5 mX8_basin [vR 95, vI t] (fun r' s' a' => r' = some (vI ((msk (fun j => decide (((clm V B N n 10 j).1 : Int) = t)) n : Nat) : Int)) ∧ Sc σ s' ∧ a' = α) σ1 α 4 [some (vR 95), some (vI t), some (vI ((msk (fun j => decide (((clm V B N n 10 j).1 : Int) = t)) k : Nat) : Int)), some (vI (k : Int))] []) n ?_ 0 (by omega)
  · exact key σ (Sc.rf σ)
  intro k hk ih σ1 hs
  refine v_iload_n iX8_basin_4 rfl ?_
  refine v_aload_n iX8_basin_5 rfl ?_
  refine v_getI iX8_basin_6 fX8_57 rfl rfl (by exact (hR.sc hs).1) ?_
  refine v_icmp_ge (tgt := 37) iX8_basin_9 (by decide) (by omega) (fun h9 => ?_) (fun h9 => ?_)
  · have hkn : k = n := by omega
    subst hkn
    refine v_iload_n iX8_basin_37 rfl ?_
    exact r_i iX8_basin_38 rfl (⟨rfl, hs, rfl⟩)
  · refine v_iload_n iX8_basin_12 rfl ?_
    refine v_aload_n iX8_basin_13 rfl ?_
    refine v_iload_n iX8_basin_14 rfl ?_
    refine c_V1 (Mc := mX8_topOf) iX8_basin_15 lX8_166 kX8_topOf (qX8_topOf σ1 α (hR.sc hs) hW k (by omega)) (by decide) rfl rfl rfl rfl (Nat.le_of_ble_eq_true rfl) ?_
    try simp only [Int.toNat_natCast]
    refine v_iload_n iX8_basin_18 rfl ?_
    refine v_icmp_ne (tgt := 28) iX8_basin_19 (by decide) (by exact ⟨⟨by omega, by have := clm_in hW 10 k (by omega); omega⟩, ht⟩) (fun h19 => ?_) (fun h19 => ?_)
    · refine v_iconst iX8_basin_28 ?_
      refine v_ior iX8_basin_29 (by refine ⟨?_, ?_⟩ <;> first | exact Int.natCast_nonneg _ | omega) ?_
      refine v_is2 iX8_basin_30 ⟨rfl, rfl⟩ ?_
      refine v_in3 iX8_basin_31 ⟨rfl, rfl⟩ ?_
      refine v_goto (tgt := 4) iX8_basin_34 (by decide) ?_
      refine (ih (by omega) _ (hs.put _)).as rfl rfl ?_ rfl
      simp only [msk, h19, decide_true, decide_false, Bool.false_eq_true, if_true, if_false, Int.toNat_natCast]; rfl
    · refine v_iconst iX8_basin_22 ?_
      refine v_iload_n iX8_basin_23 rfl ?_
      refine v_ishl1 iX8_basin_24 (by omega) ?_
      refine v_goto (tgt := 29) iX8_basin_25 (by decide) ?_
      refine v_ior iX8_basin_29 (by refine ⟨?_, ?_⟩ <;> first | exact Int.natCast_nonneg _ | omega) ?_
      refine v_is2 iX8_basin_30 ⟨rfl, rfl⟩ ?_
      refine v_in3 iX8_basin_31 ⟨rfl, rfl⟩ ?_
      refine v_goto (tgt := 4) iX8_basin_34 (by decide) ?_
      refine (ih (by omega) _ (hs.put _)).as rfl rfl ?_ rfl
      simp only [msk, h19, decide_true, decide_false, Bool.false_eq_true, if_true, if_false, Int.toNat_natCast]; rfl

set_option maxHeartbeats 4000000 in
set_option maxRecDepth 100000 in
theorem qX8_passOf (σ α : St) {n : Nat} {V B N : Nat → Int} (hR : RV σ α n V B N) (hW : WF n V B N) (one other : Int) (h1 : InR one) (h2 : InR other) : CG 6 mX8_passOf [vR 95, vI one, vI other] σ α (fun r' s' a' => r' = some (vI (passR V B N n one other)) ∧ Sc σ s' ∧ a' = α) := by
  have h10 := hW.1
  have m1 := pow10 h10 (msk_lt (fun j => decide (((clm V B N n 10 j).1 : Int) = one)) n)
  have m2 := pow10 h10 (msk_lt (fun j => decide (((clm V B N n 10 j).1 : Int) = other)) n)
  refine CG.of [some (vR 95), some (vI one), some (vI other), none, none, none, none, none] (by decide) (by simp [lvA]) rfl ?_
  refine v_aload_n iX8_passOf_0 rfl ?_
  refine v_iload_n iX8_passOf_1 rfl ?_
  refine c_VQ (Mc := mX8_basin) iX8_passOf_2 lX8_169 kX8_basin (qX8_basin σ α hR hW one h1) (by decide) rfl rfl rfl rfl (Nat.le_of_ble_eq_true rfl) ?_
  rintro σ1 a1 ⟨hs1, ha1⟩
  rw [ha1]
  try simp only [Int.toNat_natCast]
  refine v_is3 iX8_passOf_5 ⟨rfl, rfl⟩ ?_
  refine v_aload_n iX8_passOf_6 rfl ?_
  refine v_iload_n iX8_passOf_7 rfl ?_
  refine c_VQ (Mc := mX8_basin) iX8_passOf_8 lX8_169 kX8_basin (qX8_basin σ1 α (hR.sc hs1) hW other h2) (by decide) rfl rfl rfl rfl (Nat.le_of_ble_eq_true rfl) ?_
  rintro σ2 a2 ⟨hs2, ha2⟩
  rw [ha2]
  try simp only [Int.toNat_natCast]
  refine v_is4 iX8_passOf_11 ⟨rfl, rfl⟩ ?_
  refine v_iconst iX8_passOf_13 ?_
  refine v_is5 iX8_passOf_14 ⟨rfl, rfl⟩ ?_
  refine v_iconst iX8_passOf_16 ?_
  refine v_is6 iX8_passOf_17 ⟨rfl, rfl⟩ ?_
  have hs2 := hs1.tr hs2
  have hR2 := hR.sc hs2
  refine ind_up (P := fun k => VV 6 mX8_passOf [vR 95, vI one, vI other] (fun r' s' a' => r' = some (vI (passR V B N n one other)) ∧ Sc σ s' ∧ a' = α) σ2 α 19 [some (vR 95), some (vI one), some (vI other), some (vI ((msk (fun j => decide (((clm V B N n 10 j).1 : Int) = one)) n : Nat) : Int)), some (vI ((msk (fun j => decide (((clm V B N n 10 j).1 : Int) = other)) n : Nat) : Int)), some (vI ((acc1 (pasC V B N n one other) (sooE V B) n k : Nat) : Int)), some (vI (k : Int)), none] []) n ?_ 0 (by omega)
  intro k hk ih
  refine v_iload iX8_passOf_19 rfl ?_
  refine v_aload_n iX8_passOf_21 rfl ?_
  refine v_getI iX8_passOf_22 fX8_57 rfl rfl (by exact hR2.1) ?_
  refine v_icmp_ge (tgt := 111) iX8_passOf_25 (by decide) (by omega) (fun h25 => ?_) (fun h25 => ?_)
  · have hkn : n = k := by omega
    subst hkn
    refine v_aload_n iX8_passOf_111 rfl ?_
    refine v_iload iX8_passOf_112 rfl ?_
    refine c_V1 (Mc := mX8_latest) iX8_passOf_114 lX8_157 kX8_latest (qX8_latest σ2 α hR2 hW _ (by have := pow10 hW.1 (acc1_lt (c := pasC V B N n one other) (sooE_in V B) n (Nat.le_refl _)); omega)) (by decide) rfl rfl rfl rfl (Nat.le_of_ble_eq_true rfl) ?_
    try simp only [Int.toNat_natCast]
    exact r_i iX8_passOf_117 rfl (⟨rfl, hs2, rfl⟩)
  · have hkn : k < n := by omega
    refine v_iconst iX8_passOf_28 ?_
    refine v_is7 iX8_passOf_29 ⟨rfl, rfl⟩ ?_
    refine ind_up (P := fun j => VV 6 mX8_passOf [vR 95, vI one, vI other] (fun r' s' a' => r' = some (vI (passR V B N n one other)) ∧ Sc σ s' ∧ a' = α) σ2 α 31 [some (vR 95), some (vI one), some (vI other), some (vI ((msk (fun j => decide (((clm V B N n 10 j).1 : Int) = one)) n : Nat) : Int)), some (vI ((msk (fun j => decide (((clm V B N n 10 j).1 : Int) = other)) n : Nat) : Int)), some (vI ((acc2 (pasC V B N n one other) (sooE V B) k (acc1 (pasC V B N n one other) (sooE V B) n k) j : Nat) : Int)), some (vI (k : Int)), some (vI (j : Int))] []) n ?_ 0 (by omega)
    intro j hj ihj
    refine v_iload iX8_passOf_31 rfl ?_
    refine v_aload_n iX8_passOf_33 rfl ?_
    refine v_getI iX8_passOf_34 fX8_57 rfl rfl (by exact hR2.1) ?_
    refine v_icmp_ge (tgt := 105) iX8_passOf_37 (by decide) (by omega) (fun h37 => ?_) (fun h37 => ?_)
    · have hjn : n = j := by omega
      subst hjn
      refine v_in6 iX8_passOf_105 ⟨rfl, rfl⟩ ?_
      refine v_goto (tgt := 19) iX8_passOf_108 (by decide) ?_
      exact (ih (by omega)).asw rfl rfl ⟨rfl, rfl, rfl, rfl, rfl, rfl, rfl, trivial⟩ rfl
    · have hjn : j < n := by omega
      have hkn : k < n := by omega
      have hwk := hW.2 k hkn
      refine v_iload_n iX8_passOf_40 rfl ?_
      refine v_iload iX8_passOf_41 rfl ?_
      refine c_S1 (Mc := mX8_has) iX8_passOf_43 lX8_151 kX8_has (qX8_has _ _ _ k (by omega) (by omega)) (by decide) rfl rfl (Nat.le_of_ble_eq_true rfl) ?_
      try simp only [Int.toNat_natCast]
      refine v_bif_eq (tgt := 99) iX8_passOf_46 (by decide) (fun h46 => ?_) (fun h46 => ?_)
      · try simp only [Int.toNat_natCast] at h46
        (try rw [hasB_msk hkn] at h46)
        (try rw [hasB_msk hjn] at h56)
        refine v_in7 iX8_passOf_99 ⟨rfl, rfl⟩ ?_
        refine v_goto (tgt := 31) iX8_passOf_102 (by decide) ?_
        refine (ihj (by omega)).as rfl rfl ?_ rfl
        first
          | (have e1 : pasC V B N n one other k j = true := by simp [pasC, *]
             simp only [acc2, e1, if_true, sooE, h85, Bool.false_eq_true, if_false, Int.toNat_natCast]; rfl)
          | (have e1 : pasC V B N n one other k j = false := by simp [pasC, *]
             simp only [acc2, e1, Bool.false_eq_true, if_false, Int.toNat_natCast]; rfl)
      · try simp only [Int.toNat_natCast] at h46
        rw [hasB_msk hkn] at h46
        refine v_iload iX8_passOf_49 rfl ?_
        refine v_iload iX8_passOf_51 rfl ?_
        refine c_S1 (Mc := mX8_has) iX8_passOf_53 lX8_151 kX8_has (qX8_has _ _ _ j (by omega) (by omega)) (by decide) rfl rfl (Nat.le_of_ble_eq_true rfl) ?_
        try simp only [Int.toNat_natCast]
        refine v_bif_eq (tgt := 99) iX8_passOf_56 (by decide) (fun h56 => ?_) (fun h56 => ?_)
        · try simp only [Int.toNat_natCast] at h56
          (try rw [hasB_msk hkn] at h46)
          (try rw [hasB_msk hjn] at h56)
          refine v_in7 iX8_passOf_99 ⟨rfl, rfl⟩ ?_
          refine v_goto (tgt := 31) iX8_passOf_102 (by decide) ?_
          refine (ihj (by omega)).as rfl rfl ?_ rfl
          first
            | (have e1 : pasC V B N n one other k j = true := by simp [pasC, *]
               simp only [acc2, e1, if_true, sooE, h85, Bool.false_eq_true, if_false, Int.toNat_natCast]; rfl)
            | (have e1 : pasC V B N n one other k j = false := by simp [pasC, *]
               simp only [acc2, e1, Bool.false_eq_true, if_false, Int.toNat_natCast]; rfl)
        · try simp only [Int.toNat_natCast] at h56
          rw [hasB_msk hjn] at h56
          refine v_aload_n iX8_passOf_59 rfl ?_
          refine v_getR iX8_passOf_60 fX8_19 rfl rfl ?_
          refine v_iload iX8_passOf_63 rfl ?_
          refine v_iaload iX8_passOf_65 rfl (by omega) (by exact (hR.2 k (by omega)).2.2) ?_
          refine v_iload iX8_passOf_66 rfl ?_
          refine c_S1 (Mc := mX8_has) iX8_passOf_68 lX8_151 kX8_has (qX8_has _ _ _ j (by omega) (by omega)) (by decide) rfl rfl (Nat.le_of_ble_eq_true rfl) ?_
          try simp only [Int.toNat_natCast]
          refine v_bif_eq (tgt := 99) iX8_passOf_71 (by decide) (fun h71 => ?_) (fun h71 => ?_)
          · try simp only [Int.toNat_natCast] at h71
            (try rw [hasB_msk hkn] at h46)
            (try rw [hasB_msk hjn] at h56)
            refine v_in7 iX8_passOf_99 ⟨rfl, rfl⟩ ?_
            refine v_goto (tgt := 31) iX8_passOf_102 (by decide) ?_
            refine (ihj (by omega)).as rfl rfl ?_ rfl
            first
              | (have e1 : pasC V B N n one other k j = true := by simp [pasC, *]
                 simp only [acc2, e1, if_true, sooE, h85, Bool.false_eq_true, if_false, Int.toNat_natCast]; rfl)
              | (have e1 : pasC V B N n one other k j = false := by simp [pasC, *]
                 simp only [acc2, e1, Bool.false_eq_true, if_false, Int.toNat_natCast]; rfl)
          · try simp only [Int.toNat_natCast] at h71
            refine v_iload iX8_passOf_74 rfl ?_
            refine v_iconst iX8_passOf_76 ?_
            refine v_aload_n iX8_passOf_77 rfl ?_
            refine v_iload iX8_passOf_78 rfl ?_
            refine v_iload iX8_passOf_80 rfl ?_
            refine c_V1 (Mc := mX8_isLater) iX8_passOf_82 lX8_154 kX8_isLater (qX8_isLater σ2 α hR2 hW k j (by omega) (by omega)) (by decide) rfl rfl rfl rfl (Nat.le_of_ble_eq_true rfl) ?_
            try simp only [Int.toNat_natCast]
            refine v_bif_eq (tgt := 93) iX8_passOf_85 (by decide) (fun h85 => ?_) (fun h85 => ?_)
            · try simp only [Int.toNat_natCast] at h85
              refine v_iload iX8_passOf_93 rfl ?_
              refine v_ishl1 iX8_passOf_95 (by omega) ?_
              refine v_ior iX8_passOf_96 (by refine ⟨?_, ?_⟩ <;> first | exact Int.natCast_nonneg _ | omega) ?_
              refine v_is5 iX8_passOf_97 ⟨rfl, rfl⟩ ?_
              (try rw [hasB_msk hkn] at h46)
              (try rw [hasB_msk hjn] at h56)
              refine v_in7 iX8_passOf_99 ⟨rfl, rfl⟩ ?_
              refine v_goto (tgt := 31) iX8_passOf_102 (by decide) ?_
              refine (ihj (by omega)).as rfl rfl ?_ rfl
              first
                | (have e1 : pasC V B N n one other k j = true := by simp [pasC, *]
                   simp only [acc2, e1, if_true, sooE, h85, Bool.false_eq_true, if_false, Int.toNat_natCast]; rfl)
                | (have e1 : pasC V B N n one other k j = false := by simp [pasC, *]
                   simp only [acc2, e1, Bool.false_eq_true, if_false, Int.toNat_natCast]; rfl)
            · try simp only [Int.toNat_natCast] at h85
              refine v_iload iX8_passOf_88 rfl ?_
              refine v_goto (tgt := 95) iX8_passOf_90 (by decide) ?_
              refine v_ishl1 iX8_passOf_95 (by omega) ?_
              refine v_ior iX8_passOf_96 (by refine ⟨?_, ?_⟩ <;> first | exact Int.natCast_nonneg _ | omega) ?_
              refine v_is5 iX8_passOf_97 ⟨rfl, rfl⟩ ?_
              (try rw [hasB_msk hkn] at h46)
              (try rw [hasB_msk hjn] at h56)
              refine v_in7 iX8_passOf_99 ⟨rfl, rfl⟩ ?_
              refine v_goto (tgt := 31) iX8_passOf_102 (by decide) ?_
              refine (ihj (by omega)).as rfl rfl ?_ rfl
              first
                | (have e1 : pasC V B N n one other k j = true := by simp [pasC, *]
                   simp only [acc2, e1, if_true, sooE, h85, Bool.false_eq_true, if_false, Int.toNat_natCast]; rfl)
                | (have e1 : pasC V B N n one other k j = false := by simp [pasC, *]
                   simp only [acc2, e1, Bool.false_eq_true, if_false, Int.toNat_natCast]; rfl)

set_option maxHeartbeats 4000000 in
set_option maxRecDepth 100000 in
theorem qX8_isHigh (σ α : St) {n : Nat} {V B N : Nat → Int} (hR : RV σ α n V B N) (hW : WF n V B N) (c : Int) (hc : σ 95 7 = c) (hc2 : 0 ≤ c ∧ c ≤ 100) (i t : Int) (hi : 0 ≤ i ∧ i < n) (ht : 0 ≤ t ∧ t < n) : CF 1 mX8_isHigh [vR 95, vI i, vI t] σ α (some (vI (b2i (high c V B i.toNat t.toNat)))) (σ) (α) := by
  have h10 := hW.1
  have hwi := hW.2 i.toNat (by omega)
  have hwt := hW.2 t.toNat (by omega)
  have b1 := prod_b (x := V i.toNat * 100) (y := B t.toNat) (a := 9900) (b := 189) (by omega) (by omega)
  have b0 := prod_b (x := c) (y := V t.toNat) (a := 100) (b := 99) (by omega) (by omega)
  have b2 := prod_b (x := c * V t.toNat) (y := B i.toNat) (a := 9900) (b := 189) (by omega) (by omega)
  refine CG.of [some (vR 95), some (vI i), some (vI t)] (by decide) (by simp [lvA]) rfl ?_
  refine v_aload_n iX8_isHigh_0 rfl ?_
  refine v_getR iX8_isHigh_1 fX8_13 rfl rfl ?_
  refine v_iload_n iX8_isHigh_4 rfl ?_
  refine v_iaload iX8_isHigh_5 rfl (by omega) (by exact (hR.2 i.toNat (by omega)).1) ?_
  refine v_bipush iX8_isHigh_6 (by decide) ?_
  refine v_imul iX8_isHigh_8 ?_
  refine v_aload_n iX8_isHigh_9 rfl ?_
  refine v_iload_n iX8_isHigh_10 rfl ?_
  refine c_V1 (Mc := mX8_skinOf) iX8_isHigh_11 lX8_147 kX8_skinOf (hR.sk h10 t ht) (by decide) rfl rfl rfl rfl (Nat.le_of_ble_eq_true rfl) ?_
  try simp only [Int.toNat_natCast]
  refine v_imul iX8_isHigh_14 ?_
  refine v_aload_n iX8_isHigh_15 rfl ?_
  refine v_getI iX8_isHigh_16 fX8_29 rfl rfl (by exact hc) ?_
  refine v_aload_n iX8_isHigh_19 rfl ?_
  refine v_getR iX8_isHigh_20 fX8_13 rfl rfl ?_
  refine v_iload_n iX8_isHigh_23 rfl ?_
  refine v_iaload iX8_isHigh_24 rfl (by omega) (by exact (hR.2 t.toNat (by omega)).1) ?_
  refine v_imul iX8_isHigh_25 ?_
  refine v_aload_n iX8_isHigh_26 rfl ?_
  refine v_iload_n iX8_isHigh_27 rfl ?_
  refine c_V1 (Mc := mX8_skinOf) iX8_isHigh_28 lX8_147 kX8_skinOf (hR.sk h10 i hi) (by decide) rfl rfl rfl rfl (Nat.le_of_ble_eq_true rfl) ?_
  try simp only [Int.toNat_natCast]
  refine v_imul iX8_isHigh_31 ?_
  refine v_icmp_lt (tgt := 39) iX8_isHigh_32 (by decide) (by omega) (fun h32 => ?_) (fun h32 => ?_)
  · refine v_iconst iX8_isHigh_39 ?_
    exact r_b iX8_isHigh_40 rfl (by first | exact b2i_01 _ | decide | omega) (⟨cf_i (by unfold high; first | exact (b2i_pos (by omega)).symm | exact (b2i_neg (by omega)).symm), rfl, rfl⟩)
  · refine v_iconst iX8_isHigh_35 ?_
    refine v_goto (tgt := 40) iX8_isHigh_36 (by decide) ?_
    exact r_b iX8_isHigh_40 rfl (by first | exact b2i_01 _ | decide | omega) (⟨cf_i (by unfold high; first | exact (b2i_pos (by omega)).symm | exact (b2i_neg (by omega)).symm), rfl, rfl⟩)

set_option maxHeartbeats 4000000 in
set_option maxRecDepth 100000 in
theorem qX8_outlasts (σ α : St) {n : Nat} {V B N : Nat → Int} (hR : RV σ α n V B N) (hW : WF n V B N) (a b : Int) (ha : σ 95 5 = a) (ha2 : 1 ≤ a ∧ a ≤ 99) (hb : σ 95 6 = b) (hb2 : 1 ≤ b ∧ b ≤ 99) (vol skin t : Int) (hv : 0 ≤ vol ∧ vol ≤ 999) (hs : 0 ≤ skin ∧ skin ≤ 99) (ht : 0 ≤ t ∧ t < n) : CF 1 mX8_outlasts [vR 95, vI vol, vI skin, vI t] σ α (some (vI (b2i (outl a b V B vol skin t.toNat)))) (σ) (α) := by
  have h10 := hW.1
  have hwt := hW.2 t.toNat (by omega)
  have b0 := prod_b (x := vol) (y := b) (a := 999) (b := 99) (by omega) (by omega)
  have b1 := prod_b (x := vol * b) (y := B t.toNat) (a := 98901) (b := 189) (by omega) (by omega)
  have b2 := prod_b (x := V t.toNat) (y := a) (a := 99) (b := 99) (by omega) (by omega)
  have b3 := prod_b (x := V t.toNat * a) (y := skin) (a := 9801) (b := 99) (by omega) (by omega)
  refine CG.of [some (vR 95), some (vI vol), some (vI skin), some (vI t)] (by decide) (by simp [lvA]) rfl ?_
  refine v_iload_n iX8_outlasts_0 rfl ?_
  refine v_aload_n iX8_outlasts_1 rfl ?_
  refine v_getI iX8_outlasts_2 fX8_26 rfl rfl (by exact hb) ?_
  refine v_imul iX8_outlasts_5 ?_
  refine v_aload_n iX8_outlasts_6 rfl ?_
  refine v_iload_n iX8_outlasts_7 rfl ?_
  refine c_V1 (Mc := mX8_skinOf) iX8_outlasts_8 lX8_147 kX8_skinOf (hR.sk h10 t ht) (by decide) rfl rfl rfl rfl (Nat.le_of_ble_eq_true rfl) ?_
  try simp only [Int.toNat_natCast]
  refine v_imul iX8_outlasts_11 ?_
  refine v_aload_n iX8_outlasts_12 rfl ?_
  refine v_getR iX8_outlasts_13 fX8_13 rfl rfl ?_
  refine v_iload_n iX8_outlasts_16 rfl ?_
  refine v_iaload iX8_outlasts_17 rfl (by omega) (by exact (hR.2 t.toNat (by omega)).1) ?_
  refine v_aload_n iX8_outlasts_18 rfl ?_
  refine v_getI iX8_outlasts_19 fX8_22 rfl rfl (by exact ha) ?_
  refine v_imul iX8_outlasts_22 ?_
  refine v_iload_n iX8_outlasts_23 rfl ?_
  refine v_imul iX8_outlasts_24 ?_
  refine v_icmp_lt (tgt := 32) iX8_outlasts_25 (by decide) (by omega) (fun h25 => ?_) (fun h25 => ?_)
  · refine v_iconst iX8_outlasts_32 ?_
    exact r_b iX8_outlasts_33 rfl (by first | exact b2i_01 _ | decide | omega) (⟨cf_i (by unfold outl; first | exact (b2i_pos (by omega)).symm | exact (b2i_neg (by omega)).symm), rfl, rfl⟩)
  · refine v_iconst iX8_outlasts_28 ?_
    refine v_goto (tgt := 33) iX8_outlasts_29 (by decide) ?_
    exact r_b iX8_outlasts_33 rfl (by first | exact b2i_01 _ | decide | omega) (⟨cf_i (by unfold outl; first | exact (b2i_pos (by omega)).symm | exact (b2i_neg (by omega)).symm), rfl, rfl⟩)
end
section
theorem RV.ua {σ α : St} {n : Nat} {V B N : Nat → Int} (hR : RV σ α n V B N) (f : Nat → Int) : RV σ (uA α 107 f) n V B N := ⟨hR.1, hR.2⟩
/-- the rule: share and pass -/
def RU (σ : St) (a b c : Int) : Prop := σ 95 5 = a ∧ σ 95 6 = b ∧ σ 95 7 = c ∧ (1 ≤ a ∧ a ≤ 99) ∧ (1 ≤ b ∧ b ≤ 99) ∧ 0 ≤ c ∧ c ≤ 100
theorem RU.sc {σ σ1 : St} {a b c : Int} (h : RU σ a b c) (hs : Sc σ σ1) : RU σ1 a b c := by
  obtain ⟨h1, h2, h3, h4⟩ := h
  exact ⟨by rw [hs.at (by decide)]; exact h1, by rw [hs.at (by decide)]; exact h2, by rw [hs.at (by decide)]; exact h3, h4⟩
/-- the risers in the reference's row -/
def RR (α : St) (n m : Nat) : Prop := α 96 0 = m ∧ m ≤ 6 ∧ ∀ r, r < m → (0 ≤ α 96 (1 + r) ∧ α 96 (1 + r) < n) ∧ (1 ≤ α 96 (7 + r) ∧ α 96 (7 + r) ≤ 99) ∧ (1 ≤ α 96 (13 + r) ∧ α 96 (13 + r) ≤ 99)
theorem passR_r (V B N : Nat → Int) (n : Nat) (one other : Int) : -1 ≤ passR V B N n one other ∧ passR V B N n one other < n := latU_r _ _ _ _
theorem drwR_r (c : Int) (V B N : Nat → Int) (n t : Nat) : -1 ≤ drwR c V B N n t ∧ drwR c V B N n t < n := latU_r _ _ _ _
def hdsF (c : Int) (V B N : Nat → Int) (n : Nat) (f : Nat → Int) (k : Nat) : Nat → Int := fun i => if i < k then (hds c V B N n i : Int) else f i
theorem hdsF_0 (c : Int) (V B N : Nat → Int) (n : Nat) (f : Nat → Int) : hdsF c V B N n f 0 = f := by funext i; simp [hdsF]
theorem hdsF_s (c : Int) (V B N : Nat → Int) (n : Nat) (f : Nat → Int) (k : Nat) : uF (hdsF c V B N n f k) k (hds c V B N n k) = hdsF c V B N n f (k + 1) := by
  funext i
  by_cases h : i = k
  · subst h; simp [uF, hdsF]
  · by_cases h2 : i < k
    · simp [uF, hdsF, h, h2]; omega
    · have : ¬ i < k + 1 := by omega
      simp [uF, hdsF, h, h2, this]
theorem fst1_y {p : Nat → Bool} {f k : Nat} (h : p k = true) : fst1 p (f + 1) k = k := by simp only [fst1, h, if_true]
theorem fst1_n {p : Nat → Bool} {f k : Nat} (h : p k = false) : fst1 p (f + 1) k = fst1 p f (k + 1) := by simp only [fst1, h, Bool.false_eq_true, if_false]
theorem fdrR_r (a b : Int) (V B : Nat → Int) (hd on vo sk : Nat → Int) (m : Nat) (set : Int) (t : Nat) : -1 ≤ fdrR a b V B hd on vo sk m set t ∧ fdrR a b V B hd on vo sk m set t < m := by
  have := fst1_r (fdrP a b V B hd on vo sk set t) m 0
  unfold fdrR; omega
theorem gcd_step {x y : Int} (hx : 0 ≤ x) (hy : 0 < y) : Int.gcd x y = Int.gcd y (x % y) := by
  rw [Int.gcd_comm x y]
  obtain ⟨a, rfl⟩ := Int.eq_ofNat_of_zero_le hx
  obtain ⟨b, rfl⟩ := Int.eq_ofNat_of_zero_le (Int.le_of_lt hy)
  show Nat.gcd b a = Nat.gcd b (a % b)
  rw [Nat.gcd_comm b (a % b), ← Nat.gcd_rec]
end
section
set_option maxHeartbeats 4000000 in
set_option maxRecDepth 100000 in
theorem qX8_drownedIn (σ α : St) {n : Nat} {V B N : Nat → Int} (hR : RV σ α n V B N) (hW : WF n V B N) {a b c : Int} (hU : RU σ a b c) (t : Nat) (ht : t < n) : CG 7 mX8_drownedIn [vR 95, vI (t : Int)] σ α (fun r' s' a' => r' = some (vI (drwR c V B N n t)) ∧ Sc σ s' ∧ a' = α) := by
  have h10 := hW.1
  have mt := pow10 h10 (msk_lt (topR V B N n) n)
  refine CG.of [some (vR 95), some (vI (t : Int)), none, none, none, none] (by decide) (by simp [lvA]) rfl ?_
  refine v_aload_n iX8_drownedIn_0 rfl ?_
  refine c_V1 (Mc := mX8_tops) iX8_drownedIn_1 lX8_172 kX8_tops (qX8_tops σ α hR hW) (by decide) rfl rfl rfl rfl (Nat.le_of_ble_eq_true rfl) ?_
  try simp only [Int.toNat_natCast]
  refine v_is2 iX8_drownedIn_4 ⟨rfl, rfl⟩ ?_
  refine v_iconst iX8_drownedIn_5 ?_
  refine v_is3 iX8_drownedIn_6 ⟨rfl, rfl⟩ ?_
  refine v_iconst iX8_drownedIn_7 ?_
  refine v_is4 iX8_drownedIn_8 ⟨rfl, rfl⟩ ?_
  have key := ind_up (P := fun k => ∀ σ1, Sc σ σ1 → VV 7 mX8_drownedIn [vR 95, vI (t : Int)] (fun r' s' a' => r' = some (vI (drwR c V B N n t)) ∧ Sc σ s' ∧ a' = α) σ1 α 10 [some (vR 95), some (vI (t : Int)), some (vI ((msk (topR V B N n) n : Nat) : Int)), some (vI ((msk (drwP c V B N n t) k : Nat) : Int)), some (vI (k : Int)), none] []) n ?_ 0 (by omega)
  · exact key σ (Sc.rf σ)
  intro k hk ih σ1 hs
  refine v_iload iX8_drownedIn_10 rfl ?_
  refine v_aload_n iX8_drownedIn_12 rfl ?_
  refine v_getI iX8_drownedIn_13 fX8_57 rfl rfl (by exact (hR.sc hs).1) ?_
  refine v_icmp_ge (tgt := 80) iX8_drownedIn_16 (by decide) (by omega) (fun h16 => ?_) (fun h16 => ?_)
  · have hkn : n = k := by omega
    subst hkn
    have hml := pow10 h10 (msk_lt (drwP c V B N n t) n)
    refine v_aload_n iX8_drownedIn_80 rfl ?_
    refine v_iload_n iX8_drownedIn_81 rfl ?_
    refine c_V1 (Mc := mX8_latest) iX8_drownedIn_82 lX8_157 kX8_latest (qX8_latest σ1 α (hR.sc hs) hW _ (by omega)) (by decide) rfl rfl rfl rfl (Nat.le_of_ble_eq_true rfl) ?_
    try simp only [Int.toNat_natCast]
    exact r_i iX8_drownedIn_85 rfl (⟨rfl, hs, rfl⟩)
  · have hkn : k < n := by omega
    refine v_iload_n iX8_drownedIn_19 rfl ?_
    refine v_iload iX8_drownedIn_20 rfl ?_
    refine c_S1 (Mc := mX8_has) iX8_drownedIn_22 lX8_151 kX8_has (qX8_has _ _ _ k (by omega) (by omega)) (by decide) rfl rfl (Nat.le_of_ble_eq_true rfl) ?_
    try simp only [Int.toNat_natCast]
    refine v_bif_eq (tgt := 74) iX8_drownedIn_25 (by decide) (fun h25 => ?_) (fun h25 => ?_)
    · try simp only [Int.toNat_natCast] at h25
      (try rw [hasB_msk hkn] at h25)
      refine v_in4 iX8_drownedIn_74 ⟨rfl, rfl⟩ ?_
      refine v_goto (tgt := 10) iX8_drownedIn_77 (by decide) ?_
      refine (ih (by omega) _ (by assumption)).asw rfl rfl ⟨rfl, rfl, rfl, ?_, rfl, trivial⟩ rfl
      first
        | (have e1 : drwP c V B N n t k = true := by simp [drwP, *]
           simp only [msk, e1, if_true, Int.toNat_natCast])
        | (have e1 : drwP c V B N n t k = false := by simp [drwP, *]
           simp only [msk, e1, Bool.false_eq_true, if_false, Int.toNat_natCast, Int.toNat_zero, Nat.or_zero])
    · try simp only [Int.toNat_natCast] at h25
      rw [hasB_msk hkn] at h25
      refine v_aload_n iX8_drownedIn_28 rfl ?_
      refine v_iload iX8_drownedIn_29 rfl ?_
      refine v_iload_n iX8_drownedIn_31 rfl ?_
      refine c_V1 (Mc := mX8_isLater) iX8_drownedIn_32 lX8_154 kX8_isLater (qX8_isLater σ1 α (hR.sc hs) hW k t (by omega) (by omega)) (by decide) rfl rfl rfl rfl (Nat.le_of_ble_eq_true rfl) ?_
      try simp only [Int.toNat_natCast]
      refine v_bif_eq (tgt := 74) iX8_drownedIn_35 (by decide) (fun h35 => ?_) (fun h35 => ?_)
      · try simp only [Int.toNat_natCast] at h35
        (try rw [hasB_msk hkn] at h25)
        refine v_in4 iX8_drownedIn_74 ⟨rfl, rfl⟩ ?_
        refine v_goto (tgt := 10) iX8_drownedIn_77 (by decide) ?_
        refine (ih (by omega) _ (by assumption)).asw rfl rfl ⟨rfl, rfl, rfl, ?_, rfl, trivial⟩ rfl
        first
          | (have e1 : drwP c V B N n t k = true := by simp [drwP, *]
             simp only [msk, e1, if_true, Int.toNat_natCast])
          | (have e1 : drwP c V B N n t k = false := by simp [drwP, *]
             simp only [msk, e1, Bool.false_eq_true, if_false, Int.toNat_natCast, Int.toNat_zero, Nat.or_zero])
      · try simp only [Int.toNat_natCast] at h35
        refine v_aload_n iX8_drownedIn_38 rfl ?_
        refine v_iload_n iX8_drownedIn_39 rfl ?_
        refine v_iload iX8_drownedIn_40 rfl ?_
        refine c_VQ (Mc := mX8_passOf) iX8_drownedIn_42 lX8_175 kX8_passOf (qX8_passOf σ1 α (hR.sc hs) hW t k (by omega) (by omega)) (by decide) rfl rfl rfl rfl (Nat.le_of_ble_eq_true rfl) ?_
        rintro σ2 a2 ⟨hs2, ha2⟩
        rw [ha2]
        replace hs2 := hs.tr hs2
        have hpr := passR_r V B N n t k
        try simp only [Int.toNat_natCast]
        refine v_is5 iX8_drownedIn_45 ⟨rfl, rfl⟩ ?_
        refine v_iload_n iX8_drownedIn_47 rfl ?_
        refine v_iload iX8_drownedIn_48 rfl ?_
        refine v_iconst iX8_drownedIn_50 ?_
        refine v_icmp_eq (tgt := 71) iX8_drownedIn_51 (by decide) (by omega) (fun h51 => ?_) (fun h51 => ?_)
        · refine v_iconst iX8_drownedIn_71 ?_
          refine v_ior iX8_drownedIn_72 (by refine ⟨?_, ?_⟩ <;> first | exact Int.natCast_nonneg _ | omega) ?_
          refine v_is3 iX8_drownedIn_73 ⟨rfl, rfl⟩ ?_
          (try rw [hasB_msk hkn] at h25)
          refine v_in4 iX8_drownedIn_74 ⟨rfl, rfl⟩ ?_
          refine v_goto (tgt := 10) iX8_drownedIn_77 (by decide) ?_
          refine (ih (by omega) _ (by assumption)).asw rfl rfl ⟨rfl, rfl, rfl, ?_, rfl, trivial⟩ rfl
          first
            | (have e1 : drwP c V B N n t k = true := by simp [drwP, *]
               simp only [msk, e1, if_true, Int.toNat_natCast])
            | (have e1 : drwP c V B N n t k = false := by simp [drwP, *]
               simp only [msk, e1, Bool.false_eq_true, if_false, Int.toNat_natCast, Int.toNat_zero, Nat.or_zero])
        · refine v_aload_n iX8_drownedIn_54 rfl ?_
          refine v_iload iX8_drownedIn_55 rfl ?_
          refine v_iload_n iX8_drownedIn_57 rfl ?_
          refine c_V1 (Mc := mX8_isHigh) iX8_drownedIn_58 lX8_179 kX8_isHigh (qX8_isHigh σ2 α (hR.sc hs2) hW c (hU.sc hs2).2.2.1 hU.2.2.2.2.2 _ t (by omega) (by omega)) (by decide) rfl rfl rfl rfl (Nat.le_of_ble_eq_true rfl) ?_
          try simp only [Int.toNat_natCast]
          refine v_bif_eq (tgt := 71) iX8_drownedIn_61 (by decide) (fun h61 => ?_) (fun h61 => ?_)
          · try simp only [Int.toNat_natCast] at h61
            refine v_iconst iX8_drownedIn_71 ?_
            refine v_ior iX8_drownedIn_72 (by refine ⟨?_, ?_⟩ <;> first | exact Int.natCast_nonneg _ | omega) ?_
            refine v_is3 iX8_drownedIn_73 ⟨rfl, rfl⟩ ?_
            (try rw [hasB_msk hkn] at h25)
            refine v_in4 iX8_drownedIn_74 ⟨rfl, rfl⟩ ?_
            refine v_goto (tgt := 10) iX8_drownedIn_77 (by decide) ?_
            refine (ih (by omega) _ (by assumption)).asw rfl rfl ⟨rfl, rfl, rfl, ?_, rfl, trivial⟩ rfl
            first
              | (have e1 : drwP c V B N n t k = true := by simp [drwP, *]
                 simp only [msk, e1, if_true, Int.toNat_natCast])
              | (have e1 : drwP c V B N n t k = false := by simp [drwP, *]
                 simp only [msk, e1, Bool.false_eq_true, if_false, Int.toNat_natCast, Int.toNat_zero, Nat.or_zero])
          · try simp only [Int.toNat_natCast] at h61
            refine v_iconst iX8_drownedIn_64 ?_
            refine v_iload iX8_drownedIn_65 rfl ?_
            refine v_ishl1 iX8_drownedIn_67 (by omega) ?_
            refine v_goto (tgt := 72) iX8_drownedIn_68 (by decide) ?_
            refine v_ior iX8_drownedIn_72 (by refine ⟨?_, ?_⟩ <;> first | exact Int.natCast_nonneg _ | omega) ?_
            refine v_is3 iX8_drownedIn_73 ⟨rfl, rfl⟩ ?_
            (try rw [hasB_msk hkn] at h25)
            refine v_in4 iX8_drownedIn_74 ⟨rfl, rfl⟩ ?_
            refine v_goto (tgt := 10) iX8_drownedIn_77 (by decide) ?_
            refine (ih (by omega) _ (by assumption)).asw rfl rfl ⟨rfl, rfl, rfl, ?_, rfl, trivial⟩ rfl
            first
              | (have e1 : drwP c V B N n t k = true := by simp [drwP, *]
                 simp only [msk, e1, if_true, Int.toNat_natCast])
              | (have e1 : drwP c V B N n t k = false := by simp [drwP, *]
                 simp only [msk, e1, Bool.false_eq_true, if_false, Int.toNat_natCast, Int.toNat_zero, Nat.or_zero])

set_option maxHeartbeats 4000000 in
set_option maxRecDepth 100000 in
theorem qX8_head (σ α : St) {n : Nat} {V B N : Nat → Int} (hR : RV σ α n V B N) (hW : WF n V B N) {a b c : Int} (hU : RU σ a b c) (t : Nat) (ht : t < n) : CG 8 mX8_head [vR 95, vI (t : Int)] σ α (fun r' s' a' => r' = some (vI (hdF c V B N n 10 t : Int)) ∧ Sc σ s' ∧ a' = α) := by
  have hn10 := hW.1
  refine CG.of [some (vR 95), some (vI (t : Int)), none, none] (by decide) (by simp [lvA]) rfl ?_
  refine v_iload_n iX8_head_0 rfl ?_
  refine v_is2 iX8_head_1 ⟨rfl, rfl⟩ ?_
  refine v_aload_n iX8_head_2 rfl ?_
  refine v_iload_n iX8_head_3 rfl ?_
  refine c_VQ (Mc := mX8_drownedIn) iX8_head_4 lX8_182 kX8_drownedIn (qX8_drownedIn σ α hR hW hU t ht) (by decide) rfl rfl rfl rfl (Nat.le_of_ble_eq_true rfl) ?_
  rintro σ1 a1 ⟨hs1, ha1⟩
  rw [ha1]
  try simp only [Int.toNat_natCast]
  refine v_is3 iX8_head_7 ⟨rfl, rfl⟩ ?_
  have key : ∀ (f a : Nat) (σ1 : St), Sc σ σ1 → a < n → rnk V B n a < f → hdF c V B N n 10 t = hdF c V B N n f a → VV 8 mX8_head [vR 95, vI (t : Int)] (fun r' s' a' => r' = some (vI (hdF c V B N n 10 t : Int)) ∧ Sc σ s' ∧ a' = α) σ1 α 8 [some (vR 95), some (vI (t : Int)), some (vI (a : Int)), some (vI (drwR c V B N n a))] [] := by
    intro f
    induction f with
    | zero => intro a σ1 _ _ h; exact absurd h (by omega)
    | succ f ih =>
      intro a σ1 hs ha hf e1
      have hdr := drwR_r c V B N n a
      refine v_iload_n iX8_head_8 rfl ?_
      refine v_iconst iX8_head_9 ?_
      refine v_icmp_eq (tgt := 24) iX8_head_10 (by decide) (by omega) (fun h10 => ?_) (fun h10 => ?_)
      · refine v_iload_n iX8_head_24 rfl ?_
        exact r_i iX8_head_25 rfl (⟨cf_i (by rw [e1, hdF_y h10]), hs, rfl⟩)
      · obtain ⟨b, hb, e, hl, -⟩ := drw_lt hW h10
        rw [e]
        refine v_iload_n iX8_head_13 rfl ?_
        refine v_is2 iX8_head_14 ⟨rfl, rfl⟩ ?_
        refine v_aload_n iX8_head_15 rfl ?_
        refine v_iload_n iX8_head_16 rfl ?_
        refine c_VQ (Mc := mX8_drownedIn) iX8_head_17 lX8_182 kX8_drownedIn (qX8_drownedIn σ1 α (hR.sc hs) hW (hU.sc hs) b hb) (by decide) rfl rfl rfl rfl (Nat.le_of_ble_eq_true rfl) ?_
        rintro σ2 a2 ⟨hs2, ha2⟩
        rw [ha2]
        try simp only [Int.toNat_natCast]
        refine v_is3 iX8_head_20 ⟨rfl, rfl⟩ ?_
        refine v_goto (tgt := 8) iX8_head_21 (by decide) ?_
        exact ih b σ2 (hs.tr hs2) hb (by have := rnk_lt hW ha hb hl; omega) (by rw [e1, hdF_n h10 e])
  exact key 10 t σ1 hs1 ht (rnk_n hW ht) rfl

set_option maxHeartbeats 4000000 in
set_option maxRecDepth 100000 in
theorem qX8_layHeads (σ α : St) {n : Nat} {V B N : Nat → Int} (hR : RV σ α n V B N) (hW : WF n V B N) {a b c : Int} (hU : RU σ a b c) : CG 9 mX8_layHeads [vR 95] σ α (fun r' s' a' => r' = none ∧ Sc σ s' ∧ a' = uA α 107 (hdsF c V B N n (α 107) n)) := by
  have h10 := hW.1
  refine CG.of [some (vR 95), none] (by decide) (by simp [lvA]) rfl ?_
  refine v_iconst iX8_layHeads_0 ?_
  refine v_is1 iX8_layHeads_1 ⟨rfl, rfl⟩ ?_
  have key := ind_up (P := fun k => ∀ σ1, Sc σ σ1 → VV 9 mX8_layHeads [vR 95] (fun r' s' a' => r' = none ∧ Sc σ s' ∧ a' = uA α 107 (hdsF c V B N n (α 107) n)) σ1 (uA α 107 (hdsF c V B N n (α 107) k)) 2 [some (vR 95), some (vI (k : Int))] []) n ?_ 0 (by omega)
  · exact (key σ (Sc.rf σ)).as rfl (by rw [hdsF_0, uA_id]) rfl rfl
  intro k hk ih σ1 hs
  refine v_iload_n iX8_layHeads_2 rfl ?_
  refine v_aload_n iX8_layHeads_3 rfl ?_
  refine v_getI iX8_layHeads_4 fX8_57 rfl rfl (by exact (hR.sc hs).1) ?_
  refine v_icmp_ge (tgt := 31) iX8_layHeads_7 (by decide) (by omega) (fun h7 => ?_) (fun h7 => ?_)
  · have hkn : n = k := by omega
    subst hkn
    exact r_v iX8_layHeads_31 rfl (⟨rfl, hs, rfl⟩)
  · refine v_aload_n iX8_layHeads_10 rfl ?_
    refine v_getR iX8_layHeads_11 fX8_54 rfl rfl ?_
    refine v_iload_n iX8_layHeads_14 rfl ?_
    refine v_aload_n iX8_layHeads_15 rfl ?_
    refine v_aload_n iX8_layHeads_16 rfl ?_
    refine v_iload_n iX8_layHeads_17 rfl ?_
    refine c_V1 (Mc := mX8_topOf) iX8_layHeads_18 lX8_166 kX8_topOf (qX8_topOf σ1 _ ((hR.sc hs).ua _) hW k (by omega)) (by decide) rfl rfl rfl rfl (Nat.le_of_ble_eq_true rfl) ?_
    try simp only [Int.toNat_natCast]
    refine c_VQ (Mc := mX8_head) iX8_layHeads_21 lX8_185 kX8_head (qX8_head _ _ ((hR.sc (hs.put _)).ua _) hW (hU.sc (hs.put _)) _ (clm_in hW 10 k (by omega))) (by decide) rfl rfl rfl rfl (Nat.le_of_ble_eq_true rfl) ?_
    rintro σ2 a2 ⟨hs2, ha2⟩
    rw [ha2]
    try simp only [Int.toNat_natCast]
    refine v_iastore iX8_layHeads_24 rfl (by omega) ?_
    refine v_in1 iX8_layHeads_25 ⟨rfl, rfl⟩ ?_
    refine v_goto (tgt := 2) iX8_layHeads_28 (by decide) ?_
    refine (ih (by omega) σ2 ((hs.put _).tr hs2)).as rfl ?_ rfl rfl
    rw [uA_eq, uA_uA, Int.toNat_natCast, ← hdsF_s]
    rfl

set_option maxHeartbeats 4000000 in
set_option maxRecDepth 100000 in
theorem qX8_feeder (σ α : St) {n : Nat} {V B N : Nat → Int} (hR : RV σ α n V B N) (hW : WF n V B N) {a b c : Int} (hU : RU σ a b c) {m : Nat} (hM : RR α n m) (hH : ∀ i, i < n → 0 ≤ α 107 i ∧ α 107 i ≤ 1000) (t : Nat) (ht : t < n) (set : Int) (hs : 0 ≤ set ∧ set ≤ 2147483647) : CF 2 mX8_feeder [vR 95, vI (t : Int), vI set] σ α (some (vI (fdrR a b V B (α 107) (fun r => α 96 (1 + r)) (fun r => α 96 (7 + r)) (fun r => α 96 (13 + r)) m set t))) (σ) (α) := by
  have h10 := hW.1
  have hm6 := hM.2.1
  refine CG.of [some (vR 95), some (vI (t : Int)), some (vI set), none] (by decide) (by simp [lvA]) rfl ?_
  refine v_iconst iX8_feeder_0 ?_
  refine v_is3 iX8_feeder_1 ⟨rfl, rfl⟩ ?_
  have key := ind_up (P := fun k => fdrR a b V B (α 107) (fun r => α 96 (1 + r)) (fun r => α 96 (7 + r)) (fun r => α 96 (13 + r)) m set t = fst1 (fdrP a b V B (α 107) (fun r => α 96 (1 + r)) (fun r => α 96 (7 + r)) (fun r => α 96 (13 + r)) set t) (m - k) k → VV 2 mX8_feeder [vR 95, vI (t : Int), vI set] (fun r' s' a' => r' = some (vI (fdrR a b V B (α 107) (fun r => α 96 (1 + r)) (fun r => α 96 (7 + r)) (fun r => α 96 (13 + r)) m set t)) ∧ s' = σ ∧ a' = α) σ α 2 [some (vR 95), some (vI (t : Int)), some (vI set), some (vI (k : Int))] []) m ?_ 0 (by omega)
  · exact key rfl
  intro k hk ih e1
  refine v_iload_n iX8_feeder_2 rfl ?_
  refine v_aload_n iX8_feeder_3 rfl ?_
  refine v_getR iX8_feeder_4 fX8_7 rfl rfl ?_
  refine v_iconst iX8_feeder_7 ?_
  refine v_iaload iX8_feeder_8 rfl (by omega) (by exact hM.1) ?_
  refine v_icmp_ge (tgt := 76) iX8_feeder_9 (by decide) (by omega) (fun h9 => ?_) (fun h9 => ?_)
  · rw [show m - k = 0 by omega] at e1
    refine v_iconst iX8_feeder_76 ?_
    exact r_i iX8_feeder_77 rfl (⟨cf_i (by simp only [fst1] at e1; exact e1.symm), rfl, rfl⟩)
  · have hkm : k < m := by omega
    have hr := hM.2.2 k hkm
    have hho := hH (α 96 (1 + k)).toNat (by omega)
    have hht := hH t ht
    rw [show m - k = (m - (k + 1)) + 1 by omega] at e1
    refine v_iload_n iX8_feeder_12 rfl ?_
    refine v_iload_n iX8_feeder_13 rfl ?_
    refine c_S1 (Mc := mX8_has) iX8_feeder_14 lX8_151 kX8_has (qX8_has _ _ set k (by omega) (by omega)) (by decide) rfl rfl (Nat.le_of_ble_eq_true rfl) ?_
    try simp only [Int.toNat_natCast]
    refine v_bif_eq (tgt := 70) iX8_feeder_17 (by decide) (fun h17 => ?_) (fun h17 => ?_)
    · try simp only [Int.toNat_natCast] at h17
      refine v_in3 iX8_feeder_70 ⟨rfl, rfl⟩ ?_
      refine v_goto (tgt := 2) iX8_feeder_73 (by decide) ?_
      have e2 : fdrP a b V B (α 107) (fun r => α 96 (1 + r)) (fun r => α 96 (7 + r)) (fun r => α 96 (13 + r)) set t k = false := by simp [fdrP, *]
      exact (ih (by omega) (by rw [e1, fst1_n e2])).as rfl rfl rfl rfl
    · try simp only [Int.toNat_natCast] at h17
      refine v_aload_n iX8_feeder_20 rfl ?_
      refine v_getR iX8_feeder_21 fX8_54 rfl rfl ?_
      refine v_aload_n iX8_feeder_24 rfl ?_
      refine v_getR iX8_feeder_25 fX8_7 rfl rfl ?_
      refine v_iconst iX8_feeder_28 ?_
      refine v_iload_n iX8_feeder_29 rfl ?_
      refine v_iadd iX8_feeder_30 ?_
      refine v_iaload iX8_feeder_31 rfl (by omega) (by exact congrArg (α 96) (show (1 + (k : Int)).toNat = 1 + k by omega)) ?_
      refine v_iaload iX8_feeder_32 rfl (by omega) rfl ?_
      refine v_aload_n iX8_feeder_33 rfl ?_
      refine v_getR iX8_feeder_34 fX8_54 rfl rfl ?_
      refine v_iload_n iX8_feeder_37 rfl ?_
      refine v_iaload iX8_feeder_38 rfl (by omega) (by exact congrArg (α 107) (Int.toNat_natCast t)) ?_
      refine v_icmp_ne (tgt := 70) iX8_feeder_39 (by decide) (by omega) (fun h39 => ?_) (fun h39 => ?_)
      · refine v_in3 iX8_feeder_70 ⟨rfl, rfl⟩ ?_
        refine v_goto (tgt := 2) iX8_feeder_73 (by decide) ?_
        have e2 : fdrP a b V B (α 107) (fun r => α 96 (1 + r)) (fun r => α 96 (7 + r)) (fun r => α 96 (13 + r)) set t k = false := by simp [fdrP, *]
        exact (ih (by omega) (by rw [e1, fst1_n e2])).as rfl rfl rfl rfl
      · refine v_aload_n iX8_feeder_42 rfl ?_
        refine v_aload_n iX8_feeder_43 rfl ?_
        refine v_getR iX8_feeder_44 fX8_7 rfl rfl ?_
        refine v_bipush iX8_feeder_47 (by decide) ?_
        refine v_iload_n iX8_feeder_49 rfl ?_
        refine v_iadd iX8_feeder_50 ?_
        refine v_iaload iX8_feeder_51 rfl (by omega) (by exact congrArg (α 96) (show (7 + (k : Int)).toNat = 7 + k by omega)) ?_
        refine v_aload_n iX8_feeder_52 rfl ?_
        refine v_getR iX8_feeder_53 fX8_7 rfl rfl ?_
        refine v_bipush iX8_feeder_56 (by decide) ?_
        refine v_iload_n iX8_feeder_58 rfl ?_
        refine v_iadd iX8_feeder_59 ?_
        refine v_iaload iX8_feeder_60 rfl (by omega) (by exact congrArg (α 96) (show (13 + (k : Int)).toNat = 13 + k by omega)) ?_
        refine v_iload_n iX8_feeder_61 rfl ?_
        refine c_V1 (Mc := mX8_outlasts) iX8_feeder_62 lX8_188 kX8_outlasts (qX8_outlasts σ α hR hW a b hU.1 hU.2.2.2.1 hU.2.1 hU.2.2.2.2.1 _ _ t (by omega) (by omega) (by omega)) (by decide) rfl rfl rfl rfl (Nat.le_of_ble_eq_true rfl) ?_
        try simp only [Int.toNat_natCast]
        refine v_bif_eq (tgt := 70) iX8_feeder_65 (by decide) (fun h65 => ?_) (fun h65 => ?_)
        · try simp only [Int.toNat_natCast] at h65
          refine v_in3 iX8_feeder_70 ⟨rfl, rfl⟩ ?_
          refine v_goto (tgt := 2) iX8_feeder_73 (by decide) ?_
          have e2 : fdrP a b V B (α 107) (fun r => α 96 (1 + r)) (fun r => α 96 (7 + r)) (fun r => α 96 (13 + r)) set t k = false := by simp [fdrP, *]
          exact (ih (by omega) (by rw [e1, fst1_n e2])).as rfl rfl rfl rfl
        · try simp only [Int.toNat_natCast] at h65
          refine v_iload_n iX8_feeder_68 rfl ?_
          exact r_i iX8_feeder_69 rfl (⟨cf_i (by have e2 : fdrP a b V B (α 107) (fun r => α 96 (1 + r)) (fun r => α 96 (7 + r)) (fun r => α 96 (13 + r)) set t k = true := (by simp [fdrP, *]); rw [fst1_y e2] at e1; exact e1.symm), rfl, rfl⟩)

set_option maxHeartbeats 4000000 in
set_option maxRecDepth 100000 in
theorem qX8_fedBy (σ α : St) {n : Nat} {V B N : Nat → Int} (hR : RV σ α n V B N) (hW : WF n V B N) {a b c : Int} (hU : RU σ a b c) {m : Nat} (hM : RR α n m) (hH : ∀ i, i < n → 0 ≤ α 107 i ∧ α 107 i ≤ 1000) (set : Int) (hs : 0 ≤ set ∧ set ≤ 2147483647) : CF 5 mX8_fedBy [vR 95, vI set] σ α (some (vI ((fedR a b V B N n (α 107) (fun r => α 96 (1 + r)) (fun r => α 96 (7 + r)) (fun r => α 96 (13 + r)) m set : Nat) : Int))) (σ) (α) := by
  have h10 := hW.1
  have hm6 := hM.2.1
  have mt := pow10 h10 (msk_lt (topR V B N n) n)
  refine CG.of [some (vR 95), some (vI set), none, none, none] (by decide) (by simp [lvA]) rfl ?_
  refine v_aload_n iX8_fedBy_0 rfl ?_
  refine c_V1 (Mc := mX8_tops) iX8_fedBy_1 lX8_172 kX8_tops (qX8_tops σ α hR hW) (by decide) rfl rfl rfl rfl (Nat.le_of_ble_eq_true rfl) ?_
  try simp only [Int.toNat_natCast]
  refine v_is2 iX8_fedBy_4 ⟨rfl, rfl⟩ ?_
  refine v_iconst iX8_fedBy_5 ?_
  refine v_is3 iX8_fedBy_6 ⟨rfl, rfl⟩ ?_
  refine v_iconst iX8_fedBy_7 ?_
  refine v_is4 iX8_fedBy_8 ⟨rfl, rfl⟩ ?_
  refine ind_up (P := fun k => VV 5 mX8_fedBy [vR 95, vI set] (fun r' s' a' => r' = some (vI ((fedR a b V B N n (α 107) (fun r => α 96 (1 + r)) (fun r => α 96 (7 + r)) (fun r => α 96 (13 + r)) m set : Nat) : Int)) ∧ s' = σ ∧ a' = α) σ α 10 [some (vR 95), some (vI set), some (vI ((msk (topR V B N n) n : Nat) : Int)), some (vI ((msk (fun i => topR V B N n i && decide (fdrR a b V B (α 107) (fun r => α 96 (1 + r)) (fun r => α 96 (7 + r)) (fun r => α 96 (13 + r)) m set i ≠ -1)) k : Nat) : Int)), some (vI (k : Int))] []) n ?_ 0 (by omega)
  intro k hk ih
  refine v_iload iX8_fedBy_10 rfl ?_
  refine v_aload_n iX8_fedBy_12 rfl ?_
  refine v_getI iX8_fedBy_13 fX8_57 rfl rfl (by exact hR.1) ?_
  refine v_icmp_ge (tgt := 56) iX8_fedBy_16 (by decide) (by omega) (fun h16 => ?_) (fun h16 => ?_)
  · have hkn : n = k := by omega
    subst hkn
    refine v_iload_n iX8_fedBy_56 rfl ?_
    exact r_i iX8_fedBy_57 rfl (⟨cf_i (by rfl), rfl, rfl⟩)
  · have hkn : k < n := by omega
    refine v_iload_n iX8_fedBy_19 rfl ?_
    refine v_iload_n iX8_fedBy_20 rfl ?_
    refine v_iload iX8_fedBy_21 rfl ?_
    refine c_S1 (Mc := mX8_has) iX8_fedBy_23 lX8_151 kX8_has (qX8_has _ _ _ k (by omega) (by omega)) (by decide) rfl rfl (Nat.le_of_ble_eq_true rfl) ?_
    try simp only [Int.toNat_natCast]
    refine v_bif_eq (tgt := 47) iX8_fedBy_26 (by decide) (fun h26 => ?_) (fun h26 => ?_)
    · try simp only [Int.toNat_natCast] at h26
      (try rw [hasB_msk hkn] at h26)
      refine v_iconst iX8_fedBy_47 ?_
      refine v_ior iX8_fedBy_48 (by refine ⟨?_, ?_⟩ <;> first | exact Int.natCast_nonneg _ | omega) ?_
      refine v_is3 iX8_fedBy_49 ⟨rfl, rfl⟩ ?_
      refine v_in4 iX8_fedBy_50 ⟨rfl, rfl⟩ ?_
      refine v_goto (tgt := 10) iX8_fedBy_53 (by decide) ?_
      refine (ih (by omega)).as rfl rfl ?_ rfl
      first
        | simp only [msk, h26, h37, ne_eq, not_true_eq_false, not_false_eq_true, decide_true, decide_false, Bool.and_true, Bool.and_false, Bool.false_eq_true, if_true, if_false, Int.toNat_natCast]
        | simp only [msk, h26, Bool.false_and, Bool.false_eq_true, if_false, Int.toNat_natCast]
      rfl
    · try simp only [Int.toNat_natCast] at h26
      rw [hasB_msk hkn] at h26
      have hfr := fdrR_r a b V B (α 107) (fun r => α 96 (1 + r)) (fun r => α 96 (7 + r)) (fun r => α 96 (13 + r)) m set k
      refine v_aload_n iX8_fedBy_29 rfl ?_
      refine v_iload iX8_fedBy_30 rfl ?_
      refine v_iload_n iX8_fedBy_32 rfl ?_
      refine c_V1 (Mc := mX8_feeder) iX8_fedBy_33 lX8_192 kX8_feeder (qX8_feeder σ α hR hW hU hM hH k (by omega) set hs) (by decide) rfl rfl rfl rfl (Nat.le_of_ble_eq_true rfl) ?_
      try simp only [Int.toNat_natCast]
      refine v_iconst iX8_fedBy_36 ?_
      refine v_icmp_eq (tgt := 47) iX8_fedBy_37 (by decide) (by omega) (fun h37 => ?_) (fun h37 => ?_)
      · (try rw [hasB_msk hkn] at h26)
        refine v_iconst iX8_fedBy_47 ?_
        refine v_ior iX8_fedBy_48 (by refine ⟨?_, ?_⟩ <;> first | exact Int.natCast_nonneg _ | omega) ?_
        refine v_is3 iX8_fedBy_49 ⟨rfl, rfl⟩ ?_
        refine v_in4 iX8_fedBy_50 ⟨rfl, rfl⟩ ?_
        refine v_goto (tgt := 10) iX8_fedBy_53 (by decide) ?_
        refine (ih (by omega)).as rfl rfl ?_ rfl
        first
          | simp only [msk, h26, h37, ne_eq, not_true_eq_false, not_false_eq_true, decide_true, decide_false, Bool.and_true, Bool.and_false, Bool.false_eq_true, if_true, if_false, Int.toNat_natCast]
          | simp only [msk, h26, Bool.false_and, Bool.false_eq_true, if_false, Int.toNat_natCast]
        rfl
      · refine v_iconst iX8_fedBy_40 ?_
        refine v_iload iX8_fedBy_41 rfl ?_
        refine v_ishl1 iX8_fedBy_43 (by omega) ?_
        refine v_goto (tgt := 48) iX8_fedBy_44 (by decide) ?_
        refine v_ior iX8_fedBy_48 (by refine ⟨?_, ?_⟩ <;> first | exact Int.natCast_nonneg _ | omega) ?_
        refine v_is3 iX8_fedBy_49 ⟨rfl, rfl⟩ ?_
        refine v_in4 iX8_fedBy_50 ⟨rfl, rfl⟩ ?_
        refine v_goto (tgt := 10) iX8_fedBy_53 (by decide) ?_
        refine (ih (by omega)).as rfl rfl ?_ rfl
        first
          | simp only [msk, h26, h37, ne_eq, not_true_eq_false, not_false_eq_true, decide_true, decide_false, Bool.and_true, Bool.and_false, Bool.false_eq_true, if_true, if_false, Int.toNat_natCast]
          | simp only [msk, h26, Bool.false_and, Bool.false_eq_true, if_false, Int.toNat_natCast]
        rfl

set_option maxHeartbeats 4000000 in
set_option maxRecDepth 100000 in
theorem qX8_allRisers (σ α : St) {n m : Nat} (hM : RR α n m) : CF 0 mX8_allRisers [vR 95] σ α (some (vI ((2 ^ m : Nat) - 1 : Int))) (σ) (α) := by
  have hm6 := hM.2.1
  refine CG.of [some (vR 95)] (by decide) (by simp [lvA]) rfl ?_
  refine v_iconst iX8_allRisers_0 ?_
  refine v_aload_n iX8_allRisers_1 rfl ?_
  refine v_getR iX8_allRisers_2 fX8_7 rfl rfl ?_
  refine v_iconst iX8_allRisers_5 ?_
  refine v_iaload iX8_allRisers_6 rfl (by omega) (by exact hM.1) ?_
  refine v_ishl1 iX8_allRisers_7 (by omega) ?_
  refine v_iconst iX8_allRisers_8 ?_
  refine v_isub iX8_allRisers_9 ?_
  exact r_i iX8_allRisers_10 rfl (⟨cf_i (by rfl), rfl, rfl⟩)

set_option maxHeartbeats 4000000 in
set_option maxRecDepth 100000 in
theorem qX8_isRiser (σ α : St) {n m : Nat} (hM : RR α n m) (r : Int) (hr : InR r) : CF 1 mX8_isRiser [vR 95, vI r] σ α (some (vI (b2i (decide (0 ≤ r ∧ r ≤ (m : Int) - 1))))) (σ) (α) := by
  have hm6 := hM.2.1
  refine CG.of [some (vR 95), some (vI r)] (by decide) (by simp [lvA]) rfl ?_
  refine v_iload_n iX8_isRiser_0 rfl ?_
  refine v_i2l iX8_isRiser_1 (by omega) ?_
  refine v_lconst (z := 0) iX8_isRiser_2 rfl ?_
  refine v_aload_n iX8_isRiser_3 rfl ?_
  refine v_getR iX8_isRiser_4 fX8_7 rfl rfl ?_
  refine v_iconst iX8_isRiser_7 ?_
  refine v_iaload iX8_isRiser_8 rfl (by omega) (by exact hM.1) ?_
  refine v_iconst iX8_isRiser_9 ?_
  refine v_isub iX8_isRiser_10 ?_
  refine v_i2l iX8_isRiser_11 (by omega) ?_
  refine c_S1 (Mc := mX8_in) iX8_isRiser_12 lX8_62 kX8_in (qX8_in _ _ _ _ _ hr (by decide) (by omega)) (by decide) rfl rfl (Nat.le_of_ble_eq_true rfl) ?_
  try simp only [Int.toNat_natCast]
  exact r_b iX8_isRiser_15 rfl (by first | exact b2i_01 _ | decide | omega) (⟨cf_i (by rfl), rfl, rfl⟩)

set_option maxHeartbeats 4000000 in
set_option maxRecDepth 100000 in
theorem qX8_divisor (σ α : St) (u w : Int) (hu : 0 ≤ u ∧ u ≤ 100000) (hw : 0 ≤ w ∧ w ≤ 100000) : CF 0 mX8_divisor [vI u, vI w] σ α (some (vI (Int.gcd u w : Int))) (σ) (α) := by
  refine CG.of [some (vI u), some (vI w), none, none, none] (by decide) (by simp [lvA]) rfl ?_
  refine v_iload_n iX8_divisor_0 rfl ?_
  refine v_is2 iX8_divisor_1 ⟨rfl, rfl⟩ ?_
  refine v_iload_n iX8_divisor_2 rfl ?_
  refine v_is3 iX8_divisor_3 ⟨rfl, rfl⟩ ?_
  have key := ind_me (S := Int × Int) (P := fun q => 0 ≤ q.1 ∧ q.1 ≤ 100000 → 0 ≤ q.2 ∧ q.2 ≤ 100000 → Int.gcd q.1 q.2 = Int.gcd u w → VV 0 mX8_divisor [vI u, vI w] (fun r' s' a' => r' = some (vI (Int.gcd u w : Int)) ∧ s' = σ ∧ a' = α) σ α 4 [some (vI u), some (vI w), some (vI q.1), some (vI q.2), none] []) (fun q => q.2.toNat) ?_
  · exact key (u, w) hu hw rfl
  rintro ⟨x, y⟩ ih hx hy hg
  dsimp only at hx hy hg ih ⊢
  refine v_iload_n iX8_divisor_4 rfl ?_
  refine v_if_eq (tgt := 21) iX8_divisor_5 (by decide) (by omega) (fun h5 => ?_) (fun h5 => ?_)
  · refine v_iload_n iX8_divisor_21 rfl ?_
    exact r_i iX8_divisor_22 rfl (⟨cf_i (by rw [← hg, h5, Int.gcd_zero_right]; omega), rfl, rfl⟩)
  · refine v_iload_n iX8_divisor_8 rfl ?_
    refine v_iload_n iX8_divisor_9 rfl ?_
    refine v_irem iX8_divisor_10 (by omega) (by omega) ?_
    refine v_is4 iX8_divisor_11 ⟨rfl, rfl⟩ ?_
    refine v_iload_n iX8_divisor_13 rfl ?_
    refine v_is2 iX8_divisor_14 ⟨rfl, rfl⟩ ?_
    refine v_iload iX8_divisor_15 rfl ?_
    refine v_is3 iX8_divisor_17 ⟨rfl, rfl⟩ ?_
    refine v_goto (tgt := 4) iX8_divisor_18 (by decide) ?_
    have e1 := Int.emod_lt_of_pos x (show (0 : Int) < y by omega)
    have e2 := Int.emod_nonneg x (show y ≠ 0 by omega)
    exact (ih (y, x % y) (by show (x % y).toNat < y.toNat; omega) (by omega) (by show 0 ≤ x % y ∧ x % y ≤ 100000; omega) (by show Int.gcd y (x % y) = _; rw [← gcd_step hx.1 (by omega)]; exact hg)).asw rfl rfl ⟨rfl, rfl, rfl, rfl, trivial⟩ rfl
end
section
/-- the class's view of a casting, in its melt -/
def KV (σ α : St) (n : Nat) (V B N : Nat → Int) : Prop := σ 71 8 = n ∧ ∀ i, i < n → α 72 i = V i ∧ α 73 i = B i ∧ α 6 i = N i
def laterF (V B : Nat → Int) (s t : Int) : Int := if s = -1 then t else if t = -1 then s else if ltr V B t.toNat s.toNat then t else s
theorem laterF_r {V B : Nat → Int} {s t n : Int} (hs : -1 ≤ s ∧ s < n) (ht : -1 ≤ t ∧ t < n) : -1 ≤ laterF V B s t ∧ laterF V B s t < n := by
  unfold laterF; split; omega; split; omega; split <;> omega
theorem latU_s (V B : Nat → Int) (m : Int) (k : Nat) : latU V B m (k + 1) = if hasB m k then laterF V B (latU V B m k) k else latU V B m k := by
  have h := latU_r V B m k
  rw [latU]
  by_cases h1 : hasB m k = true
  · by_cases h2 : latU V B m k = -1
    · simp [h1, h2, laterF]
    · have h3 : ¬ (k : Int) = -1 := by omega
      simp [h1, h2, laterF, h3]
  · simp [h1]
theorem hasB_iff (x k : Int) : hasB x k = true ↔ x / 2 ^ k.toNat % 2 = 1 := by simp [hasB]
theorem hasB_0 (x k : Int) : hasB x k = false ↔ x / 2 ^ k.toNat % 2 = 0 := by
  rw [← Bool.not_eq_true, hasB_iff]; omega
/-- the latest of several, one by one -/
def inc2 (V B : Nat → Int) (c : Nat → Nat → Bool) (e : Nat → Nat → Nat) (i : Nat) (a : Int) : Nat → Int
  | 0 => a
  | k + 1 => if c i k then laterF V B (inc2 V B c e i a k) (e i k) else inc2 V B c e i a k
def inc1 (V B : Nat → Int) (c : Nat → Nat → Bool) (e : Nat → Nat → Nat) (n : Nat) : Nat → Int
  | 0 => -1
  | k + 1 => inc2 V B c e k (inc1 V B c e n k) n
def sooK (V B : Nat → Int) (i j : Nat) : Nat := if ltr V B j i then i else j
def pasB (V B N : Nat → Int) (n : Nat) (one other : Int) : Int := if one = other then -1 else inc1 V B (pasC V B N n one other) (sooK V B) n n
/-- r is the latest of the numbers that hold -/
def IsMax (V B : Nat → Int) (p : Nat → Prop) (r : Int) : Prop := (r = -1 ∧ ∀ x, ¬ p x) ∨ ∃ b : Nat, r = b ∧ p b ∧ ∀ x, p x → x = b ∨ ltr V B b x = true
theorem IsMax.uniq {V B : Nat → Int} {p : Nat → Prop} {r s : Int} (h1 : IsMax V B p r) (h2 : IsMax V B p s) : r = s := by
  rcases h1 with ⟨rfl, h1⟩ | ⟨b, rfl, hb, hm⟩ <;> rcases h2 with ⟨rfl, h2⟩ | ⟨d, rfl, hd, hn⟩
  · rfl
  · exact absurd hd (h1 d)
  · exact absurd hb (h2 b)
  · rcases hm d hd with rfl | h
    · rfl
    · rcases hn b hb with rfl | h3
      · rfl
      · rw [ltr_asy h] at h3; cases h3
theorem IsMax.add {n : Nat} {V B N : Nat → Int} (hW : WF n V B N) {p : Nat → Prop} {r : Int} (hp : ∀ x, p x → x < n) (h : IsMax V B p r) {y : Nat} (hy : y < n) : IsMax V B (fun x => p x ∨ x = y) (laterF V B r y) := by
  rcases h with ⟨rfl, h1⟩ | ⟨b, rfl, hb, hm⟩
  · refine Or.inr ⟨y, by simp [laterF], Or.inr rfl, fun x hx => ?_⟩
    rcases hx with hx | hx
    · exact absurd hx (h1 x)
    · exact Or.inl hx
  · have e1 : ¬ (b : Int) = -1 := by omega
    have e2 : ¬ (y : Int) = -1 := by omega
    by_cases hl : ltr V B y b = true
    · refine Or.inr ⟨y, by simp [laterF, e1, e2, hl], Or.inr rfl, fun x hx => ?_⟩
      rcases hx with hx | hx
      · rcases hm x hx with rfl | h
        · exact Or.inr hl
        · exact Or.inr (ltr_tr hW hy (hp b hb) (hp x hx) hl h)
      · exact Or.inl hx
    · have hl2 : ltr V B y b = false := by simpa using hl
      refine Or.inr ⟨b, by simp [laterF, e1, e2, hl2], Or.inl hb, fun x hx => ?_⟩
      rcases hx with hx | rfl
      · exact hm x hx
      · by_cases hxb : x = b
        · exact Or.inl hxb
        · exact Or.inr (ltr_tot V B hxb hl2)
theorem IsMax.congr {V B : Nat → Int} {p q : Nat → Prop} {r : Int} (h : IsMax V B p r) (e : ∀ x, p x ↔ q x) : IsMax V B q r := by
  have : p = q := funext fun x => propext (e x)
  rw [← this]; exact h
theorem inc2_max {n : Nat} {V B N : Nat → Int} (hW : WF n V B N) {c : Nat → Nat → Bool} {e : Nat → Nat → Nat} (he : ∀ i j, i < n → j < n → e i j < n) {i : Nat} (hi : i < n) {p : Nat → Prop} {a : Int} (hp : ∀ x, p x → x < n) (h : IsMax V B p a) : ∀ k, k ≤ n → IsMax V B (fun x => p x ∨ ∃ j, j < k ∧ c i j = true ∧ e i j = x) (inc2 V B c e i a k)
  | 0, _ => h.congr fun x => ⟨Or.inl, fun q => q.elim id fun ⟨j, hj, _⟩ => by omega⟩
  | k + 1, hk => by
    have ih := inc2_max hW (c := c) he hi hp h k (by omega)
    unfold inc2
    by_cases hc : c i k = true
    · rw [if_pos hc]
      refine (ih.add hW ?_ (he i k hi (by omega))).congr fun x => ⟨?_, ?_⟩
      · rintro x (hx | ⟨j, hj, -, rfl⟩)
        · exact hp x hx
        · exact he i j hi (by omega)
      · rintro ((hx | ⟨j, hj, h1, h2⟩) | rfl)
        · exact Or.inl hx
        · exact Or.inr ⟨j, by omega, h1, h2⟩
        · exact Or.inr ⟨k, by omega, hc, rfl⟩
      · rintro (hx | ⟨j, hj, h1, h2⟩)
        · exact Or.inl (Or.inl hx)
        · by_cases hjk : j = k
          · subst hjk; exact Or.inr h2.symm
          · exact Or.inl (Or.inr ⟨j, by omega, h1, h2⟩)
    · rw [if_neg hc]
      refine ih.congr fun x => ⟨?_, ?_⟩
      · rintro (hx | ⟨j, hj, h1, h2⟩)
        · exact Or.inl hx
        · exact Or.inr ⟨j, by omega, h1, h2⟩
      · rintro (hx | ⟨j, hj, h1, h2⟩)
        · exact Or.inl hx
        · by_cases hjk : j = k
          · subst hjk; exact absurd h1 hc
          · exact Or.inr ⟨j, by omega, h1, h2⟩
theorem inc1_max {n : Nat} {V B N : Nat → Int} (hW : WF n V B N) {c : Nat → Nat → Bool} {e : Nat → Nat → Nat} (he : ∀ i j, i < n → j < n → e i j < n) : ∀ k, k ≤ n → IsMax V B (fun x => ∃ i j, i < k ∧ j < n ∧ c i j = true ∧ e i j = x) (inc1 V B c e n k)
  | 0, _ => Or.inl ⟨rfl, fun x ⟨i, j, hi, _⟩ => by omega⟩
  | k + 1, hk => by
    have ih := inc1_max hW (c := c) he k (by omega)
    unfold inc1
    refine (inc2_max hW he (show k < n by omega) ?_ ih n (Nat.le_refl _)).congr fun x => ⟨?_, ?_⟩
    · rintro x ⟨i, j, hi, hj, -, rfl⟩
      exact he i j (by omega) hj
    · rintro (⟨i, j, hi, hj, h1, h2⟩ | ⟨j, hj, h1, h2⟩)
      · exact ⟨i, j, by omega, hj, h1, h2⟩
      · exact ⟨k, j, by omega, hj, h1, h2⟩
    · rintro ⟨i, j, hi, hj, h1, h2⟩
      by_cases hik : i = k
      · subst hik; exact Or.inr ⟨j, hj, h1, h2⟩
      · exact Or.inl ⟨i, j, by omega, hj, h1, h2⟩
theorem acc2_bit {c : Nat → Nat → Bool} {e : Nat → Nat → Nat} {i a x : Nat} : ∀ k, (acc2 c e i a k).testBit x = true ↔ a.testBit x = true ∨ ∃ j, j < k ∧ c i j = true ∧ e i j = x
  | 0 => ⟨Or.inl, fun q => q.elim id fun ⟨j, hj, _⟩ => by omega⟩
  | k + 1 => by
    have ih := acc2_bit (c := c) (e := e) (i := i) (a := a) (x := x) k
    unfold acc2
    by_cases hc : c i k = true
    · rw [if_pos hc, Nat.testBit_or, Bool.or_eq_true, ih, Nat.testBit_two_pow]
      constructor
      · rintro ((hx | ⟨j, hj, h1, h2⟩) | h)
        · exact Or.inl hx
        · exact Or.inr ⟨j, by omega, h1, h2⟩
        · exact Or.inr ⟨k, by omega, hc, by simpa using h⟩
      · rintro (hx | ⟨j, hj, h1, h2⟩)
        · exact Or.inl (Or.inl hx)
        · by_cases hjk : j = k
          · subst hjk; exact Or.inr (by simpa using h2)
          · exact Or.inl (Or.inr ⟨j, by omega, h1, h2⟩)
    · rw [if_neg hc, ih]
      constructor
      · rintro (hx | ⟨j, hj, h1, h2⟩)
        · exact Or.inl hx
        · exact Or.inr ⟨j, by omega, h1, h2⟩
      · rintro (hx | ⟨j, hj, h1, h2⟩)
        · exact Or.inl hx
        · by_cases hjk : j = k
          · subst hjk; exact absurd h1 hc
          · exact Or.inr ⟨j, by omega, h1, h2⟩
theorem acc1_bit {c : Nat → Nat → Bool} {e : Nat → Nat → Nat} {n x : Nat} : ∀ k, (acc1 c e n k).testBit x = true ↔ ∃ i j, i < k ∧ j < n ∧ c i j = true ∧ e i j = x
  | 0 => by
    constructor
    · intro h; simp [acc1] at h
    · rintro ⟨i, j, hi, _⟩; omega
  | k + 1 => by
    unfold acc1
    rw [acc2_bit, acc1_bit k]
    constructor
    · rintro (⟨i, j, hi, hj, h1, h2⟩ | ⟨j, hj, h1, h2⟩)
      · exact ⟨i, j, by omega, hj, h1, h2⟩
      · exact ⟨k, j, by omega, hj, h1, h2⟩
    · rintro ⟨i, j, hi, hj, h1, h2⟩
      by_cases hik : i = k
      · subst hik; exact Or.inr ⟨j, hj, h1, h2⟩
      · exact Or.inl ⟨i, j, by omega, hj, h1, h2⟩
theorem latU_max {n : Nat} {V B N : Nat → Int} (hW : WF n V B N) (m : Nat) (hm : m < 2 ^ n) : IsMax V B (fun x => m.testBit x = true) (latU V B m n) := by
  rcases latU_spec hW (m : Int) n (Nat.le_refl _) with ⟨e, hn⟩ | ⟨b, hb, e, hh, hmax⟩
  · refine Or.inl ⟨e, fun x hx => ?_⟩
    have hx : m.testBit x = true := hx
    have hxn : x < n := by
      rcases Nat.lt_or_ge x n with h | h
      · exact h
      · rw [Nat.testBit_lt_two_pow (Nat.lt_of_lt_of_le hm (Nat.pow_le_pow_right (by decide) h))] at hx; cases hx
    have := hn x hxn
    rw [hasB_nat] at this
    rw [this] at hx; cases hx
  · rw [hasB_nat] at hh
    refine Or.inr ⟨b, e, hh, fun x hx => ?_⟩
    have hx : m.testBit x = true := hx
    have hxn : x < n := by
      rcases Nat.lt_or_ge x n with h | h
      · exact h
      · rw [Nat.testBit_lt_two_pow (Nat.lt_of_lt_of_le hm (Nat.pow_le_pow_right (by decide) h))] at hx; cases hx
    exact hmax x hxn (by rw [hasB_nat]; exact hx)
theorem sooK_in (V B : Nat → Int) {n : Nat} : ∀ i j, i < n → j < n → sooK V B i j < n := by
  intro i j hi hj
  unfold sooK
  split <;> assumption
/-- the pass, one by one and out of a set -/
theorem pasB_eq {n : Nat} {V B N : Nat → Int} (hW : WF n V B N) {one other : Int} (h : one ≠ other) : pasB V B N n one other = passR V B N n one other := by
  unfold pasB passR
  rw [if_neg h]
  refine IsMax.uniq (inc1_max hW (sooK_in V B) n (Nat.le_refl _)) ((latU_max hW _ (acc1_lt (sooE_in V B) n (Nat.le_refl _))).congr fun x => ?_)
  rw [acc1_bit]
  have key : ∀ i j, pasC V B N n one other i j = true → sooE V B i j = sooK V B i j := by
    intro i j hc
    simp only [pasC, Bool.and_eq_true, decide_eq_true_eq] at hc
    have hij : i ≠ j := by
      rintro rfl
      exact h (hc.1.1.symm.trans hc.1.2)
    unfold sooE sooK
    by_cases hl : ltr V B i j = true
    · rw [if_pos hl, if_neg (by rw [ltr_asy hl]; decide)]
    · have hl2 : ltr V B i j = false := by simpa using hl
      rw [if_neg hl, if_pos (ltr_tot V B hij hl2)]
  constructor
  · rintro ⟨i, j, hi, hj, h1, h2⟩; exact ⟨i, j, hi, hj, h1, by rw [← key i j h1]; exact h2⟩
  · rintro ⟨i, j, hi, hj, h1, h2⟩; exact ⟨i, j, hi, hj, h1, by rw [key i j h1]; exact h2⟩
/-- in what a section is drowned: none, if it is no top -/
def dIn (c : Int) (V B N : Nat → Int) (n i : Nat) : Int := if topR V B N n i then drwR c V B N n i else -1
theorem dIn_r (c : Int) (V B N : Nat → Int) (n i : Nat) : -1 ≤ dIn c V B N n i ∧ dIn c V B N n i < n := by
  have := drwR_r c V B N n i
  unfold dIn; split <;> omega
/-- the head, walked from any section -/
def hdC (c : Int) (V B N : Nat → Int) (n : Nat) : Nat → Nat → Nat
  | 0, a => a
  | f + 1, a => if dIn c V B N n a = -1 then a else hdC c V B N n f (dIn c V B N n a).toNat
theorem hdC_y {c : Int} {V B N : Nat → Int} {n f a : Nat} (h : dIn c V B N n a = -1) : hdC c V B N n (f + 1) a = a := by simp only [hdC, h, if_true]
theorem hdC_n {c : Int} {V B N : Nat → Int} {n f a b : Nat} (h : ¬ dIn c V B N n a = -1) (e : dIn c V B N n a = b) : hdC c V B N n (f + 1) a = hdC c V B N n f b := by
  rw [hdC, if_neg h, e]; rfl
theorem hdC_top {c : Int} {V B N : Nat → Int} {n : Nat} (hW : WF n V B N) : ∀ f a, topR V B N n a = true → hdC c V B N n f a = hdF c V B N n f a
  | 0, a, _ => rfl
  | f + 1, a, h => by
    have e : dIn c V B N n a = drwR c V B N n a := by simp [dIn, h]
    by_cases hd : drwR c V B N n a = -1
    · rw [hdC_y (by rw [e]; exact hd), hdF_y hd]
    · obtain ⟨b, hb, e2, -, ht⟩ := drw_lt hW hd
      rw [hdC_n (by rw [e]; exact hd) (by rw [e]; exact e2), hdF_n hd e2]
      exact hdC_top hW f b ht
theorem dIn_lt {c : Int} {V B N : Nat → Int} {n a : Nat} (hW : WF n V B N) (h : ¬ dIn c V B N n a = -1) : ∃ b : Nat, b < n ∧ dIn c V B N n a = b ∧ ltr V B b a = true := by
  by_cases ht : topR V B N n a = true
  · have e : dIn c V B N n a = drwR c V B N n a := by simp [dIn, ht]
    rw [e] at h ⊢
    obtain ⟨b, hb, e2, hl, -⟩ := drw_lt hW h
    exact ⟨b, hb, e2, hl⟩
  · exact absurd (by simp [dIn, ht]) h
theorem hdC_in {c : Int} {n : Nat} {V B N : Nat → Int} (hW : WF n V B N) : ∀ f a, a < n → hdC c V B N n f a < n
  | 0, a, ha => ha
  | f + 1, a, ha => by
    by_cases h : dIn c V B N n a = -1
    · rw [hdC_y h]; exact ha
    · obtain ⟨b, hb, e, -⟩ := dIn_lt hW h
      rw [hdC_n h e]
      exact hdC_in hW f b hb
theorem hds_top {c : Int} {V B N : Nat → Int} {n t : Nat} (h : topR V B N n t = true) : hds c V B N n t = hdF c V B N n 10 t := by
  unfold hds; rw [clm_y h]
def bc1 (x : Int) : Int := x - ((x / 2 ^ (1 : Int).toNat).toNat &&& (1431655765 : Int).toNat : Nat)
def bc2 (y : Int) : Int := ((y.toNat &&& (858993459 : Int).toNat : Nat) : Int) + ((y / 2 ^ (2 : Int).toNat).toNat &&& (858993459 : Int).toNat : Nat)
def bc3 (y : Int) : Int := ((y + y / 2 ^ (4 : Int).toNat).toNat &&& (252645135 : Int).toNat : Nat)
def bc4 (y : Int) : Int := y + y / 2 ^ (8 : Int).toNat
def bc5 (y : Int) : Int := y + y / 2 ^ (16 : Int).toNat
def bc6 (y : Int) : Int := (y.toNat &&& (63 : Int).toNat : Nat)
def bcr (z : Int) : Bool := decide (0 ≤ z ∧ z ≤ 100000)
theorem bc_all : ∀ x : Nat, x < 1024 → (bcr (bc1 x) && bcr (bc2 (bc1 x)) && bcr (bc3 (bc2 (bc1 x))) && bcr (bc4 (bc3 (bc2 (bc1 x)))) && bcr (bc5 (bc4 (bc3 (bc2 (bc1 x))))) && decide (bc6 (bc5 (bc4 (bc3 (bc2 (bc1 x))))) = onesU x 10)) = true := by decide +kernel
end
section
set_option maxHeartbeats 4000000 in
set_option maxRecDepth 100000 in
theorem qX3_belowWith (σ α : St) (s c : Int) (hs : 0 ≤ s ∧ s < 10) : CF 0 mX3_belowWith [vR 71, vI s, vI c] σ α (some (vI (α 5 s.toNat + 10 * c))) (σ) (α) := by
  refine CG.of [some (vR 71), some (vI s), some (vI c)] (by decide) (by simp [lvA]) rfl ?_
  refine v_aload_n iX3_belowWith_0 rfl ?_
  refine v_getR iX3_belowWith_1 fX3_30 rfl rfl ?_
  refine v_getR iX3_belowWith_4 fX3_72 rfl rfl ?_
  refine v_iload_n iX3_belowWith_7 rfl ?_
  refine v_iaload iX3_belowWith_8 rfl (by omega) rfl ?_
  refine v_bipush iX3_belowWith_9 (by decide) ?_
  refine v_iload_n iX3_belowWith_11 rfl ?_
  refine v_imul iX3_belowWith_12 ?_
  refine v_iadd iX3_belowWith_13 ?_
  exact r_i iX3_belowWith_14 rfl (⟨cf_i (by rfl), rfl, rfl⟩)

set_option maxHeartbeats 4000000 in
set_option maxRecDepth 100000 in
theorem qX3_isNeighbour (σ α : St) {n : Nat} {V B N : Nat → Int} (hK : KV σ α n V B N) (hW : WF n V B N) (s t : Int) (hs : 0 ≤ s ∧ s < n) (ht : 0 ≤ t ∧ t < n) : CF 0 mX3_isNeighbour [vR 71, vI s, vI t] σ α (some (vI (b2i (hasB (N s.toNat) t)))) (σ) (α) := by
  have h10 := hW.1
  have hws := hW.2 s.toNat (by omega)
  refine CG.of [some (vR 71), some (vI s), some (vI t)] (by decide) (by simp [lvA]) rfl ?_
  refine v_aload_n iX3_isNeighbour_0 rfl ?_
  refine v_getR iX3_isNeighbour_1 fX3_30 rfl rfl ?_
  refine v_getR iX3_isNeighbour_4 fX3_75 rfl rfl ?_
  refine v_iload_n iX3_isNeighbour_7 rfl ?_
  refine v_iaload iX3_isNeighbour_8 rfl (by omega) (by exact (hK.2 s.toNat (by omega)).2.2) ?_
  refine v_iload_n iX3_isNeighbour_9 rfl ?_
  refine v_ishr iX3_isNeighbour_10 (by omega) (by omega) ?_
  refine v_iconst iX3_isNeighbour_11 ?_
  refine v_iand1 iX3_isNeighbour_12 (by exact div_pow_nn (by omega) _) ?_
  refine v_if_eq (tgt := 20) iX3_isNeighbour_13 (by decide) (by omega) (fun h13 => ?_) (fun h13 => ?_)
  · refine v_iconst iX3_isNeighbour_20 ?_
    exact r_b iX3_isNeighbour_21 rfl (by first | exact b2i_01 _ | decide | omega) (⟨cf_i (by first | (rw [(hasB_0 _ _).mpr h13]; rfl) | (rw [(hasB_iff _ _).mpr (by omega)]; rfl)), rfl, rfl⟩)
  · refine v_iconst iX3_isNeighbour_16 ?_
    refine v_goto (tgt := 21) iX3_isNeighbour_17 (by decide) ?_
    exact r_b iX3_isNeighbour_21 rfl (by first | exact b2i_01 _ | decide | omega) (⟨cf_i (by first | (rw [(hasB_0 _ _).mpr h13]; rfl) | (rw [(hasB_iff _ _).mpr (by omega)]; rfl)), rfl, rfl⟩)

set_option maxHeartbeats 4000000 in
set_option maxRecDepth 100000 in
theorem qX3_isSooner (σ α : St) {n : Nat} {V B N : Nat → Int} (hK : KV σ α n V B N) (hW : WF n V B N) (s t : Int) (hs : 0 ≤ s ∧ s < n) (ht : 0 ≤ t ∧ t < n) : CF 0 mX3_isSooner [vR 71, vI s, vI t] σ α (some (vI (b2i (ltr V B t.toNat s.toNat)))) (σ) (α) := by
  have h10 := hW.1
  have hwi := hW.2 s.toNat (by omega)
  have hwj := hW.2 t.toNat (by omega)
  have b1 := prod_b (x := V s.toNat) (y := B t.toNat) (a := 99) (b := 189) (by omega) (by omega)
  have b2 := prod_b (x := V t.toNat) (y := B s.toNat) (a := 99) (b := 189) (by omega) (by omega)
  refine CG.of [some (vR 71), some (vI s), some (vI t), none, none] (by decide) (by simp [lvA]) rfl ?_
  refine v_aload_n iX3_isSooner_0 rfl ?_
  refine v_getR iX3_isSooner_1 fX3_9 rfl rfl ?_
  refine v_iload_n iX3_isSooner_4 rfl ?_
  refine v_iaload iX3_isSooner_5 rfl (by omega) (by exact (hK.2 s.toNat (by omega)).1) ?_
  refine v_aload_n iX3_isSooner_6 rfl ?_
  refine v_getR iX3_isSooner_7 fX3_15 rfl rfl ?_
  refine v_iload_n iX3_isSooner_10 rfl ?_
  refine v_iaload iX3_isSooner_11 rfl (by omega) (by exact (hK.2 t.toNat (by omega)).2.1) ?_
  refine v_imul iX3_isSooner_12 ?_
  refine v_is3 iX3_isSooner_13 ⟨rfl, rfl⟩ ?_
  refine v_aload_n iX3_isSooner_14 rfl ?_
  refine v_getR iX3_isSooner_15 fX3_9 rfl rfl ?_
  refine v_iload_n iX3_isSooner_18 rfl ?_
  refine v_iaload iX3_isSooner_19 rfl (by omega) (by exact (hK.2 t.toNat (by omega)).1) ?_
  refine v_aload_n iX3_isSooner_20 rfl ?_
  refine v_getR iX3_isSooner_21 fX3_15 rfl rfl ?_
  refine v_iload_n iX3_isSooner_24 rfl ?_
  refine v_iaload iX3_isSooner_25 rfl (by omega) (by exact (hK.2 s.toNat (by omega)).2.1) ?_
  refine v_imul iX3_isSooner_26 ?_
  refine v_is4 iX3_isSooner_27 ⟨rfl, rfl⟩ ?_
  refine v_iload_n iX3_isSooner_29 rfl ?_
  refine v_iload iX3_isSooner_30 rfl ?_
  refine v_icmp_lt (tgt := 46) iX3_isSooner_32 (by decide) (by omega) (fun h32 => ?_) (fun h32 => ?_)
  · refine v_iconst iX3_isSooner_46 ?_
    refine v_goto (tgt := 51) iX3_isSooner_47 (by decide) ?_
    exact r_b iX3_isSooner_51 rfl (by first | exact b2i_01 _ | decide | omega) (⟨cf_i (by unfold ltr; first | exact (b2i_pos (by omega)).symm | exact (b2i_neg (by omega)).symm), rfl, rfl⟩)
  · refine v_iload_n iX3_isSooner_35 rfl ?_
    refine v_iload iX3_isSooner_36 rfl ?_
    refine v_icmp_ne (tgt := 50) iX3_isSooner_38 (by decide) (by omega) (fun h38 => ?_) (fun h38 => ?_)
    · refine v_iconst iX3_isSooner_50 ?_
      exact r_b iX3_isSooner_51 rfl (by first | exact b2i_01 _ | decide | omega) (⟨cf_i (by unfold ltr; first | exact (b2i_pos (by omega)).symm | exact (b2i_neg (by omega)).symm), rfl, rfl⟩)
    · refine v_iload_n iX3_isSooner_41 rfl ?_
      refine v_iload_n iX3_isSooner_42 rfl ?_
      refine v_icmp_le (tgt := 50) iX3_isSooner_43 (by decide) (by omega) (fun h43 => ?_) (fun h43 => ?_)
      · refine v_iconst iX3_isSooner_50 ?_
        exact r_b iX3_isSooner_51 rfl (by first | exact b2i_01 _ | decide | omega) (⟨cf_i (by unfold ltr; first | exact (b2i_pos (by omega)).symm | exact (b2i_neg (by omega)).symm), rfl, rfl⟩)
      · refine v_iconst iX3_isSooner_46 ?_
        refine v_goto (tgt := 51) iX3_isSooner_47 (by decide) ?_
        exact r_b iX3_isSooner_51 rfl (by first | exact b2i_01 _ | decide | omega) (⟨cf_i (by unfold ltr; first | exact (b2i_pos (by omega)).symm | exact (b2i_neg (by omega)).symm), rfl, rfl⟩)

set_option maxHeartbeats 4000000 in
set_option maxRecDepth 100000 in
theorem qX3_later (σ α : St) {n : Nat} {V B N : Nat → Int} (hK : KV σ α n V B N) (hW : WF n V B N) (s t : Int) (hs : -1 ≤ s ∧ s < n) (ht : -1 ≤ t ∧ t < n) : CF 1 mX3_later [vR 71, vI s, vI t] σ α (some (vI (laterF V B s t))) (σ) (α) := by
  have h10 := hW.1
  refine CG.of [some (vR 71), some (vI s), some (vI t)] (by decide) (by simp [lvA]) rfl ?_
  refine v_iload_n iX3_later_0 rfl ?_
  refine v_iconst iX3_later_1 ?_
  refine v_icmp_eq (tgt := 19) iX3_later_2 (by decide) (by omega) (fun h2 => ?_) (fun h2 => ?_)
  · refine v_iload_n iX3_later_19 rfl ?_
    refine v_goto (tgt := 24) iX3_later_20 (by decide) ?_
    exact r_i iX3_later_24 rfl (⟨cf_i (by simp [laterF, *]), rfl, rfl⟩)
  · refine v_iload_n iX3_later_5 rfl ?_
    refine v_iconst iX3_later_6 ?_
    refine v_icmp_eq (tgt := 23) iX3_later_7 (by decide) (by omega) (fun h7 => ?_) (fun h7 => ?_)
    · refine v_iload_n iX3_later_23 rfl ?_
      exact r_i iX3_later_24 rfl (⟨cf_i (by simp [laterF, *]), rfl, rfl⟩)
    · refine v_aload_n iX3_later_10 rfl ?_
      refine v_iload_n iX3_later_11 rfl ?_
      refine v_iload_n iX3_later_12 rfl ?_
      refine c_V1 (Mc := mX3_isSooner) iX3_later_13 lX3_78 kX3_isSooner (qX3_isSooner σ α hK hW s t (by omega) (by omega)) (by decide) rfl rfl rfl rfl (Nat.le_of_ble_eq_true rfl) ?_
      try simp only [Int.toNat_natCast]
      refine v_bif_eq (tgt := 23) iX3_later_16 (by decide) (fun h16 => ?_) (fun h16 => ?_)
      · try simp only [Int.toNat_natCast] at h16
        refine v_iload_n iX3_later_23 rfl ?_
        exact r_i iX3_later_24 rfl (⟨cf_i (by simp [laterF, *]), rfl, rfl⟩)
      · try simp only [Int.toNat_natCast] at h16
        refine v_iload_n iX3_later_19 rfl ?_
        refine v_goto (tgt := 24) iX3_later_20 (by decide) ?_
        exact r_i iX3_later_24 rfl (⟨cf_i (by simp [laterF, *]), rfl, rfl⟩)

set_option maxHeartbeats 4000000 in
set_option maxRecDepth 100000 in
theorem qX3_latestNeighbour (σ α : St) {n : Nat} {V B N : Nat → Int} (hK : KV σ α n V B N) (hW : WF n V B N) (s : Int) (hs : 0 ≤ s ∧ s < n) : CF 2 mX3_latestNeighbour [vR 71, vI s] σ α (some (vI (latU V B (N s.toNat) n))) (σ) (α) := by
  have h10 := hW.1
  refine CG.of [some (vR 71), some (vI s), none, none] (by decide) (by simp [lvA]) rfl ?_
  refine v_iconst iX3_latestNeighbour_0 ?_
  refine v_is2 iX3_latestNeighbour_1 ⟨rfl, rfl⟩ ?_
  refine v_iconst iX3_latestNeighbour_2 ?_
  refine v_is3 iX3_latestNeighbour_3 ⟨rfl, rfl⟩ ?_
  refine ind_up (P := fun k => VV 2 mX3_latestNeighbour [vR 71, vI s] (fun r' s' a' => r' = some (vI (latU V B (N s.toNat) n)) ∧ s' = σ ∧ a' = α) σ α 4 [some (vR 71), some (vI s), some (vI (latU V B (N s.toNat) k)), some (vI (k : Int))] []) n ?_ 0 (by omega)
  intro k hk ih
  refine v_iload_n iX3_latestNeighbour_4 rfl ?_
  refine v_aload_n iX3_latestNeighbour_5 rfl ?_
  refine v_getI iX3_latestNeighbour_6 fX3_44 rfl rfl (by exact hK.1) ?_
  refine v_icmp_ge (tgt := 34) iX3_latestNeighbour_9 (by decide) (by omega) (fun h9 => ?_) (fun h9 => ?_)
  · have hkn : n = k := by omega
    subst hkn
    refine v_iload_n iX3_latestNeighbour_34 rfl ?_
    exact r_i iX3_latestNeighbour_35 rfl (⟨cf_i (by rfl), rfl, rfl⟩)
  · have hr := latU_r V B (N s.toNat) k
    refine v_aload_n iX3_latestNeighbour_12 rfl ?_
    refine v_iload_n iX3_latestNeighbour_13 rfl ?_
    refine v_iload_n iX3_latestNeighbour_14 rfl ?_
    refine c_V1 (Mc := mX3_isNeighbour) iX3_latestNeighbour_15 lX3_82 kX3_isNeighbour (qX3_isNeighbour σ α hK hW s k (by omega) (by omega)) (by decide) rfl rfl rfl rfl (Nat.le_of_ble_eq_true rfl) ?_
    try simp only [Int.toNat_natCast]
    refine v_bif_eq (tgt := 28) iX3_latestNeighbour_18 (by decide) (fun h18 => ?_) (fun h18 => ?_)
    · try simp only [Int.toNat_natCast] at h18
      refine v_in3 iX3_latestNeighbour_28 ⟨rfl, rfl⟩ ?_
      refine v_goto (tgt := 4) iX3_latestNeighbour_31 (by decide) ?_
      exact (ih (by omega)).as rfl rfl (by simp [latU_s, *]) rfl
    · try simp only [Int.toNat_natCast] at h18
      refine v_aload_n iX3_latestNeighbour_21 rfl ?_
      refine v_iload_n iX3_latestNeighbour_22 rfl ?_
      refine v_iload_n iX3_latestNeighbour_23 rfl ?_
      refine c_V1 (Mc := mX3_later) iX3_latestNeighbour_24 lX3_85 kX3_later (qX3_later σ α hK hW _ k (by omega) (by omega)) (by decide) rfl rfl rfl rfl (Nat.le_of_ble_eq_true rfl) ?_
      try simp only [Int.toNat_natCast]
      refine v_is2 iX3_latestNeighbour_27 ⟨rfl, rfl⟩ ?_
      refine v_in3 iX3_latestNeighbour_28 ⟨rfl, rfl⟩ ?_
      refine v_goto (tgt := 4) iX3_latestNeighbour_31 (by decide) ?_
      exact (ih (by omega)).as rfl rfl (by simp [latU_s, *]) rfl

set_option maxHeartbeats 4000000 in
set_option maxRecDepth 100000 in
theorem qX3_isTop (σ α : St) {n : Nat} {V B N : Nat → Int} (hK : KV σ α n V B N) (hW : WF n V B N) (s : Int) (hs : 0 ≤ s ∧ s < n) : CF 1 mX3_isTop [vR 71, vI s] σ α (some (vI (b2i (topR V B N n s.toNat)))) (σ) (α) := by
  have h10 := hW.1
  refine CG.of [some (vR 71), some (vI s), none] (by decide) (by simp [lvA]) rfl ?_
  refine v_iconst iX3_isTop_0 ?_
  refine v_is2 iX3_isTop_1 ⟨rfl, rfl⟩ ?_
  have key := ind_up (P := fun k => (∀ j, j < k → hasB (N s.toNat) j = true → ltr V B j s.toNat = false) → VV 1 mX3_isTop [vR 71, vI s] (fun r' s' a' => r' = some (vI (b2i (topR V B N n s.toNat))) ∧ s' = σ ∧ a' = α) σ α 2 [some (vR 71), some (vI s), some (vI (k : Int))] []) n ?_ 0 (by omega)
  · exact key (fun j hj => by omega)
  intro k hk ih inv
  refine v_iload_n iX3_isTop_2 rfl ?_
  refine v_aload_n iX3_isTop_3 rfl ?_
  refine v_getI iX3_isTop_4 fX3_44 rfl rfl (by exact hK.1) ?_
  refine v_icmp_ge (tgt := 36) iX3_isTop_7 (by decide) (by omega) (fun h7 => ?_) (fun h7 => ?_)
  · have hkn : n = k := by omega
    subst hkn
    have hT : topR V B N n s.toNat = true := (topR_yes hW (by omega)).mpr inv
    refine v_iconst iX3_isTop_36 ?_
    exact r_b iX3_isTop_37 rfl (by first | exact b2i_01 _ | decide | omega) (⟨cf_i (by rw [hT]; rfl), rfl, rfl⟩)
  · refine v_aload_n iX3_isTop_10 rfl ?_
    refine v_iload_n iX3_isTop_11 rfl ?_
    refine v_iload_n iX3_isTop_12 rfl ?_
    refine c_V1 (Mc := mX3_isNeighbour) iX3_isTop_13 lX3_82 kX3_isNeighbour (qX3_isNeighbour σ α hK hW s k (by omega) (by omega)) (by decide) rfl rfl rfl rfl (Nat.le_of_ble_eq_true rfl) ?_
    try simp only [Int.toNat_natCast]
    refine v_bif_eq (tgt := 30) iX3_isTop_16 (by decide) (fun h16 => ?_) (fun h16 => ?_)
    · try simp only [Int.toNat_natCast] at h16
      refine v_in2 iX3_isTop_30 ⟨rfl, rfl⟩ ?_
      refine v_goto (tgt := 2) iX3_isTop_33 (by decide) ?_
      exact (ih (by omega) (by
        intro j hj hb
        by_cases hjk : j = k
        · subst hjk
          first | exact h25 | (rw [h16] at hb; cases hb)
        · exact inv j (by omega) hb)).as rfl rfl rfl rfl
    · try simp only [Int.toNat_natCast] at h16
      refine v_aload_n iX3_isTop_19 rfl ?_
      refine v_iload_n iX3_isTop_20 rfl ?_
      refine v_iload_n iX3_isTop_21 rfl ?_
      refine c_V1 (Mc := mX3_isSooner) iX3_isTop_22 lX3_78 kX3_isSooner (qX3_isSooner σ α hK hW s k (by omega) (by omega)) (by decide) rfl rfl rfl rfl (Nat.le_of_ble_eq_true rfl) ?_
      try simp only [Int.toNat_natCast]
      refine v_bif_eq (tgt := 30) iX3_isTop_25 (by decide) (fun h25 => ?_) (fun h25 => ?_)
      · try simp only [Int.toNat_natCast] at h25
        refine v_in2 iX3_isTop_30 ⟨rfl, rfl⟩ ?_
        refine v_goto (tgt := 2) iX3_isTop_33 (by decide) ?_
        exact (ih (by omega) (by
          intro j hj hb
          by_cases hjk : j = k
          · subst hjk
            first | exact h25 | (rw [h16] at hb; cases hb)
          · exact inv j (by omega) hb)).as rfl rfl rfl rfl
      · try simp only [Int.toNat_natCast] at h25
        have hT : topR V B N n s.toNat = false := by
          rw [← Bool.not_eq_true]
          intro hT
          have := (topR_yes hW (by omega)).mp hT k (by omega) h16
          rw [this] at h25; cases h25
        refine v_iconst iX3_isTop_28 ?_
        exact r_b iX3_isTop_29 rfl (by first | exact b2i_01 _ | decide | omega) (⟨cf_i (by rw [hT]; rfl), rfl, rfl⟩)

set_option maxHeartbeats 4000000 in
set_option maxRecDepth 100000 in
theorem qX3_climb (σ α : St) {n : Nat} {V B N : Nat → Int} (hK : KV σ α n V B N) (hW : WF n V B N) (s : Int) (hs : 0 ≤ s ∧ s < n) : CF 3 mX3_climb [vR 71, vI s] σ α (none) (σ) (uA (uA α 74 (uF (α 74) s.toNat ((clm V B N n 10 s.toNat).1 : Int))) 75 (uF (α 75) s.toNat ((clm V B N n 10 s.toNat).2 : Int))) := by
  have h10 := hW.1
  refine CG.of [some (vR 71), some (vI s), none, none] (by decide) (by simp [lvA]) rfl ?_
  refine v_iload_n iX3_climb_0 rfl ?_
  refine v_is2 iX3_climb_1 ⟨rfl, rfl⟩ ?_
  refine v_iconst iX3_climb_2 ?_
  refine v_is3 iX3_climb_3 ⟨rfl, rfl⟩ ?_
  have key : ∀ (f a : Nat) (s0 : Int), a < n → rnk V B n a < f → 0 ≤ s0 ∧ s0 + f = 10 → (clm V B N n 10 s.toNat).1 = (clm V B N n f a).1 → ((clm V B N n 10 s.toNat).2 : Int) = s0 + (clm V B N n f a).2 → VV 3 mX3_climb [vR 71, vI s] (fun r' s' a' => r' = none ∧ s' = σ ∧ a' = uA (uA α 74 (uF (α 74) s.toNat ((clm V B N n 10 s.toNat).1 : Int))) 75 (uF (α 75) s.toNat ((clm V B N n 10 s.toNat).2 : Int))) σ α 4 [some (vR 71), some (vI s), some (vI (a : Int)), some (vI s0)] [] := by
    intro f
    induction f with
    | zero => intro a s0 _ h; exact absurd h (by omega)
    | succ f ih =>
      intro a s0 ha hf hs0 e1 e2
      refine v_iload_n iX3_climb_4 rfl ?_
      refine v_bipush iX3_climb_5 (by decide) ?_
      refine v_icmp_ge (tgt := 30) iX3_climb_7 (by decide) (by omega) (fun h7 => (by exfalso; omega)) (fun h7 => ?_)
      refine v_aload_n iX3_climb_10 rfl ?_
      refine v_iload_n iX3_climb_11 rfl ?_
      refine c_V1 (Mc := mX3_isTop) iX3_climb_12 lX3_61 kX3_isTop (qX3_isTop σ α hK hW a (by omega)) (by decide) rfl rfl rfl rfl (Nat.le_of_ble_eq_true rfl) ?_
      try simp only [Int.toNat_natCast]
      refine v_bif_ne (tgt := 30) iX3_climb_15 (by decide) (fun h15 => ?_) (fun h15 => ?_)
      · try simp only [Int.toNat_natCast] at h15
        rw [clm_y h15] at e1 e2
        refine v_aload_n iX3_climb_30 rfl ?_
        refine v_getR iX3_climb_31 fX3_18 rfl rfl ?_
        refine v_iload_n iX3_climb_34 rfl ?_
        refine v_iload_n iX3_climb_35 rfl ?_
        refine v_iastore iX3_climb_36 rfl (by omega) ?_
        refine v_aload_n iX3_climb_37 rfl ?_
        refine v_getR iX3_climb_38 fX3_21 rfl rfl ?_
        refine v_iload_n iX3_climb_41 rfl ?_
        refine v_iload_n iX3_climb_42 rfl ?_
        refine v_iastore iX3_climb_43 rfl (by omega) ?_
        exact r_v iX3_climb_44 rfl (⟨rfl, rfl, by rw [uA_ne _ _ (by decide), e1, show ((clm V B N n 10 s.toNat).2 : Int) = s0 by rw [e2]; omega]⟩)
      · try simp only [Int.toNat_natCast] at h15
        obtain ⟨b, hb, e, hl⟩ := topR_no hW ha h15
        rw [clm_n h15 e] at e1 e2
        refine v_aload_n iX3_climb_18 rfl ?_
        refine v_iload_n iX3_climb_19 rfl ?_
        refine c_V1 (Mc := mX3_latestNeighbour) iX3_climb_20 lX3_88 kX3_latestNeighbour (qX3_latestNeighbour σ α hK hW a (by omega)) (by decide) rfl rfl rfl rfl (Nat.le_of_ble_eq_true rfl) ?_
        try simp only [Int.toNat_natCast]
        rw [e]
        refine v_is2 iX3_climb_23 ⟨rfl, rfl⟩ ?_
        refine v_in3 iX3_climb_24 ⟨rfl, rfl⟩ ?_
        refine v_goto (tgt := 4) iX3_climb_27 (by decide) ?_
        exact (ih b (s0 + 1) hb (by have := rnk_lt hW ha hb hl; omega) (by omega) e1 (by rw [e2]; omega)).as rfl rfl rfl rfl
  exact (key 10 s.toNat 0 (by omega) (rnk_n hW (by omega)) (by omega) rfl (by omega)).as rfl rfl (by simp; omega) rfl

set_option maxHeartbeats 4000000 in
set_option maxRecDepth 100000 in
theorem qX3_basin (σ α : St) {n : Nat} {V B N : Nat → Int} (hK : KV σ α n V B N) (hW : WF n V B N) (hS : ∀ i, i < n → α 74 i = ((clm V B N n 10 i).1 : Int)) (t : Int) (ht : InR t) : CF 0 mX3_basin [vR 71, vI t] σ α (some (vI ((msk (fun j => decide (((clm V B N n 10 j).1 : Int) = t)) n : Nat) : Int))) (σ) (α) := by
  have h10 := hW.1
  refine CG.of [some (vR 71), some (vI t), none, none] (by decide) (by simp [lvA]) rfl ?_
  refine v_iconst iX3_basin_0 ?_
  refine v_is2 iX3_basin_1 ⟨rfl, rfl⟩ ?_
  refine v_iconst iX3_basin_2 ?_
  refine v_is3 iX3_basin_3 ⟨rfl, rfl⟩ ?_
  refine ind_up (P := fun k => VV 0 mX3_basin [vR 71, vI t] (fun r' s' a' => r' = some (vI ((msk (fun j => decide (((clm V B N n 10 j).1 : Int) = t)) n : Nat) : Int)) ∧ s' = σ ∧ a' = α) σ α 4 [some (vR 71), some (vI t), some (vI ((msk (fun j => decide (((clm V B N n 10 j).1 : Int) = t)) k : Nat) : Int)), some (vI (k : Int))] []) n ?_ 0 (by omega)
  intro k hk ih
  refine v_iload_n iX3_basin_4 rfl ?_
  refine v_aload_n iX3_basin_5 rfl ?_
  refine v_getI iX3_basin_6 fX3_44 rfl rfl (by exact hK.1) ?_
  refine v_icmp_ge (tgt := 34) iX3_basin_9 (by decide) (by omega) (fun h9 => ?_) (fun h9 => ?_)
  · have hkn : n = k := by omega
    subst hkn
    refine v_iload_n iX3_basin_34 rfl ?_
    exact r_i iX3_basin_35 rfl (⟨cf_i (by rfl), rfl, rfl⟩)
  · refine v_aload_n iX3_basin_12 rfl ?_
    refine v_getR iX3_basin_13 fX3_18 rfl rfl ?_
    refine v_iload_n iX3_basin_16 rfl ?_
    refine v_iaload iX3_basin_17 rfl (by omega) (by exact hS k (by omega)) ?_
    refine v_iload_n iX3_basin_18 rfl ?_
    refine v_icmp_ne (tgt := 28) iX3_basin_19 (by decide) (by have := clm_in hW 10 k (by omega); exact ⟨⟨by omega, by omega⟩, ht⟩) (fun h19 => ?_) (fun h19 => ?_)
    · refine v_in3 iX3_basin_28 ⟨rfl, rfl⟩ ?_
      refine v_goto (tgt := 4) iX3_basin_31 (by decide) ?_
      refine (ih (by omega)).as rfl rfl ?_ rfl
      simp only [msk, h19, decide_true, decide_false, Bool.false_eq_true, if_true, if_false, Int.toNat_natCast, Nat.or_zero]; rfl
    · refine v_iload_n iX3_basin_22 rfl ?_
      refine v_iconst iX3_basin_23 ?_
      refine v_iload_n iX3_basin_24 rfl ?_
      refine v_ishl1 iX3_basin_25 (by omega) ?_
      refine v_ior iX3_basin_26 (by refine ⟨?_, ?_⟩ <;> first | exact Int.natCast_nonneg _ | omega) ?_
      refine v_is2 iX3_basin_27 ⟨rfl, rfl⟩ ?_
      refine v_in3 iX3_basin_28 ⟨rfl, rfl⟩ ?_
      refine v_goto (tgt := 4) iX3_basin_31 (by decide) ?_
      refine (ih (by omega)).as rfl rfl ?_ rfl
      simp only [msk, h19, decide_true, decide_false, Bool.false_eq_true, if_true, if_false, Int.toNat_natCast, Nat.or_zero]; rfl

theorem inc2_r (V B : Nat → Int) (c : Nat → Nat → Bool) (e : Nat → Nat → Nat) {n i : Nat} (he : ∀ i j, i < n → j < n → e i j < n) (hi : i < n) {a : Int} (ha : -1 ≤ a ∧ a < n) : ∀ k, k ≤ n → -1 ≤ inc2 V B c e i a k ∧ inc2 V B c e i a k < n
  | 0, _ => ha
  | k + 1, hk => by
    have ih := inc2_r V B c e he hi ha k (by omega)
    have hek := he i k hi (by omega)
    unfold inc2
    split
    · exact laterF_r ih (by omega)
    · exact ih
theorem inc1_r (V B : Nat → Int) (c : Nat → Nat → Bool) (e : Nat → Nat → Nat) {n : Nat} (he : ∀ i j, i < n → j < n → e i j < n) : ∀ k, k ≤ n → -1 ≤ inc1 V B c e n k ∧ inc1 V B c e n k < n
  | 0, _ => by simp [inc1]; omega
  | k + 1, hk => inc2_r V B c e he (by omega) (inc1_r V B c e he k (by omega)) n (Nat.le_refl _)

set_option maxHeartbeats 4000000 in
set_option maxRecDepth 100000 in
theorem qX3_passBetween (σ α : St) {n : Nat} {V B N : Nat → Int} (hK : KV σ α n V B N) (hW : WF n V B N) (hS : ∀ i, i < n → α 74 i = ((clm V B N n 10 i).1 : Int)) (one other : Int) (h1 : InR one) (h2 : InR other) : CF 2 mX3_passBetween [vR 71, vI one, vI other] σ α (some (vI (pasB V B N n one other))) (σ) (α) := by
  have h10 := hW.1
  refine CG.of [some (vR 71), some (vI one), some (vI other), none, none, none] (by decide) (by simp [lvA]) rfl ?_
  refine v_iconst iX3_passBetween_0 ?_
  refine v_is3 iX3_passBetween_1 ⟨rfl, rfl⟩ ?_
  refine v_iload_n iX3_passBetween_2 rfl ?_
  refine v_iload_n iX3_passBetween_3 rfl ?_
  refine v_icmp_ne (tgt := 9) iX3_passBetween_4 (by decide) (by omega) (fun h4 => ?_) (fun h4 => ?_)
  · refine v_iconst iX3_passBetween_9 ?_
    refine v_is4 iX3_passBetween_10 ⟨rfl, rfl⟩ ?_
    refine ind_up (P := fun k => VV 2 mX3_passBetween [vR 71, vI one, vI other] (fun r' s' a' => r' = some (vI (pasB V B N n one other)) ∧ s' = σ ∧ a' = α) σ α 12 [some (vR 71), some (vI one), some (vI other), some (vI (inc1 V B (pasC V B N n one other) (sooK V B) n k)), some (vI (k : Int)), none] []) n ?_ 0 (by omega)
    intro k hk ih
    refine v_iload iX3_passBetween_12 rfl ?_
    refine v_aload_n iX3_passBetween_14 rfl ?_
    refine v_getI iX3_passBetween_15 fX3_44 rfl rfl (by exact hK.1) ?_
    refine v_icmp_ge (tgt := 102) iX3_passBetween_18 (by decide) (by omega) (fun h18 => ?_) (fun h18 => ?_)
    · have hkn : n = k := by omega
      subst hkn
      refine v_iload_n iX3_passBetween_102 rfl ?_
      exact r_i iX3_passBetween_103 rfl (⟨cf_i (by rw [pasB, if_neg h4]), rfl, rfl⟩)
    · have hkn : k < n := by omega
      refine v_iconst iX3_passBetween_21 ?_
      refine v_is5 iX3_passBetween_22 ⟨rfl, rfl⟩ ?_
      refine ind_up (P := fun j => VV 2 mX3_passBetween [vR 71, vI one, vI other] (fun r' s' a' => r' = some (vI (pasB V B N n one other)) ∧ s' = σ ∧ a' = α) σ α 24 [some (vR 71), some (vI one), some (vI other), some (vI (inc2 V B (pasC V B N n one other) (sooK V B) k (inc1 V B (pasC V B N n one other) (sooK V B) n k) j)), some (vI (k : Int)), some (vI (j : Int))] []) n ?_ 0 (by omega)
      intro j hj ihj
      refine v_iload iX3_passBetween_24 rfl ?_
      refine v_aload_n iX3_passBetween_26 rfl ?_
      refine v_getI iX3_passBetween_27 fX3_44 rfl rfl (by exact hK.1) ?_
      refine v_icmp_ge (tgt := 96) iX3_passBetween_30 (by decide) (by omega) (fun h30 => ?_) (fun h30 => ?_)
      · have hjn : n = j := by omega
        subst hjn
        refine v_in4 iX3_passBetween_96 ⟨rfl, rfl⟩ ?_
        refine v_goto (tgt := 12) iX3_passBetween_99 (by decide) ?_
        exact (ih (by omega)).asw rfl rfl ⟨rfl, rfl, rfl, rfl, rfl, trivial⟩ rfl
      · have hjn : j < n := by omega
        have hkn : k < n := by omega
        have hr := inc2_r V B (pasC V B N n one other) (sooK V B) (sooK_in V B) hkn (inc1_r V B (pasC V B N n one other) (sooK V B) (sooK_in V B) k (by omega)) j hj
        refine v_aload_n iX3_passBetween_33 rfl ?_
        refine v_getR iX3_passBetween_34 fX3_18 rfl rfl ?_
        refine v_iload iX3_passBetween_37 rfl ?_
        refine v_iaload iX3_passBetween_39 rfl (by omega) (by exact hS k (by omega)) ?_
        refine v_iload_n iX3_passBetween_40 rfl ?_
        refine v_icmp_ne (tgt := 90) iX3_passBetween_41 (by decide) (by have := clm_in hW 10 k (by omega); exact ⟨⟨by omega, by omega⟩, h1⟩) (fun h41 => ?_) (fun h41 => ?_)
        · refine v_in5 iX3_passBetween_90 ⟨rfl, rfl⟩ ?_
          refine v_goto (tgt := 24) iX3_passBetween_93 (by decide) ?_
          refine (ihj (by omega)).as rfl rfl ?_ rfl
          first
            | (have e1 : pasC V B N n one other k j = true := by simp [pasC, *]
               simp only [inc2, e1, if_true, sooK, h76, Bool.false_eq_true, if_false]; rfl)
            | (have e1 : pasC V B N n one other k j = false := by simp [pasC, *]
               simp only [inc2, e1, Bool.false_eq_true, if_false]; rfl)
        · refine v_aload_n iX3_passBetween_44 rfl ?_
          refine v_getR iX3_passBetween_45 fX3_18 rfl rfl ?_
          refine v_iload iX3_passBetween_48 rfl ?_
          refine v_iaload iX3_passBetween_50 rfl (by omega) (by exact hS j (by omega)) ?_
          refine v_iload_n iX3_passBetween_51 rfl ?_
          refine v_icmp_ne (tgt := 90) iX3_passBetween_52 (by decide) (by have := clm_in hW 10 j (by omega); exact ⟨⟨by omega, by omega⟩, h2⟩) (fun h52 => ?_) (fun h52 => ?_)
          · refine v_in5 iX3_passBetween_90 ⟨rfl, rfl⟩ ?_
            refine v_goto (tgt := 24) iX3_passBetween_93 (by decide) ?_
            refine (ihj (by omega)).as rfl rfl ?_ rfl
            first
              | (have e1 : pasC V B N n one other k j = true := by simp [pasC, *]
                 simp only [inc2, e1, if_true, sooK, h76, Bool.false_eq_true, if_false]; rfl)
              | (have e1 : pasC V B N n one other k j = false := by simp [pasC, *]
                 simp only [inc2, e1, Bool.false_eq_true, if_false]; rfl)
          · refine v_aload_n iX3_passBetween_55 rfl ?_
            refine v_iload iX3_passBetween_56 rfl ?_
            refine v_iload iX3_passBetween_58 rfl ?_
            refine c_V1 (Mc := mX3_isNeighbour) iX3_passBetween_60 lX3_82 kX3_isNeighbour (qX3_isNeighbour σ α hK hW k j (by omega) (by omega)) (by decide) rfl rfl rfl rfl (Nat.le_of_ble_eq_true rfl) ?_
            try simp only [Int.toNat_natCast]
            refine v_bif_eq (tgt := 90) iX3_passBetween_63 (by decide) (fun h63 => ?_) (fun h63 => ?_)
            · try simp only [Int.toNat_natCast] at h63
              refine v_in5 iX3_passBetween_90 ⟨rfl, rfl⟩ ?_
              refine v_goto (tgt := 24) iX3_passBetween_93 (by decide) ?_
              refine (ihj (by omega)).as rfl rfl ?_ rfl
              first
                | (have e1 : pasC V B N n one other k j = true := by simp [pasC, *]
                   simp only [inc2, e1, if_true, sooK, h76, Bool.false_eq_true, if_false]; rfl)
                | (have e1 : pasC V B N n one other k j = false := by simp [pasC, *]
                   simp only [inc2, e1, Bool.false_eq_true, if_false]; rfl)
            · try simp only [Int.toNat_natCast] at h63
              refine v_aload_n iX3_passBetween_66 rfl ?_
              refine v_iload_n iX3_passBetween_67 rfl ?_
              refine v_aload_n iX3_passBetween_68 rfl ?_
              refine v_iload iX3_passBetween_69 rfl ?_
              refine v_iload iX3_passBetween_71 rfl ?_
              refine c_V1 (Mc := mX3_isSooner) iX3_passBetween_73 lX3_78 kX3_isSooner (qX3_isSooner σ α hK hW k j (by omega) (by omega)) (by decide) rfl rfl rfl rfl (Nat.le_of_ble_eq_true rfl) ?_
              try simp only [Int.toNat_natCast]
              refine v_bif_eq (tgt := 84) iX3_passBetween_76 (by decide) (fun h76 => ?_) (fun h76 => ?_)
              · try simp only [Int.toNat_natCast] at h76
                refine v_iload iX3_passBetween_84 rfl ?_
                refine c_V1 (Mc := mX3_later) iX3_passBetween_86 lX3_85 kX3_later (qX3_later σ α hK hW _ _ hr (by omega)) (by decide) rfl rfl rfl rfl (Nat.le_of_ble_eq_true rfl) ?_
                try simp only [Int.toNat_natCast]
                refine v_is3 iX3_passBetween_89 ⟨rfl, rfl⟩ ?_
                refine v_in5 iX3_passBetween_90 ⟨rfl, rfl⟩ ?_
                refine v_goto (tgt := 24) iX3_passBetween_93 (by decide) ?_
                refine (ihj (by omega)).as rfl rfl ?_ rfl
                first
                  | (have e1 : pasC V B N n one other k j = true := by simp [pasC, *]
                     simp only [inc2, e1, if_true, sooK, h76, Bool.false_eq_true, if_false]; rfl)
                  | (have e1 : pasC V B N n one other k j = false := by simp [pasC, *]
                     simp only [inc2, e1, Bool.false_eq_true, if_false]; rfl)
              · try simp only [Int.toNat_natCast] at h76
                refine v_iload iX3_passBetween_79 rfl ?_
                refine v_goto (tgt := 86) iX3_passBetween_81 (by decide) ?_
                refine c_V1 (Mc := mX3_later) iX3_passBetween_86 lX3_85 kX3_later (qX3_later σ α hK hW _ _ hr (by omega)) (by decide) rfl rfl rfl rfl (Nat.le_of_ble_eq_true rfl) ?_
                try simp only [Int.toNat_natCast]
                refine v_is3 iX3_passBetween_89 ⟨rfl, rfl⟩ ?_
                refine v_in5 iX3_passBetween_90 ⟨rfl, rfl⟩ ?_
                refine v_goto (tgt := 24) iX3_passBetween_93 (by decide) ?_
                refine (ihj (by omega)).as rfl rfl ?_ rfl
                first
                  | (have e1 : pasC V B N n one other k j = true := by simp [pasC, *]
                     simp only [inc2, e1, if_true, sooK, h76, Bool.false_eq_true, if_false]; rfl)
                  | (have e1 : pasC V B N n one other k j = false := by simp [pasC, *]
                     simp only [inc2, e1, Bool.false_eq_true, if_false]; rfl)
  · refine v_iload_n iX3_passBetween_7 rfl ?_
    exact r_i iX3_passBetween_8 rfl (⟨cf_i (by rw [pasB, if_pos h4]), rfl, rfl⟩)

set_option maxHeartbeats 4000000 in
set_option maxRecDepth 100000 in
theorem qX3_drowns (σ α : St) {n : Nat} {V B N : Nat → Int} (hK : KV σ α n V B N) (hW : WF n V B N) (c : Int) (hc : σ 3 7 = c) (hc2 : 0 ≤ c ∧ c ≤ 100) (t p : Int) (ht : 0 ≤ t ∧ t < n) (hp : -1 ≤ p ∧ p < n) : CF 0 mX3_drowns [vR 71, vI t, vI p] σ α (some (vI (b2i (decide (p ≠ -1) && high c V B p.toNat t.toNat)))) (σ) (α) := by
  have h10 := hW.1
  have hwt := hW.2 t.toNat (by omega)
  refine CG.of [some (vR 71), some (vI t), some (vI p)] (by decide) (by simp [lvA]) rfl ?_
  refine v_iload_n iX3_drowns_0 rfl ?_
  refine v_iconst iX3_drowns_1 ?_
  refine v_icmp_eq (tgt := 49) iX3_drowns_2 (by decide) (by omega) (fun h2 => ?_) (fun h2 => ?_)
  · refine v_iconst iX3_drowns_49 ?_
    exact r_b iX3_drowns_50 rfl (by first | exact b2i_01 _ | decide | omega) (⟨cf_i (by first | (simp [h2, b2i]; done) | (rw [show (decide (p ≠ -1)) = true by simp [h2], Bool.true_and]; unfold high; rw [Int.mul_comm (V p.toNat) 100]; first | exact (b2i_pos (by omega)).symm | exact (b2i_neg (by omega)).symm)), rfl, rfl⟩)
  · have hwp := hW.2 p.toNat (by omega)
    have b1 := prod_b (x := 100 * V p.toNat) (y := B t.toNat) (a := 9900) (b := 189) (by omega) (by omega)
    have b0 := prod_b (x := c) (y := V t.toNat) (a := 100) (b := 99) (by omega) (by omega)
    have b2 := prod_b (x := c * V t.toNat) (y := B p.toNat) (a := 9900) (b := 189) (by omega) (by omega)
    refine v_bipush iX3_drowns_5 (by decide) ?_
    refine v_aload_n iX3_drowns_7 rfl ?_
    refine v_getR iX3_drowns_8 fX3_9 rfl rfl ?_
    refine v_iload_n iX3_drowns_11 rfl ?_
    refine v_iaload iX3_drowns_12 rfl (by omega) (by exact (hK.2 p.toNat (by omega)).1) ?_
    refine v_imul iX3_drowns_13 ?_
    refine v_aload_n iX3_drowns_14 rfl ?_
    refine v_getR iX3_drowns_15 fX3_15 rfl rfl ?_
    refine v_iload_n iX3_drowns_18 rfl ?_
    refine v_iaload iX3_drowns_19 rfl (by omega) (by exact (hK.2 t.toNat (by omega)).2.1) ?_
    refine v_imul iX3_drowns_20 ?_
    refine v_aload_n iX3_drowns_21 rfl ?_
    refine v_getR iX3_drowns_22 fX3_30 rfl rfl ?_
    refine v_getI iX3_drowns_25 fX3_97 rfl rfl (by exact hc) ?_
    refine v_aload_n iX3_drowns_28 rfl ?_
    refine v_getR iX3_drowns_29 fX3_9 rfl rfl ?_
    refine v_iload_n iX3_drowns_32 rfl ?_
    refine v_iaload iX3_drowns_33 rfl (by omega) (by exact (hK.2 t.toNat (by omega)).1) ?_
    refine v_imul iX3_drowns_34 ?_
    refine v_aload_n iX3_drowns_35 rfl ?_
    refine v_getR iX3_drowns_36 fX3_15 rfl rfl ?_
    refine v_iload_n iX3_drowns_39 rfl ?_
    refine v_iaload iX3_drowns_40 rfl (by omega) (by exact (hK.2 p.toNat (by omega)).2.1) ?_
    refine v_imul iX3_drowns_41 ?_
    refine v_icmp_lt (tgt := 49) iX3_drowns_42 (by decide) (by omega) (fun h42 => ?_) (fun h42 => ?_)
    · refine v_iconst iX3_drowns_49 ?_
      exact r_b iX3_drowns_50 rfl (by first | exact b2i_01 _ | decide | omega) (⟨cf_i (by first | (simp [h2, b2i]; done) | (rw [show (decide (p ≠ -1)) = true by simp [h2], Bool.true_and]; unfold high; rw [Int.mul_comm (V p.toNat) 100]; first | exact (b2i_pos (by omega)).symm | exact (b2i_neg (by omega)).symm)), rfl, rfl⟩)
    · refine v_iconst iX3_drowns_45 ?_
      refine v_goto (tgt := 50) iX3_drowns_46 (by decide) ?_
      exact r_b iX3_drowns_50 rfl (by first | exact b2i_01 _ | decide | omega) (⟨cf_i (by first | (simp [h2, b2i]; done) | (rw [show (decide (p ≠ -1)) = true by simp [h2], Bool.true_and]; unfold high; rw [Int.mul_comm (V p.toNat) 100]; first | exact (b2i_pos (by omega)).symm | exact (b2i_neg (by omega)).symm)), rfl, rfl⟩)

set_option maxHeartbeats 4000000 in
set_option maxRecDepth 100000 in
theorem qX3_drowner (σ α : St) {n : Nat} {V B N : Nat → Int} (hK : KV σ α n V B N) (hW : WF n V B N) (hS : ∀ i, i < n → α 74 i = ((clm V B N n 10 i).1 : Int)) (c : Int) (hc : σ 3 7 = c) (hc2 : 0 ≤ c ∧ c ≤ 100) (t : Nat) (ht : t < n) : CF 3 mX3_drowner [vR 71, vI (t : Int)] σ α (some (vI (drwR c V B N n t))) (σ) (α) := by
  have h10 := hW.1
  refine CG.of [some (vR 71), some (vI (t : Int)), none, none] (by decide) (by simp [lvA]) rfl ?_
  refine v_iconst iX3_drowner_0 ?_
  refine v_is2 iX3_drowner_1 ⟨rfl, rfl⟩ ?_
  refine v_iconst iX3_drowner_2 ?_
  refine v_is3 iX3_drowner_3 ⟨rfl, rfl⟩ ?_
  refine ind_up (P := fun k => VV 3 mX3_drowner [vR 71, vI (t : Int)] (fun r' s' a' => r' = some (vI (drwR c V B N n t)) ∧ s' = σ ∧ a' = α) σ α 4 [some (vR 71), some (vI (t : Int)), some (vI (latU V B ((msk (drwP c V B N n t) n : Nat) : Int) k)), some (vI (k : Int))] []) n ?_ 0 (by omega)
  intro k hk ih
  refine v_iload_n iX3_drowner_4 rfl ?_
  refine v_aload_n iX3_drowner_5 rfl ?_
  refine v_getI iX3_drowner_6 fX3_44 rfl rfl (by exact hK.1) ?_
  refine v_icmp_ge (tgt := 56) iX3_drowner_9 (by decide) (by omega) (fun h9 => ?_) (fun h9 => ?_)
  · have hkn : n = k := by omega
    subst hkn
    refine v_iload_n iX3_drowner_56 rfl ?_
    exact r_i iX3_drowner_57 rfl (⟨cf_i (by rfl), rfl, rfl⟩)
  · have hkn : k < n := by omega
    have hr := latU_r V B ((msk (drwP c V B N n t) n : Nat) : Int) k
    refine v_aload_n iX3_drowner_12 rfl ?_
    refine v_iload_n iX3_drowner_13 rfl ?_
    refine c_V1 (Mc := mX3_isTop) iX3_drowner_14 lX3_61 kX3_isTop (qX3_isTop σ α hK hW k (by omega)) (by decide) rfl rfl rfl rfl (Nat.le_of_ble_eq_true rfl) ?_
    try simp only [Int.toNat_natCast]
    refine v_bif_eq (tgt := 50) iX3_drowner_17 (by decide) (fun h17 => ?_) (fun h17 => ?_)
    · try simp only [Int.toNat_natCast] at h17
      refine v_in3 iX3_drowner_50 ⟨rfl, rfl⟩ ?_
      refine v_goto (tgt := 4) iX3_drowner_53 (by decide) ?_
      refine (ih (by omega)).as rfl rfl ?_ rfl
      first
        | (have e1 : drwP c V B N n t k = true := by simp only [drwP, h17, h26, h40, Bool.and_true]
           rw [latU_s, hasB_msk hkn, e1]; rfl)
        | (have e1 : drwP c V B N n t k = false := by simp [drwP, *]
           rw [latU_s, hasB_msk hkn, e1]; rfl)
        | (have e1 : drwP c V B N n t k = false := by simp only [drwP, h17, h26, h40, Bool.and_false]
           rw [latU_s, hasB_msk hkn, e1]; rfl)
    · try simp only [Int.toNat_natCast] at h17
      refine v_aload_n iX3_drowner_20 rfl ?_
      refine v_iload_n iX3_drowner_21 rfl ?_
      refine v_iload_n iX3_drowner_22 rfl ?_
      refine c_V1 (Mc := mX3_isSooner) iX3_drowner_23 lX3_78 kX3_isSooner (qX3_isSooner σ α hK hW t k (by omega) (by omega)) (by decide) rfl rfl rfl rfl (Nat.le_of_ble_eq_true rfl) ?_
      try simp only [Int.toNat_natCast]
      refine v_bif_eq (tgt := 50) iX3_drowner_26 (by decide) (fun h26 => ?_) (fun h26 => ?_)
      · try simp only [Int.toNat_natCast] at h26
        refine v_in3 iX3_drowner_50 ⟨rfl, rfl⟩ ?_
        refine v_goto (tgt := 4) iX3_drowner_53 (by decide) ?_
        refine (ih (by omega)).as rfl rfl ?_ rfl
        first
          | (have e1 : drwP c V B N n t k = true := by simp only [drwP, h17, h26, h40, Bool.and_true]
             rw [latU_s, hasB_msk hkn, e1]; rfl)
          | (have e1 : drwP c V B N n t k = false := by simp [drwP, *]
             rw [latU_s, hasB_msk hkn, e1]; rfl)
          | (have e1 : drwP c V B N n t k = false := by simp only [drwP, h17, h26, h40, Bool.and_false]
             rw [latU_s, hasB_msk hkn, e1]; rfl)
      · try simp only [Int.toNat_natCast] at h26
        have htk : (t : Int) ≠ (k : Int) := by
          intro h
          have h : t = k := by omega
          subst h
          rw [ltr_irr] at h26; cases h26
        refine v_aload_n iX3_drowner_29 rfl ?_
        refine v_iload_n iX3_drowner_30 rfl ?_
        refine v_aload_n iX3_drowner_31 rfl ?_
        refine v_iload_n iX3_drowner_32 rfl ?_
        refine v_iload_n iX3_drowner_33 rfl ?_
        refine c_V1 (Mc := mX3_passBetween) iX3_drowner_34 lX3_91 kX3_passBetween (qX3_passBetween σ α hK hW hS t k (by omega) (by omega)) (by decide) rfl rfl rfl rfl (Nat.le_of_ble_eq_true rfl) ?_
        try simp only [Int.toNat_natCast]
        rw [pasB_eq hW htk]
        have hpr := passR_r V B N n t k
        refine c_V1 (Mc := mX3_drowns) iX3_drowner_37 lX3_94 kX3_drowns (qX3_drowns σ α hK hW c hc hc2 t _ (by omega) (by omega)) (by decide) rfl rfl rfl rfl (Nat.le_of_ble_eq_true rfl) ?_
        try simp only [Int.toNat_natCast]
        refine v_bif_eq (tgt := 50) iX3_drowner_40 (by decide) (fun h40 => ?_) (fun h40 => ?_)
        · try simp only [Int.toNat_natCast] at h40
          refine v_in3 iX3_drowner_50 ⟨rfl, rfl⟩ ?_
          refine v_goto (tgt := 4) iX3_drowner_53 (by decide) ?_
          refine (ih (by omega)).as rfl rfl ?_ rfl
          first
            | (have e1 : drwP c V B N n t k = true := by simp only [drwP, h17, h26, h40, Bool.and_true]
               rw [latU_s, hasB_msk hkn, e1]; rfl)
            | (have e1 : drwP c V B N n t k = false := by simp [drwP, *]
               rw [latU_s, hasB_msk hkn, e1]; rfl)
            | (have e1 : drwP c V B N n t k = false := by simp only [drwP, h17, h26, h40, Bool.and_false]
               rw [latU_s, hasB_msk hkn, e1]; rfl)
        · try simp only [Int.toNat_natCast] at h40
          refine v_aload_n iX3_drowner_43 rfl ?_
          refine v_iload_n iX3_drowner_44 rfl ?_
          refine v_iload_n iX3_drowner_45 rfl ?_
          refine c_V1 (Mc := mX3_later) iX3_drowner_46 lX3_85 kX3_later (qX3_later σ α hK hW _ k (by omega) (by omega)) (by decide) rfl rfl rfl rfl (Nat.le_of_ble_eq_true rfl) ?_
          try simp only [Int.toNat_natCast]
          refine v_is2 iX3_drowner_49 ⟨rfl, rfl⟩ ?_
          refine v_in3 iX3_drowner_50 ⟨rfl, rfl⟩ ?_
          refine v_goto (tgt := 4) iX3_drowner_53 (by decide) ?_
          refine (ih (by omega)).as rfl rfl ?_ rfl
          first
            | (have e1 : drwP c V B N n t k = true := by simp only [drwP, h17, h26, h40, Bool.and_true]
               rw [latU_s, hasB_msk hkn, e1]; rfl)
            | (have e1 : drwP c V B N n t k = false := by simp [drwP, *]
               rw [latU_s, hasB_msk hkn, e1]; rfl)
            | (have e1 : drwP c V B N n t k = false := by simp only [drwP, h17, h26, h40, Bool.and_false]
               rw [latU_s, hasB_msk hkn, e1]; rfl)

set_option maxHeartbeats 4000000 in
set_option maxRecDepth 100000 in
theorem qX3_headOf (σ α : St) {n : Nat} {V B N : Nat → Int} (hK : KV σ α n V B N) (hW : WF n V B N) (c : Int) (hDI : ∀ i, i < n → α 76 i = dIn c V B N n i) (s : Nat) (hs : s < n) : CF 0 mX3_headOf [vR 71, vI (s : Int)] σ α (some (vI (hdC c V B N n 10 s : Int))) (σ) (α) := by
  have h10 := hW.1
  refine CG.of [some (vR 71), some (vI (s : Int)), none, none] (by decide) (by simp [lvA]) rfl ?_
  refine v_iload_n iX3_headOf_0 rfl ?_
  refine v_is2 iX3_headOf_1 ⟨rfl, rfl⟩ ?_
  refine v_iconst iX3_headOf_2 ?_
  refine v_is3 iX3_headOf_3 ⟨rfl, rfl⟩ ?_
  have key : ∀ (f a : Nat) (s0 : Int), a < n → rnk V B n a < f → 0 ≤ s0 ∧ s0 + f = 10 → hdC c V B N n 10 s = hdC c V B N n f a → VV 0 mX3_headOf [vR 71, vI (s : Int)] (fun r' s' a' => r' = some (vI (hdC c V B N n 10 s : Int)) ∧ s' = σ ∧ a' = α) σ α 4 [some (vR 71), some (vI (s : Int)), some (vI (a : Int)), some (vI s0)] [] := by
    intro f
    induction f with
    | zero => intro a s0 _ h; exact absurd h (by omega)
    | succ f ih =>
      intro a s0 ha hf hs0 e1
      refine v_iload_n iX3_headOf_4 rfl ?_
      refine v_bipush iX3_headOf_5 (by decide) ?_
      refine v_icmp_ge (tgt := 33) iX3_headOf_7 (by decide) (by omega) (fun h7 => (by exfalso; omega)) (fun h7 => ?_)
      have hdr := dIn_r c V B N n a
      refine v_aload_n iX3_headOf_10 rfl ?_
      refine v_getR iX3_headOf_11 fX3_24 rfl rfl ?_
      refine v_iload_n iX3_headOf_14 rfl ?_
      refine v_iaload iX3_headOf_15 rfl (by omega) (by exact hDI a ha) ?_
      refine v_iconst iX3_headOf_16 ?_
      refine v_icmp_eq (tgt := 33) iX3_headOf_17 (by decide) (by omega) (fun h17 => ?_) (fun h17 => ?_)
      · refine v_iload_n iX3_headOf_33 rfl ?_
        exact r_i iX3_headOf_34 rfl (⟨cf_i (by rw [e1, hdC_y h17]), rfl, rfl⟩)
      · obtain ⟨b, hb, e, hl⟩ := dIn_lt hW h17
        refine v_aload_n iX3_headOf_20 rfl ?_
        refine v_getR iX3_headOf_21 fX3_24 rfl rfl ?_
        refine v_iload_n iX3_headOf_24 rfl ?_
        refine v_iaload iX3_headOf_25 rfl (by omega) (by exact hDI a ha) ?_
        rw [e]
        refine v_is2 iX3_headOf_26 ⟨rfl, rfl⟩ ?_
        refine v_in3 iX3_headOf_27 ⟨rfl, rfl⟩ ?_
        refine v_goto (tgt := 4) iX3_headOf_30 (by decide) ?_
        exact (ih b (s0 + 1) hb (by have := rnk_lt hW ha hb hl; omega) (by omega) (by rw [e1, hdC_n h17 e])).as rfl rfl rfl rfl
  exact key 10 s 0 hs (rnk_n hW hs) (by omega) rfl
end
