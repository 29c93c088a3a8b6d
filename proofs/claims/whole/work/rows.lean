section
/-- a private method of a class that the tables say can be made, by its rows of tables_1 -/
def lw_okq (q : MethodName × Nat) : Prop := (q.1.cls ≠ "java/lang/invoke/MethodHandle" ∧ q.1.cls ≠ "java/lang/invoke/VarHandle") ∧ Cond.instantiable q.1.cls q.2 ∈ tables_1 ∧ Cond.privateMethod q.1 ∈ tables_1 ∧ Cond.instanceMethod q.1 ∈ tables_1
theorem lw_p0 : lw_okq (⟨"FeedCheck$Reader", "read", "(LFeedCheck$Plan;)I"⟩, 7) := ⟨⟨by decide +kernel, by decide +kernel⟩, List.mem_of_getElem? (i := 126) (by decide +kernel), List.mem_of_getElem? (i := 284) (by decide +kernel), List.mem_of_getElem? (i := 285) (by decide +kernel)⟩
theorem lw_p1 : lw_okq (⟨"FeedCheck$Plan", "copyFrom", "(LFeedCheck$Plan;)V"⟩, 8) := ⟨⟨by decide +kernel, by decide +kernel⟩, List.mem_of_getElem? (i := 44) (by decide +kernel), List.mem_of_getElem? (i := 288) (by decide +kernel), List.mem_of_getElem? (i := 289) (by decide +kernel)⟩
theorem lw_p2 : lw_okq (⟨"FeedCheck$Fit", "copyFrom", "(LFeedCheck$Fit;)V"⟩, 5) := ⟨⟨by decide +kernel, by decide +kernel⟩, List.mem_of_getElem? (i := 50) (by decide +kernel), List.mem_of_getElem? (i := 295) (by decide +kernel), List.mem_of_getElem? (i := 296) (by decide +kernel)⟩
theorem lw_p3 : lw_okq (⟨"FeedCheck$Plan", "setRule", "(III)V"⟩, 8) := ⟨⟨by decide +kernel, by decide +kernel⟩, List.mem_of_getElem? (i := 44) (by decide +kernel), List.mem_of_getElem? (i := 300) (by decide +kernel), List.mem_of_getElem? (i := 301) (by decide +kernel)⟩
theorem lw_p4 : lw_okq (⟨"FeedCheck$Reader", "step", "()V"⟩, 7) := ⟨⟨by decide +kernel, by decide +kernel⟩, List.mem_of_getElem? (i := 126) (by decide +kernel), List.mem_of_getElem? (i := 304) (by decide +kernel), List.mem_of_getElem? (i := 305) (by decide +kernel)⟩
theorem lw_p5 : lw_okq (⟨"FeedCheck$Text", "letterAt", "(I)I"⟩, 2) := ⟨⟨by decide +kernel, by decide +kernel⟩, List.mem_of_getElem? (i := 27) (by decide +kernel), List.mem_of_getElem? (i := 308) (by decide +kernel), List.mem_of_getElem? (i := 309) (by decide +kernel)⟩
theorem lw_p6 : lw_okq (⟨"FeedCheck$Reader", "clauseStands", "()Z"⟩, 7) := ⟨⟨by decide +kernel, by decide +kernel⟩, List.mem_of_getElem? (i := 126) (by decide +kernel), List.mem_of_getElem? (i := 315) (by decide +kernel), List.mem_of_getElem? (i := 316) (by decide +kernel)⟩
theorem lw_p7 : lw_okq (⟨"FeedCheck$Reader", "isWord", "(Ljava/lang/String;)Z"⟩, 7) := ⟨⟨by decide +kernel, by decide +kernel⟩, List.mem_of_getElem? (i := 126) (by decide +kernel), List.mem_of_getElem? (i := 320) (by decide +kernel), List.mem_of_getElem? (i := 321) (by decide +kernel)⟩
theorem lw_p8 : lw_okq (⟨"FeedCheck$Plan", "clear", "()V"⟩, 8) := ⟨⟨by decide +kernel, by decide +kernel⟩, List.mem_of_getElem? (i := 44) (by decide +kernel), List.mem_of_getElem? (i := 372) (by decide +kernel), List.mem_of_getElem? (i := 373) (by decide +kernel)⟩
theorem lw_p9 : lw_okq (⟨"FeedCheck$Fit", "clear", "()V"⟩, 5) := ⟨⟨by decide +kernel, by decide +kernel⟩, List.mem_of_getElem? (i := 50) (by decide +kernel), List.mem_of_getElem? (i := 376) (by decide +kernel), List.mem_of_getElem? (i := 377) (by decide +kernel)⟩
theorem lw_p10 : lw_okq (⟨"FeedCheck$Reader", "sectionStands", "()Z"⟩, 7) := ⟨⟨by decide +kernel, by decide +kernel⟩, List.mem_of_getElem? (i := 126) (by decide +kernel), List.mem_of_getElem? (i := 384) (by decide +kernel), List.mem_of_getElem? (i := 385) (by decide +kernel)⟩
theorem lw_p11 : lw_okq (⟨"FeedCheck$Reader", "numberStands", "(II)Z"⟩, 7) := ⟨⟨by decide +kernel, by decide +kernel⟩, List.mem_of_getElem? (i := 126) (by decide +kernel), List.mem_of_getElem? (i := 388) (by decide +kernel), List.mem_of_getElem? (i := 389) (by decide +kernel)⟩
theorem lw_p12 : lw_okq (⟨"FeedCheck$Plan", "addSection", "(II)V"⟩, 8) := ⟨⟨by decide +kernel, by decide +kernel⟩, List.mem_of_getElem? (i := 44) (by decide +kernel), List.mem_of_getElem? (i := 392) (by decide +kernel), List.mem_of_getElem? (i := 393) (by decide +kernel)⟩
theorem lw_p13 : lw_okq (⟨"FeedCheck$Reader", "jointStands", "()Z"⟩, 7) := ⟨⟨by decide +kernel, by decide +kernel⟩, List.mem_of_getElem? (i := 126) (by decide +kernel), List.mem_of_getElem? (i := 397) (by decide +kernel), List.mem_of_getElem? (i := 398) (by decide +kernel)⟩
theorem lw_p14 : lw_okq (⟨"FeedCheck$Plan", "join", "(II)V"⟩, 8) := ⟨⟨by decide +kernel, by decide +kernel⟩, List.mem_of_getElem? (i := 44) (by decide +kernel), List.mem_of_getElem? (i := 401) (by decide +kernel), List.mem_of_getElem? (i := 402) (by decide +kernel)⟩
theorem lw_p15 : lw_okq (⟨"FeedCheck$Reader", "riserStands", "()Z"⟩, 7) := ⟨⟨by decide +kernel, by decide +kernel⟩, List.mem_of_getElem? (i := 126) (by decide +kernel), List.mem_of_getElem? (i := 406) (by decide +kernel), List.mem_of_getElem? (i := 407) (by decide +kernel)⟩
def lw_privs_1 : List (MethodName × Nat) := [(⟨"FeedCheck$Reader", "read", "(LFeedCheck$Plan;)I"⟩, 7), (⟨"FeedCheck$Plan", "copyFrom", "(LFeedCheck$Plan;)V"⟩, 8), (⟨"FeedCheck$Fit", "copyFrom", "(LFeedCheck$Fit;)V"⟩, 5), (⟨"FeedCheck$Plan", "setRule", "(III)V"⟩, 8), (⟨"FeedCheck$Reader", "step", "()V"⟩, 7), (⟨"FeedCheck$Text", "letterAt", "(I)I"⟩, 2), (⟨"FeedCheck$Reader", "clauseStands", "()Z"⟩, 7), (⟨"FeedCheck$Reader", "isWord", "(Ljava/lang/String;)Z"⟩, 7), (⟨"FeedCheck$Plan", "clear", "()V"⟩, 8), (⟨"FeedCheck$Fit", "clear", "()V"⟩, 5), (⟨"FeedCheck$Reader", "sectionStands", "()Z"⟩, 7), (⟨"FeedCheck$Reader", "numberStands", "(II)Z"⟩, 7), (⟨"FeedCheck$Plan", "addSection", "(II)V"⟩, 8), (⟨"FeedCheck$Reader", "jointStands", "()Z"⟩, 7), (⟨"FeedCheck$Plan", "join", "(II)V"⟩, 8), (⟨"FeedCheck$Reader", "riserStands", "()Z"⟩, 7)]
theorem lw_r1 : ∀ q ∈ lw_privs_1, lw_okq q := List.forall_mem_cons.mpr ⟨lw_p0, List.forall_mem_cons.mpr ⟨lw_p1, List.forall_mem_cons.mpr ⟨lw_p2, List.forall_mem_cons.mpr ⟨lw_p3, List.forall_mem_cons.mpr ⟨lw_p4, List.forall_mem_cons.mpr ⟨lw_p5, List.forall_mem_cons.mpr ⟨lw_p6, List.forall_mem_cons.mpr ⟨lw_p7, List.forall_mem_cons.mpr ⟨lw_p8, List.forall_mem_cons.mpr ⟨lw_p9, List.forall_mem_cons.mpr ⟨lw_p10, List.forall_mem_cons.mpr ⟨lw_p11, List.forall_mem_cons.mpr ⟨lw_p12, List.forall_mem_cons.mpr ⟨lw_p13, List.forall_mem_cons.mpr ⟨lw_p14, List.forall_mem_cons.mpr ⟨lw_p15, fun _ h => absurd h List.not_mem_nil⟩⟩⟩⟩⟩⟩⟩⟩⟩⟩⟩⟩⟩⟩⟩⟩
theorem lw_p16 : lw_okq (⟨"FeedCheck$Fit", "addRiser", "(III)V"⟩, 5) := ⟨⟨by decide +kernel, by decide +kernel⟩, List.mem_of_getElem? (i := 50) (by decide +kernel), List.mem_of_getElem? (i := 410) (by decide +kernel), List.mem_of_getElem? (i := 411) (by decide +kernel)⟩
theorem lw_p17 : lw_okq (⟨"FeedCheck$Reader", "chillStands", "()Z"⟩, 7) := ⟨⟨by decide +kernel, by decide +kernel⟩, List.mem_of_getElem? (i := 126) (by decide +kernel), List.mem_of_getElem? (i := 415) (by decide +kernel), List.mem_of_getElem? (i := 416) (by decide +kernel)⟩
theorem lw_p18 : lw_okq (⟨"FeedCheck$Reader", "ruleStands", "()Z"⟩, 7) := ⟨⟨by decide +kernel, by decide +kernel⟩, List.mem_of_getElem? (i := 126) (by decide +kernel), List.mem_of_getElem? (i := 420) (by decide +kernel), List.mem_of_getElem? (i := 421) (by decide +kernel)⟩
theorem lw_p19 : lw_okq (⟨"FeedCheck$Reader", "isSemicolon", "()Z"⟩, 7) := ⟨⟨by decide +kernel, by decide +kernel⟩, List.mem_of_getElem? (i := 126) (by decide +kernel), List.mem_of_getElem? (i := 425) (by decide +kernel), List.mem_of_getElem? (i := 426) (by decide +kernel)⟩
theorem lw_p20 : lw_okq (⟨"FeedCheck", "forgetAll", "()V"⟩, 10) := ⟨⟨by decide +kernel, by decide +kernel⟩, List.mem_of_getElem? (i := 19) (by decide +kernel), List.mem_of_getElem? (i := 436) (by decide +kernel), List.mem_of_getElem? (i := 437) (by decide +kernel)⟩
theorem lw_p21 : lw_okq (⟨"FeedCheck$Bin", "vanish", "()V"⟩, 4) := ⟨⟨by decide +kernel, by decide +kernel⟩, List.mem_of_getElem? (i := 219) (by decide +kernel), List.mem_of_getElem? (i := 440) (by decide +kernel), List.mem_of_getElem? (i := 441) (by decide +kernel)⟩
theorem lw_p22 : lw_okq (⟨"FeedCheck", "isSection", "(I)Z"⟩, 10) := ⟨⟨by decide +kernel, by decide +kernel⟩, List.mem_of_getElem? (i := 19) (by decide +kernel), List.mem_of_getElem? (i := 448) (by decide +kernel), List.mem_of_getElem? (i := 449) (by decide +kernel)⟩
theorem lw_p23 : lw_okq (⟨"FeedCheck$Melt", "settle", "()V"⟩, 9) := ⟨⟨by decide +kernel, by decide +kernel⟩, List.mem_of_getElem? (i := 177) (by decide +kernel), List.mem_of_getElem? (i := 452) (by decide +kernel), List.mem_of_getElem? (i := 453) (by decide +kernel)⟩
theorem lw_p24 : lw_okq (⟨"FeedCheck$Melt", "belowWith", "(II)I"⟩, 9) := ⟨⟨by decide +kernel, by decide +kernel⟩, List.mem_of_getElem? (i := 177) (by decide +kernel), List.mem_of_getElem? (i := 456) (by decide +kernel), List.mem_of_getElem? (i := 457) (by decide +kernel)⟩
theorem lw_p25 : lw_okq (⟨"FeedCheck$Melt", "climb", "(I)V"⟩, 9) := ⟨⟨by decide +kernel, by decide +kernel⟩, List.mem_of_getElem? (i := 177) (by decide +kernel), List.mem_of_getElem? (i := 460) (by decide +kernel), List.mem_of_getElem? (i := 461) (by decide +kernel)⟩
theorem lw_p26 : lw_okq (⟨"FeedCheck$Melt", "isTop", "(I)Z"⟩, 9) := ⟨⟨by decide +kernel, by decide +kernel⟩, List.mem_of_getElem? (i := 177) (by decide +kernel), List.mem_of_getElem? (i := 464) (by decide +kernel), List.mem_of_getElem? (i := 465) (by decide +kernel)⟩
theorem lw_p27 : lw_okq (⟨"FeedCheck$Melt", "isNeighbour", "(II)Z"⟩, 9) := ⟨⟨by decide +kernel, by decide +kernel⟩, List.mem_of_getElem? (i := 177) (by decide +kernel), List.mem_of_getElem? (i := 468) (by decide +kernel), List.mem_of_getElem? (i := 469) (by decide +kernel)⟩
theorem lw_p28 : lw_okq (⟨"FeedCheck$Melt", "isSooner", "(II)Z"⟩, 9) := ⟨⟨by decide +kernel, by decide +kernel⟩, List.mem_of_getElem? (i := 177) (by decide +kernel), List.mem_of_getElem? (i := 472) (by decide +kernel), List.mem_of_getElem? (i := 473) (by decide +kernel)⟩
theorem lw_p29 : lw_okq (⟨"FeedCheck$Melt", "latestNeighbour", "(I)I"⟩, 9) := ⟨⟨by decide +kernel, by decide +kernel⟩, List.mem_of_getElem? (i := 177) (by decide +kernel), List.mem_of_getElem? (i := 476) (by decide +kernel), List.mem_of_getElem? (i := 477) (by decide +kernel)⟩
theorem lw_p30 : lw_okq (⟨"FeedCheck$Melt", "later", "(II)I"⟩, 9) := ⟨⟨by decide +kernel, by decide +kernel⟩, List.mem_of_getElem? (i := 177) (by decide +kernel), List.mem_of_getElem? (i := 480) (by decide +kernel), List.mem_of_getElem? (i := 481) (by decide +kernel)⟩
theorem lw_p31 : lw_okq (⟨"FeedCheck$Melt", "drowner", "(I)I"⟩, 9) := ⟨⟨by decide +kernel, by decide +kernel⟩, List.mem_of_getElem? (i := 177) (by decide +kernel), List.mem_of_getElem? (i := 484) (by decide +kernel), List.mem_of_getElem? (i := 485) (by decide +kernel)⟩
def lw_privs_2 : List (MethodName × Nat) := [(⟨"FeedCheck$Fit", "addRiser", "(III)V"⟩, 5), (⟨"FeedCheck$Reader", "chillStands", "()Z"⟩, 7), (⟨"FeedCheck$Reader", "ruleStands", "()Z"⟩, 7), (⟨"FeedCheck$Reader", "isSemicolon", "()Z"⟩, 7), (⟨"FeedCheck", "forgetAll", "()V"⟩, 10), (⟨"FeedCheck$Bin", "vanish", "()V"⟩, 4), (⟨"FeedCheck", "isSection", "(I)Z"⟩, 10), (⟨"FeedCheck$Melt", "settle", "()V"⟩, 9), (⟨"FeedCheck$Melt", "belowWith", "(II)I"⟩, 9), (⟨"FeedCheck$Melt", "climb", "(I)V"⟩, 9), (⟨"FeedCheck$Melt", "isTop", "(I)Z"⟩, 9), (⟨"FeedCheck$Melt", "isNeighbour", "(II)Z"⟩, 9), (⟨"FeedCheck$Melt", "isSooner", "(II)Z"⟩, 9), (⟨"FeedCheck$Melt", "latestNeighbour", "(I)I"⟩, 9), (⟨"FeedCheck$Melt", "later", "(II)I"⟩, 9), (⟨"FeedCheck$Melt", "drowner", "(I)I"⟩, 9)]
theorem lw_r2 : ∀ q ∈ lw_privs_2, lw_okq q := List.forall_mem_cons.mpr ⟨lw_p16, List.forall_mem_cons.mpr ⟨lw_p17, List.forall_mem_cons.mpr ⟨lw_p18, List.forall_mem_cons.mpr ⟨lw_p19, List.forall_mem_cons.mpr ⟨lw_p20, List.forall_mem_cons.mpr ⟨lw_p21, List.forall_mem_cons.mpr ⟨lw_p22, List.forall_mem_cons.mpr ⟨lw_p23, List.forall_mem_cons.mpr ⟨lw_p24, List.forall_mem_cons.mpr ⟨lw_p25, List.forall_mem_cons.mpr ⟨lw_p26, List.forall_mem_cons.mpr ⟨lw_p27, List.forall_mem_cons.mpr ⟨lw_p28, List.forall_mem_cons.mpr ⟨lw_p29, List.forall_mem_cons.mpr ⟨lw_p30, List.forall_mem_cons.mpr ⟨lw_p31, fun _ h => absurd h List.not_mem_nil⟩⟩⟩⟩⟩⟩⟩⟩⟩⟩⟩⟩⟩⟩⟩⟩
theorem lw_p32 : lw_okq (⟨"FeedCheck$Melt", "passBetween", "(II)I"⟩, 9) := ⟨⟨by decide +kernel, by decide +kernel⟩, List.mem_of_getElem? (i := 177) (by decide +kernel), List.mem_of_getElem? (i := 488) (by decide +kernel), List.mem_of_getElem? (i := 489) (by decide +kernel)⟩
theorem lw_p33 : lw_okq (⟨"FeedCheck$Melt", "drowns", "(II)Z"⟩, 9) := ⟨⟨by decide +kernel, by decide +kernel⟩, List.mem_of_getElem? (i := 177) (by decide +kernel), List.mem_of_getElem? (i := 492) (by decide +kernel), List.mem_of_getElem? (i := 493) (by decide +kernel)⟩
theorem lw_p34 : lw_okq (⟨"FeedCheck$Melt", "headOf", "(I)I"⟩, 9) := ⟨⟨by decide +kernel, by decide +kernel⟩, List.mem_of_getElem? (i := 177) (by decide +kernel), List.mem_of_getElem? (i := 496) (by decide +kernel), List.mem_of_getElem? (i := 497) (by decide +kernel)⟩
theorem lw_p35 : lw_okq (⟨"FeedCheck$Melt", "commonPart", "(I)I"⟩, 9) := ⟨⟨by decide +kernel, by decide +kernel⟩, List.mem_of_getElem? (i := 177) (by decide +kernel), List.mem_of_getElem? (i := 500) (by decide +kernel), List.mem_of_getElem? (i := 501) (by decide +kernel)⟩
theorem lw_p36 : lw_okq (⟨"FeedCheck$Melt", "basin", "(I)I"⟩, 9) := ⟨⟨by decide +kernel, by decide +kernel⟩, List.mem_of_getElem? (i := 177) (by decide +kernel), List.mem_of_getElem? (i := 512) (by decide +kernel), List.mem_of_getElem? (i := 513) (by decide +kernel)⟩
theorem lw_p37 : lw_okq (⟨"FeedCheck$Melt", "allRisers", "()I"⟩, 9) := ⟨⟨by decide +kernel, by decide +kernel⟩, List.mem_of_getElem? (i := 177) (by decide +kernel), List.mem_of_getElem? (i := 516) (by decide +kernel), List.mem_of_getElem? (i := 517) (by decide +kernel)⟩
theorem lw_p38 : lw_okq (⟨"FeedCheck$Melt", "feeder", "(II)I"⟩, 9) := ⟨⟨by decide +kernel, by decide +kernel⟩, List.mem_of_getElem? (i := 177) (by decide +kernel), List.mem_of_getElem? (i := 520) (by decide +kernel), List.mem_of_getElem? (i := 521) (by decide +kernel)⟩
theorem lw_p39 : lw_okq (⟨"FeedCheck$Melt", "outlasts", "(III)Z"⟩, 9) := ⟨⟨by decide +kernel, by decide +kernel⟩, List.mem_of_getElem? (i := 177) (by decide +kernel), List.mem_of_getElem? (i := 524) (by decide +kernel), List.mem_of_getElem? (i := 525) (by decide +kernel)⟩
theorem lw_p40 : lw_okq (⟨"FeedCheck", "isRiser", "(I)Z"⟩, 10) := ⟨⟨by decide +kernel, by decide +kernel⟩, List.mem_of_getElem? (i := 19) (by decide +kernel), List.mem_of_getElem? (i := 532) (by decide +kernel), List.mem_of_getElem? (i := 533) (by decide +kernel)⟩
theorem lw_p41 : lw_okq (⟨"FeedCheck$Melt", "starvedBy", "(I)I"⟩, 9) := ⟨⟨by decide +kernel, by decide +kernel⟩, List.mem_of_getElem? (i := 177) (by decide +kernel), List.mem_of_getElem? (i := 536) (by decide +kernel), List.mem_of_getElem? (i := 537) (by decide +kernel)⟩
theorem lw_p42 : lw_okq (⟨"FeedCheck$Melt", "fedTops", "(I)I"⟩, 9) := ⟨⟨by decide +kernel, by decide +kernel⟩, List.mem_of_getElem? (i := 177) (by decide +kernel), List.mem_of_getElem? (i := 541) (by decide +kernel), List.mem_of_getElem? (i := 542) (by decide +kernel)⟩
theorem lw_p43 : lw_okq (⟨"FeedCheck$History", "remember", "(LFeedCheck$Fit;)V"⟩, 3) := ⟨⟨by decide +kernel, by decide +kernel⟩, List.mem_of_getElem? (i := 157) (by decide +kernel), List.mem_of_getElem? (i := 553) (by decide +kernel), List.mem_of_getElem? (i := 554) (by decide +kernel)⟩
theorem lw_p44 : lw_okq (⟨"FeedCheck$Fit", "removeRiser", "(I)V"⟩, 5) := ⟨⟨by decide +kernel, by decide +kernel⟩, List.mem_of_getElem? (i := 50) (by decide +kernel), List.mem_of_getElem? (i := 566) (by decide +kernel), List.mem_of_getElem? (i := 567) (by decide +kernel)⟩
theorem lw_p45 : lw_okq (⟨"FeedCheck$Melt", "tops", "()I"⟩, 9) := ⟨⟨by decide +kernel, by decide +kernel⟩, List.mem_of_getElem? (i := 177) (by decide +kernel), List.mem_of_getElem? (i := 581) (by decide +kernel), List.mem_of_getElem? (i := 582) (by decide +kernel)⟩
theorem lw_p46 : lw_okq (⟨"FeedCheck$History", "recall", "(LFeedCheck$Fit;)V"⟩, 3) := ⟨⟨by decide +kernel, by decide +kernel⟩, List.mem_of_getElem? (i := 157) (by decide +kernel), List.mem_of_getElem? (i := 595) (by decide +kernel), List.mem_of_getElem? (i := 596) (by decide +kernel)⟩
theorem lw_p47 : lw_okq (⟨"FeedCheck$Melt", "atRank", "(I)I"⟩, 9) := ⟨⟨by decide +kernel, by decide +kernel⟩, List.mem_of_getElem? (i := 177) (by decide +kernel), List.mem_of_getElem? (i := 614) (by decide +kernel), List.mem_of_getElem? (i := 615) (by decide +kernel)⟩
def lw_privs_3 : List (MethodName × Nat) := [(⟨"FeedCheck$Melt", "passBetween", "(II)I"⟩, 9), (⟨"FeedCheck$Melt", "drowns", "(II)Z"⟩, 9), (⟨"FeedCheck$Melt", "headOf", "(I)I"⟩, 9), (⟨"FeedCheck$Melt", "commonPart", "(I)I"⟩, 9), (⟨"FeedCheck$Melt", "basin", "(I)I"⟩, 9), (⟨"FeedCheck$Melt", "allRisers", "()I"⟩, 9), (⟨"FeedCheck$Melt", "feeder", "(II)I"⟩, 9), (⟨"FeedCheck$Melt", "outlasts", "(III)Z"⟩, 9), (⟨"FeedCheck", "isRiser", "(I)Z"⟩, 10), (⟨"FeedCheck$Melt", "starvedBy", "(I)I"⟩, 9), (⟨"FeedCheck$Melt", "fedTops", "(I)I"⟩, 9), (⟨"FeedCheck$History", "remember", "(LFeedCheck$Fit;)V"⟩, 3), (⟨"FeedCheck$Fit", "removeRiser", "(I)V"⟩, 5), (⟨"FeedCheck$Melt", "tops", "()I"⟩, 9), (⟨"FeedCheck$History", "recall", "(LFeedCheck$Fit;)V"⟩, 3), (⟨"FeedCheck$Melt", "atRank", "(I)I"⟩, 9)]
theorem lw_r3 : ∀ q ∈ lw_privs_3, lw_okq q := List.forall_mem_cons.mpr ⟨lw_p32, List.forall_mem_cons.mpr ⟨lw_p33, List.forall_mem_cons.mpr ⟨lw_p34, List.forall_mem_cons.mpr ⟨lw_p35, List.forall_mem_cons.mpr ⟨lw_p36, List.forall_mem_cons.mpr ⟨lw_p37, List.forall_mem_cons.mpr ⟨lw_p38, List.forall_mem_cons.mpr ⟨lw_p39, List.forall_mem_cons.mpr ⟨lw_p40, List.forall_mem_cons.mpr ⟨lw_p41, List.forall_mem_cons.mpr ⟨lw_p42, List.forall_mem_cons.mpr ⟨lw_p43, List.forall_mem_cons.mpr ⟨lw_p44, List.forall_mem_cons.mpr ⟨lw_p45, List.forall_mem_cons.mpr ⟨lw_p46, List.forall_mem_cons.mpr ⟨lw_p47, fun _ h => absurd h List.not_mem_nil⟩⟩⟩⟩⟩⟩⟩⟩⟩⟩⟩⟩⟩⟩⟩⟩
theorem lw_p48 : lw_okq (⟨"FeedCheck$Melt", "rank", "(I)I"⟩, 9) := ⟨⟨by decide +kernel, by decide +kernel⟩, List.mem_of_getElem? (i := 177) (by decide +kernel), List.mem_of_getElem? (i := 618) (by decide +kernel), List.mem_of_getElem? (i := 619) (by decide +kernel)⟩
theorem lw_p49 : lw_okq (⟨"FeedCheck$Melt", "leastVolume", "(II)I"⟩, 9) := ⟨⟨by decide +kernel, by decide +kernel⟩, List.mem_of_getElem? (i := 177) (by decide +kernel), List.mem_of_getElem? (i := 631) (by decide +kernel), List.mem_of_getElem? (i := 632) (by decide +kernel)⟩
theorem lw_p50 : lw_okq (⟨"FeedCheck$Melt", "bestChilled", "(I)I"⟩, 9) := ⟨⟨by decide +kernel, by decide +kernel⟩, List.mem_of_getElem? (i := 177) (by decide +kernel), List.mem_of_getElem? (i := 639) (by decide +kernel), List.mem_of_getElem? (i := 640) (by decide +kernel)⟩
theorem lw_p51 : lw_okq (⟨"FeedCheck$Melt", "topsIfChilled", "(II)I"⟩, 9) := ⟨⟨by decide +kernel, by decide +kernel⟩, List.mem_of_getElem? (i := 177) (by decide +kernel), List.mem_of_getElem? (i := 643) (by decide +kernel), List.mem_of_getElem? (i := 644) (by decide +kernel)⟩
theorem lw_p52 : lw_okq (⟨"FeedCheck$Melt", "fewestRisers", "()I"⟩, 9) := ⟨⟨by decide +kernel, by decide +kernel⟩, List.mem_of_getElem? (i := 177) (by decide +kernel), List.mem_of_getElem? (i := 655) (by decide +kernel), List.mem_of_getElem? (i := 656) (by decide +kernel)⟩
theorem lw_p53 : lw_okq (⟨"FeedCheck$Bin", "begin", "(I)V"⟩, 4) := ⟨⟨by decide +kernel, by decide +kernel⟩, List.mem_of_getElem? (i := 219) (by decide +kernel), List.mem_of_getElem? (i := 666) (by decide +kernel), List.mem_of_getElem? (i := 667) (by decide +kernel)⟩
theorem lw_p54 : lw_okq (⟨"FeedCheck$Bin", "addThing", "(II)I"⟩, 4) := ⟨⟨by decide +kernel, by decide +kernel⟩, List.mem_of_getElem? (i := 219) (by decide +kernel), List.mem_of_getElem? (i := 674) (by decide +kernel), List.mem_of_getElem? (i := 675) (by decide +kernel)⟩
theorem lw_p55 : lw_okq (⟨"FeedCheck$Bin", "greatest", "()I"⟩, 4) := ⟨⟨by decide +kernel, by decide +kernel⟩, List.mem_of_getElem? (i := 219) (by decide +kernel), List.mem_of_getElem? (i := 689) (by decide +kernel), List.mem_of_getElem? (i := 690) (by decide +kernel)⟩
theorem lw_p56 : lw_okq (⟨"FeedCheck$Bin", "smallest", "()I"⟩, 4) := ⟨⟨by decide +kernel, by decide +kernel⟩, List.mem_of_getElem? (i := 219) (by decide +kernel), List.mem_of_getElem? (i := 696) (by decide +kernel), List.mem_of_getElem? (i := 697) (by decide +kernel)⟩
theorem lw_p57 : lw_okq (⟨"FeedCheck$Bin", "arrange", "()V"⟩, 4) := ⟨⟨by decide +kernel, by decide +kernel⟩, List.mem_of_getElem? (i := 219) (by decide +kernel), List.mem_of_getElem? (i := 709) (by decide +kernel), List.mem_of_getElem? (i := 710) (by decide +kernel)⟩
theorem lw_p58 : lw_okq (⟨"FeedCheck$Bin", "addAll", "(LFeedCheck$Bin;)I"⟩, 4) := ⟨⟨by decide +kernel, by decide +kernel⟩, List.mem_of_getElem? (i := 219) (by decide +kernel), List.mem_of_getElem? (i := 717) (by decide +kernel), List.mem_of_getElem? (i := 718) (by decide +kernel)⟩
theorem lw_p59 : lw_okq (⟨"FeedCheck$Bin", "together", "()I"⟩, 4) := ⟨⟨by decide +kernel, by decide +kernel⟩, List.mem_of_getElem? (i := 219) (by decide +kernel), List.mem_of_getElem? (i := 726) (by decide +kernel), List.mem_of_getElem? (i := 727) (by decide +kernel)⟩
theorem lw_p60 : lw_okq (⟨"FeedCheck$Plan", "joints", "()I"⟩, 8) := ⟨⟨by decide +kernel, by decide +kernel⟩, List.mem_of_getElem? (i := 44) (by decide +kernel), List.mem_of_getElem? (i := 738) (by decide +kernel), List.mem_of_getElem? (i := 739) (by decide +kernel)⟩
theorem lw_p61 : lw_okq (⟨"FeedCheck", "countOfTops", "(I)I"⟩, 10) := ⟨⟨by decide +kernel, by decide +kernel⟩, List.mem_of_getElem? (i := 19) (by decide +kernel), List.mem_of_getElem? (i := 743) (by decide +kernel), List.mem_of_getElem? (i := 744) (by decide +kernel)⟩
theorem lw_p62 : lw_okq (⟨"FeedCheck$Melt", "drownedTops", "()I"⟩, 9) := ⟨⟨by decide +kernel, by decide +kernel⟩, List.mem_of_getElem? (i := 177) (by decide +kernel), List.mem_of_getElem? (i := 747) (by decide +kernel), List.mem_of_getElem? (i := 748) (by decide +kernel)⟩
theorem lw_p63 : lw_okq (⟨"FeedCheck", "thingsOfAllBins", "()I"⟩, 10) := ⟨⟨by decide +kernel, by decide +kernel⟩, List.mem_of_getElem? (i := 19) (by decide +kernel), List.mem_of_getElem? (i := 752) (by decide +kernel), List.mem_of_getElem? (i := 753) (by decide +kernel)⟩
def lw_privs_4 : List (MethodName × Nat) := [(⟨"FeedCheck$Melt", "rank", "(I)I"⟩, 9), (⟨"FeedCheck$Melt", "leastVolume", "(II)I"⟩, 9), (⟨"FeedCheck$Melt", "bestChilled", "(I)I"⟩, 9), (⟨"FeedCheck$Melt", "topsIfChilled", "(II)I"⟩, 9), (⟨"FeedCheck$Melt", "fewestRisers", "()I"⟩, 9), (⟨"FeedCheck$Bin", "begin", "(I)V"⟩, 4), (⟨"FeedCheck$Bin", "addThing", "(II)I"⟩, 4), (⟨"FeedCheck$Bin", "greatest", "()I"⟩, 4), (⟨"FeedCheck$Bin", "smallest", "()I"⟩, 4), (⟨"FeedCheck$Bin", "arrange", "()V"⟩, 4), (⟨"FeedCheck$Bin", "addAll", "(LFeedCheck$Bin;)I"⟩, 4), (⟨"FeedCheck$Bin", "together", "()I"⟩, 4), (⟨"FeedCheck$Plan", "joints", "()I"⟩, 8), (⟨"FeedCheck", "countOfTops", "(I)I"⟩, 10), (⟨"FeedCheck$Melt", "drownedTops", "()I"⟩, 9), (⟨"FeedCheck", "thingsOfAllBins", "()I"⟩, 10)]
theorem lw_r4 : ∀ q ∈ lw_privs_4, lw_okq q := List.forall_mem_cons.mpr ⟨lw_p48, List.forall_mem_cons.mpr ⟨lw_p49, List.forall_mem_cons.mpr ⟨lw_p50, List.forall_mem_cons.mpr ⟨lw_p51, List.forall_mem_cons.mpr ⟨lw_p52, List.forall_mem_cons.mpr ⟨lw_p53, List.forall_mem_cons.mpr ⟨lw_p54, List.forall_mem_cons.mpr ⟨lw_p55, List.forall_mem_cons.mpr ⟨lw_p56, List.forall_mem_cons.mpr ⟨lw_p57, List.forall_mem_cons.mpr ⟨lw_p58, List.forall_mem_cons.mpr ⟨lw_p59, List.forall_mem_cons.mpr ⟨lw_p60, List.forall_mem_cons.mpr ⟨lw_p61, List.forall_mem_cons.mpr ⟨lw_p62, List.forall_mem_cons.mpr ⟨lw_p63, fun _ h => absurd h List.not_mem_nil⟩⟩⟩⟩⟩⟩⟩⟩⟩⟩⟩⟩⟩⟩⟩⟩
theorem lw_p64 : lw_okq (⟨"FeedCheckModel", "reads", "(Z)Z"⟩, 25) := ⟨⟨by decide +kernel, by decide +kernel⟩, List.mem_of_getElem? (i := 756) (by decide +kernel), List.mem_of_getElem? (i := 854) (by decide +kernel), List.mem_of_getElem? (i := 855) (by decide +kernel)⟩
theorem lw_p65 : lw_okq (⟨"FeedCheckModel", "nextToken", "()V"⟩, 25) := ⟨⟨by decide +kernel, by decide +kernel⟩, List.mem_of_getElem? (i := 756) (by decide +kernel), List.mem_of_getElem? (i := 858) (by decide +kernel), List.mem_of_getElem? (i := 859) (by decide +kernel)⟩
theorem lw_p66 : lw_okq (⟨"FeedCheckModel", "readsClause", "()Z"⟩, 25) := ⟨⟨by decide +kernel, by decide +kernel⟩, List.mem_of_getElem? (i := 756) (by decide +kernel), List.mem_of_getElem? (i := 872) (by decide +kernel), List.mem_of_getElem? (i := 873) (by decide +kernel)⟩
theorem lw_p67 : lw_okq (⟨"FeedCheckModel", "wordHere", "()I"⟩, 25) := ⟨⟨by decide +kernel, by decide +kernel⟩, List.mem_of_getElem? (i := 756) (by decide +kernel), List.mem_of_getElem? (i := 876) (by decide +kernel), List.mem_of_getElem? (i := 877) (by decide +kernel)⟩
theorem lw_p68 : lw_okq (⟨"FeedCheckModel", "readsRest", "(I)Z"⟩, 25) := ⟨⟨by decide +kernel, by decide +kernel⟩, List.mem_of_getElem? (i := 756) (by decide +kernel), List.mem_of_getElem? (i := 880) (by decide +kernel), List.mem_of_getElem? (i := 881) (by decide +kernel)⟩
theorem lw_p69 : lw_okq (⟨"FeedCheckModel", "number", "(IIII)Z"⟩, 25) := ⟨⟨by decide +kernel, by decide +kernel⟩, List.mem_of_getElem? (i := 756) (by decide +kernel), List.mem_of_getElem? (i := 884) (by decide +kernel), List.mem_of_getElem? (i := 885) (by decide +kernel)⟩
theorem lw_p70 : lw_okq (⟨"FeedCheckModel", "readsSection", "(II)Z"⟩, 25) := ⟨⟨by decide +kernel, by decide +kernel⟩, List.mem_of_getElem? (i := 756) (by decide +kernel), List.mem_of_getElem? (i := 888) (by decide +kernel), List.mem_of_getElem? (i := 889) (by decide +kernel)⟩
theorem lw_p71 : lw_okq (⟨"FeedCheckModel", "does", "(I)V"⟩, 25) := ⟨⟨by decide +kernel, by decide +kernel⟩, List.mem_of_getElem? (i := 756) (by decide +kernel), List.mem_of_getElem? (i := 892) (by decide +kernel), List.mem_of_getElem? (i := 893) (by decide +kernel)⟩
theorem lw_p72 : lw_okq (⟨"FeedCheckModel", "anew", "()V"⟩, 25) := ⟨⟨by decide +kernel, by decide +kernel⟩, List.mem_of_getElem? (i := 756) (by decide +kernel), List.mem_of_getElem? (i := 896) (by decide +kernel), List.mem_of_getElem? (i := 897) (by decide +kernel)⟩
theorem lw_p73 : lw_okq (⟨"FeedCheckModel", "addRiser", "(III)V"⟩, 25) := ⟨⟨by decide +kernel, by decide +kernel⟩, List.mem_of_getElem? (i := 756) (by decide +kernel), List.mem_of_getElem? (i := 900) (by decide +kernel), List.mem_of_getElem? (i := 901) (by decide +kernel)⟩
theorem lw_p74 : lw_okq (⟨"FeedCheckModel", "copyRow", "(II)V"⟩, 25) := ⟨⟨by decide +kernel, by decide +kernel⟩, List.mem_of_getElem? (i := 756) (by decide +kernel), List.mem_of_getElem? (i := 908) (by decide +kernel), List.mem_of_getElem? (i := 909) (by decide +kernel)⟩
theorem lw_p75 : lw_okq (⟨"FeedCheckModel", "isSection", "(I)Z"⟩, 25) := ⟨⟨by decide +kernel, by decide +kernel⟩, List.mem_of_getElem? (i := 756) (by decide +kernel), List.mem_of_getElem? (i := 916) (by decide +kernel), List.mem_of_getElem? (i := 917) (by decide +kernel)⟩
theorem lw_p76 : lw_okq (⟨"FeedCheckModel", "skinOf", "(I)I"⟩, 25) := ⟨⟨by decide +kernel, by decide +kernel⟩, List.mem_of_getElem? (i := 756) (by decide +kernel), List.mem_of_getElem? (i := 920) (by decide +kernel), List.mem_of_getElem? (i := 921) (by decide +kernel)⟩
theorem lw_p77 : lw_okq (⟨"FeedCheckModel", "isTop", "(I)Z"⟩, 25) := ⟨⟨by decide +kernel, by decide +kernel⟩, List.mem_of_getElem? (i := 756) (by decide +kernel), List.mem_of_getElem? (i := 927) (by decide +kernel), List.mem_of_getElem? (i := 928) (by decide +kernel)⟩
theorem lw_p78 : lw_okq (⟨"FeedCheckModel", "latest", "(I)I"⟩, 25) := ⟨⟨by decide +kernel, by decide +kernel⟩, List.mem_of_getElem? (i := 756) (by decide +kernel), List.mem_of_getElem? (i := 931) (by decide +kernel), List.mem_of_getElem? (i := 932) (by decide +kernel)⟩
theorem lw_p79 : lw_okq (⟨"FeedCheckModel", "isLater", "(II)Z"⟩, 25) := ⟨⟨by decide +kernel, by decide +kernel⟩, List.mem_of_getElem? (i := 756) (by decide +kernel), List.mem_of_getElem? (i := 938) (by decide +kernel), List.mem_of_getElem? (i := 939) (by decide +kernel)⟩
def lw_privs_5 : List (MethodName × Nat) := [(⟨"FeedCheckModel", "reads", "(Z)Z"⟩, 25), (⟨"FeedCheckModel", "nextToken", "()V"⟩, 25), (⟨"FeedCheckModel", "readsClause", "()Z"⟩, 25), (⟨"FeedCheckModel", "wordHere", "()I"⟩, 25), (⟨"FeedCheckModel", "readsRest", "(I)Z"⟩, 25), (⟨"FeedCheckModel", "number", "(IIII)Z"⟩, 25), (⟨"FeedCheckModel", "readsSection", "(II)Z"⟩, 25), (⟨"FeedCheckModel", "does", "(I)V"⟩, 25), (⟨"FeedCheckModel", "anew", "()V"⟩, 25), (⟨"FeedCheckModel", "addRiser", "(III)V"⟩, 25), (⟨"FeedCheckModel", "copyRow", "(II)V"⟩, 25), (⟨"FeedCheckModel", "isSection", "(I)Z"⟩, 25), (⟨"FeedCheckModel", "skinOf", "(I)I"⟩, 25), (⟨"FeedCheckModel", "isTop", "(I)Z"⟩, 25), (⟨"FeedCheckModel", "latest", "(I)I"⟩, 25), (⟨"FeedCheckModel", "isLater", "(II)Z"⟩, 25)]
theorem lw_r5 : ∀ q ∈ lw_privs_5, lw_okq q := List.forall_mem_cons.mpr ⟨lw_p64, List.forall_mem_cons.mpr ⟨lw_p65, List.forall_mem_cons.mpr ⟨lw_p66, List.forall_mem_cons.mpr ⟨lw_p67, List.forall_mem_cons.mpr ⟨lw_p68, List.forall_mem_cons.mpr ⟨lw_p69, List.forall_mem_cons.mpr ⟨lw_p70, List.forall_mem_cons.mpr ⟨lw_p71, List.forall_mem_cons.mpr ⟨lw_p72, List.forall_mem_cons.mpr ⟨lw_p73, List.forall_mem_cons.mpr ⟨lw_p74, List.forall_mem_cons.mpr ⟨lw_p75, List.forall_mem_cons.mpr ⟨lw_p76, List.forall_mem_cons.mpr ⟨lw_p77, List.forall_mem_cons.mpr ⟨lw_p78, List.forall_mem_cons.mpr ⟨lw_p79, fun _ h => absurd h List.not_mem_nil⟩⟩⟩⟩⟩⟩⟩⟩⟩⟩⟩⟩⟩⟩⟩⟩
theorem lw_p80 : lw_okq (⟨"FeedCheckModel", "topOf", "(I)I"⟩, 25) := ⟨⟨by decide +kernel, by decide +kernel⟩, List.mem_of_getElem? (i := 756) (by decide +kernel), List.mem_of_getElem? (i := 942) (by decide +kernel), List.mem_of_getElem? (i := 943) (by decide +kernel)⟩
theorem lw_p81 : lw_okq (⟨"FeedCheckModel", "layHeads", "()V"⟩, 25) := ⟨⟨by decide +kernel, by decide +kernel⟩, List.mem_of_getElem? (i := 756) (by decide +kernel), List.mem_of_getElem? (i := 951) (by decide +kernel), List.mem_of_getElem? (i := 952) (by decide +kernel)⟩
theorem lw_p82 : lw_okq (⟨"FeedCheckModel", "head", "(I)I"⟩, 25) := ⟨⟨by decide +kernel, by decide +kernel⟩, List.mem_of_getElem? (i := 756) (by decide +kernel), List.mem_of_getElem? (i := 955) (by decide +kernel), List.mem_of_getElem? (i := 956) (by decide +kernel)⟩
theorem lw_p83 : lw_okq (⟨"FeedCheckModel", "drownedIn", "(I)I"⟩, 25) := ⟨⟨by decide +kernel, by decide +kernel⟩, List.mem_of_getElem? (i := 756) (by decide +kernel), List.mem_of_getElem? (i := 959) (by decide +kernel), List.mem_of_getElem? (i := 960) (by decide +kernel)⟩
theorem lw_p84 : lw_okq (⟨"FeedCheckModel", "tops", "()I"⟩, 25) := ⟨⟨by decide +kernel, by decide +kernel⟩, List.mem_of_getElem? (i := 756) (by decide +kernel), List.mem_of_getElem? (i := 963) (by decide +kernel), List.mem_of_getElem? (i := 964) (by decide +kernel)⟩
theorem lw_p85 : lw_okq (⟨"FeedCheckModel", "passOf", "(II)I"⟩, 25) := ⟨⟨by decide +kernel, by decide +kernel⟩, List.mem_of_getElem? (i := 756) (by decide +kernel), List.mem_of_getElem? (i := 967) (by decide +kernel), List.mem_of_getElem? (i := 968) (by decide +kernel)⟩
theorem lw_p86 : lw_okq (⟨"FeedCheckModel", "basin", "(I)I"⟩, 25) := ⟨⟨by decide +kernel, by decide +kernel⟩, List.mem_of_getElem? (i := 756) (by decide +kernel), List.mem_of_getElem? (i := 971) (by decide +kernel), List.mem_of_getElem? (i := 972) (by decide +kernel)⟩
theorem lw_p87 : lw_okq (⟨"FeedCheckModel", "isHigh", "(II)Z"⟩, 25) := ⟨⟨by decide +kernel, by decide +kernel⟩, List.mem_of_getElem? (i := 756) (by decide +kernel), List.mem_of_getElem? (i := 975) (by decide +kernel), List.mem_of_getElem? (i := 976) (by decide +kernel)⟩
theorem lw_p88 : lw_okq (⟨"FeedCheckModel", "allRisers", "()I"⟩, 25) := ⟨⟨by decide +kernel, by decide +kernel⟩, List.mem_of_getElem? (i := 756) (by decide +kernel), List.mem_of_getElem? (i := 979) (by decide +kernel), List.mem_of_getElem? (i := 980) (by decide +kernel)⟩
theorem lw_p89 : lw_okq (⟨"FeedCheckModel", "feeder", "(II)I"⟩, 25) := ⟨⟨by decide +kernel, by decide +kernel⟩, List.mem_of_getElem? (i := 756) (by decide +kernel), List.mem_of_getElem? (i := 983) (by decide +kernel), List.mem_of_getElem? (i := 984) (by decide +kernel)⟩
theorem lw_p90 : lw_okq (⟨"FeedCheckModel", "outlasts", "(III)Z"⟩, 25) := ⟨⟨by decide +kernel, by decide +kernel⟩, List.mem_of_getElem? (i := 756) (by decide +kernel), List.mem_of_getElem? (i := 987) (by decide +kernel), List.mem_of_getElem? (i := 988) (by decide +kernel)⟩
theorem lw_p91 : lw_okq (⟨"FeedCheckModel", "isRiser", "(I)Z"⟩, 25) := ⟨⟨by decide +kernel, by decide +kernel⟩, List.mem_of_getElem? (i := 756) (by decide +kernel), List.mem_of_getElem? (i := 995) (by decide +kernel), List.mem_of_getElem? (i := 996) (by decide +kernel)⟩
theorem lw_p92 : lw_okq (⟨"FeedCheckModel", "fed", "()I"⟩, 25) := ⟨⟨by decide +kernel, by decide +kernel⟩, List.mem_of_getElem? (i := 756) (by decide +kernel), List.mem_of_getElem? (i := 999) (by decide +kernel), List.mem_of_getElem? (i := 1000) (by decide +kernel)⟩
theorem lw_p93 : lw_okq (⟨"FeedCheckModel", "fedBy", "(I)I"⟩, 25) := ⟨⟨by decide +kernel, by decide +kernel⟩, List.mem_of_getElem? (i := 756) (by decide +kernel), List.mem_of_getElem? (i := 1003) (by decide +kernel), List.mem_of_getElem? (i := 1004) (by decide +kernel)⟩
theorem lw_p94 : lw_okq (⟨"FeedCheckModel", "keepPast", "()V"⟩, 25) := ⟨⟨by decide +kernel, by decide +kernel⟩, List.mem_of_getElem? (i := 756) (by decide +kernel), List.mem_of_getElem? (i := 1012) (by decide +kernel), List.mem_of_getElem? (i := 1013) (by decide +kernel)⟩
theorem lw_p95 : lw_okq (⟨"FeedCheckModel", "add", "(III)I"⟩, 25) := ⟨⟨by decide +kernel, by decide +kernel⟩, List.mem_of_getElem? (i := 756) (by decide +kernel), List.mem_of_getElem? (i := 1078) (by decide +kernel), List.mem_of_getElem? (i := 1079) (by decide +kernel)⟩
def lw_privs_6 : List (MethodName × Nat) := [(⟨"FeedCheckModel", "topOf", "(I)I"⟩, 25), (⟨"FeedCheckModel", "layHeads", "()V"⟩, 25), (⟨"FeedCheckModel", "head", "(I)I"⟩, 25), (⟨"FeedCheckModel", "drownedIn", "(I)I"⟩, 25), (⟨"FeedCheckModel", "tops", "()I"⟩, 25), (⟨"FeedCheckModel", "passOf", "(II)I"⟩, 25), (⟨"FeedCheckModel", "basin", "(I)I"⟩, 25), (⟨"FeedCheckModel", "isHigh", "(II)Z"⟩, 25), (⟨"FeedCheckModel", "allRisers", "()I"⟩, 25), (⟨"FeedCheckModel", "feeder", "(II)I"⟩, 25), (⟨"FeedCheckModel", "outlasts", "(III)Z"⟩, 25), (⟨"FeedCheckModel", "isRiser", "(I)Z"⟩, 25), (⟨"FeedCheckModel", "fed", "()I"⟩, 25), (⟨"FeedCheckModel", "fedBy", "(I)I"⟩, 25), (⟨"FeedCheckModel", "keepPast", "()V"⟩, 25), (⟨"FeedCheckModel", "add", "(III)I"⟩, 25)]
theorem lw_r6 : ∀ q ∈ lw_privs_6, lw_okq q := List.forall_mem_cons.mpr ⟨lw_p80, List.forall_mem_cons.mpr ⟨lw_p81, List.forall_mem_cons.mpr ⟨lw_p82, List.forall_mem_cons.mpr ⟨lw_p83, List.forall_mem_cons.mpr ⟨lw_p84, List.forall_mem_cons.mpr ⟨lw_p85, List.forall_mem_cons.mpr ⟨lw_p86, List.forall_mem_cons.mpr ⟨lw_p87, List.forall_mem_cons.mpr ⟨lw_p88, List.forall_mem_cons.mpr ⟨lw_p89, List.forall_mem_cons.mpr ⟨lw_p90, List.forall_mem_cons.mpr ⟨lw_p91, List.forall_mem_cons.mpr ⟨lw_p92, List.forall_mem_cons.mpr ⟨lw_p93, List.forall_mem_cons.mpr ⟨lw_p94, List.forall_mem_cons.mpr ⟨lw_p95, fun _ h => absurd h List.not_mem_nil⟩⟩⟩⟩⟩⟩⟩⟩⟩⟩⟩⟩⟩⟩⟩⟩
theorem lw_p96 : lw_okq (⟨"FeedCheckModel", "joints", "()I"⟩, 25) := ⟨⟨by decide +kernel, by decide +kernel⟩, List.mem_of_getElem? (i := 756) (by decide +kernel), List.mem_of_getElem? (i := 1114) (by decide +kernel), List.mem_of_getElem? (i := 1115) (by decide +kernel)⟩
theorem lw_p97 : lw_okq (⟨"FeedCheckModel", "drowned", "()I"⟩, 25) := ⟨⟨by decide +kernel, by decide +kernel⟩, List.mem_of_getElem? (i := 756) (by decide +kernel), List.mem_of_getElem? (i := 1118) (by decide +kernel), List.mem_of_getElem? (i := 1119) (by decide +kernel)⟩
theorem lw_p98 : lw_okq (⟨"FeedCheckModel", "allThings", "()I"⟩, 25) := ⟨⟨by decide +kernel, by decide +kernel⟩, List.mem_of_getElem? (i := 756) (by decide +kernel), List.mem_of_getElem? (i := 1122) (by decide +kernel), List.mem_of_getElem? (i := 1123) (by decide +kernel)⟩
def lw_privs_7 : List (MethodName × Nat) := [(⟨"FeedCheckModel", "joints", "()I"⟩, 25), (⟨"FeedCheckModel", "drowned", "()I"⟩, 25), (⟨"FeedCheckModel", "allThings", "()I"⟩, 25)]
theorem lw_r7 : ∀ q ∈ lw_privs_7, lw_okq q := List.forall_mem_cons.mpr ⟨lw_p96, List.forall_mem_cons.mpr ⟨lw_p97, List.forall_mem_cons.mpr ⟨lw_p98, fun _ h => absurd h List.not_mem_nil⟩⟩⟩
def lw_privs : List (MethodName × Nat) := lw_privs_1 ++ (lw_privs_2 ++ (lw_privs_3 ++ (lw_privs_4 ++ (lw_privs_5 ++ (lw_privs_6 ++ (lw_privs_7))))))
def lw_tbl : List Cond := k2_sels lw_privs ++ tables_1
theorem lw_privs_ok : ∀ q ∈ lw_privs, lw_okq q := by
  show ∀ q ∈ lw_privs_1 ++ (lw_privs_2 ++ (lw_privs_3 ++ (lw_privs_4 ++ (lw_privs_5 ++ (lw_privs_6 ++ (lw_privs_7)))))), lw_okq q
  exact List.forall_mem_append.mpr ⟨lw_r1, List.forall_mem_append.mpr ⟨lw_r2, List.forall_mem_append.mpr ⟨lw_r3, List.forall_mem_append.mpr ⟨lw_r4, List.forall_mem_append.mpr ⟨lw_r5, List.forall_mem_append.mpr ⟨lw_r6, lw_r7⟩⟩⟩⟩⟩⟩
end
section
def RX0 : String := "FeedCheck$Bin"
def TX0 : u_T := fun k => match k with
  | 0 => ("FeedCheck$Bin", "things", "[I", true)
  | 1 => ("FeedCheck$Bin", "missing", "Z", false)
  | 2 => ("FeedCheck$Bin", "kind", "I", false)
  | _ => ("FeedCheck$Bin", "size", "I", false)
def tyX0 : Nat → FieldType := fun k => match k with
  | 0 => .array .int
  | 1 => .boolean
  | 2 => .int
  | _ => .int
theorem nmX0 : ∀ a, a < 4 → ∀ b, b < 4 → a ≠ b → (TX0 a).2.1 ≠ (TX0 b).2.1 := by decide +kernel
theorem tyX0_ok : ∀ k, k < 4 → parseFieldDescriptor (TX0 k).2.2.1 = some (tyX0 k) := by decide +kernel
abbrev cX0_init : ByteArray := prog_2_method_1_code
def yX0_init : MethodName := ⟨RX0, "<init>", "()V"⟩
abbrev cX0_begin : ByteArray := prog_2_method_2_code
def yX0_begin : MethodName := ⟨RX0, "begin", "(I)V"⟩
abbrev cX0_vanish : ByteArray := prog_2_method_3_code
def yX0_vanish : MethodName := ⟨RX0, "vanish", "()V"⟩
abbrev cX0_addThing : ByteArray := prog_2_method_4_code
def yX0_addThing : MethodName := ⟨RX0, "addThing", "(II)I"⟩
abbrev cX0_addAll : ByteArray := prog_2_method_5_code
def yX0_addAll : MethodName := ⟨RX0, "addAll", "(LFeedCheck$Bin;)I"⟩
abbrev cX0_greatest : ByteArray := prog_2_method_6_code
def yX0_greatest : MethodName := ⟨RX0, "greatest", "()I"⟩
abbrev cX0_smallest : ByteArray := prog_2_method_7_code
def yX0_smallest : MethodName := ⟨RX0, "smallest", "()I"⟩
abbrev cX0_arrange : ByteArray := prog_2_method_8_code
def yX0_arrange : MethodName := ⟨RX0, "arrange", "()V"⟩
abbrev cX0_together : ByteArray := prog_2_method_9_code
def yX0_together : MethodName := ⟨RX0, "together", "()I"⟩
def RX1 : String := "FeedCheck$Fit"
def TX1 : u_T := fun k => match k with
  | 0 => ("FeedCheck$Fit", "chills", "[I", true)
  | 1 => ("FeedCheck$Fit", "place", "[I", true)
  | 2 => ("FeedCheck$Fit", "volume", "[I", true)
  | 3 => ("FeedCheck$Fit", "skin", "[I", true)
  | _ => ("FeedCheck$Fit", "risers", "I", false)
def tyX1 : Nat → FieldType := fun k => match k with
  | 0 => .array .int
  | 1 => .array .int
  | 2 => .array .int
  | 3 => .array .int
  | _ => .int
theorem nmX1 : ∀ a, a < 5 → ∀ b, b < 5 → a ≠ b → (TX1 a).2.1 ≠ (TX1 b).2.1 := by decide +kernel
theorem tyX1_ok : ∀ k, k < 5 → parseFieldDescriptor (TX1 k).2.2.1 = some (tyX1 k) := by decide +kernel
abbrev cX1_init : ByteArray := prog_3_method_1_code
def yX1_init : MethodName := ⟨RX1, "<init>", "()V"⟩
abbrev cX1_clear : ByteArray := prog_3_method_2_code
def yX1_clear : MethodName := ⟨RX1, "clear", "()V"⟩
abbrev cX1_copyFrom : ByteArray := prog_3_method_3_code
def yX1_copyFrom : MethodName := ⟨RX1, "copyFrom", "(LFeedCheck$Fit;)V"⟩
abbrev cX1_addRiser : ByteArray := prog_3_method_4_code
def yX1_addRiser : MethodName := ⟨RX1, "addRiser", "(III)V"⟩
abbrev cX1_removeRiser : ByteArray := prog_3_method_5_code
def yX1_removeRiser : MethodName := ⟨RX1, "removeRiser", "(I)V"⟩
def RX2 : String := "FeedCheck$History"
def TX2 : u_T := fun k => match k with
  | 0 => ("FeedCheck$History", "past", "[LFeedCheck$Fit;", true)
  | 1 => ("FeedCheck$History", "next", "I", false)
  | _ => ("FeedCheck$History", "size", "I", false)
def tyX2 : Nat → FieldType := fun k => match k with
  | 0 => .array (.object "FeedCheck$Fit")
  | 1 => .int
  | _ => .int
theorem nmX2 : ∀ a, a < 3 → ∀ b, b < 3 → a ≠ b → (TX2 a).2.1 ≠ (TX2 b).2.1 := by decide +kernel
theorem tyX2_ok : ∀ k, k < 3 → parseFieldDescriptor (TX2 k).2.2.1 = some (tyX2 k) := by decide +kernel
abbrev cX2_init : ByteArray := prog_4_method_1_code
def yX2_init : MethodName := ⟨RX2, "<init>", "()V"⟩
abbrev cX2_remember : ByteArray := prog_4_method_2_code
def yX2_remember : MethodName := ⟨RX2, "remember", "(LFeedCheck$Fit;)V"⟩
abbrev cX2_recall : ByteArray := prog_4_method_3_code
def yX2_recall : MethodName := ⟨RX2, "recall", "(LFeedCheck$Fit;)V"⟩
def RX3 : String := "FeedCheck$Melt"
def TX3 : u_T := fun k => match k with
  | 0 => ("FeedCheck$Melt", "above", "[I", true)
  | 1 => ("FeedCheck$Melt", "below", "[I", true)
  | 2 => ("FeedCheck$Melt", "summit", "[I", true)
  | 3 => ("FeedCheck$Melt", "steps", "[I", true)
  | 4 => ("FeedCheck$Melt", "drownedIn", "[I", true)
  | 5 => ("FeedCheck$Melt", "head", "[I", true)
  | 6 => ("FeedCheck$Melt", "plan", "LFeedCheck$Plan;", true)
  | 7 => ("FeedCheck$Melt", "fit", "LFeedCheck$Fit;", true)
  | _ => ("FeedCheck$Melt", "sections", "I", false)
def tyX3 : Nat → FieldType := fun k => match k with
  | 0 => .array .int
  | 1 => .array .int
  | 2 => .array .int
  | 3 => .array .int
  | 4 => .array .int
  | 5 => .array .int
  | 6 => .object "FeedCheck$Plan"
  | 7 => .object "FeedCheck$Fit"
  | _ => .int
theorem nmX3 : ∀ a, a < 9 → ∀ b, b < 9 → a ≠ b → (TX3 a).2.1 ≠ (TX3 b).2.1 := by decide +kernel
theorem tyX3_ok : ∀ k, k < 9 → parseFieldDescriptor (TX3 k).2.2.1 = some (tyX3 k) := by decide +kernel
abbrev cX3_init : ByteArray := prog_5_method_1_code
def yX3_init : MethodName := ⟨RX3, "<init>", "(LFeedCheck$Plan;LFeedCheck$Fit;)V"⟩
abbrev cX3_settle : ByteArray := prog_5_method_2_code
def yX3_settle : MethodName := ⟨RX3, "settle", "()V"⟩
abbrev cX3_belowWith : ByteArray := prog_5_method_3_code
def yX3_belowWith : MethodName := ⟨RX3, "belowWith", "(II)I"⟩
abbrev cX3_isNeighbour : ByteArray := prog_5_method_4_code
def yX3_isNeighbour : MethodName := ⟨RX3, "isNeighbour", "(II)Z"⟩
abbrev cX3_isSooner : ByteArray := prog_5_method_5_code
def yX3_isSooner : MethodName := ⟨RX3, "isSooner", "(II)Z"⟩
abbrev cX3_later : ByteArray := prog_5_method_6_code
def yX3_later : MethodName := ⟨RX3, "later", "(II)I"⟩
abbrev cX3_latestNeighbour : ByteArray := prog_5_method_7_code
def yX3_latestNeighbour : MethodName := ⟨RX3, "latestNeighbour", "(I)I"⟩
abbrev cX3_isTop : ByteArray := prog_5_method_8_code
def yX3_isTop : MethodName := ⟨RX3, "isTop", "(I)Z"⟩
abbrev cX3_climb : ByteArray := prog_5_method_9_code
def yX3_climb : MethodName := ⟨RX3, "climb", "(I)V"⟩
abbrev cX3_basin : ByteArray := prog_5_method_10_code
def yX3_basin : MethodName := ⟨RX3, "basin", "(I)I"⟩
abbrev cX3_passBetween : ByteArray := prog_5_method_11_code
def yX3_passBetween : MethodName := ⟨RX3, "passBetween", "(II)I"⟩
abbrev cX3_drowner : ByteArray := prog_5_method_12_code
def yX3_drowner : MethodName := ⟨RX3, "drowner", "(I)I"⟩
abbrev cX3_drowns : ByteArray := prog_5_method_13_code
def yX3_drowns : MethodName := ⟨RX3, "drowns", "(II)Z"⟩
abbrev cX3_headOf : ByteArray := prog_5_method_14_code
def yX3_headOf : MethodName := ⟨RX3, "headOf", "(I)I"⟩
abbrev cX3_tops : ByteArray := prog_5_method_15_code
def yX3_tops : MethodName := ⟨RX3, "tops", "()I"⟩
abbrev cX3_drownedTops : ByteArray := prog_5_method_16_code
def yX3_drownedTops : MethodName := ⟨RX3, "drownedTops", "()I"⟩
abbrev cX3_allRisers : ByteArray := prog_5_method_17_code
def yX3_allRisers : MethodName := ⟨RX3, "allRisers", "()I"⟩
abbrev cX3_outlasts : ByteArray := prog_5_method_18_code
def yX3_outlasts : MethodName := ⟨RX3, "outlasts", "(III)Z"⟩
abbrev cX3_feeder : ByteArray := prog_5_method_19_code
def yX3_feeder : MethodName := ⟨RX3, "feeder", "(II)I"⟩
abbrev cX3_fedTops : ByteArray := prog_5_method_20_code
def yX3_fedTops : MethodName := ⟨RX3, "fedTops", "(I)I"⟩
abbrev cX3_starvedBy : ByteArray := prog_5_method_21_code
def yX3_starvedBy : MethodName := ⟨RX3, "starvedBy", "(I)I"⟩
abbrev cX3_fewestRisers : ByteArray := prog_5_method_22_code
def yX3_fewestRisers : MethodName := ⟨RX3, "fewestRisers", "()I"⟩
abbrev cX3_leastVolume : ByteArray := prog_5_method_23_code
def yX3_leastVolume : MethodName := ⟨RX3, "leastVolume", "(II)I"⟩
abbrev cX3_atRank : ByteArray := prog_5_method_24_code
def yX3_atRank : MethodName := ⟨RX3, "atRank", "(I)I"⟩
abbrev cX3_rank : ByteArray := prog_5_method_25_code
def yX3_rank : MethodName := ⟨RX3, "rank", "(I)I"⟩
abbrev cX3_topsIfChilled : ByteArray := prog_5_method_26_code
def yX3_topsIfChilled : MethodName := ⟨RX3, "topsIfChilled", "(II)I"⟩
abbrev cX3_bestChilled : ByteArray := prog_5_method_27_code
def yX3_bestChilled : MethodName := ⟨RX3, "bestChilled", "(I)I"⟩
abbrev cX3_commonPart : ByteArray := prog_5_method_28_code
def yX3_commonPart : MethodName := ⟨RX3, "commonPart", "(I)I"⟩
def RX4 : String := "FeedCheck$Plan"
def TX4 : u_T := fun k => match k with
  | 0 => ("FeedCheck$Plan", "volume", "[I", true)
  | 1 => ("FeedCheck$Plan", "skin", "[I", true)
  | 2 => ("FeedCheck$Plan", "neighbours", "[I", true)
  | 3 => ("FeedCheck$Plan", "fit", "LFeedCheck$Fit;", true)
  | 4 => ("FeedCheck$Plan", "sections", "I", false)
  | 5 => ("FeedCheck$Plan", "shareA", "I", false)
  | 6 => ("FeedCheck$Plan", "shareB", "I", false)
  | _ => ("FeedCheck$Plan", "passPart", "I", false)
def tyX4 : Nat → FieldType := fun k => match k with
  | 0 => .array .int
  | 1 => .array .int
  | 2 => .array .int
  | 3 => .object "FeedCheck$Fit"
  | 4 => .int
  | 5 => .int
  | 6 => .int
  | _ => .int
theorem nmX4 : ∀ a, a < 8 → ∀ b, b < 8 → a ≠ b → (TX4 a).2.1 ≠ (TX4 b).2.1 := by decide +kernel
theorem tyX4_ok : ∀ k, k < 8 → parseFieldDescriptor (TX4 k).2.2.1 = some (tyX4 k) := by decide +kernel
abbrev cX4_init : ByteArray := prog_6_method_1_code
def yX4_init : MethodName := ⟨RX4, "<init>", "()V"⟩
abbrev cX4_clear : ByteArray := prog_6_method_2_code
def yX4_clear : MethodName := ⟨RX4, "clear", "()V"⟩
abbrev cX4_copyFrom : ByteArray := prog_6_method_3_code
def yX4_copyFrom : MethodName := ⟨RX4, "copyFrom", "(LFeedCheck$Plan;)V"⟩
abbrev cX4_setRule : ByteArray := prog_6_method_4_code
def yX4_setRule : MethodName := ⟨RX4, "setRule", "(III)V"⟩
abbrev cX4_addSection : ByteArray := prog_6_method_5_code
def yX4_addSection : MethodName := ⟨RX4, "addSection", "(II)V"⟩
abbrev cX4_join : ByteArray := prog_6_method_6_code
def yX4_join : MethodName := ⟨RX4, "join", "(II)V"⟩
abbrev cX4_joints : ByteArray := prog_6_method_7_code
def yX4_joints : MethodName := ⟨RX4, "joints", "()I"⟩
def RX5 : String := "FeedCheck$Reader"
def TX5 : u_T := fun k => match k with
  | 0 => ("FeedCheck$Reader", "text", "LFeedCheck$Text;", true)
  | 1 => ("FeedCheck$Reader", "plan", "LFeedCheck$Plan;", true)
  | 2 => ("FeedCheck$Reader", "kind", "I", false)
  | 3 => ("FeedCheck$Reader", "start", "I", false)
  | 4 => ("FeedCheck$Reader", "end", "I", false)
  | 5 => ("FeedCheck$Reader", "value", "I", false)
  | _ => ("FeedCheck$Reader", "clauses", "I", false)
def tyX5 : Nat → FieldType := fun k => match k with
  | 0 => .object "FeedCheck$Text"
  | 1 => .object "FeedCheck$Plan"
  | 2 => .int
  | 3 => .int
  | 4 => .int
  | 5 => .int
  | _ => .int
theorem nmX5 : ∀ a, a < 7 → ∀ b, b < 7 → a ≠ b → (TX5 a).2.1 ≠ (TX5 b).2.1 := by decide +kernel
theorem tyX5_ok : ∀ k, k < 7 → parseFieldDescriptor (TX5 k).2.2.1 = some (tyX5 k) := by decide +kernel
abbrev cX5_init : ByteArray := prog_7_method_1_code
def yX5_init : MethodName := ⟨RX5, "<init>", "(LFeedCheck$Text;LFeedCheck$Plan;)V"⟩
abbrev cX5_read : ByteArray := prog_7_method_2_code
def yX5_read : MethodName := ⟨RX5, "read", "(LFeedCheck$Plan;)I"⟩
abbrev cX5_clauseStands : ByteArray := prog_7_method_3_code
def yX5_clauseStands : MethodName := ⟨RX5, "clauseStands", "()Z"⟩
abbrev cX5_sectionStands : ByteArray := prog_7_method_4_code
def yX5_sectionStands : MethodName := ⟨RX5, "sectionStands", "()Z"⟩
abbrev cX5_jointStands : ByteArray := prog_7_method_5_code
def yX5_jointStands : MethodName := ⟨RX5, "jointStands", "()Z"⟩
abbrev cX5_riserStands : ByteArray := prog_7_method_6_code
def yX5_riserStands : MethodName := ⟨RX5, "riserStands", "()Z"⟩
abbrev cX5_chillStands : ByteArray := prog_7_method_7_code
def yX5_chillStands : MethodName := ⟨RX5, "chillStands", "()Z"⟩
abbrev cX5_ruleStands : ByteArray := prog_7_method_8_code
def yX5_ruleStands : MethodName := ⟨RX5, "ruleStands", "()Z"⟩
abbrev cX5_numberStands : ByteArray := prog_7_method_9_code
def yX5_numberStands : MethodName := ⟨RX5, "numberStands", "(II)Z"⟩
abbrev cX5_step : ByteArray := prog_7_method_10_code
def yX5_step : MethodName := ⟨RX5, "step", "()V"⟩
abbrev cX5_kindOf : ByteArray := prog_7_method_11_code
def yX5_kindOf : MethodName := ⟨RX5, "kindOf", "(I)I"⟩
abbrev cX5_isSemicolon : ByteArray := prog_7_method_12_code
def yX5_isSemicolon : MethodName := ⟨RX5, "isSemicolon", "()Z"⟩
abbrev cX5_isWord : ByteArray := prog_7_method_13_code
def yX5_isWord : MethodName := ⟨RX5, "isWord", "(Ljava/lang/String;)Z"⟩
def RX6 : String := "FeedCheck$Text"
def TX6 : u_T := fun k => match k with
  | 0 => ("FeedCheck$Text", "letters", "[I", true)
  | _ => ("FeedCheck$Text", "length", "I", false)
def tyX6 : Nat → FieldType := fun k => match k with
  | 0 => .array .int
  | _ => .int
theorem nmX6 : ∀ a, a < 2 → ∀ b, b < 2 → a ≠ b → (TX6 a).2.1 ≠ (TX6 b).2.1 := by decide +kernel
theorem tyX6_ok : ∀ k, k < 2 → parseFieldDescriptor (TX6 k).2.2.1 = some (tyX6 k) := by decide +kernel
abbrev cX6_init : ByteArray := prog_8_method_1_code
def yX6_init : MethodName := ⟨RX6, "<init>", "()V"⟩
abbrev cX6_letterAt : ByteArray := prog_8_method_2_code
def yX6_letterAt : MethodName := ⟨RX6, "letterAt", "(I)I"⟩
def RX7 : String := "FeedCheck"
def TX7 : u_T := fun k => match k with
  | 0 => ("FeedCheck", "text", "LFeedCheck$Text;", true)
  | 1 => ("FeedCheck", "told", "LFeedCheck$Plan;", true)
  | 2 => ("FeedCheck", "trial", "LFeedCheck$Plan;", true)
  | 3 => ("FeedCheck", "reader", "LFeedCheck$Reader;", true)
  | 4 => ("FeedCheck", "now", "LFeedCheck$Fit;", true)
  | 5 => ("FeedCheck", "history", "LFeedCheck$History;", true)
  | 6 => ("FeedCheck", "kept", "[LFeedCheck$Fit;", true)
  | 7 => ("FeedCheck", "wasKept", "[Z", true)
  | 8 => ("FeedCheck", "melt", "LFeedCheck$Melt;", true)
  | _ => ("FeedCheck", "bins", "[LFeedCheck$Bin;", true)
def tyX7 : Nat → FieldType := fun k => match k with
  | 0 => .object "FeedCheck$Text"
  | 1 => .object "FeedCheck$Plan"
  | 2 => .object "FeedCheck$Plan"
  | 3 => .object "FeedCheck$Reader"
  | 4 => .object "FeedCheck$Fit"
  | 5 => .object "FeedCheck$History"
  | 6 => .array (.object "FeedCheck$Fit")
  | 7 => .array .boolean
  | 8 => .object "FeedCheck$Melt"
  | _ => .array (.object "FeedCheck$Bin")
theorem nmX7 : ∀ a, a < 10 → ∀ b, b < 10 → a ≠ b → (TX7 a).2.1 ≠ (TX7 b).2.1 := by decide +kernel
theorem tyX7_ok : ∀ k, k < 10 → parseFieldDescriptor (TX7 k).2.2.1 = some (tyX7 k) := by decide +kernel
abbrev cX7_init : ByteArray := prog_1_method_1_code
def yX7_init : MethodName := ⟨RX7, "<init>", "()V"⟩
abbrev cX7_write : ByteArray := prog_1_method_2_code
def yX7_write : MethodName := ⟨RX7, "write", "(I)I"⟩
abbrev cX7_erase : ByteArray := prog_1_method_3_code
def yX7_erase : MethodName := ⟨RX7, "erase", "()I"⟩
abbrev cX7_fault : ByteArray := prog_1_method_4_code
def yX7_fault : MethodName := ⟨RX7, "fault", "()I"⟩
abbrev cX7_casting : ByteArray := prog_1_method_5_code
def yX7_casting : MethodName := ⟨RX7, "casting", "()I"⟩
abbrev cX7_section : ByteArray := prog_1_method_6_code
def yX7_section : MethodName := ⟨RX7, "section", "(II)I"⟩
abbrev cX7_top : ByteArray := prog_1_method_7_code
def yX7_top : MethodName := ⟨RX7, "top", "(II)I"⟩
abbrev cX7_riser : ByteArray := prog_1_method_8_code
def yX7_riser : MethodName := ⟨RX7, "riser", "(II)I"⟩
abbrev cX7_put : ByteArray := prog_1_method_9_code
def yX7_put : MethodName := ⟨RX7, "put", "(III)I"⟩
abbrev cX7_take : ByteArray := prog_1_method_10_code
def yX7_take : MethodName := ⟨RX7, "take", "(I)I"⟩
abbrev cX7_move : ByteArray := prog_1_method_11_code
def yX7_move : MethodName := ⟨RX7, "move", "(III)I"⟩
abbrev cX7_chill : ByteArray := prog_1_method_12_code
def yX7_chill : MethodName := ⟨RX7, "chill", "(II)I"⟩
abbrev cX7_undo : ByteArray := prog_1_method_13_code
def yX7_undo : MethodName := ⟨RX7, "undo", "()I"⟩
abbrev cX7_keep : ByteArray := prog_1_method_14_code
def yX7_keep : MethodName := ⟨RX7, "keep", "(I)I"⟩
abbrev cX7_back : ByteArray := prog_1_method_15_code
def yX7_back : MethodName := ⟨RX7, "back", "(I)I"⟩
abbrev cX7_order : ByteArray := prog_1_method_16_code
def yX7_order : MethodName := ⟨RX7, "order", "(I)I"⟩
abbrev cX7_pass : ByteArray := prog_1_method_17_code
def yX7_pass : MethodName := ⟨RX7, "pass", "(II)I"⟩
abbrev cX7_need : ByteArray := prog_1_method_18_code
def yX7_need : MethodName := ⟨RX7, "need", "(II)I"⟩
abbrev cX7_best : ByteArray := prog_1_method_19_code
def yX7_best : MethodName := ⟨RX7, "best", "(II)I"⟩
abbrev cX7_least : ByteArray := prog_1_method_20_code
def yX7_least : MethodName := ⟨RX7, "least", "(I)I"⟩
abbrev cX7_bin : ByteArray := prog_1_method_21_code
def yX7_bin : MethodName := ⟨RX7, "bin", "(II)I"⟩
abbrev cX7_addWhole : ByteArray := prog_1_method_22_code
def yX7_addWhole : MethodName := ⟨RX7, "addWhole", "(II)I"⟩
abbrev cX7_addPair : ByteArray := prog_1_method_23_code
def yX7_addPair : MethodName := ⟨RX7, "addPair", "(III)I"⟩
abbrev cX7_find : ByteArray := prog_1_method_24_code
def yX7_find : MethodName := ⟨RX7, "find", "(II)I"⟩
abbrev cX7_pop : ByteArray := prog_1_method_25_code
def yX7_pop : MethodName := ⟨RX7, "pop", "(I)I"⟩
abbrev cX7_sort : ByteArray := prog_1_method_26_code
def yX7_sort : MethodName := ⟨RX7, "sort", "(I)I"⟩
abbrev cX7_pour : ByteArray := prog_1_method_27_code
def yX7_pour : MethodName := ⟨RX7, "pour", "(II)I"⟩
abbrev cX7_sum : ByteArray := prog_1_method_28_code
def yX7_sum : MethodName := ⟨RX7, "sum", "(I)I"⟩
abbrev cX7_drop : ByteArray := prog_1_method_29_code
def yX7_drop : MethodName := ⟨RX7, "drop", "(I)I"⟩
abbrev cX7_count : ByteArray := prog_1_method_30_code
def yX7_count : MethodName := ⟨RX7, "count", "(I)I"⟩
abbrev cX7_isSection : ByteArray := prog_1_method_31_code
def yX7_isSection : MethodName := ⟨RX7, "isSection", "(I)Z"⟩
abbrev cX7_isRiser : ByteArray := prog_1_method_32_code
def yX7_isRiser : MethodName := ⟨RX7, "isRiser", "(I)Z"⟩
abbrev cX7_isSize : ByteArray := prog_1_method_33_code
def yX7_isSize : MethodName := ⟨RX7, "isSize", "(I)Z"⟩
abbrev cX7_isChillStep : ByteArray := prog_1_method_34_code
def yX7_isChillStep : MethodName := ⟨RX7, "isChillStep", "(I)Z"⟩
abbrev cX7_isKeepPlace : ByteArray := prog_1_method_35_code
def yX7_isKeepPlace : MethodName := ⟨RX7, "isKeepPlace", "(I)Z"⟩
abbrev cX7_isBin : ByteArray := prog_1_method_36_code
def yX7_isBin : MethodName := ⟨RX7, "isBin", "(I)Z"⟩
abbrev cX7_isPairPart : ByteArray := prog_1_method_37_code
def yX7_isPairPart : MethodName := ⟨RX7, "isPairPart", "(I)Z"⟩
abbrev cX7_oneIf : ByteArray := prog_1_method_38_code
def yX7_oneIf : MethodName := ⟨RX7, "oneIf", "(Z)I"⟩
abbrev cX7_forgetAll : ByteArray := prog_1_method_39_code
def yX7_forgetAll : MethodName := ⟨RX7, "forgetAll", "()V"⟩
abbrev cX7_countOfTops : ByteArray := prog_1_method_40_code
def yX7_countOfTops : MethodName := ⟨RX7, "countOfTops", "(I)I"⟩
abbrev cX7_thingsOfAllBins : ByteArray := prog_1_method_41_code
def yX7_thingsOfAllBins : MethodName := ⟨RX7, "thingsOfAllBins", "()I"⟩
def RX8 : String := "FeedCheckModel"
def TX8 : u_T := fun k => match k with
  | 0 => ("FeedCheckModel", "row", "[I", true)
  | 1 => ("FeedCheckModel", "sections", "I", false)
  | 2 => ("FeedCheckModel", "volumes", "[I", true)
  | 3 => ("FeedCheckModel", "skins", "[I", true)
  | 4 => ("FeedCheckModel", "joined", "[I", true)
  | 5 => ("FeedCheckModel", "above", "I", false)
  | 6 => ("FeedCheckModel", "below", "I", false)
  | 7 => ("FeedCheckModel", "pass", "I", false)
  | 8 => ("FeedCheckModel", "undos", "I", false)
  | 9 => ("FeedCheckModel", "isKept", "[Z", true)
  | 10 => ("FeedCheckModel", "text", "[I", true)
  | 11 => ("FeedCheckModel", "length", "I", false)
  | 12 => ("FeedCheckModel", "sizes", "[I", true)
  | 13 => ("FeedCheckModel", "kinds", "[I", true)
  | 14 => ("FeedCheckModel", "things", "[I", true)
  | 15 => ("FeedCheckModel", "first", "I", false)
  | 16 => ("FeedCheckModel", "behind", "I", false)
  | 17 => ("FeedCheckModel", "readSections", "I", false)
  | 18 => ("FeedCheckModel", "readRisers", "I", false)
  | 19 => ("FeedCheckModel", "clauses", "I", false)
  | 20 => ("FeedCheckModel", "doing", "Z", false)
  | 21 => ("FeedCheckModel", "numbers", "[I", true)
  | 22 => ("FeedCheckModel", "words", "[I", true)
  | 23 => ("FeedCheckModel", "steps", "I", false)
  | _ => ("FeedCheckModel", "heads", "[I", true)
def tyX8 : Nat → FieldType := fun k => match k with
  | 0 => .array .int
  | 1 => .int
  | 2 => .array .int
  | 3 => .array .int
  | 4 => .array .int
  | 5 => .int
  | 6 => .int
  | 7 => .int
  | 8 => .int
  | 9 => .array .boolean
  | 10 => .array .int
  | 11 => .int
  | 12 => .array .int
  | 13 => .array .int
  | 14 => .array .int
  | 15 => .int
  | 16 => .int
  | 17 => .int
  | 18 => .int
  | 19 => .int
  | 20 => .boolean
  | 21 => .array .int
  | 22 => .array .int
  | 23 => .int
  | _ => .array .int
theorem nmX8 : ∀ a, a < 25 → ∀ b, b < 25 → a ≠ b → (TX8 a).2.1 ≠ (TX8 b).2.1 := by decide +kernel
theorem tyX8_ok : ∀ k, k < 25 → parseFieldDescriptor (TX8 k).2.2.1 = some (tyX8 k) := by decide +kernel
abbrev cX8_init : ByteArray := prog_10_method_1_code
def yX8_init : MethodName := ⟨RX8, "<init>", "()V"⟩
abbrev cX8_in : ByteArray := prog_10_method_2_code
def yX8_in : MethodName := ⟨RX8, "in", "(JJJ)Z"⟩
abbrev cX8_has : ByteArray := prog_10_method_3_code
def yX8_has : MethodName := ⟨RX8, "has", "(II)Z"⟩
abbrev cX8_ones : ByteArray := prog_10_method_4_code
def yX8_ones : MethodName := ⟨RX8, "ones", "(I)I"⟩
abbrev cX8_copyRow : ByteArray := prog_10_method_5_code
def yX8_copyRow : MethodName := ⟨RX8, "copyRow", "(II)V"⟩
abbrev cX8_anew : ByteArray := prog_10_method_6_code
def yX8_anew : MethodName := ⟨RX8, "anew", "()V"⟩
abbrev cX8_write : ByteArray := prog_10_method_7_code
def yX8_write : MethodName := ⟨RX8, "write", "(I)I"⟩
abbrev cX8_erase : ByteArray := prog_10_method_8_code
def yX8_erase : MethodName := ⟨RX8, "erase", "()I"⟩
abbrev cX8_isSmall : ByteArray := prog_10_method_9_code
def yX8_isSmall : MethodName := ⟨RX8, "isSmall", "(I)Z"⟩
abbrev cX8_isDigit : ByteArray := prog_10_method_10_code
def yX8_isDigit : MethodName := ⟨RX8, "isDigit", "(I)Z"⟩
abbrev cX8_nextToken : ByteArray := prog_10_method_11_code
def yX8_nextToken : MethodName := ⟨RX8, "nextToken", "()V"⟩
abbrev cX8_wordHere : ByteArray := prog_10_method_12_code
def yX8_wordHere : MethodName := ⟨RX8, "wordHere", "()I"⟩
abbrev cX8_number : ByteArray := prog_10_method_13_code
def yX8_number : MethodName := ⟨RX8, "number", "(IIII)Z"⟩
abbrev cX8_readsSection : ByteArray := prog_10_method_14_code
def yX8_readsSection : MethodName := ⟨RX8, "readsSection", "(II)Z"⟩
abbrev cX8_readsRest : ByteArray := prog_10_method_15_code
def yX8_readsRest : MethodName := ⟨RX8, "readsRest", "(I)Z"⟩
abbrev cX8_addRiser : ByteArray := prog_10_method_16_code
def yX8_addRiser : MethodName := ⟨RX8, "addRiser", "(III)V"⟩
abbrev cX8_does : ByteArray := prog_10_method_17_code
def yX8_does : MethodName := ⟨RX8, "does", "(I)V"⟩
abbrev cX8_readsClause : ByteArray := prog_10_method_18_code
def yX8_readsClause : MethodName := ⟨RX8, "readsClause", "()Z"⟩
abbrev cX8_reads : ByteArray := prog_10_method_19_code
def yX8_reads : MethodName := ⟨RX8, "reads", "(Z)Z"⟩
abbrev cX8_fault : ByteArray := prog_10_method_20_code
def yX8_fault : MethodName := ⟨RX8, "fault", "()I"⟩
abbrev cX8_casting : ByteArray := prog_10_method_21_code
def yX8_casting : MethodName := ⟨RX8, "casting", "()I"⟩
abbrev cX8_isSection : ByteArray := prog_10_method_22_code
def yX8_isSection : MethodName := ⟨RX8, "isSection", "(I)Z"⟩
abbrev cX8_skinOf : ByteArray := prog_10_method_23_code
def yX8_skinOf : MethodName := ⟨RX8, "skinOf", "(I)I"⟩
abbrev cX8_isLater : ByteArray := prog_10_method_24_code
def yX8_isLater : MethodName := ⟨RX8, "isLater", "(II)Z"⟩
abbrev cX8_latest : ByteArray := prog_10_method_25_code
def yX8_latest : MethodName := ⟨RX8, "latest", "(I)I"⟩
abbrev cX8_divisor : ByteArray := prog_10_method_26_code
def yX8_divisor : MethodName := ⟨RX8, "divisor", "(II)I"⟩
abbrev cX8_isTop : ByteArray := prog_10_method_27_code
def yX8_isTop : MethodName := ⟨RX8, "isTop", "(I)Z"⟩
abbrev cX8_tops : ByteArray := prog_10_method_28_code
def yX8_tops : MethodName := ⟨RX8, "tops", "()I"⟩
abbrev cX8_topOf : ByteArray := prog_10_method_29_code
def yX8_topOf : MethodName := ⟨RX8, "topOf", "(I)I"⟩
abbrev cX8_basin : ByteArray := prog_10_method_30_code
def yX8_basin : MethodName := ⟨RX8, "basin", "(I)I"⟩
abbrev cX8_passOf : ByteArray := prog_10_method_31_code
def yX8_passOf : MethodName := ⟨RX8, "passOf", "(II)I"⟩
abbrev cX8_isHigh : ByteArray := prog_10_method_32_code
def yX8_isHigh : MethodName := ⟨RX8, "isHigh", "(II)Z"⟩
abbrev cX8_drownedIn : ByteArray := prog_10_method_33_code
def yX8_drownedIn : MethodName := ⟨RX8, "drownedIn", "(I)I"⟩
abbrev cX8_head : ByteArray := prog_10_method_34_code
def yX8_head : MethodName := ⟨RX8, "head", "(I)I"⟩
abbrev cX8_layHeads : ByteArray := prog_10_method_35_code
def yX8_layHeads : MethodName := ⟨RX8, "layHeads", "()V"⟩
abbrev cX8_outlasts : ByteArray := prog_10_method_36_code
def yX8_outlasts : MethodName := ⟨RX8, "outlasts", "(III)Z"⟩
abbrev cX8_feeder : ByteArray := prog_10_method_37_code
def yX8_feeder : MethodName := ⟨RX8, "feeder", "(II)I"⟩
abbrev cX8_fedBy : ByteArray := prog_10_method_38_code
def yX8_fedBy : MethodName := ⟨RX8, "fedBy", "(I)I"⟩
abbrev cX8_allRisers : ByteArray := prog_10_method_39_code
def yX8_allRisers : MethodName := ⟨RX8, "allRisers", "()I"⟩
abbrev cX8_fed : ByteArray := prog_10_method_40_code
def yX8_fed : MethodName := ⟨RX8, "fed", "()I"⟩
abbrev cX8_section : ByteArray := prog_10_method_41_code
def yX8_section : MethodName := ⟨RX8, "section", "(II)I"⟩
abbrev cX8_top : ByteArray := prog_10_method_42_code
def yX8_top : MethodName := ⟨RX8, "top", "(II)I"⟩
abbrev cX8_isRiser : ByteArray := prog_10_method_43_code
def yX8_isRiser : MethodName := ⟨RX8, "isRiser", "(I)Z"⟩
abbrev cX8_riser : ByteArray := prog_10_method_44_code
def yX8_riser : MethodName := ⟨RX8, "riser", "(II)I"⟩
abbrev cX8_keepPast : ByteArray := prog_10_method_45_code
def yX8_keepPast : MethodName := ⟨RX8, "keepPast", "()V"⟩
abbrev cX8_put : ByteArray := prog_10_method_46_code
def yX8_put : MethodName := ⟨RX8, "put", "(III)I"⟩
abbrev cX8_take : ByteArray := prog_10_method_47_code
def yX8_take : MethodName := ⟨RX8, "take", "(I)I"⟩
abbrev cX8_move : ByteArray := prog_10_method_48_code
def yX8_move : MethodName := ⟨RX8, "move", "(III)I"⟩
abbrev cX8_chill : ByteArray := prog_10_method_49_code
def yX8_chill : MethodName := ⟨RX8, "chill", "(II)I"⟩
abbrev cX8_undo : ByteArray := prog_10_method_50_code
def yX8_undo : MethodName := ⟨RX8, "undo", "()I"⟩
abbrev cX8_keep : ByteArray := prog_10_method_51_code
def yX8_keep : MethodName := ⟨RX8, "keep", "(I)I"⟩
abbrev cX8_back : ByteArray := prog_10_method_52_code
def yX8_back : MethodName := ⟨RX8, "back", "(I)I"⟩
abbrev cX8_order : ByteArray := prog_10_method_53_code
def yX8_order : MethodName := ⟨RX8, "order", "(I)I"⟩
abbrev cX8_pass : ByteArray := prog_10_method_54_code
def yX8_pass : MethodName := ⟨RX8, "pass", "(II)I"⟩
abbrev cX8_need : ByteArray := prog_10_method_55_code
def yX8_need : MethodName := ⟨RX8, "need", "(II)I"⟩
abbrev cX8_best : ByteArray := prog_10_method_56_code
def yX8_best : MethodName := ⟨RX8, "best", "(II)I"⟩
abbrev cX8_least : ByteArray := prog_10_method_57_code
def yX8_least : MethodName := ⟨RX8, "least", "(I)I"⟩
abbrev cX8_isBin : ByteArray := prog_10_method_58_code
def yX8_isBin : MethodName := ⟨RX8, "isBin", "(I)Z"⟩
abbrev cX8_bin : ByteArray := prog_10_method_59_code
def yX8_bin : MethodName := ⟨RX8, "bin", "(II)I"⟩
abbrev cX8_add : ByteArray := prog_10_method_60_code
def yX8_add : MethodName := ⟨RX8, "add", "(III)I"⟩
abbrev cX8_addWhole : ByteArray := prog_10_method_61_code
def yX8_addWhole : MethodName := ⟨RX8, "addWhole", "(II)I"⟩
abbrev cX8_addPair : ByteArray := prog_10_method_62_code
def yX8_addPair : MethodName := ⟨RX8, "addPair", "(III)I"⟩
abbrev cX8_find : ByteArray := prog_10_method_63_code
def yX8_find : MethodName := ⟨RX8, "find", "(II)I"⟩
abbrev cX8_pop : ByteArray := prog_10_method_64_code
def yX8_pop : MethodName := ⟨RX8, "pop", "(I)I"⟩
abbrev cX8_sort : ByteArray := prog_10_method_65_code
def yX8_sort : MethodName := ⟨RX8, "sort", "(I)I"⟩
abbrev cX8_pour : ByteArray := prog_10_method_66_code
def yX8_pour : MethodName := ⟨RX8, "pour", "(II)I"⟩
abbrev cX8_sum : ByteArray := prog_10_method_67_code
def yX8_sum : MethodName := ⟨RX8, "sum", "(I)I"⟩
abbrev cX8_drop : ByteArray := prog_10_method_68_code
def yX8_drop : MethodName := ⟨RX8, "drop", "(I)I"⟩
abbrev cX8_joints : ByteArray := prog_10_method_69_code
def yX8_joints : MethodName := ⟨RX8, "joints", "()I"⟩
abbrev cX8_drowned : ByteArray := prog_10_method_70_code
def yX8_drowned : MethodName := ⟨RX8, "drowned", "()I"⟩
abbrev cX8_allThings : ByteArray := prog_10_method_71_code
def yX8_allThings : MethodName := ⟨RX8, "allThings", "()I"⟩
abbrev cX8_count : ByteArray := prog_10_method_72_code
def yX8_count : MethodName := ⟨RX8, "count", "(I)I"⟩
def RJ6 : String := "java/lang/Integer"
abbrev cJ6_bitCount_0f7a4 : ByteArray := prog_11_method_49_code
def yJ6_bitCount_0f7a4 : MethodName := ⟨RJ6, "bitCount", "(I)I"⟩
def RJ9 : String := "java/lang/Math"
abbrev cJ9_max_7cf53 : ByteArray := prog_12_method_65_code
def yJ9_max_7cf53 : MethodName := ⟨RJ9, "max", "(II)I"⟩
abbrev cJ9_min_7cf53 : ByteArray := prog_12_method_69_code
def yJ9_min_7cf53 : MethodName := ⟨RJ9, "min", "(II)I"⟩
def RJ0 : String := "java/lang/String"
abbrev cJ0_length_8abf5 : ByteArray := prog_13_method_54_code
def yJ0_length_8abf5 : MethodName := ⟨RJ0, "length", "()I"⟩
abbrev cJ0_charAt_5068e : ByteArray := prog_13_method_56_code
def yJ0_charAt_5068e : MethodName := ⟨RJ0, "charAt", "(I)C"⟩
abbrev cJ0_coder_7d493 : ByteArray := prog_13_method_152_code
def yJ0_coder_7d493 : MethodName := ⟨RJ0, "coder", "()B"⟩
abbrev cJ0_isLatin1_aae02 : ByteArray := prog_13_method_154_code
def yJ0_isLatin1_aae02 : MethodName := ⟨RJ0, "isLatin1", "()Z"⟩
def RJ1 : String := "java/lang/StringLatin1"
abbrev cJ1_charAt_3b067 : ByteArray := prog_14_method_2_code
def yJ1_charAt_3b067 : MethodName := ⟨RJ1, "charAt", "([BI)C"⟩
def RJ7 : String := "java/util/Arrays"
abbrev cJ7_fill_53178 : ByteArray := prog_17_method_103_code
def yJ7_fill_53178 : MethodName := ⟨RJ7, "fill", "([II)V"⟩
def RL : String := "FeedCheckLaw"
abbrev cL_law : ByteArray := code
def yL_law : MethodName := ⟨RL, "law", "([I)Z"⟩
abbrev vwCl : List vw_C := [(RX0, TX0, 4), (RX1, TX1, 5), (RX2, TX2, 3), (RX3, TX3, 9), (RX4, TX4, 8), (RX5, TX5, 7), (RX6, TX6, 2), (RX7, TX7, 10), (RX8, TX8, 25)]
end
section
/-! ===== THE LAYER: one world for all; values are numbers, places of cells, texts; V: the walk, SS: a contract ===== -/
abbrev Mi : Type := MethodName × ByteArray × Nat × Option FieldType
def GW : List Cond := lw_tbl.filter goodWord
def isNest : Cond → Bool
  | .fieldLinkNest .. => true
  | .methodLinkNest .. => true
  | _ => false
def NW : List Cond := tables_1.filter isNest
def wds (M : Mi) : List Cond := .code M.1 M.2.1 M.2.2.1 M.2.2.2 :: GW
theorem gw_t {w : Cond} (i : Nat) (h : tables_1[i]? = some w) (hg : goodWord w = true) : w ∈ GW := List.mem_filter.mpr ⟨List.mem_append_right _ (List.mem_of_getElem? h), hg⟩
theorem gw_s {w : Cond} (h : w ∈ k2_sels lw_privs) (hg : goodWord w = true) : w ∈ GW := List.mem_filter.mpr ⟨List.mem_append_left _ h, hg⟩
theorem nw_t {w : Cond} (i : Nat) (h : tables_1[i]? = some w) (hg : isNest w = true) : w ∈ NW := List.mem_filter.mpr ⟨List.mem_of_getElem? h, hg⟩
theorem gw_good {M M' : Mi} (h : Cond.code M'.1 M'.2.1 M'.2.2.1 M'.2.2.2 ∈ GW) : GoodIn (wds M) (wds M') := by
  intro w hw
  have hw2 : w ∈ GW := (List.mem_cons.mp hw).elim (fun e => e ▸ h) id
  exact ⟨List.mem_cons_of_mem _ hw2, good_of_word (List.mem_filter.mp hw2).2⟩
def i32 (z : Int) : Int32 := Int32.ofInt z
def i64 (z : Int) : Int64 := Int64.ofInt z
abbrev AV : Type := Int ⊕ Nat ⊕ Int ⊕ Nat
abbrev vI (z : Int) : AV := .inl z
abbrev vR (q : Nat) : AV := .inr (.inl q)
abbrev vL (z : Int) : AV := .inr (.inr (.inl z))
abbrev vX (i : Nat) : AV := .inr (.inr (.inr i))
/-- the surroundings: the launch, the classes' numbers and slots, the array classes, the texts' cells and their rows -/
abbrev Ev : Type := Launch × va_G × (Nat → ClassId) × (Nat → Nat) × (Nat → Nat)
def cv (E : Ev) (ad : Nat → Nat) : AV → Value
  | .inl z => .int (i32 z)
  | .inr (.inl q) => .ref (ad q)
  | .inr (.inr (.inl z)) => .long (i64 z)
  | .inr (.inr (.inr 0)) => .null
  | .inr (.inr (.inr (i + 1))) => if i < 6 then .ref (E.2.2.2.1 i) else .ref (E.2.2.2.2 (i - 6))
abbrev Ly : Type := (Nat × Nat) ⊕ (Nat × List Nat) ⊕ (Nat × List Nat)
abbrev yA (t n : Nat) : Ly := .inl (t, n)
abbrev yQ (t : Nat) (cs : List Nat) : Ly := .inr (.inl (t, cs))
abbrev yO (ci : Nat) (cs : List Nat) : Ly := .inr (.inr (ci, cs))
abbrev St : Type := Nat → Nat → Int
def fv (ad : Nat → Nat) (σ : St) (q k : Nat) : Nat → Value
  | 0 => .int (i32 (σ q k))
  | 1 => .null
  | r + 2 => .ref (ad r)
def qv (ad : Nat → Nat) : Nat → Option Nat
  | 0 => none
  | 1 => none
  | r + 2 => some (ad r)
def ce (K : Nat → ClassId) (ad : Nat → Nat) (σ α : St) (q : Nat) : Ly → va_E
  | .inl (t, n) => .inl (K t, n, .inl (fun j => i32 (α q j)))
  | .inr (.inl (t, cs)) => .inl (K t, cs.length, .inr (.inr (.inr (.inr (fun j => qv ad (cs.getD j 1))))))
  | .inr (.inr (ci, cs)) => .inr (ci, (List.range cs.length).map (fun k => fv ad σ q k (cs.getD k 1)))
def mW (L : List Ly) (K : Nat → ClassId) (ad : Nat → Nat) (σ α : St) : va_W := (List.range L.length).map (fun q => (ad q, ce K ad σ α q (L.getD q (yA 0 0))))
theorem mW_len (L : List Ly) (K : Nat → ClassId) (ad : Nat → Nat) (σ α : St) : (mW L K ad σ α).length = L.length := by simp [mW]
theorem mW_get {L : List Ly} (K : Nat → ClassId) (ad : Nat → Nat) (σ α : St) {q : Nat} {y : Ly} (h : L[q]? = some y) : (mW L K ad σ α)[q]? = some (ad q, ce K ad σ α q y) := by
  have hq : q < L.length := (List.getElem?_eq_some_iff.mp h).1
  simp [mW, List.getElem?_map, List.getElem?_range hq, List.getD_eq_getElem?_getD, h]
theorem mW_inv {L : List Ly} {K : Nat → ClassId} {ad : Nat → Nat} {σ α : St} {k : Nat} {e : Nat × va_E} (h : (mW L K ad σ α)[k]? = some e) : ∃ y, L[k]? = some y ∧ e = (ad k, ce K ad σ α k y) := by
  have hk : k < L.length := by rw [← mW_len L K ad σ α]; exact (List.getElem?_eq_some_iff.mp h).1
  refine ⟨L[k], List.getElem?_eq_getElem hk, ?_⟩
  rw [mW_get K ad σ α (List.getElem?_eq_getElem hk)] at h
  exact (Option.some.inj h).symm
def uS (σ : St) (q k : Nat) (v : Int) : St := fun q' k' => if q' = q ∧ k' = k then v else σ q' k'
def uA (α : St) (q : Nat) (f : Nat → Int) : St := fun q' => if q' = q then f else α q'
def uF (f : Nat → Int) (k : Nat) (v : Int) : Nat → Int := fun j => if j = k then v else f j
theorem mW_setL {L : List Ly} {K : Nat → ClassId} {ad : Nat → Nat} {σ α σ' α' : St} {q : Nat} {y : Ly} {e : va_E} (h : q < L.length) (he : e = ce K ad σ' α' q y) (ho : ∀ j z, j ≠ q → ce K ad σ' α' j z = ce K ad σ α j z) : (mW L K ad σ α).set q (ad q, e) = mW (L.set q y) K ad σ' α' := by
  subst he
  apply List.ext_getElem?
  intro j
  rw [List.getElem?_set]
  by_cases hj : q = j
  · subst hj
    rw [if_pos rfl, mW_len, if_pos h, mW_get (y := y)]
    rw [List.getElem?_set, if_pos rfl, if_pos h]
  · rw [if_neg hj]
    by_cases hl : j < L.length
    · rw [mW_get (y := L[j]) K ad σ α (List.getElem?_eq_getElem hl), mW_get (y := L[j]) K ad σ' α', ho j _ (Ne.symm hj)]
      rw [List.getElem?_set, if_neg hj]
      exact List.getElem?_eq_getElem hl
    · rw [List.getElem?_eq_none (by rw [mW_len]; omega), List.getElem?_eq_none (by rw [mW_len, List.length_set]; omega)]
theorem mW_set {L : List Ly} {K : Nat → ClassId} {ad : Nat → Nat} {σ α σ' α' : St} {q : Nat} {y : Ly} {e : va_E} (h : L[q]? = some y) (he : e = ce K ad σ' α' q y) (ho : ∀ j z, j ≠ q → ce K ad σ' α' j z = ce K ad σ α j z) : (mW L K ad σ α).set q (ad q, e) = mW L K ad σ' α' := by
  have hq : q < L.length := (List.getElem?_eq_some_iff.mp h).1
  rw [mW_setL hq he ho]
  congr 1
  apply List.ext_getElem?
  intro j
  rw [List.getElem?_set]
  by_cases hj : q = j
  · subst hj; rw [if_pos rfl, if_pos hq, h]
  · rw [if_neg hj]
theorem ce_uS {K : Nat → ClassId} {ad : Nat → Nat} {σ α : St} {q k : Nat} {v : Int} : ∀ j z, j ≠ q → ce K ad (uS σ q k v) α j z = ce K ad σ α j z := by
  intro j z hj
  have hf : ∀ k', (uS σ q k v) j k' = σ j k' := fun k' => by simp [uS, hj]
  have hv : ∀ k' c, fv ad (uS σ q k v) j k' c = fv ad σ j k' c := by
    intro k' c
    match c with
    | 0 => simp only [fv, hf]
    | 1 => rfl
    | r + 2 => rfl
  match z with
  | .inl (t, n) => rfl
  | .inr (.inl (t, cs)) => rfl
  | .inr (.inr (ci, cs)) => simp only [ce, hv]
theorem ce_uA {K : Nat → ClassId} {ad : Nat → Nat} {σ α : St} {q : Nat} {f : Nat → Int} : ∀ j z, j ≠ q → ce K ad σ (uA α q f) j z = ce K ad σ α j z := by
  intro j z hj
  match z with
  | .inl (t, n) => simp only [ce, uA, if_neg hj]
  | .inr (.inl (t, cs)) => rfl
  | .inr (.inr (ci, cs)) => rfl
def ty4 (K : Nat → ClassId) : List (ClassId × FieldType) := [(K 0, .int), (K 1, .boolean), (K 2, .object RX0), (K 3, .object RX1)]
def NS (U : State) : Prop := ∀ w ∈ NW, va_Nw w U
theorem NS.warm {s U : State} (hW : s.WarmedH U.vm) (h : NS s) : NS U := by
  intro w hw
  have h1 := (List.mem_filter.mp hw).2
  have h2 := h w hw
  match w, h1, h2 with
  | .fieldLinkNest .., _, h2 => exact va_Nw.warmF hW h2
  | .methodLinkNest .., _, h2 => exact va_Nw.warmM hW h2
/-- the texts of the class: their entries, their lengths, their bytes -/
def sxI : List Nat := [48, 57, 62, 67, 72, 77]
def sxT : List String := ["casting", "section", "joint", "riser", "chill", "rule"]
def sxN : List Nat := [7, 7, 5, 5, 5, 4]
def sxB : List (List Int32) := [[99, 97, 115, 116, 105, 110, 103], [115, 101, 99, 116, 105, 111, 110], [106, 111, 105, 110, 116], [114, 105, 115, 101, 114], [99, 104, 105, 108, 108], [114, 117, 108, 101]]
def SX (E : Ev) (A : Nat → Prop) (U : State) (H : Heap) : Prop :=
  vk_S 6 sxN sxB E.2.2.2.1 E.2.2.2.2 A U H ∧ (∀ i, i < 6 → vk_R RX5 (sxI.getD i 0) (sxT.getD i "") (E.2.2.2.1 i) U) ∧ va_Z "java/lang/String" "COMPACT_STRINGS" "Z" (.int 1) A U H
theorem SX.go {E : Ev} {A B : Nat → Prop} {s U : State} {H H1 : Heap} (h : SX E A s H) (hW : s.WarmedH U.vm) (hq : ∀ a : Nat, a < H.size → ¬ A a → H1[a]? = H[a]?) (hAB : ∀ q, B q → A q) : SX E B U H1 :=
  ⟨((h.1.kept hq).narrow hAB).moved hW.alike, fun i hi => (h.2.1 i hi).warm hW, ((h.2.2.kept hq).narrow hAB).moved hW.alike⟩
theorem SX.same {E : Ev} {A : Nat → Prop} {s U : State} {H : Heap} (h : SX E A s H) (hv : U.vm = s.vm) : SX E A U H :=
  ⟨h.1.moved (by rw [hv]; exact Vm.Alike.refl _), fun i hi => (h.2.1 i hi).same hv, h.2.2.moved (by rw [hv]; exact Vm.Alike.refl _)⟩
def AA (ad : Nat → Nat) (n sz : Nat) : Nat → Prop := fun q => (∃ j, j < n ∧ q = ad j) ∨ sz ≤ q
def PreW (E : Ev) (L : List Ly) (ad : Nat → Nat) (σ α : St) (sz : Nat) (U : State) : Prop :=
  U.heap.size = sz ∧ va_P E.2.1 vwCl (mW L E.2.2.1 ad σ α) U.heap ∧ va_K E.2.1 vwCl (ty4 E.2.2.1) U ∧ va_D (fun _ => True) (mW L E.2.2.1 ad σ α) ∧ NS U ∧ SX E (AA ad L.length sz) U U.heap
abbrev Pst : Type := Option AV → List Ly → St → St → Prop
def PostW (E : Ev) (ad : Nat → Nat) (n sz : Nat) (post : Pst) : Array Value → State → Outcome → State → Prop := fun _ st oc t =>
  (∃ (r : Option AV) (L' : List Ly) (ad' : Nat → Nat) (σ' α' : St), oc = .returned (r.map (cv E ad')) ∧ post r L' σ' α' ∧ n ≤ L'.length ∧ (∀ j, j < n ∨ L'.length ≤ j → ad' j = ad j) ∧ va_P E.2.1 vwCl (mW L' E.2.2.1 ad' σ' α') t.heap ∧ va_D (AA ad n sz) (mW L' E.2.2.1 ad' σ' α')) ∧ va_F (AA ad n sz) st t
def rmd (d mc ms : Nat) : Room := { frames := d, cells := mc, slots := ms, locals := 40 * d }
def SS (d : Nat) (M : Mi) (mc ms : Nat) (av : List AV) (L : List Ly) (σ α : St) (post : Pst) : Prop :=
  ∀ (E : Ev) (ad : Nat → Nat) (sz : Nat), Met E.1 M.1 (wds M) (rmd d mc ms) (va_Pc (av.map (cv E ad)) (PreW E L ad σ α sz)) (PostW E ad L.length sz post) mc ms (AA ad L.length sz)
abbrev Cx : Type := Nat × Nat × List AV × Nat × Pst
def Ctx (M : Mi) (X : Cx) (E : Ev) (ad0 : Nat → Nat) (p : Program) (s : State) (m : MethodId) (meth : Method) (c : Code) : Prop :=
  p.tables.exec = Jvm.exec ∧ c.code = M.2.1 ∧ meth.sig.returnType = M.2.2.2 ∧ meth.locks = false ∧ c.maxLocals = M.2.2.1 ∧ s.vm.findClass M.1.cls = some m.cls ∧ meth.name = M.1.name ∧ (∀ w ∈ wds M, w.before (X.2.2.1.map (cv E ad0)).toArray s = true) ∧ va_K E.2.1 vwCl (ty4 E.2.2.1) s ∧ NS s ∧ SX E (AA ad0 X.2.2.2.1 s.heap.size) s s.heap
def LV (E : Ev) (ad : Nat → Nat) (nL : Nat) (lv : List (Option AV)) (ls : Array Slot) : Prop := ls.size = nL ∧ lv_wf ls ∧ ∀ (i : Nat) (v : AV), lv[i]? = some (some v) → ls[i]? = some (Slot.val (cv E ad v))
def V (d : Nat) (M : Mi) (X : Cx) (k n : Nat) (L : List Ly) (σ α : St) (pc : Nat) (lv : List (Option AV)) (st : List AV) : Prop :=
  ∀ (E : Ev) (ad0 ad : Nat → Nat) (p : Program) (e : Env) (s : State) (m : MethodId) (below : List Frame) (meth : Method) (c : Code) (H : Heap) (locs : List Loc) (ls : Array Slot),
    Ctx M X E ad0 p s m meth c → X.2.2.2.1 ≤ L.length → (∀ j, j < X.2.2.2.1 ∨ L.length ≤ j → ad j = ad0 j) →
    va_P E.2.1 vwCl (mW L E.2.2.1 ad σ α) H → va_D (AA ad0 X.2.2.2.1 s.heap.size) (mW L E.2.2.1 ad σ α) → va_S (AA ad0 X.2.2.2.1 s.heap.size) s.heap H locs → LV E ad M.2.2.1 lv ls →
    W p E.1 e (rmd d X.1 X.2.1) s m (X.2.2.1.map (cv E ad0)).toArray below meth c H locs k n (MQ below (PostW E ad0 X.2.2.2.1 s.heap.size X.2.2.2.2) (X.2.2.1.map (cv E ad0)).toArray s X.1 X.2.1 (AA ad0 X.2.2.2.1 s.heap.size)) (F0 m pc ls (st.map (cv E ad)))
end
section
abbrev At (cc : ByteArray) (pc : Nat) (ins : Instr) (len nx : Nat) : Prop := decode cc pc = .ok (ins, len) ∧ pc + len = nx
abbrev InR (z : Int) : Prop := -2147483648 ≤ z ∧ z ≤ 2147483647
theorem i32_t {z : Int} (h : InR z) : (i32 z).toInt = z := Int32.toInt_ofInt_of_le (by have := h.1; omega) (by have := h.2; omega)
theorem i32_add (x y : Int) : i32 x + i32 y = i32 (x + y) := (Int32.ofInt_add x y).symm
theorem i32_sub (x y : Int) : i32 x - i32 y = i32 (x - y) := (Int32.ofInt_sub x y).symm
theorem i32_mul (x y : Int) : i32 x * i32 y = i32 (x * y) := (Int32.ofInt_mul x y).symm
theorem i32_lt {x y : Int} (h : InR x ∧ InR y) : i32 x < i32 y ↔ x < y := by rw [Int32.lt_iff_toInt_lt, i32_t h.1, i32_t h.2]
theorem i32_le {x y : Int} (h : InR x ∧ InR y) : i32 x ≤ i32 y ↔ x ≤ y := by rw [Int32.le_iff_toInt_le, i32_t h.1, i32_t h.2]
theorem i32_eq {x y : Int} (h : InR x ∧ InR y) : i32 x = i32 y ↔ x = y := by
  constructor
  · intro e
    have := congrArg Int32.toInt e
    rwa [i32_t h.1, i32_t h.2] at this
  · intro e; rw [e]
theorem i32_0 : i32 0 = 0 := rfl
theorem i32_cl {z : Int} (h0 : 0 ≤ z) (h1 : z ≤ 2147483647) : (i32 z).toNatClampNeg = z.toNat := by
  have h := i32_t (z := z) ⟨by omega, h1⟩
  show (i32 z).toInt.toNat = z.toNat
  rw [h]
theorem i32_in {z : Int} {n : Nat} (h0 : 0 ≤ z) (h1 : z < n) (hn : n ≤ 2147483647) : vp_in (i32 z) n := by
  rw [vp_in_iff, i32_t ⟨by omega, by omega⟩]
  exact ⟨h0, h1⟩
theorem i32_nat (n : Nat) : i32 (n : Int) = nI n := Int32.ofInt_eq_ofNat
section ROWS
variable {d : Nat} {M : Mi} {X : Cx} {k n : Nat} {L : List Ly} {σ α : St} {pc nx : Nat} {lv : List (Option AV)} {st : List AV}
theorem V.lvw {lv' : List (Option AV)} (h : ∀ (i : Nat) (v : AV), lv'[i]? = some (some v) → lv[i]? = some (some v)) (kk : V d M X k n L σ α pc lv' st) : V d M X k n L σ α pc lv st := by
  intro E ad0 ad p e s m below meth c H locs ls C h1 h2 hP hD hS hl
  exact kk E ad0 ad p e s m below meth c H locs ls C h1 h2 hP hD hS ⟨hl.1, hl.2.1, fun i v hi => hl.2.2 i v (h i v hi)⟩
theorem v_iconst {z : Int} (hd : At M.2.1 pc (.iconst z) 1 nx) (kk : V d M X k n L σ α nx lv (vI z :: st)) : V d M X k n L σ α pc lv st := by
  obtain ⟨hd, rfl⟩ := hd
  intro E ad0 ad p e s m below meth c H locs ls C h1 h2 hP hD hS hl
  exact lv_iconst C.1 C.2.1 hd rfl (kk E ad0 ad p e s m below meth c H locs ls C h1 h2 hP hD hS hl)
theorem v_bipush {z : Int} (hd : At M.2.1 pc (.bipush z) 2 nx) (hz : (Int8.ofInt z).toInt32 = i32 z) (kk : V d M X k n L σ α nx lv (vI z :: st)) : V d M X k n L σ α pc lv st := by
  obtain ⟨hd, rfl⟩ := hd
  intro E ad0 ad p e s m below meth c H locs ls C h1 h2 hP hD hS hl
  exact lv_bipush C.1 C.2.1 hd hz (kk E ad0 ad p e s m below meth c H locs ls C h1 h2 hP hD hS hl)
theorem v_sipush {z : Int} (hd : At M.2.1 pc (.sipush z) 3 nx) (hz : (Int16.ofInt z).toInt32 = i32 z) (kk : V d M X k n L σ α nx lv (vI z :: st)) : V d M X k n L σ α pc lv st := by
  obtain ⟨hd, rfl⟩ := hd
  intro E ad0 ad p e s m below meth c H locs ls C h1 h2 hP hD hS hl
  exact lv_sipush C.1 C.2.1 hd hz (kk E ad0 ad p e s m below meth c H locs ls C h1 h2 hP hD hS hl)
theorem v_iload_n {i : Fin 4} {z : Int} (hd : At M.2.1 pc (.iload_n i) 1 nx) (hi : lv[(i : Nat)]? = some (some (vI z))) (kk : V d M X k n L σ α nx lv (vI z :: st)) : V d M X k n L σ α pc lv st := by
  obtain ⟨hd, rfl⟩ := hd
  intro E ad0 ad p e s m below meth c H locs ls C h1 h2 hP hD hS hl
  exact lv_iload_n C.1 C.2.1 hd rfl (hl.2.2 _ _ hi) (kk E ad0 ad p e s m below meth c H locs ls C h1 h2 hP hD hS hl)
theorem v_iload {i : Nat} {z : Int} (hd : At M.2.1 pc (.iload i) 2 nx) (hi : lv[i]? = some (some (vI z))) (kk : V d M X k n L σ α nx lv (vI z :: st)) : V d M X k n L σ α pc lv st := by
  obtain ⟨hd, rfl⟩ := hd
  intro E ad0 ad p e s m below meth c H locs ls C h1 h2 hP hD hS hl
  exact lv_iload C.1 C.2.1 hd (hl.2.2 _ _ hi) (kk E ad0 ad p e s m below meth c H locs ls C h1 h2 hP hD hS hl)
theorem v_lload_n {i : Fin 4} {z : Int} (hd : At M.2.1 pc (.lload_n i) 1 nx) (hi : lv[(i : Nat)]? = some (some (vL z))) (kk : V d M X k n L σ α nx lv (vL z :: st)) : V d M X k n L σ α pc lv st := by
  obtain ⟨hd, rfl⟩ := hd
  intro E ad0 ad p e s m below meth c H locs ls C h1 h2 hP hD hS hl
  exact lv_lload_n C.1 C.2.1 hd rfl (hl.2.2 _ _ hi) (kk E ad0 ad p e s m below meth c H locs ls C h1 h2 hP hD hS hl)
theorem v_lload {i : Nat} {z : Int} (hd : At M.2.1 pc (.lload i) 2 nx) (hi : lv[i]? = some (some (vL z))) (kk : V d M X k n L σ α nx lv (vL z :: st)) : V d M X k n L σ α pc lv st := by
  obtain ⟨hd, rfl⟩ := hd
  intro E ad0 ad p e s m below meth c H locs ls C h1 h2 hP hD hS hl
  exact lv_lload C.1 C.2.1 hd (hl.2.2 _ _ hi) (kk E ad0 ad p e s m below meth c H locs ls C h1 h2 hP hD hS hl)
theorem v_aload_n {i : Fin 4} {q : Nat} (hd : At M.2.1 pc (.aload_n i) 1 nx) (hi : lv[(i : Nat)]? = some (some (vR q))) (kk : V d M X k n L σ α nx lv (vR q :: st)) : V d M X k n L σ α pc lv st := by
  obtain ⟨hd, rfl⟩ := hd
  intro E ad0 ad p e s m below meth c H locs ls C h1 h2 hP hD hS hl
  exact lv_aload_n C.1 C.2.1 hd rfl (hl.2.2 _ _ hi) (kk E ad0 ad p e s m below meth c H locs ls C h1 h2 hP hD hS hl)
theorem cv_cat (E : Ev) (ad : Nat → Nat) (v : AV) (hv : ∀ z, v ≠ vL z) : (cv E ad v).category = 1 := by
  match v with
  | .inl z => rfl
  | .inr (.inl q) => rfl
  | .inr (.inr (.inl z)) => exact absurd rfl (hv z)
  | .inr (.inr (.inr 0)) => rfl
  | .inr (.inr (.inr (i + 1))) =>
    show (if i < 6 then Value.ref (E.2.2.2.1 i) else Value.ref (E.2.2.2.2 (i - 6))).category = 1
    split <;> rfl
/-- what a store leaves of the locals: no long stands there -/
theorem LV.store {E : Ev} {ad : Nat → Nat} {nL : Nat} {ls : Array Slot} {i : Nat} {v : AV} (h : LV E ad nL lv ls) (hn : lv.all (fun o => match o with | some (.inr (.inr (.inl _))) => false | _ => true) = true) (hl : lv.length ≤ nL) (ls' : Array Slot) (l0 : List (Nat × Value)) (hl0 : ∀ j w, lv[j]? = some (some w) → (j, cv E ad w) ∈ l0)
    (h' : lv_has ls' nL ((i, cv E ad v) :: l0.filter (fun q => !(q.1 == i) && !(q.1 + 1 == i && q.2.category == 2)))) : LV E ad nL (lv.set i (some v)) ls' := by
  refine ⟨h'.1, h'.2.1, fun j w hj => ?_⟩
  rw [List.getElem?_set] at hj
  by_cases hij : i = j
  · subst hij
    rw [if_pos rfl] at hj
    split at hj
    · cases hj; exact h'.2.2 (i, cv E ad v) List.mem_cons_self
    · cases hj
  · rw [if_neg hij] at hj
    refine h'.2.2 (j, cv E ad w) (List.mem_cons_of_mem _ (List.mem_filter.mpr ⟨hl0 j w hj, ?_⟩))
    have hw : (cv E ad w).category = 1 := by
      apply cv_cat
      intro z hz
      subst hz
      have := List.all_eq_true.mp hn _ (List.mem_of_getElem? hj)
      simp at this
    simp [hw, Ne.symm hij]
def lvl (E : Ev) (ad : Nat → Nat) (lv : List (Option AV)) : List (Nat × Value) := (List.range lv.length).filterMap (fun j => (lv.getD j none).map (fun w => (j, cv E ad w)))
theorem lvl_in {E : Ev} {ad : Nat → Nat} : ∀ j w, lv[j]? = some (some w) → (j, cv E ad w) ∈ lvl E ad lv := by
  intro j w h
  have hj : j < lv.length := (List.getElem?_eq_some_iff.mp h).1
  exact List.mem_filterMap.mpr ⟨j, List.mem_range.mpr hj, by simp [List.getD_eq_getElem?_getD, h]⟩
theorem LV.has {E : Ev} {ad : Nat → Nat} {nL : Nat} {ls : Array Slot} (h : LV E ad nL lv ls) : lv_has ls nL (lvl E ad lv) := by
  refine ⟨h.1, h.2.1, fun q hq => ?_⟩
  obtain ⟨j, hj, he⟩ := List.mem_filterMap.mp hq
  have hj2 := List.mem_range.mp hj
  cases hw : lv.getD j none with
  | none => rw [hw] at he; cases he
  | some w =>
    rw [hw] at he
    cases he
    refine h.2.2 j w ?_
    rw [List.getD_eq_getElem?_getD] at hw
    rw [List.getElem?_eq_getElem hj2] at hw ⊢
    simpa using hw
abbrev noL (lv : List (Option AV)) : Prop := lv.all (fun o => match o with | some (.inr (.inr (.inl _))) => false | _ => true) = true
theorem v_istore_n {i : Fin 4} {z : Int} {lv' : List (Option AV)} (hd : At M.2.1 pc (.istore_n i) 1 nx) (hn : noL lv ∧ lv.length = M.2.2.1 ∧ (i : Nat) < M.2.2.1) (hl' : lv.set i (some (vI z)) = lv') (kk : V d M X k n L σ α nx lv' st) : V d M X k n L σ α pc lv (vI z :: st) := by
  obtain ⟨hd, rfl⟩ := hd
  subst hl'
  intro E ad0 ad p e s m below meth c H locs ls C h1 h2 hP hD hS hl
  exact lv_istore_n C.1 C.2.1 hd rfl hl.has hn.2.2 rfl fun ls' h' => kk E ad0 ad p e s m below meth c H locs ls' C h1 h2 hP hD hS (LV.store (v := vI z) hl hn.1 (Nat.le_of_eq hn.2.1) ls' _ lvl_in h')
theorem v_istore {i : Nat} {z : Int} {lv' : List (Option AV)} (hd : At M.2.1 pc (.istore i) 2 nx) (hn : noL lv ∧ lv.length = M.2.2.1 ∧ i < M.2.2.1) (hl' : lv.set i (some (vI z)) = lv') (kk : V d M X k n L σ α nx lv' st) : V d M X k n L σ α pc lv (vI z :: st) := by
  obtain ⟨hd, rfl⟩ := hd
  subst hl'
  intro E ad0 ad p e s m below meth c H locs ls C h1 h2 hP hD hS hl
  exact lv_istore C.1 C.2.1 hd hl.has hn.2.2 rfl fun ls' h' => kk E ad0 ad p e s m below meth c H locs ls' C h1 h2 hP hD hS (LV.store (v := vI z) hl hn.1 (Nat.le_of_eq hn.2.1) ls' _ lvl_in h')
theorem v_astore_n {i : Fin 4} {q : Nat} {lv' : List (Option AV)} (hd : At M.2.1 pc (.astore_n i) 1 nx) (hn : noL lv ∧ lv.length = M.2.2.1 ∧ (i : Nat) < M.2.2.1) (hl' : lv.set i (some (vR q)) = lv') (kk : V d M X k n L σ α nx lv' st) : V d M X k n L σ α pc lv (vR q :: st) := by
  obtain ⟨hd, rfl⟩ := hd
  subst hl'
  intro E ad0 ad p e s m below meth c H locs ls C h1 h2 hP hD hS hl
  exact lv_astore_n C.1 C.2.1 hd rfl hl.has hn.2.2 rfl fun ls' h' => kk E ad0 ad p e s m below meth c H locs ls' C h1 h2 hP hD hS (LV.store (v := vR q) hl hn.1 (Nat.le_of_eq hn.2.1) ls' _ lvl_in h')
theorem v_iinc {i : Nat} {x z : Int} {lv' : List (Option AV)} (hd : At M.2.1 pc (.iinc i z) 3 nx) (hn : noL lv ∧ lv.length = M.2.2.1 ∧ i < M.2.2.1) (hi : lv[i]? = some (some (vI x))) (hl' : lv.set i (some (vI (x + z))) = lv') (kk : V d M X k n L σ α nx lv' st) : V d M X k n L σ α pc lv st := by
  obtain ⟨hd, rfl⟩ := hd
  subst hl'
  intro E ad0 ad p e s m below meth c H locs ls C h1 h2 hP hD hS hl
  obtain ⟨j, hj⟩ := List.getElem?_of_mem (lvl_in (E := E) (ad := ad) _ _ hi)
  exact lv_iinc (v := i32 (x + z)) C.1 C.2.1 hd hl.has hj (i32_add x z) hn.2.2 rfl fun ls' h' => kk E ad0 ad p e s m below meth c H locs ls' C h1 h2 hP hD hS (LV.store (v := vI (x + z)) hl hn.1 (Nat.le_of_eq hn.2.1) ls' _ lvl_in h')
theorem v_iadd {x y : Int} (hd : At M.2.1 pc .iadd 1 nx) (kk : V d M X k n L σ α nx lv (vI (x + y) :: st)) : V d M X k n L σ α pc lv (vI y :: vI x :: st) := by
  obtain ⟨hd, rfl⟩ := hd
  intro E ad0 ad p e s m below meth c H locs ls C h1 h2 hP hD hS hl
  refine lv_iadd (x := i32 x) (y := i32 y) C.1 C.2.1 hd ?_
  rw [i32_add]
  exact kk E ad0 ad p e s m below meth c H locs ls C h1 h2 hP hD hS hl
theorem v_isub {x y : Int} (hd : At M.2.1 pc .isub 1 nx) (kk : V d M X k n L σ α nx lv (vI (x - y) :: st)) : V d M X k n L σ α pc lv (vI y :: vI x :: st) := by
  obtain ⟨hd, rfl⟩ := hd
  intro E ad0 ad p e s m below meth c H locs ls C h1 h2 hP hD hS hl
  refine lv_isub (x := i32 x) (y := i32 y) C.1 C.2.1 hd ?_
  rw [i32_sub]
  exact kk E ad0 ad p e s m below meth c H locs ls C h1 h2 hP hD hS hl
theorem v_imul {x y : Int} (hd : At M.2.1 pc .imul 1 nx) (kk : V d M X k n L σ α nx lv (vI (x * y) :: st)) : V d M X k n L σ α pc lv (vI y :: vI x :: st) := by
  obtain ⟨hd, rfl⟩ := hd
  intro E ad0 ad p e s m below meth c H locs ls C h1 h2 hP hD hS hl
  refine lv_imul (x := i32 x) (y := i32 y) C.1 C.2.1 hd ?_
  rw [i32_mul]
  exact kk E ad0 ad p e s m below meth c H locs ls C h1 h2 hP hD hS hl
theorem v_dup {v : AV} (hd : At M.2.1 pc .dup 1 nx) (hv : ∀ z, v ≠ vL z) (kk : V d M X k n L σ α nx lv (v :: v :: st)) : V d M X k n L σ α pc lv (v :: st) := by
  obtain ⟨hd, rfl⟩ := hd
  intro E ad0 ad p e s m below meth c H locs ls C h1 h2 hP hD hS hl
  exact lv_dup C.1 C.2.1 hd (cv_cat E ad v hv) (kk E ad0 ad p e s m below meth c H locs ls C h1 h2 hP hD hS hl)
theorem v_dup2 {v w : AV} (hd : At M.2.1 pc .dup2 1 nx) (hv : (∀ z, v ≠ vL z) ∧ ∀ z, w ≠ vL z) (kk : V d M X k n L σ α nx lv (v :: w :: v :: w :: st)) : V d M X k n L σ α pc lv (v :: w :: st) := by
  obtain ⟨hd, rfl⟩ := hd
  intro E ad0 ad p e s m below meth c H locs ls C h1 h2 hP hD hS hl
  exact lv_dup2_11 C.1 C.2.1 hd (cv_cat E ad v hv.1) (cv_cat E ad w hv.2) (kk E ad0 ad p e s m below meth c H locs ls C h1 h2 hP hD hS hl)
theorem v_pop {v : AV} (hd : At M.2.1 pc .pop 1 nx) (hv : ∀ z, v ≠ vL z) (kk : V d M X k n L σ α nx lv st) : V d M X k n L σ α pc lv (v :: st) := by
  obtain ⟨hd, rfl⟩ := hd
  intro E ad0 ad p e s m below meth c H locs ls C h1 h2 hP hD hS hl
  exact lv_pop C.1 C.2.1 hd (cv_cat E ad v hv) (kk E ad0 ad p e s m below meth c H locs ls C h1 h2 hP hD hS hl)
theorem v_goto {off : Int} {tgt : Nat} (hd : At M.2.1 pc (.goto off) 3 nx) (ht : (pc : Int) + off = (tgt : Int)) (kk : V d M X k n L σ α tgt lv st) : V d M X k n L σ α pc lv st := by
  obtain ⟨hd, rfl⟩ := hd
  intro E ad0 ad p e s m below meth c H locs ls C h1 h2 hP hD hS hl
  exact lv_goto C.1 C.2.1 hd ht (kk E ad0 ad p e s m below meth c H locs ls C h1 h2 hP hD hS hl)
theorem v_icmp_eq {x y off : Int} {tgt : Nat} (hd : At M.2.1 pc (.if_icmp .eq off) 3 nx) (ht : (pc : Int) + off = (tgt : Int)) (h : InR x ∧ InR y) (kt : x = y → V d M X k n L σ α tgt lv st) (kf : ¬ x = y → V d M X k n L σ α nx lv st) : V d M X k n L σ α pc lv (vI y :: vI x :: st) := by
  obtain ⟨hd, rfl⟩ := hd
  intro E ad0 ad p e s m below meth c H locs ls C h1 h2 hP hD hS hl
  exact lv_icmp_eq (x := i32 x) (y := i32 y) C.1 C.2.1 hd ht (fun q => kt ((i32_eq h).mp q) E ad0 ad p e s m below meth c H locs ls C h1 h2 hP hD hS hl) (fun q => kf (fun r => q ((i32_eq h).mpr r)) E ad0 ad p e s m below meth c H locs ls C h1 h2 hP hD hS hl)
theorem v_if_eq {x off : Int} {tgt : Nat} (hd : At M.2.1 pc (.ifCond .eq off) 3 nx) (ht : (pc : Int) + off = (tgt : Int)) (hx : InR x) (kt : x = 0 → V d M X k n L σ α tgt lv st) (kf : ¬ x = 0 → V d M X k n L σ α nx lv st) : V d M X k n L σ α pc lv (vI x :: st) := by
  obtain ⟨hd, rfl⟩ := hd
  have h : InR x ∧ InR 0 := ⟨hx, by omega, by omega⟩
  intro E ad0 ad p e s m below meth c H locs ls C h1 h2 hP hD hS hl
  exact lv_if_eq (x := i32 x) C.1 C.2.1 hd ht (fun q => kt ((i32_eq h).mp q) E ad0 ad p e s m below meth c H locs ls C h1 h2 hP hD hS hl) (fun q => kf (fun r => q ((i32_eq h).mpr r)) E ad0 ad p e s m below meth c H locs ls C h1 h2 hP hD hS hl)
theorem v_icmp_ne {x y off : Int} {tgt : Nat} (hd : At M.2.1 pc (.if_icmp .ne off) 3 nx) (ht : (pc : Int) + off = (tgt : Int)) (h : InR x ∧ InR y) (kt : ¬ x = y → V d M X k n L σ α tgt lv st) (kf : x = y → V d M X k n L σ α nx lv st) : V d M X k n L σ α pc lv (vI y :: vI x :: st) := by
  obtain ⟨hd, rfl⟩ := hd
  intro E ad0 ad p e s m below meth c H locs ls C h1 h2 hP hD hS hl
  exact lv_icmp_ne (x := i32 x) (y := i32 y) C.1 C.2.1 hd ht (fun q => kt ((not_congr (i32_eq h)).mp q) E ad0 ad p e s m below meth c H locs ls C h1 h2 hP hD hS hl) (fun q => kf ((i32_eq h).mp q) E ad0 ad p e s m below meth c H locs ls C h1 h2 hP hD hS hl)
theorem v_if_ne {x off : Int} {tgt : Nat} (hd : At M.2.1 pc (.ifCond .ne off) 3 nx) (ht : (pc : Int) + off = (tgt : Int)) (hx : InR x) (kt : ¬ x = 0 → V d M X k n L σ α tgt lv st) (kf : x = 0 → V d M X k n L σ α nx lv st) : V d M X k n L σ α pc lv (vI x :: st) := by
  obtain ⟨hd, rfl⟩ := hd
  have h : InR x ∧ InR 0 := ⟨hx, by omega, by omega⟩
  intro E ad0 ad p e s m below meth c H locs ls C h1 h2 hP hD hS hl
  exact lv_if_ne (x := i32 x) C.1 C.2.1 hd ht (fun q => kt ((not_congr (i32_eq h)).mp q) E ad0 ad p e s m below meth c H locs ls C h1 h2 hP hD hS hl) (fun q => kf ((i32_eq h).mp q) E ad0 ad p e s m below meth c H locs ls C h1 h2 hP hD hS hl)
theorem v_icmp_lt {x y off : Int} {tgt : Nat} (hd : At M.2.1 pc (.if_icmp .lt off) 3 nx) (ht : (pc : Int) + off = (tgt : Int)) (h : InR x ∧ InR y) (kt : x < y → V d M X k n L σ α tgt lv st) (kf : ¬ x < y → V d M X k n L σ α nx lv st) : V d M X k n L σ α pc lv (vI y :: vI x :: st) := by
  obtain ⟨hd, rfl⟩ := hd
  intro E ad0 ad p e s m below meth c H locs ls C h1 h2 hP hD hS hl
  exact lv_icmp_lt (x := i32 x) (y := i32 y) C.1 C.2.1 hd ht (fun q => kt ((i32_lt h).mp q) E ad0 ad p e s m below meth c H locs ls C h1 h2 hP hD hS hl) (fun q => kf (fun r => q ((i32_lt h).mpr r)) E ad0 ad p e s m below meth c H locs ls C h1 h2 hP hD hS hl)
theorem v_if_lt {x off : Int} {tgt : Nat} (hd : At M.2.1 pc (.ifCond .lt off) 3 nx) (ht : (pc : Int) + off = (tgt : Int)) (hx : InR x) (kt : x < 0 → V d M X k n L σ α tgt lv st) (kf : ¬ x < 0 → V d M X k n L σ α nx lv st) : V d M X k n L σ α pc lv (vI x :: st) := by
  obtain ⟨hd, rfl⟩ := hd
  have h : InR x ∧ InR 0 := ⟨hx, by omega, by omega⟩
  intro E ad0 ad p e s m below meth c H locs ls C h1 h2 hP hD hS hl
  exact lv_if_lt (x := i32 x) C.1 C.2.1 hd ht (fun q => kt ((i32_lt h).mp q) E ad0 ad p e s m below meth c H locs ls C h1 h2 hP hD hS hl) (fun q => kf (fun r => q ((i32_lt h).mpr r)) E ad0 ad p e s m below meth c H locs ls C h1 h2 hP hD hS hl)
theorem v_icmp_ge {x y off : Int} {tgt : Nat} (hd : At M.2.1 pc (.if_icmp .ge off) 3 nx) (ht : (pc : Int) + off = (tgt : Int)) (h : InR x ∧ InR y) (kt : y ≤ x → V d M X k n L σ α tgt lv st) (kf : ¬ y ≤ x → V d M X k n L σ α nx lv st) : V d M X k n L σ α pc lv (vI y :: vI x :: st) := by
  obtain ⟨hd, rfl⟩ := hd
  intro E ad0 ad p e s m below meth c H locs ls C h1 h2 hP hD hS hl
  exact lv_icmp_ge (x := i32 x) (y := i32 y) C.1 C.2.1 hd ht (fun q => kt ((i32_le ⟨h.2, h.1⟩).mp q) E ad0 ad p e s m below meth c H locs ls C h1 h2 hP hD hS hl) (fun q => kf (fun r => q ((i32_le ⟨h.2, h.1⟩).mpr r)) E ad0 ad p e s m below meth c H locs ls C h1 h2 hP hD hS hl)
theorem v_if_ge {x off : Int} {tgt : Nat} (hd : At M.2.1 pc (.ifCond .ge off) 3 nx) (ht : (pc : Int) + off = (tgt : Int)) (hx : InR x) (kt : 0 ≤ x → V d M X k n L σ α tgt lv st) (kf : ¬ 0 ≤ x → V d M X k n L σ α nx lv st) : V d M X k n L σ α pc lv (vI x :: st) := by
  obtain ⟨hd, rfl⟩ := hd
  have h : InR x ∧ InR 0 := ⟨hx, by omega, by omega⟩
  intro E ad0 ad p e s m below meth c H locs ls C h1 h2 hP hD hS hl
  exact lv_if_ge (x := i32 x) C.1 C.2.1 hd ht (fun q => kt ((i32_le ⟨h.2, h.1⟩).mp q) E ad0 ad p e s m below meth c H locs ls C h1 h2 hP hD hS hl) (fun q => kf (fun r => q ((i32_le ⟨h.2, h.1⟩).mpr r)) E ad0 ad p e s m below meth c H locs ls C h1 h2 hP hD hS hl)
theorem v_icmp_gt {x y off : Int} {tgt : Nat} (hd : At M.2.1 pc (.if_icmp .gt off) 3 nx) (ht : (pc : Int) + off = (tgt : Int)) (h : InR x ∧ InR y) (kt : y < x → V d M X k n L σ α tgt lv st) (kf : ¬ y < x → V d M X k n L σ α nx lv st) : V d M X k n L σ α pc lv (vI y :: vI x :: st) := by
  obtain ⟨hd, rfl⟩ := hd
  intro E ad0 ad p e s m below meth c H locs ls C h1 h2 hP hD hS hl
  exact lv_icmp_gt (x := i32 x) (y := i32 y) C.1 C.2.1 hd ht (fun q => kt ((i32_lt ⟨h.2, h.1⟩).mp q) E ad0 ad p e s m below meth c H locs ls C h1 h2 hP hD hS hl) (fun q => kf (fun r => q ((i32_lt ⟨h.2, h.1⟩).mpr r)) E ad0 ad p e s m below meth c H locs ls C h1 h2 hP hD hS hl)
theorem v_if_gt {x off : Int} {tgt : Nat} (hd : At M.2.1 pc (.ifCond .gt off) 3 nx) (ht : (pc : Int) + off = (tgt : Int)) (hx : InR x) (kt : 0 < x → V d M X k n L σ α tgt lv st) (kf : ¬ 0 < x → V d M X k n L σ α nx lv st) : V d M X k n L σ α pc lv (vI x :: st) := by
  obtain ⟨hd, rfl⟩ := hd
  have h : InR x ∧ InR 0 := ⟨hx, by omega, by omega⟩
  intro E ad0 ad p e s m below meth c H locs ls C h1 h2 hP hD hS hl
  exact lv_if_gt (x := i32 x) C.1 C.2.1 hd ht (fun q => kt ((i32_lt ⟨h.2, h.1⟩).mp q) E ad0 ad p e s m below meth c H locs ls C h1 h2 hP hD hS hl) (fun q => kf (fun r => q ((i32_lt ⟨h.2, h.1⟩).mpr r)) E ad0 ad p e s m below meth c H locs ls C h1 h2 hP hD hS hl)
theorem v_icmp_le {x y off : Int} {tgt : Nat} (hd : At M.2.1 pc (.if_icmp .le off) 3 nx) (ht : (pc : Int) + off = (tgt : Int)) (h : InR x ∧ InR y) (kt : x ≤ y → V d M X k n L σ α tgt lv st) (kf : ¬ x ≤ y → V d M X k n L σ α nx lv st) : V d M X k n L σ α pc lv (vI y :: vI x :: st) := by
  obtain ⟨hd, rfl⟩ := hd
  intro E ad0 ad p e s m below meth c H locs ls C h1 h2 hP hD hS hl
  exact lv_icmp_le (x := i32 x) (y := i32 y) C.1 C.2.1 hd ht (fun q => kt ((i32_le h).mp q) E ad0 ad p e s m below meth c H locs ls C h1 h2 hP hD hS hl) (fun q => kf (fun r => q ((i32_le h).mpr r)) E ad0 ad p e s m below meth c H locs ls C h1 h2 hP hD hS hl)
theorem v_if_le {x off : Int} {tgt : Nat} (hd : At M.2.1 pc (.ifCond .le off) 3 nx) (ht : (pc : Int) + off = (tgt : Int)) (hx : InR x) (kt : x ≤ 0 → V d M X k n L σ α tgt lv st) (kf : ¬ x ≤ 0 → V d M X k n L σ α nx lv st) : V d M X k n L σ α pc lv (vI x :: st) := by
  obtain ⟨hd, rfl⟩ := hd
  have h : InR x ∧ InR 0 := ⟨hx, by omega, by omega⟩
  intro E ad0 ad p e s m below meth c H locs ls C h1 h2 hP hD hS hl
  exact lv_if_le (x := i32 x) C.1 C.2.1 hd ht (fun q => kt ((i32_le h).mp q) E ad0 ad p e s m below meth c H locs ls C h1 h2 hP hD hS hl) (fun q => kf (fun r => q ((i32_le h).mpr r)) E ad0 ad p e s m below meth c H locs ls C h1 h2 hP hD hS hl)
end ROWS
end
section
section HEAP
variable {d : Nat} {M : Mi} {X : Cx} {k n : Nat} {L : List Ly} {σ α : St} {pc nx : Nat} {lv : List (Option AV)} {st : List AV}
theorem Ctx.gw {E : Ev} {ad0 : Nat → Nat} {p : Program} {s : State} {m : MethodId} {meth : Method} {c : Code} (C : Ctx M X E ad0 p s m meth c) {w : Cond} (h : w ∈ GW) : w.before (X.2.2.1.map (cv E ad0)).toArray s = true := C.2.2.2.2.2.2.2.1 w (List.mem_cons_of_mem _ h)
theorem Ctx.gwa {E : Ev} {ad0 : Nat → Nat} {p : Program} {s : State} {m : MethodId} {meth : Method} {c : Code} (C : Ctx M X E ad0 p s m meth c) : ∀ w ∈ GW, w.before (X.2.2.1.map (cv E ad0)).toArray s = true := fun _ h => C.gw h
theorem Ctx.own {E : Ev} {ad0 : Nat → Nat} {p : Program} {s : State} {m : MethodId} {meth : Method} {c : Code} (C : Ctx M X E ad0 p s m meth c) : s.vm.findClass M.1.cls = some m.cls := C.2.2.2.2.2.1
theorem Ctx.K {E : Ev} {ad0 : Nat → Nat} {p : Program} {s : State} {m : MethodId} {meth : Method} {c : Code} (C : Ctx M X E ad0 p s m meth c) : va_K E.2.1 vwCl (ty4 E.2.2.1) s := C.2.2.2.2.2.2.2.2.1
theorem Ctx.ns {E : Ev} {ad0 : Nat → Nat} {p : Program} {s : State} {m : MethodId} {meth : Method} {c : Code} (C : Ctx M X E ad0 p s m meth c) : NS s := C.2.2.2.2.2.2.2.2.2.1
theorem Ctx.sx {E : Ev} {ad0 : Nat → Nat} {p : Program} {s : State} {m : MethodId} {meth : Method} {c : Code} (C : Ctx M X E ad0 p s m meth c) : SX E (AA ad0 X.2.2.2.1 s.heap.size) s s.heap := C.2.2.2.2.2.2.2.2.2.2
theorem Ctx.ml {E : Ev} {ad0 : Nat → Nat} {p : Program} {s : State} {m : MethodId} {meth : Method} {c : Code} (C : Ctx M X E ad0 p s m meth c) : c.maxLocals = M.2.2.1 := C.2.2.2.2.1
/-- a field's link: the entry idx of class own names the field k of the class ci -/
def FL (own : String) (idx ci k : Nat) : Prop := ∃ C T N, vwCl[ci]? = some (C, T, N) ∧ k < N ∧ (∀ w ∈ u_ws C T N, w ∈ GW) ∧ (Cond.fieldLink own idx (T k).1 (T k).2.1 (T k).2.2.1 ∈ GW ∨ ∃ host, Cond.fieldLinkNest own idx (T k).1 (T k).2.1 (T k).2.2.1 host ∈ NW)
theorem ce_obj (K : Nat → ClassId) (ad : Nat → Nat) (σ α : St) (q ci : Nat) (cs : List Nat) : ce K ad σ α q (yO ci cs) = .inr (ci, (List.range cs.length).map (fun k => fv ad σ q k (cs.getD k 1))) := rfl
theorem fs_at {ad : Nat → Nat} {q f c : Nat} {cs : List Nat} (hc : cs[f]? = some c) : ((List.range cs.length).map (fun k => fv ad σ q k (cs.getD k 1)))[f]? = some (fv ad σ q f c) := by
  have hf : f < cs.length := (List.getElem?_eq_some_iff.mp hc).1
  simp [List.getElem?_map, List.getElem?_range hf, List.getD_eq_getElem?_getD, hc]
theorem v_get {q ci f idx c : Nat} {cs : List Nat} (v : AV) (hv : ∀ E ad, fv ad σ q f c = cv E ad v) (hd : At M.2.1 pc (.getfield idx) 3 nx) (hf : FL M.1.cls idx ci f) (hL : L[q]? = some (yO ci cs)) (hc : cs[f]? = some c) (kk : V d M X k n L σ α nx lv (v :: st)) : V d M X k n L σ α pc lv (vR q :: st) := by
  obtain ⟨hd, rfl⟩ := hd
  obtain ⟨C0, T, N, hcl, hk, hin, hlk⟩ := hf
  intro E ad0 ad p e s m below meth c' H locs ls C h1 h2 hP hD hS hl
  have kk' := kk E ad0 ad p e s m below meth c' H locs ls C h1 h2 hP hD hS hl
  have he := mW_get E.2.2.1 ad σ α hL
  rw [ce_obj] at he
  rcases hlk with hlk | ⟨host, hlk⟩
  · exact va_get C.1 C.2.1 C.gwa hin C.own C.K hP q he hcl f hk (C.gw hlk) (fun _ h => h) (v := cv E ad v) (by rw [← hv E ad]; exact fs_at hc) hd kk'
  · exact va_getN C.1 C.2.1 C.gwa hin C.own C.K hP q he hcl f hk (va_Nw.use rfl (C.ns _ hlk)) (fun _ h => h) (v := cv E ad v) (by rw [← hv E ad]; exact fs_at hc) hd kk'
theorem v_getI {q ci f idx : Nat} {cs : List Nat} {z : Int} (hd : At M.2.1 pc (.getfield idx) 3 nx) (hf : FL M.1.cls idx ci f) (hL : L[q]? = some (yO ci cs)) (hc : cs[f]? = some 0) (hz : σ q f = z) (kk : V d M X k n L σ α nx lv (vI z :: st)) : V d M X k n L σ α pc lv (vR q :: st) :=
  v_get (vI z) (fun E ad => by rw [← hz]; rfl) hd hf hL hc kk
theorem v_getR {q ci f idx r : Nat} {cs : List Nat} (hd : At M.2.1 pc (.getfield idx) 3 nx) (hf : FL M.1.cls idx ci f) (hL : L[q]? = some (yO ci cs)) (hc : cs[f]? = some (r + 2)) (kk : V d M X k n L σ α nx lv (vR r :: st)) : V d M X k n L σ α pc lv (vR q :: st) :=
  v_get (vR r) (fun E ad => rfl) hd hf hL hc kk
/-- a field that may be written: an int, or a boolean -/
def PL (own : String) (idx ci k : Nat) (b : Bool) : Prop := ∃ C T N, vwCl[ci]? = some (C, T, N) ∧ k < N ∧ (∀ w ∈ u_ws C T N, w ∈ GW) ∧ (Cond.fieldLink own idx (T k).1 (T k).2.1 (T k).2.2.1 ∈ GW ∨ ∃ host, Cond.fieldLinkNest own idx (T k).1 (T k).2.1 (T k).2.2.1 host ∈ NW) ∧ (T k).2.2.2 = false ∧ (∃ ty0 : Nat → FieldType, ∀ k, k < N → parseFieldDescriptor (T k).2.2.1 = some (ty0 k)) ∧ (∀ a, a < N → ∀ b, b < N → a ≠ b → (T a).2.1 ≠ (T b).2.1) ∧ parseFieldDescriptor (T k).2.2.1 = some (if b then .boolean else .int)
theorem bool_nf {z : Int} (h : z = 0 ∨ z = 1) : narrow .boolean (.int (i32 z)) = .int (i32 z) ∧ fits .boolean (.int (i32 z)) = true := by
  rcases h with rfl | rfl <;> decide +kernel
theorem fs_set {ad : Nat → Nat} {q f : Nat} {cs : List Nat} {z : Int} (hc : cs[f]? = some 0) : ((List.range cs.length).map (fun k => fv ad σ q k (cs.getD k 1))).set f (.int (i32 z)) = (List.range cs.length).map (fun k => fv ad (uS σ q f z) q k (cs.getD k 1)) := by
  have hf : f < cs.length := (List.getElem?_eq_some_iff.mp hc).1
  apply List.ext_getElem?
  intro j
  rw [List.getElem?_set]
  by_cases hj : f = j
  · subst hj
    rw [if_pos rfl, if_pos (by simpa using hf), fs_at hc]
    simp [fv, uS]
  · rw [if_neg hj]
    by_cases hl : j < cs.length
    · simp only [List.getElem?_map, List.getElem?_range hl, Option.map_some]
      congr 1
      match cs.getD j 1 with
      | 0 => simp [fv, uS, Ne.symm hj]
      | 1 => rfl
      | r + 2 => rfl
    · rw [List.getElem?_eq_none (by simpa using hl), List.getElem?_eq_none (by simpa using hl)]
theorem v_put {q ci f idx : Nat} {cs : List Nat} {z : Int} {b : Bool} (hd : At M.2.1 pc (.putfield idx) 3 nx) (hf : PL M.1.cls idx ci f b) (hL : L[q]? = some (yO ci cs)) (hc : cs[f]? = some 0) (hb : b = true → z = 0 ∨ z = 1) (kk : V d M X k n L (uS σ q f z) α nx lv st) : V d M X k n L σ α pc lv (vI z :: vR q :: st) := by
  obtain ⟨hd, rfl⟩ := hd
  obtain ⟨C0, T, N, hcl, hk, hin, hlk, hfin, ⟨ty0, hty⟩, hnm, hpd⟩ := hf
  intro E ad0 ad p e s m below meth c' H locs ls C h1 h2 hP hD hS hl
  have he := mW_get E.2.2.1 ad σ α hL
  rw [ce_obj] at he
  have hnf : narrow (if b then .boolean else .int) (.int (i32 z)) = .int (i32 z) ∧ fits (if b then .boolean else .int) (.int (i32 z)) = true := by
    cases b with
    | true => exact bool_nf (hb rfl)
    | false => exact ⟨rfl, rfl⟩
  have hlen : f < ((List.range cs.length).map (fun k => fv ad σ q k (cs.getD k 1))).length := by simpa using (List.getElem?_eq_some_iff.mp hc).1
  have hset : (mW L E.2.2.1 ad σ α).set q (ad q, .inr (ci, ((List.range cs.length).map (fun k => fv ad σ q k (cs.getD k 1))).set f (.int (i32 z)))) = mW L E.2.2.1 ad (uS σ q f z) α := mW_set hL (by rw [fs_set hc]; rfl) ce_uS
  rcases hlk with hlk | ⟨host, hlk⟩
  · refine va_put (v := .int (i32 z)) C.1 C.2.1 C.gwa hin ty0 hty hnm C.own C.K hP hD hS q he hcl f hk (C.gw hlk) (fun _ h => h) hfin hpd hnf.1 hnf.2 hlen hd (fun H1 locs1 hP1 hD1 hS1 => ?_)
    rw [hset] at hP1 hD1
    exact kk E ad0 ad p e s m below meth c' H1 locs1 ls C h1 h2 hP1 hD1 hS1 hl
  · refine va_putN (v := .int (i32 z)) C.1 C.2.1 C.gwa hin ty0 hty hnm C.own C.K hP hD hS q he hcl f hk (va_Nw.use rfl (C.ns _ hlk)) (fun _ h => h) hfin hpd hnf.1 hnf.2 hlen hd (fun H1 locs1 hP1 hD1 hS1 => ?_)
    rw [hset] at hP1 hD1
    exact kk E ad0 ad p e s m below meth c' H1 locs1 ls C h1 h2 hP1 hD1 hS1 hl
theorem v_iaload {q N : Nat} {z w : Int} (hd : At M.2.1 pc .iaload 1 nx) (hL : L[q]? = some (yA 0 N)) (hz : 0 ≤ z ∧ z < N ∧ N ≤ 2147483647) (hw : α q z.toNat = w) (kk : V d M X k n L σ α nx lv (vI w :: st)) : V d M X k n L σ α pc lv (vI z :: vR q :: st) := by
  obtain ⟨hd, rfl⟩ := hd
  subst hw
  intro E ad0 ad p e s m below meth c' H locs ls C h1 h2 hP hD hS hl
  have kk' := kk E ad0 ad p e s m below meth c' H locs ls C h1 h2 hP hD hS hl
  refine va_iald C.1 C.2.1 C.K hP q 0 (mW_get E.2.2.1 ad σ α hL) rfl (i32_in hz.1 hz.2.1 hz.2.2) hd ?_
  rw [i32_cl hz.1 (by omega)]
  exact kk'
theorem v_baload {q N : Nat} {z w : Int} (hd : At M.2.1 pc .baload 1 nx) (hL : L[q]? = some (yA 1 N)) (hz : 0 ≤ z ∧ z < N ∧ N ≤ 2147483647) (hw : α q z.toNat = w) (kk : V d M X k n L σ α nx lv (vI w :: st)) : V d M X k n L σ α pc lv (vI z :: vR q :: st) := by
  obtain ⟨hd, rfl⟩ := hd
  subst hw
  intro E ad0 ad p e s m below meth c' H locs ls C h1 h2 hP hD hS hl
  have kk' := kk E ad0 ad p e s m below meth c' H locs ls C h1 h2 hP hD hS hl
  refine va_zald C.1 C.2.1 C.K hP q 1 (mW_get E.2.2.1 ad σ α hL) rfl (i32_in hz.1 hz.2.1 hz.2.2) hd ?_
  rw [i32_cl hz.1 (by omega)]
  exact kk'
theorem upd_i32 (f : Nat → Int) (k : Nat) (x : Int) : upd (fun j => i32 (f j)) k (i32 x) = fun j => i32 (uF f k x j) := by
  funext j
  by_cases h : j = k <;> simp [upd, uF, h]
theorem v_iastore {q N : Nat} {z x : Int} (hd : At M.2.1 pc .iastore 1 nx) (hL : L[q]? = some (yA 0 N)) (hz : 0 ≤ z ∧ z < N ∧ N ≤ 2147483647) (kk : V d M X k n L σ (uA α q (uF (α q) z.toNat x)) nx lv st) : V d M X k n L σ α pc lv (vI x :: vI z :: vR q :: st) := by
  obtain ⟨hd, rfl⟩ := hd
  intro E ad0 ad p e s m below meth c' H locs ls C h1 h2 hP hD hS hl
  refine va_iast (x := i32 x) C.1 C.2.1 C.K hP hD hS q 0 (mW_get E.2.2.1 ad σ α hL) rfl (i32_in hz.1 hz.2.1 hz.2.2) hd (fun H1 locs1 hP1 hD1 hS1 => ?_)
  have hset : (mW L E.2.2.1 ad σ α).set q (ad q, .inl (E.2.2.1 0, N, .inl (upd (fun j => i32 (α q j)) (i32 z).toNatClampNeg (i32 x)))) = mW L E.2.2.1 ad σ (uA α q (uF (α q) z.toNat x)) := by
    refine mW_set hL ?_ ce_uA
    rw [i32_cl hz.1 (by omega), upd_i32]
    simp [ce, uA]
  rw [hset] at hP1 hD1
  exact kk E ad0 ad p e s m below meth c' H1 locs1 ls C h1 h2 hP1 hD1 hS1 hl
theorem bool_nar {z : Int} (h : z = 0 ∨ z = 1) : vp_nar .boolean (i32 z) = i32 z := by
  rcases h with rfl | rfl <;> decide +kernel
theorem v_bastore {q N : Nat} {z x : Int} (hd : At M.2.1 pc .bastore 1 nx) (hL : L[q]? = some (yA 1 N)) (hz : 0 ≤ z ∧ z < N ∧ N ≤ 2147483647) (hx : x = 0 ∨ x = 1) (kk : V d M X k n L σ (uA α q (uF (α q) z.toNat x)) nx lv st) : V d M X k n L σ α pc lv (vI x :: vI z :: vR q :: st) := by
  obtain ⟨hd, rfl⟩ := hd
  intro E ad0 ad p e s m below meth c' H locs ls C h1 h2 hP hD hS hl
  refine va_zast (x := i32 x) C.1 C.2.1 C.K hP hD hS q 1 (mW_get E.2.2.1 ad σ α hL) rfl (i32_in hz.1 hz.2.1 hz.2.2) hd (fun H1 locs1 hP1 hD1 hS1 => ?_)
  have hset : (mW L E.2.2.1 ad σ α).set q (ad q, .inl (E.2.2.1 1, N, .inl (upd (fun j => i32 (α q j)) (i32 z).toNatClampNeg (vp_nar .boolean (i32 x))))) = mW L E.2.2.1 ad σ (uA α q (uF (α q) z.toNat x)) := by
    refine mW_set hL ?_ ce_uA
    rw [i32_cl hz.1 (by omega), bool_nar hx, upd_i32]
    simp [ce, uA]
  rw [hset] at hP1 hD1
  exact kk E ad0 ad p e s m below meth c' H1 locs1 ls C h1 h2 hP1 hD1 hS1 hl
theorem v_aaload {q t : Nat} {z : Int} {cs : List Nat} {r : Nat} (hd : At M.2.1 pc .aaload 1 nx) (hL : L[q]? = some (yQ t cs)) (ht : t = 2 ∨ t = 3) (hz : 0 ≤ z ∧ z < cs.length ∧ cs.length ≤ 2147483647) (hr : cs[z.toNat]? = some (r + 2)) (kk : V d M X k n L σ α nx lv (vR r :: st)) : V d M X k n L σ α pc lv (vI z :: vR q :: st) := by
  obtain ⟨hd, rfl⟩ := hd
  intro E ad0 ad p e s m below meth c' H locs ls C h1 h2 hP hD hS hl
  have kk' := kk E ad0 ad p e s m below meth c' H locs ls C h1 h2 hP hD hS hl
  have hq : va_rf (qv ad (cs.getD (i32 z).toNatClampNeg 1)) = .ref (ad r) := by
    rw [i32_cl hz.1 (by omega), List.getD_eq_getElem?_getD, hr]
    rfl
  rcases ht with rfl | rfl
  · refine va_aldq (C := RX0) C.1 C.2.1 C.K hP q 2 (mW_get E.2.2.1 ad σ α hL) rfl (i32_in hz.1 hz.2.1 hz.2.2) hd ?_
    rw [hq]
    exact kk'
  · refine va_aldq (C := RX1) C.1 C.2.1 C.K hP q 3 (mW_get E.2.2.1 ad σ α hL) rfl (i32_in hz.1 hz.2.1 hz.2.2) hd ?_
    rw [hq]
    exact kk'
theorem Ctx.post {E : Ev} {ad0 ad : Nat → Nat} {p : Program} {s : State} {m : MethodId} {meth : Method} {c : Code} {H : Heap} {locs : List Loc} {r : Option AV} (C : Ctx M X E ad0 p s m meth c) (h1 : X.2.2.2.1 ≤ L.length) (h2 : ∀ j, j < X.2.2.2.1 ∨ L.length ≤ j → ad j = ad0 j) (hP : va_P E.2.1 vwCl (mW L E.2.2.1 ad σ α) H) (hD : va_D (AA ad0 X.2.2.2.1 s.heap.size) (mW L E.2.2.1 ad σ α)) (hS : va_S (AA ad0 X.2.2.2.1 s.heap.size) s.heap H locs) (hp : X.2.2.2.2 r L σ α) {t : State} (ht : t.heap = H) {a : Array Value} {v : Option Value} (hv : v = r.map (cv E ad)) : PostW E ad0 X.2.2.2.1 s.heap.size X.2.2.2.2 a s (.returned v) t := by
  subst hv
  exact ⟨⟨r, L, ad, σ, α, rfl, hp, h1, h2, by rw [ht]; exact hP, hD⟩, hS.F ht⟩
theorem v_iretT {z : Int} {ty : FieldType} (hd : At M.2.1 pc .ireturn 1 nx) (hr : M.2.2.2 = some ty) (hn : narrow ty (.int (i32 z)) = .int (i32 z)) (hk : k ≤ X.1 ∧ n ≤ X.2.1) (hp : X.2.2.2.2 (some (vI z)) L σ α) : V d M X k n L σ α pc lv [vI z] := by
  obtain ⟨hd, rfl⟩ := hd
  intro E ad0 ad p e s m below meth c' H locs ls C h1 h2 hP hD hS hl
  have hlk := C.2.2.2.1
  refine W.widen hk.1 hk.2 ?_
  exact W.zret (v := i32 z) C.1 C.2.1 (C.2.2.1.trans hr) hn (fun t ht hW => C.post h1 h2 hP hD hS hp ht rfl) hS.2.2 hd hlk
theorem v_ireti {z : Int} (hd : At M.2.1 pc .ireturn 1 nx) (hr : M.2.2.2 = some .int) (hk : k ≤ X.1 ∧ n ≤ X.2.1) (hp : X.2.2.2.2 (some (vI z)) L σ α) : V d M X k n L σ α pc lv [vI z] := v_iretT hd hr rfl hk hp
theorem v_iretb {z : Int} (hd : At M.2.1 pc .ireturn 1 nx) (hr : M.2.2.2 = some .boolean) (hk : k ≤ X.1 ∧ n ≤ X.2.1) (hz : z = 0 ∨ z = 1) (hp : X.2.2.2.2 (some (vI z)) L σ α) : V d M X k n L σ α pc lv [vI z] := v_iretT hd hr (bool_nf hz).1 hk hp
theorem v_vret (hd : At M.2.1 pc .return_ 1 nx) (hr : M.2.2.2 = none) (hk : k ≤ X.1 ∧ n ≤ X.2.1) (hp : X.2.2.2.2 none L σ α) : V d M X k n L σ α pc lv [] := by
  obtain ⟨hd, rfl⟩ := hd
  intro E ad0 ad p e s m below meth c' H locs ls C h1 h2 hP hD hS hl
  have hlk := C.2.2.2.1
  refine W.widen hk.1 hk.2 ?_
  exact W.vret C.1 C.2.1 (C.2.2.1.trans hr) (fun t ht hW => C.post h1 h2 hP hD hS hp ht rfl) hS.2.2 hd hlk
end HEAP
end
section
/-- the locals at the entry -/
def lvA : List AV → List (Option AV)
  | [] => []
  | .inr (.inr (.inl z)) :: vs => some (vL z) :: none :: lvA vs
  | v :: vs => some v :: lvA vs
theorem lvA_args (E : Ev) (ad : Nat → Nat) : ∀ (av : List AV) (b i : Nat) (v : AV), (lvA av)[i]? = some (some v) → (b + i, cv E ad v) ∈ lv_args b (av.map (cv E ad))
  | [], b, i, v, h => by simp [lvA] at h
  | .inr (.inr (.inl z)) :: vs, b, i, v, h => by
    match i with
    | 0 =>
      have h : some (some (vL z)) = some (some v) := h
      cases h
      exact List.mem_cons_self
    | 1 =>
      have h : some (none : Option AV) = some (some v) := h
      cases h
    | i + 2 =>
      have h : (lvA vs)[i]? = some (some v) := h
      refine List.mem_cons_of_mem _ ?_
      show _ ∈ lv_args (if (2 : Nat) = 2 then b + 2 else b + 1) (vs.map (cv E ad))
      rw [if_pos rfl, show b + (i + 2) = b + 2 + i by omega]
      exact lvA_args E ad vs (b + 2) i v h
  | .inl z :: vs, b, i, v, h => lvA_args1 E ad (.inl z) vs b i v (fun b i v h => lvA_args E ad vs b i v h) (by intro z h; cases h) h
  | .inr (.inl q) :: vs, b, i, v, h => lvA_args1 E ad (.inr (.inl q)) vs b i v (fun b i v h => lvA_args E ad vs b i v h) (by intro z h; cases h) h
  | .inr (.inr (.inr q)) :: vs, b, i, v, h => lvA_args1 E ad (.inr (.inr (.inr q))) vs b i v (fun b i v h => lvA_args E ad vs b i v h) (by intro z h; cases h) h
where
  lvA_args1 (E : Ev) (ad : Nat → Nat) (w : AV) (vs : List AV) (b i : Nat) (v : AV) (ih : ∀ (b i : Nat) (v : AV), (lvA vs)[i]? = some (some v) → (b + i, cv E ad v) ∈ lv_args b (vs.map (cv E ad))) (hw : ∀ z, w ≠ vL z) (h : (some w :: lvA vs)[i]? = some (some v)) : (b + i, cv E ad v) ∈ lv_args b ((w :: vs).map (cv E ad)) := by
    match i with
    | 0 =>
      have h : some (some w) = some (some v) := h
      cases h
      exact List.mem_cons_self
    | i + 1 =>
      have h : (lvA vs)[i]? = some (some v) := h
      refine List.mem_cons_of_mem _ ?_
      show _ ∈ lv_args (if (cv E ad w).category = 2 then b + 2 else b + 1) (vs.map (cv E ad))
      rw [cv_cat E ad w hw, if_neg (by decide), show b + (i + 1) = b + 1 + i by omega]
      exact ih (b + 1) i v h
theorem lvA_len (E : Ev) (ad : Nat → Nat) : ∀ av : List AV, (lg_sl (av.map (cv E ad))).length = (lvA av).length := by
  have key : ∀ (w : AV) (vs : List AV), (∀ z, w ≠ vL z) → (lg_sl (vs.map (cv E ad))).length = (lvA vs).length → (lg_sl ((w :: vs).map (cv E ad))).length = (lvA vs).length + 1 := by
    intro w vs hw ih
    unfold lg_sl at ih ⊢
    simp only [List.map_cons, List.flatMap_cons, List.length_append, ih, cv_cat E ad w hw]
    simp; omega
  intro av
  induction av with
  | nil => rfl
  | cons w vs ih =>
    match w with
    | .inr (.inr (.inl z)) =>
      unfold lg_sl at ih ⊢
      simp only [List.map_cons, List.flatMap_cons, List.length_append, ih]
      simp [cv, Value.category, lvA]; omega
    | .inl z => exact key _ vs (by intro z h; cases h) ih
    | .inr (.inl q) => exact key _ vs (by intro z h; cases h) ih
    | .inr (.inr (.inr q)) => exact key _ vs (by intro z h; cases h) ih
theorem AA_D {ad : Nat → Nat} {L : List Ly} {K : Nat → ClassId} {σ α : St} {sz : Nat} {A : Nat → Prop} (h : va_D A (mW L K ad σ α)) : va_D (AA ad L.length sz) (mW L K ad σ α) := by
  refine ⟨h.1, fun k q hk => ?_⟩
  obtain ⟨y, hy, rfl⟩ := mW_inv hk
  exact Or.inl ⟨k, (List.getElem?_eq_some_iff.mp hy).1, rfl⟩
/-- a contract out of a walk -/
theorem SS.of {d : Nat} {M : Mi} {mc ms : Nat} {av : List AV} {L : List Ly} {σ α : St} {post : Pst} {lv : List (Option AV)} (hy : plainName M.1.cls = true) (hlen : (lvA av).length ≤ M.2.2.1) (hlv : lvA av ++ List.replicate (M.2.2.1 - (lvA av).length) none = lv)
    (kk : V d M (mc, ms, av, L.length, post) 0 0 L σ α 0 lv []) : SS d M mc ms av L σ α post := by
  intro E ad sz
  refine Met.ofW (cc := M.2.1) (maxL := M.2.2.1) (ret := M.2.2.2) hy rfl ?_
  intro p e s m args below meth c s₁ B hml hv
  obtain ⟨rfl, hsz, hP, hK, hD0, hN, hX⟩ := hv
  have hts := atoms_spec (ws := wds M) B.pre
  have hown : s.vm.findClass M.1.cls = some m.cls := findClass_of_methodNamed B.named
  subst hsz
  have hl := lv_entry (av.map (cv E ad)) (n := M.2.2.1) (by rw [lvA_len]; exact hlen)
  rw [lg_entry_eq]
  refine kk E ad ad p e s m below meth c s.heap [] _ ⟨B.exec, B.bytes, B.returns, B.notSynchronized, hml, hown, (name_of_methodNamed B.named B.method).1, hts, hK, hN, hX⟩ (Nat.le_refl _) (fun _ _ => rfl) hP (AA_D hD0) va_S.rf ⟨hl.1, hl.2.1, fun i v hi => ?_⟩
  have hi2 : (lvA av)[i]? = some (some v) := by
    rw [← hlv] at hi
    by_cases h : i < (lvA av).length
    · rwa [List.getElem?_append_left h] at hi
    · rw [List.getElem?_append_right (by omega)] at hi
      rw [List.getElem?_replicate] at hi
      split at hi <;> cases hi
  have := lvA_args E ad av 0 i v hi2
  rw [Nat.zero_add] at this
  exact hl.2.2 (i, cv E ad v) this
/-- what a method must be to be called -/
def MI (M : Mi) (na : Nat) : Prop := Cond.code M.1 M.2.1 M.2.2.1 M.2.2.2 ∈ GW ∧ Cond.initialized M.1.cls ∈ GW ∧ (M.1.cls ≠ "java/lang/invoke/MethodHandle" ∧ M.1.cls ≠ "java/lang/invoke/VarHandle" ∧ (parseMethodDescriptor M.1.desc).map (fun d => d.parameters.length) = some na) ∧ M.2.2.1 ≤ 21
def MV (M : Mi) : Prop := Cond.instanceMethod M.1 ∈ GW ∧ Cond.selects M.1.cls M.1 M.1 ∈ GW
def ML (own : String) (idx : Nat) (y : MethodName) : Prop := Cond.methodLink own idx y ∈ GW ∨ ∃ host, Cond.methodLinkNest own idx y host ∈ NW
theorem PreW.blind {E : Ev} {L : List Ly} {ad : Nat → Nat} {σ α : St} {sz : Nat} {av : List Value} : FrameBlind (va_Pc av (PreW E L ad σ α sz)) := by
  intro a U g mk q
  obtain ⟨q0, q1, qP, qK, qD, qN, qX⟩ := q
  exact ⟨q0, q1, qP, va_K.moved (u := U) (U := U.calling g mk a) (Vm.Alike.refl U.vm) qK, qD, fun w hw => va_Nw.same (by have := (List.mem_filter.mp hw).2; match w, this with | .fieldLinkNest .., _ => rfl | .methodLinkNest .., _ => rfl) (u := U) rfl (qN w hw), qX.same (s := U) rfl⟩
section CALLS
variable {d : Nat} {M : Mi} {X : Cx} {k n : Nat} {L : List Ly} {σ α : St} {pc nx : Nat} {lv : List (Option AV)} {st : List AV}
theorem AA_sub {E : Ev} {ad0 ad : Nat → Nat} {n0 : Nat} {s : State} {H : Heap} {locs : List Loc} (hD : va_D (AA ad0 n0 s.heap.size) (mW L E.2.2.1 ad σ α)) (hS : va_S (AA ad0 n0 s.heap.size) s.heap H locs) : ∀ q, AA ad L.length H.size q → AA ad0 n0 s.heap.size q := by
  intro q h
  rcases h with ⟨j, hj, rfl⟩ | h
  · exact hD.2 j _ (mW_get E.2.2.1 ad σ α (List.getElem?_eq_getElem hj))
  · exact Or.inr (Nat.le_trans hS.1 h)
theorem Ctx.pre {E : Ev} {ad0 ad : Nat → Nat} {p : Program} {s : State} {m : MethodId} {meth : Method} {c : Code} {H : Heap} {locs : List Loc} (C : Ctx M X E ad0 p s m meth c) (hP : va_P E.2.1 vwCl (mW L E.2.2.1 ad σ α) H) (hD : va_D (AA ad0 X.2.2.2.1 s.heap.size) (mW L E.2.2.1 ad σ α)) (hS : va_S (AA ad0 X.2.2.2.1 s.heap.size) s.heap H locs) {U : State} (hU : U.heap = H) (hW : s.WarmedH U.vm) : PreW E L ad σ α H.size U := by
  refine ⟨by rw [hU], by rw [hU]; exact hP, va_K.moved hW.alike C.K, hD.weaken (fun _ _ _ _ => trivial), C.ns.warm hW, ?_⟩
  rw [hU]
  exact C.sx.go hW hS.2.1 (AA_sub hD hS)
/-- behind any call: the world that the callee leaves -/
theorem v_back {E : Ev} {ad0 ad : Nat → Nat} {p : Program} {e : Env} {s : State} {m : MethodId} {below : List Frame} {meth : Method} {c : Code} {H : Heap} {locs : List Loc} {ls : Array Slot} {mc ms : Nat} {st0 : List Value} {rest : List AV} {post : Pst} {a : Array Value}
    (C : Ctx M X E ad0 p s m meth c) (h1 : X.2.2.2.1 ≤ L.length) (h2 : ∀ j, j < X.2.2.2.1 ∨ L.length ≤ j → ad j = ad0 j) (hD : va_D (AA ad0 X.2.2.2.1 s.heap.size) (mW L E.2.2.1 ad σ α)) (hS : va_S (AA ad0 X.2.2.2.1 s.heap.size) s.heap H locs)
    (hr : va_Run p E.1 e (rmd d X.1 X.2.1) s m (X.2.2.1.map (cv E ad0)).toArray below meth c H locs k n mc ms (F0 m pc ls st0) (rest.map (cv E ad)) (PostW E ad L.length H.size post a) (AA ad L.length H.size))
    (hl : LV E ad M.2.2.1 lv ls)
    (hwf : ∀ (r : Option AV) (L' : List Ly) (σ' α' : St) (ad' : Nat → Nat), post r L' σ' α' → L.length ≤ L'.length → (∀ j, j < L.length ∨ L'.length ≤ j → ad' j = ad j) → rest.map (cv E ad) = rest.map (cv E ad') ∧ LV E ad' M.2.2.1 lv ls)
    (kk : ∀ (r : Option AV) (L' : List Ly) (σ' α' : St), post r L' σ' α' → V d M X (k + mc) (n + ms) L' σ' α' (pc + 3) lv (r.toList ++ rest)) :
    W p E.1 e (rmd d X.1 X.2.1) s m (X.2.2.1.map (cv E ad0)).toArray below meth c H locs k n (MQ below (PostW E ad0 X.2.2.2.1 s.heap.size X.2.2.2.2) (X.2.2.1.map (cv E ad0)).toArray s X.1 X.2.1 (AA ad0 X.2.2.2.1 s.heap.size)) (F0 m pc ls st0) := by
  intro T hT Y
  obtain ⟨v, st₀, t, T', L1, h0, Y', hL1, e1, e2, ⟨⟨r, L', ad', σ', α', hv, hp, hn, had, hP', hD'⟩, hz, hk⟩, go⟩ := hr T hT Y
  cases hv
  rw [h0] at hz hk
  have hsub := AA_sub hD hS
  obtain ⟨hrest, hl'⟩ := hwf r L' σ' α' ad' hp hn had
  have hS' : va_S (AA ad0 X.2.2.2.1 s.heap.size) s.heap T'.heap (locs ++ L1) := by
    refine ⟨Nat.le_trans hS.1 (by rw [e1]; exact hz), fun q g1 g2 => ?_, fun q hq => ?_⟩
    · rw [e1, hk q (Nat.lt_of_lt_of_le g1 hS.1) (fun z => g2 (hsub q z))]
      exact hS.2.1 q g1 g2
    · rcases List.mem_append.mp hq with h | h
      · exact hS.2.2 q h
      · exact hsub _ (hL1 q h)
  obtain ⟨t2, a1, b1⟩ := kk r L' σ' α' hp E ad0 ad' p e s m below meth c T'.heap (locs ++ L1) ls C (Nat.le_trans h1 hn)
    (fun j hj => by
      rcases hj with hj | hj
      · rw [had j (Or.inl (Nat.lt_of_lt_of_le hj h1)), h2 j (Or.inl hj)]
      · rw [had j (Or.inr hj), h2 j (Or.inr (Nat.le_trans hn hj))])
    (by rw [e1]; exact hP') (hD'.weaken (fun _ _ _ h => hsub _ h)) hS' hl' T' rfl Y'
  refine ⟨t2, go t2 ?_, b1⟩
  have hst : (r.map (cv E ad')).toList ++ rest.map (cv E ad) = (r.toList ++ rest).map (cv E ad') := by
    rw [hrest]
    cases r <;> simp
  show Steps _ _ _ (T'.setTop { method := m, pc := pc + 3, locals := ls, stack := (r.map (cv E ad')).toList ++ rest.map (cv E ad), locked := none }) t2
  rw [hst]
  exact a1
end CALLS
end
section
theorem s_l : ∀ n, n < 32 → ((nI n &&& 31).toBitVec.smod 32).toNat = n := by decide +kernel
theorem s_u : ∀ n, n < 32 → (((nI n).toUInt32 &&& Int32.toUInt32 31).toBitVec % 32).toNat = n := by decide +kernel
theorem nx_and (a b : Nat) : nI a &&& nI b = nI (a &&& b) := by
  apply Int32.toBitVec_inj.1
  show BitVec.ofNat 32 a &&& BitVec.ofNat 32 b = BitVec.ofNat 32 (a &&& b)
  apply BitVec.eq_of_getLsbD_eq
  intro i hi
  simp [hi]
theorem nx_or (a b : Nat) : nI a ||| nI b = nI (a ||| b) := by
  apply Int32.toBitVec_inj.1
  show BitVec.ofNat 32 a ||| BitVec.ofNat 32 b = BitVec.ofNat 32 (a ||| b)
  apply BitVec.eq_of_getLsbD_eq
  intro i hi
  simp [hi]
theorem nx_not (b : Nat) : nI b ^^^ (-1) = i32 (-(b : Int) - 1) := by
  have h : i32 (-(b : Int) - 1) = -(nI b) - 1 := by
    rw [← i32_sub, show i32 (-(b : Int)) = -(i32 b) from Int32.ofInt_neg b, i32_nat]
    rfl
  rw [h]
  apply Int32.toBitVec_inj.1
  show BitVec.ofNat 32 b ^^^ BitVec.allOnes 32 = -(BitVec.ofNat 32 b) - 1#32
  rw [BitVec.xor_allOnes, BitVec.neg_eq_not_add, BitVec.add_sub_cancel]
theorem nx_andn (a b : Nat) : nI a &&& i32 (-(b : Int) - 1) = nI (a ^^^ (a &&& b)) := by
  rw [← nx_not]
  apply Int32.toBitVec_inj.1
  show BitVec.ofNat 32 a &&& (BitVec.ofNat 32 b ^^^ BitVec.allOnes 32) = BitVec.ofNat 32 (a ^^^ (a &&& b))
  apply BitVec.eq_of_getLsbD_eq
  intro i hi
  rw [BitVec.getLsbD_and, BitVec.getLsbD_xor, BitVec.getLsbD_allOnes, BitVec.getLsbD_ofNat, BitVec.getLsbD_ofNat, BitVec.getLsbD_ofNat, Nat.testBit_xor, Nat.testBit_and]
  simp only [hi, decide_true, Bool.true_and]
  cases a.testBit i <;> cases b.testBit i <;> rfl
theorem i32_nat' {x : Int} (h : 0 ≤ x) : i32 x = nI x.toNat := by
  obtain ⟨a, rfl⟩ := Int.eq_ofNat_of_zero_le h
  exact i32_nat a
section MORE
variable {d : Nat} {M : Mi} {X : Cx} {k n : Nat} {L : List Ly} {σ α : St} {pc nx : Nat} {lv : List (Option AV)} {st : List AV}
theorem v_ior {x y : Int} (hd : At M.2.1 pc .ior 1 nx) (hx : 0 ≤ x ∧ 0 ≤ y) (kk : V d M X k n L σ α nx lv (vI ((x.toNat ||| y.toNat : Nat) : Int) :: st)) : V d M X k n L σ α pc lv (vI y :: vI x :: st) := by
  obtain ⟨hd, rfl⟩ := hd
  intro E ad0 ad p e s m below meth c H locs ls C h1 h2 hP hD hS hl
  refine lv_ior (x := i32 x) (y := i32 y) C.1 C.2.1 hd ?_
  rw [i32_nat' hx.1, i32_nat' hx.2, nx_or, ← i32_nat]
  exact kk E ad0 ad p e s m below meth c H locs ls C h1 h2 hP hD hS hl
theorem v_iand {x y : Int} (hd : At M.2.1 pc .iand 1 nx) (hx : 0 ≤ x ∧ 0 ≤ y) (kk : V d M X k n L σ α nx lv (vI ((x.toNat &&& y.toNat : Nat) : Int) :: st)) : V d M X k n L σ α pc lv (vI y :: vI x :: st) := by
  obtain ⟨hd, rfl⟩ := hd
  intro E ad0 ad p e s m below meth c H locs ls C h1 h2 hP hD hS hl
  refine lv_iand (x := i32 x) (y := i32 y) C.1 C.2.1 hd ?_
  rw [i32_nat' hx.1, i32_nat' hx.2, nx_and, ← i32_nat]
  exact kk E ad0 ad p e s m below meth c H locs ls C h1 h2 hP hD hS hl
theorem v_iand1 {x : Int} (hd : At M.2.1 pc .iand 1 nx) (hx : 0 ≤ x) (kk : V d M X k n L σ α nx lv (vI (x % 2) :: st)) : V d M X k n L σ α pc lv (vI 1 :: vI x :: st) := by
  refine v_iand hd ⟨hx, by omega⟩ ?_
  have : ((x.toNat &&& (1 : Int).toNat : Nat) : Int) = x % 2 := by
    show ((x.toNat &&& 1 : Nat) : Int) = _
    rw [Nat.and_one_is_mod]
    omega
  rw [this]
  exact kk
theorem v_inot {x : Int} (hd : At M.2.1 pc .ixor 1 nx) (hx : 0 ≤ x) (kk : V d M X k n L σ α nx lv (vI (-x - 1) :: st)) : V d M X k n L σ α pc lv (vI (-1) :: vI x :: st) := by
  obtain ⟨hd, rfl⟩ := hd
  intro E ad0 ad p e s m below meth c H locs ls C h1 h2 hP hD hS hl
  refine lv_ixor (x := i32 x) (y := i32 (-1)) C.1 C.2.1 hd ?_
  have : i32 x ^^^ i32 (-1) = i32 (-x - 1) := by
    rw [i32_nat' hx]
    show nI x.toNat ^^^ (-1) = _
    rw [nx_not]
    congr 1
    omega
  rw [this]
  exact kk E ad0 ad p e s m below meth c H locs ls C h1 h2 hP hD hS hl
theorem v_iandn {x y : Int} (hd : At M.2.1 pc .iand 1 nx) (hx : 0 ≤ x ∧ 0 ≤ y) (kk : V d M X k n L σ α nx lv (vI ((x.toNat ^^^ (x.toNat &&& y.toNat) : Nat) : Int) :: st)) : V d M X k n L σ α pc lv (vI (-y - 1) :: vI x :: st) := by
  obtain ⟨hd, rfl⟩ := hd
  intro E ad0 ad p e s m below meth c H locs ls C h1 h2 hP hD hS hl
  refine lv_iand (x := i32 x) (y := i32 (-y - 1)) C.1 C.2.1 hd ?_
  have : i32 x &&& i32 (-y - 1) = i32 ((x.toNat ^^^ (x.toNat &&& y.toNat) : Nat) : Int) := by
    rw [i32_nat' hx.1, show -y - 1 = -((y.toNat : Nat) : Int) - 1 by omega, nx_andn, i32_nat]
  rw [this]
  exact kk E ad0 ad p e s m below meth c H locs ls C h1 h2 hP hD hS hl
theorem v_ishl1 {y : Int} (hd : At M.2.1 pc .ishl 1 nx) (hy : 0 ≤ y ∧ y < 31) (kk : V d M X k n L σ α nx lv (vI ((2 ^ y.toNat : Nat) : Int) :: st)) : V d M X k n L σ α pc lv (vI y :: vI 1 :: st) := by
  obtain ⟨hd, rfl⟩ := hd
  intro E ad0 ad p e s m below meth c H locs ls C h1 h2 hP hD hS hl
  refine lv_ishl (x := i32 1) (y := i32 y) C.1 C.2.1 hd ?_
  have : i32 1 <<< (i32 y &&& 31) = i32 ((2 ^ y.toNat : Nat) : Int) := by
    rw [i32_nat' hy.1, i32_nat, show i32 1 = nI 1 from rfl, pk_shlN _ y.toNat (s_l _ (by omega))]
    · rw [Nat.one_mul]
    · rw [Nat.one_mul]; exact Nat.pow_lt_pow_right (by decide) (by omega)
  rw [this]
  exact kk E ad0 ad p e s m below meth c H locs ls C h1 h2 hP hD hS hl
theorem toNat_div (x : Int) (hx : 0 ≤ x) (j : Nat) : ((x.toNat / 2 ^ j : Nat) : Int) = x / 2 ^ j := by
  obtain ⟨a, rfl⟩ := Int.eq_ofNat_of_zero_le hx
  simp
theorem v_ishr {x y : Int} (hd : At M.2.1 pc .ishr 1 nx) (hx : 0 ≤ x ∧ x ≤ 2147483647) (hy : 0 ≤ y ∧ y < 32) (kk : V d M X k n L σ α nx lv (vI (x / 2 ^ y.toNat) :: st)) : V d M X k n L σ α pc lv (vI y :: vI x :: st) := by
  obtain ⟨hd, rfl⟩ := hd
  intro E ad0 ad p e s m below meth c H locs ls C h1 h2 hP hD hS hl
  refine lv_ishr (x := i32 x) (y := i32 y) C.1 C.2.1 hd ?_
  have : i32 x >>> (i32 y &&& 31) = i32 (x / 2 ^ y.toNat) := by
    rw [i32_nat' hy.1, i32_nat' hx.1, pk_shrN (by omega) _ y.toNat (s_l _ (by omega)), ← i32_nat, toNat_div x hx.1]
  rw [this]
  exact kk E ad0 ad p e s m below meth c H locs ls C h1 h2 hP hD hS hl
theorem v_iushr {x y : Int} (hd : At M.2.1 pc .iushr 1 nx) (hx : 0 ≤ x ∧ x ≤ 2147483647) (hy : 0 ≤ y ∧ y < 32) (kk : V d M X k n L σ α nx lv (vI (x / 2 ^ y.toNat) :: st)) : V d M X k n L σ α pc lv (vI y :: vI x :: st) := by
  obtain ⟨hd, rfl⟩ := hd
  intro E ad0 ad p e s m below meth c H locs ls C h1 h2 hP hD hS hl
  have : ((i32 x).toUInt32 >>> ((i32 y).toUInt32 &&& Int32.toUInt32 31)).toInt32 = i32 (x / 2 ^ y.toNat) := by
    rw [i32_nat' hy.1, i32_nat' hx.1, pk_ushrN (by omega) _ y.toNat (s_u _ (by omega)), ← i32_nat, toNat_div x hx.1]
  exact lv_iushr (x := i32 x) (y := i32 y) C.1 C.2.1 hd this (kk E ad0 ad p e s m below meth c H locs ls C h1 h2 hP hD hS hl)
theorem v_idiv {x y : Int} (hd : At M.2.1 pc .idiv 1 nx) (hx : 0 ≤ x ∧ x ≤ 2147483647) (hy : 0 < y ∧ y ≤ 2147483647) (kk : V d M X k n L σ α nx lv (vI (x / y) :: st)) : V d M X k n L σ α pc lv (vI y :: vI x :: st) := by
  obtain ⟨hd, rfl⟩ := hd
  obtain ⟨a, rfl⟩ := Int.eq_ofNat_of_zero_le hx.1
  obtain ⟨b, rfl⟩ := Int.eq_ofNat_of_zero_le (Int.le_of_lt hy.1)
  intro E ad0 ad p e s m below meth c H locs ls C h1 h2 hP hD hS hl
  have hne : ¬ i32 (b : Int) = 0 := by
    show ¬ i32 (b : Int) = i32 0
    rw [i32_eq ⟨⟨by omega, by omega⟩, ⟨by omega, by omega⟩⟩]
    omega
  refine lv_idiv (x := i32 a) (y := i32 b) C.1 C.2.1 hd hne ?_
  rw [i32_nat, i32_nat, pk_div (by omega) (by omega) (by omega), ← i32_nat, Int.natCast_ediv]
  exact kk E ad0 ad p e s m below meth c H locs ls C h1 h2 hP hD hS hl
theorem v_irem {x y : Int} (hd : At M.2.1 pc .irem 1 nx) (hx : 0 ≤ x ∧ x ≤ 2147483647) (hy : 0 < y ∧ y ≤ 2147483647) (kk : V d M X k n L σ α nx lv (vI (x % y) :: st)) : V d M X k n L σ α pc lv (vI y :: vI x :: st) := by
  obtain ⟨hd, rfl⟩ := hd
  obtain ⟨a, rfl⟩ := Int.eq_ofNat_of_zero_le hx.1
  obtain ⟨b, rfl⟩ := Int.eq_ofNat_of_zero_le (Int.le_of_lt hy.1)
  intro E ad0 ad p e s m below meth c H locs ls C h1 h2 hP hD hS hl
  have hne : ¬ i32 (b : Int) = 0 := by
    show ¬ i32 (b : Int) = i32 0
    rw [i32_eq ⟨⟨by omega, by omega⟩, ⟨by omega, by omega⟩⟩]
    omega
  refine lv_irem (x := i32 a) (y := i32 b) C.1 C.2.1 hd hne ?_
  rw [i32_nat, i32_nat, pk_rem (by omega) (by omega) (by omega), ← i32_nat, Int.natCast_emod]
  exact kk E ad0 ad p e s m below meth c H locs ls C h1 h2 hP hD hS hl
theorem v_tabIn {x dflt lo hi off : Int} {offs : Array Int} {len tgt : Nat} (hd : At M.2.1 pc (.tableswitch dflt lo hi offs) len nx) (hx : InR x) (h : lo ≤ x ∧ x ≤ hi) (ho : offs[(x - lo).toNat]? = some off) (ht : (pc : Int) + off = (tgt : Int)) (kk : V d M X k n L σ α tgt lv st) : V d M X k n L σ α pc lv (vI x :: st) := by
  obtain ⟨hd, rfl⟩ := hd
  intro E ad0 ad p e s m below meth c H locs ls C h1 h2 hP hD hS hl
  exact lv_tableIn (x := i32 x) C.1 C.2.1 hd (by rw [i32_t hx]; omega) (by rw [i32_t hx]; omega) (by rw [i32_t hx]; exact ho) ht (kk E ad0 ad p e s m below meth c H locs ls C h1 h2 hP hD hS hl)
theorem v_tabOut {x dflt lo hi : Int} {offs : Array Int} {len tgt : Nat} (hd : At M.2.1 pc (.tableswitch dflt lo hi offs) len nx) (hx : InR x) (h : x < lo ∨ hi < x) (ht : (pc : Int) + dflt = (tgt : Int)) (kk : V d M X k n L σ α tgt lv st) : V d M X k n L σ α pc lv (vI x :: st) := by
  obtain ⟨hd, rfl⟩ := hd
  intro E ad0 ad p e s m below meth c H locs ls C h1 h2 hP hD hS hl
  exact lv_tableOut (x := i32 x) C.1 C.2.1 hd (by rw [i32_t hx]; exact h) ht (kk E ad0 ad p e s m below meth c H locs ls C h1 h2 hP hD hS hl)
theorem v_lookup {x dflt off : Int} {ps : Array (Int × Int)} {len tgt : Nat} (hd : At M.2.1 pc (.lookupswitch dflt ps) len nx) (hp : (ps.toList.zip (ps.toList.drop 1)).all (fun (a, next) => a.1 < next.1) = true) (hx : InR x) (ho : Op.lookupswitch.offset ps.toList dflt x = off) (ht : (pc : Int) + off = (tgt : Int)) (kk : V d M X k n L σ α tgt lv st) : V d M X k n L σ α pc lv (vI x :: st) := by
  obtain ⟨hd, rfl⟩ := hd
  intro E ad0 ad p e s m below meth c H locs ls C h1 h2 hP hD hS hl
  exact lv_lookup (x := i32 x) C.1 C.2.1 hd hp (by rw [i32_t hx]; exact ho) ht (kk E ad0 ad p e s m below meth c H locs ls C h1 h2 hP hD hS hl)
theorem i64_t {z : Int} (h : InR z) : (i64 z).toInt = z := Int64.toInt_ofInt_of_le (by have := h.1; omega) (by have := h.2; omega)
theorem v_i2l {x : Int} (hd : At M.2.1 pc .i2l 1 nx) (hx : InR x) (kk : V d M X k n L σ α nx lv (vL x :: st)) : V d M X k n L σ α pc lv (vI x :: st) := by
  obtain ⟨hd, rfl⟩ := hd
  intro E ad0 ad p e s m below meth c H locs ls C h1 h2 hP hD hS hl
  have : (i32 x).toInt64 = i64 x := Int64.toInt_inj.mp (by rw [Int32.toInt_toInt64, i32_t hx, i64_t hx])
  exact lv_i2l (x := i32 x) C.1 C.2.1 hd this (kk E ad0 ad p e s m below meth c H locs ls C h1 h2 hP hD hS hl)
theorem v_lconst {i : Fin 2} {z : Int} (hd : At M.2.1 pc (.lconst i) 1 nx) (hz : (i : Int) = z) (kk : V d M X k n L σ α nx lv (vL z :: st)) : V d M X k n L σ α pc lv st := by
  obtain ⟨hd, rfl⟩ := hd
  subst hz
  intro E ad0 ad p e s m below meth c H locs ls C h1 h2 hP hD hS hl
  exact lv_lconst C.1 C.2.1 hd (by match i with | 0 => rfl | 1 => rfl) (kk E ad0 ad p e s m below meth c H locs ls C h1 h2 hP hD hS hl)
theorem v_ldc2 {idx : Nat} {z : Int} (hd : At M.2.1 pc (.ldc2_w idx) 3 nx) (hg : Cond.constantLong M.1.cls idx (i64 z) ∈ GW) (kk : V d M X k n L σ α nx lv (vL z :: st)) : V d M X k n L σ α pc lv st := by
  obtain ⟨hd, rfl⟩ := hd
  intro E ad0 ad p e s m below meth c H locs ls C h1 h2 hP hD hS hl
  exact lv_ldc2 C.1 C.2.1 C.own (C.gw hg) hd (kk E ad0 ad p e s m below meth c H locs ls C h1 h2 hP hD hS hl)
theorem v_ldcw {idx : Nat} {z : Int} (hd : At M.2.1 pc (.ldc_w idx) 3 nx) (hg : Cond.constant M.1.cls idx (i32 z) ∈ GW) (kk : V d M X k n L σ α nx lv (vI z :: st)) : V d M X k n L σ α pc lv st := by
  obtain ⟨hd, rfl⟩ := hd
  intro E ad0 ad p e s m below meth c H locs ls C h1 h2 hP hD hS hl
  exact lv_ldcw C.1 C.2.1 C.own (C.gw hg) hd (kk E ad0 ad p e s m below meth c H locs ls C h1 h2 hP hD hS hl)
theorem v_lcmp {x y : Int} (hd : At M.2.1 pc .lcmp 1 nx) (hx : InR x ∧ InR y) (kk : V d M X k n L σ α nx lv (vI (if x > y then 1 else if x = y then 0 else -1) :: st)) : V d M X k n L σ α pc lv (vL y :: vL x :: st) := by
  obtain ⟨hd, rfl⟩ := hd
  intro E ad0 ad p e s m below meth c H locs ls C h1 h2 hP hD hS hl
  refine W.lcmp (x := i64 x) (y := i64 y) C.1 C.2.1 hd ?_
  have : lg_cmp (i64 x) (i64 y) = i32 (if x > y then 1 else if x = y then 0 else -1) := by
    unfold lg_cmp
    have e1 : (i64 x > i64 y) ↔ x > y := by
      show i64 y < i64 x ↔ _
      rw [Int64.lt_iff_toInt_lt, i64_t hx.1, i64_t hx.2]
    have e2 : (i64 x = i64 y) ↔ x = y := by
      rw [← Int64.toInt_inj, i64_t hx.1, i64_t hx.2]
    by_cases h1 : x > y
    · rw [if_pos (e1.mpr h1), if_pos h1]; rfl
    · rw [if_neg (fun h => h1 (e1.mp h)), if_neg h1]
      by_cases h2 : x = y
      · rw [if_pos (e2.mpr h2), if_pos h2]; rfl
      · rw [if_neg (fun h => h2 (e2.mp h)), if_neg h2]; rfl
  rw [this]
  exact kk E ad0 ad p e s m below meth c H locs ls C h1 h2 hP hD hS hl
end MORE
end
section
/-- the whole world's layout: the class's cells in the order in which they are made, then the reference's -/
def LA : List Ly := [yO 7 [3, 5, 14, 23, 24, 29, 71, 72, 73, 80], yO 6 [4, 0], yA 0 200, yO 4 [6, 7, 8, 9, 0, 0, 0, 0], yA 0 10, yA 0 10, yA 0 10, yO 1 [10, 11, 12, 13, 0], yA 0 10, yA 0 6, yA 0 6, yA 0 6, yO 4 [15, 16, 17, 18, 0, 0, 0, 0], yA 0 10, yA 0 10, yA 0 10, yO 1 [19, 20, 21, 22, 0], yA 0 10, yA 0 6, yA 0 6, yA 0 6, yO 5 [3, 14, 0, 0, 0, 0, 0], yO 1 [25, 26, 27, 28, 0], yA 0 10, yA 0 6, yA 0 6, yA 0 6, yO 2 [30, 0, 0], yQ 3 [31, 36, 41, 46, 51, 56, 61, 66], yO 1 [32, 33, 34, 35, 0], yA 0 10, yA 0 6, yA 0 6, yA 0 6, yO 1 [37, 38, 39, 40, 0], yA 0 10, yA 0 6, yA 0 6, yA 0 6, yO 1 [42, 43, 44, 45, 0], yA 0 10, yA 0 6, yA 0 6, yA 0 6, yO 1 [47, 48, 49, 50, 0], yA 0 10, yA 0 6, yA 0 6, yA 0 6, yO 1 [52, 53, 54, 55, 0], yA 0 10, yA 0 6, yA 0 6, yA 0 6, yO 1 [57, 58, 59, 60, 0], yA 0 10, yA 0 6, yA 0 6, yA 0 6, yO 1 [62, 63, 64, 65, 0], yA 0 10, yA 0 6, yA 0 6, yA 0 6, yO 1 [67, 68, 69, 70, 0], yA 0 10, yA 0 6, yA 0 6, yA 0 6, yQ 3 [81, 86], yA 1 2, yO 3 [74, 75, 76, 77, 78, 79, 5, 24, 0], yA 0 10, yA 0 10, yA 0 10, yA 0 10, yA 0 10, yA 0 10, yQ 2 [91, 93, 95], yO 1 [82, 83, 84, 85, 0], yA 0 10, yA 0 6, yA 0 6, yA 0 6, yO 1 [87, 88, 89, 90, 0], yA 0 10, yA 0 6, yA 0 6, yA 0 6, yO 0 [92, 0, 0, 0], yA 0 8, yO 0 [94, 0, 0, 0], yA 0 8, yO 0 [96, 0, 0, 0], yA 0 8, yO 8 [98, 0, 99, 100, 101, 0, 0, 0, 0, 102, 103, 0, 104, 105, 106, 0, 0, 0, 0, 0, 0, 107, 108, 0, 109], yA 0 348, yA 0 10, yA 0 10, yA 0 10, yA 1 2, yA 0 200, yA 0 3, yA 0 3, yA 0 24, yA 0 3, yA 0 42, yA 0 10]
def catA : AV → Nat
  | .inr (.inr (.inl _)) => 2
  | _ => 1
theorem catA_eq (E : Ev) (ad : Nat → Nat) (v : AV) : (cv E ad v).category = catA v := by
  match v with
  | .inr (.inr (.inl z)) => rfl
  | .inl z => rfl
  | .inr (.inl q) => rfl
  | .inr (.inr (.inr q)) => exact cv_cat E ad _ (by intro z h; cases h)
theorem catA_sum (E : Ev) (ad : Nat → Nat) (vs : List AV) : ((vs.map (cv E ad)).map fun v => v.category).sum = (vs.map catA).sum := by
  rw [List.map_map]
  congr 1
  apply List.map_congr_left
  intro v _
  exact catA_eq E ad v
abbrev Pq : Type := Option AV → St → St → Prop
abbrev XA (av : List AV) (post : Pq) : Cx := (0, 0, av, LA.length, fun r L' s' a' => L' = LA ∧ post r s' a')
/-- a contract in the whole world -/
def CG (d : Nat) (M : Mi) (av : List AV) (σ α : St) (post : Pq) : Prop := SS d M 0 0 av LA σ α (fun r L' s' a' => L' = LA ∧ post r s' a')
abbrev CF (d : Nat) (M : Mi) (av : List AV) (σ α : St) (r : Option AV) (σ' α' : St) : Prop := CG d M av σ α (fun r' s' a' => r' = r ∧ s' = σ' ∧ a' = α')
abbrev VV (d : Nat) (M : Mi) (av : List AV) (post : Pq) (σ α : St) (pc : Nat) (lv : List (Option AV)) (st : List AV) : Prop := V d M (XA av post) 0 0 LA σ α pc lv st
theorem CG.of {d : Nat} {M : Mi} {av : List AV} {σ α : St} {post : Pq} (lv : List (Option AV)) (hy : plainName M.1.cls = true) (hlen : (lvA av).length ≤ M.2.2.1) (hlv : lvA av ++ List.replicate (M.2.2.1 - (lvA av).length) none = lv) (kk : VV d M av post σ α 0 lv []) : CG d M av σ α post := SS.of hy hlen hlv kk
section LAROWS
variable {d : Nat} {M : Mi} {X : Cx} {av : List AV} {post : Pq} {σ α : St} {pc nx : Nat} {lv : List (Option AV)} {st : List AV}
theorem r_i {z : Int} (hd : At M.2.1 pc .ireturn 1 nx) (hr : M.2.2.2 = some .int) (hp : post (some (vI z)) σ α) : VV d M av post σ α pc lv [vI z] := v_ireti hd hr ⟨Nat.le_refl _, Nat.le_refl _⟩ ⟨rfl, hp⟩
theorem r_b {z : Int} (hd : At M.2.1 pc .ireturn 1 nx) (hr : M.2.2.2 = some .boolean) (hz : z = 0 ∨ z = 1) (hp : post (some (vI z)) σ α) : VV d M av post σ α pc lv [vI z] := v_iretb hd hr ⟨Nat.le_refl _, Nat.le_refl _⟩ hz ⟨rfl, hp⟩
theorem r_v (hd : At M.2.1 pc .return_ 1 nx) (hr : M.2.2.2 = none) (hp : post none σ α) : VV d M av post σ α pc lv [] := v_vret hd hr ⟨Nat.le_refl _, Nat.le_refl _⟩ ⟨rfl, hp⟩
theorem room_ok {dc d maxL : Nat} (h : dc + 1 ≤ d) (hm : maxL ≤ 21) : (rmd dc 0 0).frames + 1 ≤ (rmd d X.1 X.2.1).frames ∧ 8 + (maxL + 11) + (rmd dc 0 0).locals ≤ (rmd d X.1 X.2.1).locals := by
  refine ⟨h, ?_⟩
  show 8 + (maxL + 11) + 40 * dc ≤ 40 * d
  omega
theorem la_back {E : Ev} {ad0 ad : Nat → Nat} {p : Program} {e : Env} {s : State} {m : MethodId} {below : List Frame} {meth : Method} {c : Code} {H : Heap} {locs : List Loc} {ls : Array Slot} {st0 : List Value} {rest : List AV} {post : Pq} {a : Array Value}
    (C : Ctx M X E ad0 p s m meth c) (h1 : X.2.2.2.1 ≤ LA.length) (h2 : ∀ j, j < X.2.2.2.1 ∨ LA.length ≤ j → ad j = ad0 j) (hD : va_D (AA ad0 X.2.2.2.1 s.heap.size) (mW LA E.2.2.1 ad σ α)) (hS : va_S (AA ad0 X.2.2.2.1 s.heap.size) s.heap H locs)
    (hr : va_Run p E.1 e (rmd d X.1 X.2.1) s m (X.2.2.1.map (cv E ad0)).toArray below meth c H locs 0 0 0 0 (F0 m pc ls st0) (rest.map (cv E ad)) (PostW E ad LA.length H.size (fun r L' s' a' => L' = LA ∧ post r s' a') a) (AA ad LA.length H.size))
    (hl : LV E ad M.2.2.1 lv ls) (kk : ∀ (r : Option AV) (σ' α' : St), post r σ' α' → V d M X 0 0 LA σ' α' (pc + 3) lv (r.toList ++ rest)) :
    W p E.1 e (rmd d X.1 X.2.1) s m (X.2.2.1.map (cv E ad0)).toArray below meth c H locs 0 0 (MQ below (PostW E ad0 X.2.2.2.1 s.heap.size X.2.2.2.2) (X.2.2.1.map (cv E ad0)).toArray s X.1 X.2.1 (AA ad0 X.2.2.2.1 s.heap.size)) (F0 m pc ls st0) := by
  refine v_back C h1 h2 hD hS hr hl ?_ ?_
  · rintro r L' σ' α' ad' ⟨rfl, -⟩ - had
    have : ad' = ad := funext fun j => had j (Nat.lt_or_ge j LA.length)
    rw [this]
    exact ⟨rfl, hl⟩
  · rintro r L' σ' α' ⟨rfl, hp⟩
    exact kk r σ' α' hp
theorem v_callV {Mc : Mi} {dc na idx q ci N : Nat} {T : u_T} {cs : List Nat} {As rest st0 : List AV} {post : Pq} (hd : At M.2.1 pc (.invokevirtual idx) 3 nx) (hlk : ML M.1.cls idx Mc.1) (hm : MI Mc na ∧ MV Mc) (hS : CG dc Mc (vR q :: As) σ α post) (hdd : dc + 1 ≤ d) (hn : As.length = na) (hL : LA[q]? = some (yO ci cs)) (hci : vwCl[ci]? = some (Mc.1.cls, T, N)) (hst : st0 = As.reverse ++ vR q :: rest) (hr : (rest.map catA).sum ≤ 8)
    (kk : ∀ (r : Option AV) (σ' α' : St), post r σ' α' → V d M X 0 0 LA σ' α' nx lv (r.toList ++ rest)) : V d M X 0 0 LA σ α pc lv st0 := by
  obtain ⟨hd, rfl⟩ := hd
  obtain ⟨⟨hmc, hmi, hmd, hmL⟩, hv1, hv2⟩ := hm
  subst hst
  intro E ad0 ad p e s m below meth c H locs ls C h1 h2 hP hD hSS hl
  have ht := C.2.2.2.2.2.2.2.1
  have hfix : CallFix p m c M.2.1 M.2.2.1 s (X.2.2.1.map (cv E ad0)).toArray (wds M) M.1.cls := ⟨C.1, C.2.1, C.ml, C.own, ht⟩
  have hpre : PreV s H Mc.1.cls (ad q) (va_Pc ((vR q :: As).map (cv E ad)) (PreW E LA ad σ α H.size)) (As.map (cv E ad)) :=
    ⟨PreW.blind, va_recv C.K hP hci (mW_get E.2.2.1 ad σ α hL), fun U hU hW => ⟨rfl, C.pre hP hD hSS hU hW⟩⟩
  have hstk : (As.reverse ++ vR q :: rest).map (cv E ad) = (As.map (cv E ad)).reverse ++ .ref (ad q) :: rest.map (cv E ad) := by simp [cv]
  have hroom : 2 * (F0 m pc ls ((As.reverse ++ vR q :: rest).map (cv E ad))).monitorRoom + ((rest.map (cv E ad)).map fun v => v.category).sum ≤ 8 := lv_room (by rw [catA_sum]; exact hr)
  rcases hlk with hlk | ⟨host, hlk⟩
  · refine la_back C h1 h2 hD hSS (va_runV (As := As.map (cv E ad)) (n := na) hfix (hS E ad H.size) ⟨callB_of na ht (gw_good hmc) rfl rfl rfl (C.gw hmi) (C.gw hlk) hmd (room_ok hdd hmL), C.gw hv1, C.gw hv2⟩ hpre rfl (by simpa using hn) hl.1 hstk hroom hd ⟨Nat.zero_le _, Nat.zero_le _⟩) hl kk
  · refine la_back C h1 h2 hD hSS (va_runVN (As := As.map (cv E ad)) (n := na) hfix (hS E ad H.size) ⟨va_cnB na ht (gw_good hmc) rfl rfl rfl (C.ns _ hlk) (C.gw hmi) hmd (room_ok hdd hmL), C.gw hv1, C.gw hv2⟩ hpre rfl (by simpa using hn) hl.1 hstk hroom hd ⟨Nat.zero_le _, Nat.zero_le _⟩) hl kk
theorem v_callS {Mc : Mi} {dc na idx : Nat} {As rest st0 : List AV} {post : Pq} (hd : At M.2.1 pc (.invokestatic idx) 3 nx) (hlk : ML M.1.cls idx Mc.1) (hm : MI Mc na ∧ Cond.static Mc.1 ∈ GW) (hS : CG dc Mc As σ α post) (hdd : dc + 1 ≤ d) (hn : As.length = na) (hst : st0 = As.reverse ++ rest) (hr : (rest.map catA).sum ≤ 8)
    (kk : ∀ (r : Option AV) (σ' α' : St), post r σ' α' → V d M X 0 0 LA σ' α' nx lv (r.toList ++ rest)) : V d M X 0 0 LA σ α pc lv st0 := by
  obtain ⟨hd, rfl⟩ := hd
  obtain ⟨⟨hmc, hmi, hmd, hmL⟩, hv1⟩ := hm
  subst hst
  intro E ad0 ad p e s m below meth c H locs ls C h1 h2 hP hD hSS hl
  have ht := C.2.2.2.2.2.2.2.1
  have hfix : CallFix p m c M.2.1 M.2.2.1 s (X.2.2.1.map (cv E ad0)).toArray (wds M) M.1.cls := ⟨C.1, C.2.1, C.ml, C.own, ht⟩
  have hpre : PreS s H (va_Pc (As.map (cv E ad)) (PreW E LA ad σ α H.size)) (As.map (cv E ad)) :=
    ⟨PreW.blind, fun U hU hW => ⟨rfl, C.pre hP hD hSS hU hW⟩⟩
  have hstk : (As.reverse ++ rest).map (cv E ad) = (As.map (cv E ad)).reverse ++ rest.map (cv E ad) := by simp
  have hroom : 2 * (F0 m pc ls ((As.reverse ++ rest).map (cv E ad))).monitorRoom + ((rest.map (cv E ad)).map fun v => v.category).sum ≤ 8 := lv_room (by rw [catA_sum]; exact hr)
  rcases hlk with hlk | ⟨host, hlk⟩
  · refine la_back C h1 h2 hD hSS (va_runS (As := As.map (cv E ad)) (n := na) hfix (hS E ad H.size) ⟨callB_of na ht (gw_good hmc) rfl rfl rfl (C.gw hmi) (C.gw hlk) hmd (room_ok hdd hmL), C.gw hv1⟩ hpre rfl (by simpa using hn) hl.1 hstk hroom hd ⟨Nat.zero_le _, Nat.zero_le _⟩) hl kk
  · refine la_back C h1 h2 hD hSS (va_runSN (As := As.map (cv E ad)) (n := na) hfix (hS E ad H.size) ⟨va_cnB na ht (gw_good hmc) rfl rfl rfl (C.ns _ hlk) (C.gw hmi) hmd (room_ok hdd hmL), C.gw hv1, trivial⟩ hpre rfl (by simpa using hn) hl.1 hstk hroom hd ⟨Nat.zero_le _, Nat.zero_le _⟩) hl kk
/-- calls whose answer and world are known -/
theorem c_V1 {Mc : Mi} {dc na idx q ci N : Nat} {T : u_T} {cs : List Nat} {As rest st0 : List AV} {v : AV} {σ' α' : St} (hd : At M.2.1 pc (.invokevirtual idx) 3 nx) (hlk : ML M.1.cls idx Mc.1) (hm : MI Mc na ∧ MV Mc) (hS : CF dc Mc (vR q :: As) σ α (some v) σ' α') (hdd : dc + 1 ≤ d) (hn : As.length = na) (hL : LA[q]? = some (yO ci cs)) (hci : vwCl[ci]? = some (Mc.1.cls, T, N)) (hst : st0 = As.reverse ++ vR q :: rest) (hr : (rest.map catA).sum ≤ 8)
    (kk : V d M X 0 0 LA σ' α' nx lv (v :: rest)) : V d M X 0 0 LA σ α pc lv st0 :=
  v_callV hd hlk hm hS hdd hn hL hci hst hr (by rintro _ _ _ ⟨rfl, rfl, rfl⟩; exact kk)
theorem c_V0 {Mc : Mi} {dc na idx q ci N : Nat} {T : u_T} {cs : List Nat} {As rest st0 : List AV} {σ' α' : St} (hd : At M.2.1 pc (.invokevirtual idx) 3 nx) (hlk : ML M.1.cls idx Mc.1) (hm : MI Mc na ∧ MV Mc) (hS : CF dc Mc (vR q :: As) σ α none σ' α') (hdd : dc + 1 ≤ d) (hn : As.length = na) (hL : LA[q]? = some (yO ci cs)) (hci : vwCl[ci]? = some (Mc.1.cls, T, N)) (hst : st0 = As.reverse ++ vR q :: rest) (hr : (rest.map catA).sum ≤ 8)
    (kk : V d M X 0 0 LA σ' α' nx lv rest) : V d M X 0 0 LA σ α pc lv st0 :=
  v_callV hd hlk hm hS hdd hn hL hci hst hr (by rintro _ _ _ ⟨rfl, rfl, rfl⟩; exact kk)
theorem c_S1 {Mc : Mi} {dc na idx : Nat} {As rest st0 : List AV} {v : AV} {σ' α' : St} (hd : At M.2.1 pc (.invokestatic idx) 3 nx) (hlk : ML M.1.cls idx Mc.1) (hm : MI Mc na ∧ Cond.static Mc.1 ∈ GW) (hS : CF dc Mc As σ α (some v) σ' α') (hdd : dc + 1 ≤ d) (hn : As.length = na) (hst : st0 = As.reverse ++ rest) (hr : (rest.map catA).sum ≤ 8)
    (kk : V d M X 0 0 LA σ' α' nx lv (v :: rest)) : V d M X 0 0 LA σ α pc lv st0 :=
  v_callS hd hlk hm hS hdd hn hst hr (by rintro _ _ _ ⟨rfl, rfl, rfl⟩; exact kk)
theorem c_S0 {Mc : Mi} {dc na idx : Nat} {As rest st0 : List AV} {σ' α' : St} (hd : At M.2.1 pc (.invokestatic idx) 3 nx) (hlk : ML M.1.cls idx Mc.1) (hm : MI Mc na ∧ Cond.static Mc.1 ∈ GW) (hS : CF dc Mc As σ α none σ' α') (hdd : dc + 1 ≤ d) (hn : As.length = na) (hst : st0 = As.reverse ++ rest) (hr : (rest.map catA).sum ≤ 8)
    (kk : V d M X 0 0 LA σ' α' nx lv rest) : V d M X 0 0 LA σ α pc lv st0 :=
  v_callS hd hlk hm hS hdd hn hst hr (by rintro _ _ _ ⟨rfl, rfl, rfl⟩; exact kk)
end LAROWS
end
