section
-- ===== PART A: goes FIRST, ahead of the names: the tables' words, and 'selects' of the private methods out of them =====
/-- a private method of a class that the tables say can be made, by its rows of tables_1 -/
def lw_okq (q : MethodName × Nat) : Prop := (q.1.cls ≠ "java/lang/invoke/MethodHandle" ∧ q.1.cls ≠ "java/lang/invoke/VarHandle") ∧ Cond.instantiable q.1.cls q.2 ∈ tables_1 ∧ Cond.privateMethod q.1 ∈ tables_1 ∧ Cond.instanceMethod q.1 ∈ tables_1
theorem lw_p0 : lw_okq (⟨"RainBallot$Text", "add", "(C)Z"⟩, 5) := ⟨⟨by decide +kernel, by decide +kernel⟩, List.mem_of_getElem? (i := 27) (by decide +kernel), List.mem_of_getElem? (i := 258) (by decide +kernel), List.mem_of_getElem? (i := 259) (by decide +kernel)⟩
theorem lw_p1 : lw_okq (⟨"RainBallot$Text", "read", "(LRainBallot$Plan;LRainBallot$Plan;)I"⟩, 5) := ⟨⟨by decide +kernel, by decide +kernel⟩, List.mem_of_getElem? (i := 27) (by decide +kernel), List.mem_of_getElem? (i := 270) (by decide +kernel), List.mem_of_getElem? (i := 271) (by decide +kernel)⟩
theorem lw_p2 : lw_okq (⟨"RainBallot$Plan", "copyFrom", "(LRainBallot$Plan;)V"⟩, 8) := ⟨⟨by decide +kernel, by decide +kernel⟩, List.mem_of_getElem? (i := 52) (by decide +kernel), List.mem_of_getElem? (i := 274) (by decide +kernel), List.mem_of_getElem? (i := 275) (by decide +kernel)⟩
theorem lw_p3 : lw_okq (⟨"RainBallot$Text", "step", "()V"⟩, 5) := ⟨⟨by decide +kernel, by decide +kernel⟩, List.mem_of_getElem? (i := 27) (by decide +kernel), List.mem_of_getElem? (i := 281) (by decide +kernel), List.mem_of_getElem? (i := 282) (by decide +kernel)⟩
theorem lw_p4 : lw_okq (⟨"RainBallot$Text", "isDigitAt", "(I)Z"⟩, 5) := ⟨⟨by decide +kernel, by decide +kernel⟩, List.mem_of_getElem? (i := 27) (by decide +kernel), List.mem_of_getElem? (i := 285) (by decide +kernel), List.mem_of_getElem? (i := 286) (by decide +kernel)⟩
theorem lw_p5 : lw_okq (⟨"RainBallot$Text", "isSmallAt", "(I)Z"⟩, 5) := ⟨⟨by decide +kernel, by decide +kernel⟩, List.mem_of_getElem? (i := 27) (by decide +kernel), List.mem_of_getElem? (i := 289) (by decide +kernel), List.mem_of_getElem? (i := 290) (by decide +kernel)⟩
theorem lw_p6 : lw_okq (⟨"RainBallot$Text", "readClause", "(LRainBallot$Plan;)Z"⟩, 5) := ⟨⟨by decide +kernel, by decide +kernel⟩, List.mem_of_getElem? (i := 27) (by decide +kernel), List.mem_of_getElem? (i := 293) (by decide +kernel), List.mem_of_getElem? (i := 294) (by decide +kernel)⟩
theorem lw_p7 : lw_okq (⟨"RainBallot$Text", "isWord", "(Ljava/lang/String;)Z"⟩, 5) := ⟨⟨by decide +kernel, by decide +kernel⟩, List.mem_of_getElem? (i := 27) (by decide +kernel), List.mem_of_getElem? (i := 298) (by decide +kernel), List.mem_of_getElem? (i := 299) (by decide +kernel)⟩
theorem lw_p8 : lw_okq (⟨"RainBallot$Plan", "clear", "()V"⟩, 8) := ⟨⟨by decide +kernel, by decide +kernel⟩, List.mem_of_getElem? (i := 52) (by decide +kernel), List.mem_of_getElem? (i := 350) (by decide +kernel), List.mem_of_getElem? (i := 351) (by decide +kernel)⟩
theorem lw_p9 : lw_okq (⟨"RainBallot$Text", "readSlope", "(LRainBallot$Plan;)Z"⟩, 5) := ⟨⟨by decide +kernel, by decide +kernel⟩, List.mem_of_getElem? (i := 27) (by decide +kernel), List.mem_of_getElem? (i := 355) (by decide +kernel), List.mem_of_getElem? (i := 356) (by decide +kernel)⟩
theorem lw_p10 : lw_okq (⟨"RainBallot$Text", "readNumber", "(III)I"⟩, 5) := ⟨⟨by decide +kernel, by decide +kernel⟩, List.mem_of_getElem? (i := 27) (by decide +kernel), List.mem_of_getElem? (i := 359) (by decide +kernel), List.mem_of_getElem? (i := 360) (by decide +kernel)⟩
theorem lw_p11 : lw_okq (⟨"RainBallot$Plan", "tilt", "(II)V"⟩, 8) := ⟨⟨by decide +kernel, by decide +kernel⟩, List.mem_of_getElem? (i := 52) (by decide +kernel), List.mem_of_getElem? (i := 363) (by decide +kernel), List.mem_of_getElem? (i := 364) (by decide +kernel)⟩
theorem lw_p12 : lw_okq (⟨"RainBallot$Plan", "has", "(I)Z"⟩, 8) := ⟨⟨by decide +kernel, by decide +kernel⟩, List.mem_of_getElem? (i := 52) (by decide +kernel), List.mem_of_getElem? (i := 367) (by decide +kernel), List.mem_of_getElem? (i := 368) (by decide +kernel)⟩
theorem lw_p13 : lw_okq (⟨"RainBallot$Text", "kindOfWord", "()I"⟩, 5) := ⟨⟨by decide +kernel, by decide +kernel⟩, List.mem_of_getElem? (i := 27) (by decide +kernel), List.mem_of_getElem? (i := 373) (by decide +kernel), List.mem_of_getElem? (i := 374) (by decide +kernel)⟩
theorem lw_p14 : lw_okq (⟨"RainBallot$Text", "readStreet", "(LRainBallot$Plan;I)Z"⟩, 5) := ⟨⟨by decide +kernel, by decide +kernel⟩, List.mem_of_getElem? (i := 27) (by decide +kernel), List.mem_of_getElem? (i := 381) (by decide +kernel), List.mem_of_getElem? (i := 382) (by decide +kernel)⟩
theorem lw_p15 : lw_okq (⟨"RainBallot$Plan", "add", "(IIII)V"⟩, 8) := ⟨⟨by decide +kernel, by decide +kernel⟩, List.mem_of_getElem? (i := 52) (by decide +kernel), List.mem_of_getElem? (i := 385) (by decide +kernel), List.mem_of_getElem? (i := 386) (by decide +kernel)⟩
def lw_privs_1 : List (MethodName × Nat) := [(⟨"RainBallot$Text", "add", "(C)Z"⟩, 5), (⟨"RainBallot$Text", "read", "(LRainBallot$Plan;LRainBallot$Plan;)I"⟩, 5), (⟨"RainBallot$Plan", "copyFrom", "(LRainBallot$Plan;)V"⟩, 8), (⟨"RainBallot$Text", "step", "()V"⟩, 5), (⟨"RainBallot$Text", "isDigitAt", "(I)Z"⟩, 5), (⟨"RainBallot$Text", "isSmallAt", "(I)Z"⟩, 5), (⟨"RainBallot$Text", "readClause", "(LRainBallot$Plan;)Z"⟩, 5), (⟨"RainBallot$Text", "isWord", "(Ljava/lang/String;)Z"⟩, 5), (⟨"RainBallot$Plan", "clear", "()V"⟩, 8), (⟨"RainBallot$Text", "readSlope", "(LRainBallot$Plan;)Z"⟩, 5), (⟨"RainBallot$Text", "readNumber", "(III)I"⟩, 5), (⟨"RainBallot$Plan", "tilt", "(II)V"⟩, 8), (⟨"RainBallot$Plan", "has", "(I)Z"⟩, 8), (⟨"RainBallot$Text", "kindOfWord", "()I"⟩, 5), (⟨"RainBallot$Text", "readStreet", "(LRainBallot$Plan;I)Z"⟩, 5), (⟨"RainBallot$Plan", "add", "(IIII)V"⟩, 8)]
theorem lw_r1 : ∀ q ∈ lw_privs_1, lw_okq q := List.forall_mem_cons.mpr ⟨lw_p0, List.forall_mem_cons.mpr ⟨lw_p1, List.forall_mem_cons.mpr ⟨lw_p2, List.forall_mem_cons.mpr ⟨lw_p3, List.forall_mem_cons.mpr ⟨lw_p4, List.forall_mem_cons.mpr ⟨lw_p5, List.forall_mem_cons.mpr ⟨lw_p6, List.forall_mem_cons.mpr ⟨lw_p7, List.forall_mem_cons.mpr ⟨lw_p8, List.forall_mem_cons.mpr ⟨lw_p9, List.forall_mem_cons.mpr ⟨lw_p10, List.forall_mem_cons.mpr ⟨lw_p11, List.forall_mem_cons.mpr ⟨lw_p12, List.forall_mem_cons.mpr ⟨lw_p13, List.forall_mem_cons.mpr ⟨lw_p14, List.forall_mem_cons.mpr ⟨lw_p15, fun _ h => absurd h List.not_mem_nil⟩⟩⟩⟩⟩⟩⟩⟩⟩⟩⟩⟩⟩⟩⟩⟩
theorem lw_p16 : lw_okq (⟨"RainBallot$Moment", "begin", "(LRainBallot$Plan;)V"⟩, 4) := ⟨⟨by decide +kernel, by decide +kernel⟩, List.mem_of_getElem? (i := 102) (by decide +kernel), List.mem_of_getElem? (i := 395) (by decide +kernel), List.mem_of_getElem? (i := 396) (by decide +kernel)⟩
theorem lw_p17 : lw_okq (⟨"RainBallot$Past", "clear", "()V"⟩, 3) := ⟨⟨by decide +kernel, by decide +kernel⟩, List.mem_of_getElem? (i := 127) (by decide +kernel), List.mem_of_getElem? (i := 400) (by decide +kernel), List.mem_of_getElem? (i := 401) (by decide +kernel)⟩
theorem lw_p18 : lw_okq (⟨"RainBallot$Shelf", "clear", "()V"⟩, 2) := ⟨⟨by decide +kernel, by decide +kernel⟩, List.mem_of_getElem? (i := 147) (by decide +kernel), List.mem_of_getElem? (i := 404) (by decide +kernel), List.mem_of_getElem? (i := 405) (by decide +kernel)⟩
theorem lw_p19 : lw_okq (⟨"RainBallot$Moment", "driest", "(LRainBallot$Plan;I)I"⟩, 4) := ⟨⟨by decide +kernel, by decide +kernel⟩, List.mem_of_getElem? (i := 102) (by decide +kernel), List.mem_of_getElem? (i := 417) (by decide +kernel), List.mem_of_getElem? (i := 418) (by decide +kernel)⟩
theorem lw_p20 : lw_okq (⟨"RainBallot$Moment", "isContent", "(LRainBallot$Plan;I)Z"⟩, 4) := ⟨⟨by decide +kernel, by decide +kernel⟩, List.mem_of_getElem? (i := 102) (by decide +kernel), List.mem_of_getElem? (i := 421) (by decide +kernel), List.mem_of_getElem? (i := 422) (by decide +kernel)⟩
theorem lw_p21 : lw_okq (⟨"RainBallot$Plan", "wants", "(I)I"⟩, 8) := ⟨⟨by decide +kernel, by decide +kernel⟩, List.mem_of_getElem? (i := 52) (by decide +kernel), List.mem_of_getElem? (i := 426) (by decide +kernel), List.mem_of_getElem? (i := 427) (by decide +kernel)⟩
theorem lw_p22 : lw_okq (⟨"RainBallot$Ballot", "choose", "(LRainBallot$Plan;LRainBallot$Moment;)V"⟩, 3) := ⟨⟨by decide +kernel, by decide +kernel⟩, List.mem_of_getElem? (i := 180) (by decide +kernel), List.mem_of_getElem? (i := 430) (by decide +kernel), List.mem_of_getElem? (i := 431) (by decide +kernel)⟩
theorem lw_p23 : lw_okq (⟨"RainBallot$Ballot", "tally", "(LRainBallot$Moment;I)V"⟩, 3) := ⟨⟨by decide +kernel, by decide +kernel⟩, List.mem_of_getElem? (i := 180) (by decide +kernel), List.mem_of_getElem? (i := 435) (by decide +kernel), List.mem_of_getElem? (i := 436) (by decide +kernel)⟩
theorem lw_p24 : lw_okq (⟨"RainBallot$Ballot", "tallyAll", "(LRainBallot$Moment;III)V"⟩, 3) := ⟨⟨by decide +kernel, by decide +kernel⟩, List.mem_of_getElem? (i := 180) (by decide +kernel), List.mem_of_getElem? (i := 439) (by decide +kernel), List.mem_of_getElem? (i := 440) (by decide +kernel)⟩
theorem lw_p25 : lw_okq (⟨"RainBallot$Past", "remember", "(LRainBallot$Moment;)V"⟩, 3) := ⟨⟨by decide +kernel, by decide +kernel⟩, List.mem_of_getElem? (i := 127) (by decide +kernel), List.mem_of_getElem? (i := 455) (by decide +kernel), List.mem_of_getElem? (i := 456) (by decide +kernel)⟩
theorem lw_p26 : lw_okq (⟨"RainBallot$Moment", "copyFrom", "(LRainBallot$Moment;)V"⟩, 4) := ⟨⟨by decide +kernel, by decide +kernel⟩, List.mem_of_getElem? (i := 102) (by decide +kernel), List.mem_of_getElem? (i := 459) (by decide +kernel), List.mem_of_getElem? (i := 460) (by decide +kernel)⟩
theorem lw_p27 : lw_okq (⟨"RainBallot", "passDay", "(LRainBallot$Moment;)I"⟩, 10) := ⟨⟨by decide +kernel, by decide +kernel⟩, List.mem_of_getElem? (i := 19) (by decide +kernel), List.mem_of_getElem? (i := 466) (by decide +kernel), List.mem_of_getElem? (i := 467) (by decide +kernel)⟩
theorem lw_p28 : lw_okq (⟨"RainBallot$Ballot", "winner", "()I"⟩, 3) := ⟨⟨by decide +kernel, by decide +kernel⟩, List.mem_of_getElem? (i := 180) (by decide +kernel), List.mem_of_getElem? (i := 470) (by decide +kernel), List.mem_of_getElem? (i := 471) (by decide +kernel)⟩
theorem lw_p29 : lw_okq (⟨"RainBallot$Moment", "pass", "(LRainBallot$Plan;I)V"⟩, 4) := ⟨⟨by decide +kernel, by decide +kernel⟩, List.mem_of_getElem? (i := 102) (by decide +kernel), List.mem_of_getElem? (i := 474) (by decide +kernel), List.mem_of_getElem? (i := 475) (by decide +kernel)⟩
theorem lw_p30 : lw_okq (⟨"RainBallot$Moment", "fall", "(LRainBallot$Plan;I)I"⟩, 4) := ⟨⟨by decide +kernel, by decide +kernel⟩, List.mem_of_getElem? (i := 102) (by decide +kernel), List.mem_of_getElem? (i := 478) (by decide +kernel), List.mem_of_getElem? (i := 479) (by decide +kernel)⟩
theorem lw_p31 : lw_okq (⟨"RainBallot$Past", "recall", "(LRainBallot$Moment;)Z"⟩, 3) := ⟨⟨by decide +kernel, by decide +kernel⟩, List.mem_of_getElem? (i := 127) (by decide +kernel), List.mem_of_getElem? (i := 499) (by decide +kernel), List.mem_of_getElem? (i := 500) (by decide +kernel)⟩
def lw_privs_2 : List (MethodName × Nat) := [(⟨"RainBallot$Moment", "begin", "(LRainBallot$Plan;)V"⟩, 4), (⟨"RainBallot$Past", "clear", "()V"⟩, 3), (⟨"RainBallot$Shelf", "clear", "()V"⟩, 2), (⟨"RainBallot$Moment", "driest", "(LRainBallot$Plan;I)I"⟩, 4), (⟨"RainBallot$Moment", "isContent", "(LRainBallot$Plan;I)Z"⟩, 4), (⟨"RainBallot$Plan", "wants", "(I)I"⟩, 8), (⟨"RainBallot$Ballot", "choose", "(LRainBallot$Plan;LRainBallot$Moment;)V"⟩, 3), (⟨"RainBallot$Ballot", "tally", "(LRainBallot$Moment;I)V"⟩, 3), (⟨"RainBallot$Ballot", "tallyAll", "(LRainBallot$Moment;III)V"⟩, 3), (⟨"RainBallot$Past", "remember", "(LRainBallot$Moment;)V"⟩, 3), (⟨"RainBallot$Moment", "copyFrom", "(LRainBallot$Moment;)V"⟩, 4), (⟨"RainBallot", "passDay", "(LRainBallot$Moment;)I"⟩, 10), (⟨"RainBallot$Ballot", "winner", "()I"⟩, 3), (⟨"RainBallot$Moment", "pass", "(LRainBallot$Plan;I)V"⟩, 4), (⟨"RainBallot$Moment", "fall", "(LRainBallot$Plan;I)I"⟩, 4), (⟨"RainBallot$Past", "recall", "(LRainBallot$Moment;)Z"⟩, 3)]
theorem lw_r2 : ∀ q ∈ lw_privs_2, lw_okq q := List.forall_mem_cons.mpr ⟨lw_p16, List.forall_mem_cons.mpr ⟨lw_p17, List.forall_mem_cons.mpr ⟨lw_p18, List.forall_mem_cons.mpr ⟨lw_p19, List.forall_mem_cons.mpr ⟨lw_p20, List.forall_mem_cons.mpr ⟨lw_p21, List.forall_mem_cons.mpr ⟨lw_p22, List.forall_mem_cons.mpr ⟨lw_p23, List.forall_mem_cons.mpr ⟨lw_p24, List.forall_mem_cons.mpr ⟨lw_p25, List.forall_mem_cons.mpr ⟨lw_p26, List.forall_mem_cons.mpr ⟨lw_p27, List.forall_mem_cons.mpr ⟨lw_p28, List.forall_mem_cons.mpr ⟨lw_p29, List.forall_mem_cons.mpr ⟨lw_p30, List.forall_mem_cons.mpr ⟨lw_p31, fun _ h => absurd h List.not_mem_nil⟩⟩⟩⟩⟩⟩⟩⟩⟩⟩⟩⟩⟩⟩⟩⟩
theorem lw_p32 : lw_okq (⟨"RainBallot$Shelf", "put", "(ILRainBallot$Moment;)V"⟩, 2) := ⟨⟨by decide +kernel, by decide +kernel⟩, List.mem_of_getElem? (i := 147) (by decide +kernel), List.mem_of_getElem? (i := 510) (by decide +kernel), List.mem_of_getElem? (i := 511) (by decide +kernel)⟩
theorem lw_p33 : lw_okq (⟨"RainBallot$Shelf", "take", "(ILRainBallot$Moment;)Z"⟩, 2) := ⟨⟨by decide +kernel, by decide +kernel⟩, List.mem_of_getElem? (i := 147) (by decide +kernel), List.mem_of_getElem? (i := 520) (by decide +kernel), List.mem_of_getElem? (i := 521) (by decide +kernel)⟩
theorem lw_p34 : lw_okq (⟨"RainBallot", "passTrialDays", "(I)V"⟩, 10) := ⟨⟨by decide +kernel, by decide +kernel⟩, List.mem_of_getElem? (i := 19) (by decide +kernel), List.mem_of_getElem? (i := 528) (by decide +kernel), List.mem_of_getElem? (i := 529) (by decide +kernel)⟩
theorem lw_p35 : lw_okq (⟨"RainBallot$Plan", "votingBits", "()I"⟩, 8) := ⟨⟨by decide +kernel, by decide +kernel⟩, List.mem_of_getElem? (i := 52) (by decide +kernel), List.mem_of_getElem? (i := 541) (by decide +kernel), List.mem_of_getElem? (i := 542) (by decide +kernel)⟩
theorem lw_p36 : lw_okq (⟨"RainBallot", "isCarriedWith", "(II)Z"⟩, 10) := ⟨⟨by decide +kernel, by decide +kernel⟩, List.mem_of_getElem? (i := 19) (by decide +kernel), List.mem_of_getElem? (i := 551) (by decide +kernel), List.mem_of_getElem? (i := 552) (by decide +kernel)⟩
theorem lw_p37 : lw_okq (⟨"RainBallot$Ballot", "tallyTurned", "(LRainBallot$Moment;II)V"⟩, 3) := ⟨⟨by decide +kernel, by decide +kernel⟩, List.mem_of_getElem? (i := 180) (by decide +kernel), List.mem_of_getElem? (i := 555) (by decide +kernel), List.mem_of_getElem? (i := 556) (by decide +kernel)⟩
theorem lw_p38 : lw_okq (⟨"RainBallot$RowSearch", "find", "(LRainBallot$Plan;LRainBallot$Moment;I)V"⟩, 5) := ⟨⟨by decide +kernel, by decide +kernel⟩, List.mem_of_getElem? (i := 197) (by decide +kernel), List.mem_of_getElem? (i := 568) (by decide +kernel), List.mem_of_getElem? (i := 569) (by decide +kernel)⟩
theorem lw_p39 : lw_okq (⟨"RainBallot$RowSearch", "judge", "(LRainBallot$Plan;)V"⟩, 5) := ⟨⟨by decide +kernel, by decide +kernel⟩, List.mem_of_getElem? (i := 197) (by decide +kernel), List.mem_of_getElem? (i := 577) (by decide +kernel), List.mem_of_getElem? (i := 578) (by decide +kernel)⟩
theorem lw_p40 : lw_okq (⟨"RainBallot$Moment", "contentBits", "(LRainBallot$Plan;)I"⟩, 4) := ⟨⟨by decide +kernel, by decide +kernel⟩, List.mem_of_getElem? (i := 102) (by decide +kernel), List.mem_of_getElem? (i := 581) (by decide +kernel), List.mem_of_getElem? (i := 582) (by decide +kernel)⟩
theorem lw_p41 : lw_okq (⟨"RainBallot$Sightings", "add", "(II)Z"⟩, 3) := ⟨⟨by decide +kernel, by decide +kernel⟩, List.mem_of_getElem? (i := 163) (by decide +kernel), List.mem_of_getElem? (i := 593) (by decide +kernel), List.mem_of_getElem? (i := 594) (by decide +kernel)⟩
theorem lw_p42 : lw_okq (⟨"RainBallot", "isAllSeenInTrial", "()Z"⟩, 10) := ⟨⟨by decide +kernel, by decide +kernel⟩, List.mem_of_getElem? (i := 19) (by decide +kernel), List.mem_of_getElem? (i := 605) (by decide +kernel), List.mem_of_getElem? (i := 606) (by decide +kernel)⟩
theorem lw_p43 : lw_okq (⟨"RainBallot$Sightings", "lastDay", "()I"⟩, 3) := ⟨⟨by decide +kernel, by decide +kernel⟩, List.mem_of_getElem? (i := 163) (by decide +kernel), List.mem_of_getElem? (i := 609) (by decide +kernel), List.mem_of_getElem? (i := 610) (by decide +kernel)⟩
theorem lw_p44 : lw_okq (⟨"RainBallot$Sightings", "allow", "(II)Z"⟩, 3) := ⟨⟨by decide +kernel, by decide +kernel⟩, List.mem_of_getElem? (i := 163) (by decide +kernel), List.mem_of_getElem? (i := 614) (by decide +kernel), List.mem_of_getElem? (i := 615) (by decide +kernel)⟩
theorem lw_p45 : lw_okq (⟨"RainBallot", "weightOfCarried", "(II)J"⟩, 10) := ⟨⟨by decide +kernel, by decide +kernel⟩, List.mem_of_getElem? (i := 19) (by decide +kernel), List.mem_of_getElem? (i := 622) (by decide +kernel), List.mem_of_getElem? (i := 623) (by decide +kernel)⟩
theorem lw_p46 : lw_okq (⟨"RainBallot", "weightOf", "(II)J"⟩, 10) := ⟨⟨by decide +kernel, by decide +kernel⟩, List.mem_of_getElem? (i := 19) (by decide +kernel), List.mem_of_getElem? (i := 626) (by decide +kernel), List.mem_of_getElem? (i := 627) (by decide +kernel)⟩
theorem lw_p47 : lw_okq (⟨"RainBallot$Moment", "allWater", "(I)I"⟩, 4) := ⟨⟨by decide +kernel, by decide +kernel⟩, List.mem_of_getElem? (i := 102) (by decide +kernel), List.mem_of_getElem? (i := 637) (by decide +kernel), List.mem_of_getElem? (i := 638) (by decide +kernel)⟩
def lw_privs_3 : List (MethodName × Nat) := [(⟨"RainBallot$Shelf", "put", "(ILRainBallot$Moment;)V"⟩, 2), (⟨"RainBallot$Shelf", "take", "(ILRainBallot$Moment;)Z"⟩, 2), (⟨"RainBallot", "passTrialDays", "(I)V"⟩, 10), (⟨"RainBallot$Plan", "votingBits", "()I"⟩, 8), (⟨"RainBallot", "isCarriedWith", "(II)Z"⟩, 10), (⟨"RainBallot$Ballot", "tallyTurned", "(LRainBallot$Moment;II)V"⟩, 3), (⟨"RainBallot$RowSearch", "find", "(LRainBallot$Plan;LRainBallot$Moment;I)V"⟩, 5), (⟨"RainBallot$RowSearch", "judge", "(LRainBallot$Plan;)V"⟩, 5), (⟨"RainBallot$Moment", "contentBits", "(LRainBallot$Plan;)I"⟩, 4), (⟨"RainBallot$Sightings", "add", "(II)Z"⟩, 3), (⟨"RainBallot", "isAllSeenInTrial", "()Z"⟩, 10), (⟨"RainBallot$Sightings", "lastDay", "()I"⟩, 3), (⟨"RainBallot$Sightings", "allow", "(II)Z"⟩, 3), (⟨"RainBallot", "weightOfCarried", "(II)J"⟩, 10), (⟨"RainBallot", "weightOf", "(II)J"⟩, 10), (⟨"RainBallot$Moment", "allWater", "(I)I"⟩, 4)]
theorem lw_r3 : ∀ q ∈ lw_privs_3, lw_okq q := List.forall_mem_cons.mpr ⟨lw_p32, List.forall_mem_cons.mpr ⟨lw_p33, List.forall_mem_cons.mpr ⟨lw_p34, List.forall_mem_cons.mpr ⟨lw_p35, List.forall_mem_cons.mpr ⟨lw_p36, List.forall_mem_cons.mpr ⟨lw_p37, List.forall_mem_cons.mpr ⟨lw_p38, List.forall_mem_cons.mpr ⟨lw_p39, List.forall_mem_cons.mpr ⟨lw_p40, List.forall_mem_cons.mpr ⟨lw_p41, List.forall_mem_cons.mpr ⟨lw_p42, List.forall_mem_cons.mpr ⟨lw_p43, List.forall_mem_cons.mpr ⟨lw_p44, List.forall_mem_cons.mpr ⟨lw_p45, List.forall_mem_cons.mpr ⟨lw_p46, List.forall_mem_cons.mpr ⟨lw_p47, fun _ h => absurd h List.not_mem_nil⟩⟩⟩⟩⟩⟩⟩⟩⟩⟩⟩⟩⟩⟩⟩⟩
theorem lw_p48 : lw_okq (⟨"RainBallotModel", "forgets", "()V"⟩, 20) := ⟨⟨by decide +kernel, by decide +kernel⟩, List.mem_of_getElem? (i := 642) (by decide +kernel), List.mem_of_getElem? (i := 648) (by decide +kernel), List.mem_of_getElem? (i := 649) (by decide +kernel)⟩
theorem lw_p49 : lw_okq (⟨"RainBallotModel", "lays", "()V"⟩, 20) := ⟨⟨by decide +kernel, by decide +kernel⟩, List.mem_of_getElem? (i := 642) (by decide +kernel), List.mem_of_getElem? (i := 652) (by decide +kernel), List.mem_of_getElem? (i := 653) (by decide +kernel)⟩
theorem lw_p50 : lw_okq (⟨"RainBallotModel", "reads", "()I"⟩, 20) := ⟨⟨by decide +kernel, by decide +kernel⟩, List.mem_of_getElem? (i := 642) (by decide +kernel), List.mem_of_getElem? (i := 732) (by decide +kernel), List.mem_of_getElem? (i := 733) (by decide +kernel)⟩
theorem lw_p51 : lw_okq (⟨"RainBallotModel", "token", "()V"⟩, 20) := ⟨⟨by decide +kernel, by decide +kernel⟩, List.mem_of_getElem? (i := 642) (by decide +kernel), List.mem_of_getElem? (i := 736) (by decide +kernel), List.mem_of_getElem? (i := 737) (by decide +kernel)⟩
theorem lw_p52 : lw_okq (⟨"RainBallotModel", "letterAt", "(I)I"⟩, 20) := ⟨⟨by decide +kernel, by decide +kernel⟩, List.mem_of_getElem? (i := 642) (by decide +kernel), List.mem_of_getElem? (i := 740) (by decide +kernel), List.mem_of_getElem? (i := 741) (by decide +kernel)⟩
theorem lw_p53 : lw_okq (⟨"RainBallotModel", "readsClause", "()Z"⟩, 20) := ⟨⟨by decide +kernel, by decide +kernel⟩, List.mem_of_getElem? (i := 642) (by decide +kernel), List.mem_of_getElem? (i := 750) (by decide +kernel), List.mem_of_getElem? (i := 751) (by decide +kernel)⟩
theorem lw_p54 : lw_okq (⟨"RainBallotModel", "isWord", "(IIIIIII)Z"⟩, 20) := ⟨⟨by decide +kernel, by decide +kernel⟩, List.mem_of_getElem? (i := 642) (by decide +kernel), List.mem_of_getElem? (i := 754) (by decide +kernel), List.mem_of_getElem? (i := 755) (by decide +kernel)⟩
theorem lw_p55 : lw_okq (⟨"RainBallotModel", "readsStreet", "(I)Z"⟩, 20) := ⟨⟨by decide +kernel, by decide +kernel⟩, List.mem_of_getElem? (i := 642) (by decide +kernel), List.mem_of_getElem? (i := 758) (by decide +kernel), List.mem_of_getElem? (i := 759) (by decide +kernel)⟩
theorem lw_p56 : lw_okq (⟨"RainBallotModel", "number", "(III)Z"⟩, 20) := ⟨⟨by decide +kernel, by decide +kernel⟩, List.mem_of_getElem? (i := 642) (by decide +kernel), List.mem_of_getElem? (i := 762) (by decide +kernel), List.mem_of_getElem? (i := 763) (by decide +kernel)⟩
theorem lw_p57 : lw_okq (⟨"RainBallotModel", "readsSlope", "()Z"⟩, 20) := ⟨⟨by decide +kernel, by decide +kernel⟩, List.mem_of_getElem? (i := 642) (by decide +kernel), List.mem_of_getElem? (i := 766) (by decide +kernel), List.mem_of_getElem? (i := 767) (by decide +kernel)⟩
theorem lw_p58 : lw_okq (⟨"RainBallotModel", "isStreet", "(I)Z"⟩, 20) := ⟨⟨by decide +kernel, by decide +kernel⟩, List.mem_of_getElem? (i := 642) (by decide +kernel), List.mem_of_getElem? (i := 778) (by decide +kernel), List.mem_of_getElem? (i := 779) (by decide +kernel)⟩
theorem lw_p59 : lw_okq (⟨"RainBallotModel", "counts", "()V"⟩, 20) := ⟨⟨by decide +kernel, by decide +kernel⟩, List.mem_of_getElem? (i := 642) (by decide +kernel), List.mem_of_getElem? (i := 782) (by decide +kernel), List.mem_of_getElem? (i := 783) (by decide +kernel)⟩
theorem lw_p60 : lw_okq (⟨"RainBallotModel", "choice", "(I)I"⟩, 20) := ⟨⟨by decide +kernel, by decide +kernel⟩, List.mem_of_getElem? (i := 642) (by decide +kernel), List.mem_of_getElem? (i := 786) (by decide +kernel), List.mem_of_getElem? (i := 787) (by decide +kernel)⟩
theorem lw_p61 : lw_okq (⟨"RainBallotModel", "driestBut", "(I)I"⟩, 20) := ⟨⟨by decide +kernel, by decide +kernel⟩, List.mem_of_getElem? (i := 642) (by decide +kernel), List.mem_of_getElem? (i := 790) (by decide +kernel), List.mem_of_getElem? (i := 791) (by decide +kernel)⟩
theorem lw_p62 : lw_okq (⟨"RainBallotModel", "wants", "(I)I"⟩, 20) := ⟨⟨by decide +kernel, by decide +kernel⟩, List.mem_of_getElem? (i := 642) (by decide +kernel), List.mem_of_getElem? (i := 794) (by decide +kernel), List.mem_of_getElem? (i := 795) (by decide +kernel)⟩
theorem lw_p63 : lw_okq (⟨"RainBallotModel", "keeps", "()V"⟩, 20) := ⟨⟨by decide +kernel, by decide +kernel⟩, List.mem_of_getElem? (i := 642) (by decide +kernel), List.mem_of_getElem? (i := 806) (by decide +kernel), List.mem_of_getElem? (i := 807) (by decide +kernel)⟩
def lw_privs_4 : List (MethodName × Nat) := [(⟨"RainBallotModel", "forgets", "()V"⟩, 20), (⟨"RainBallotModel", "lays", "()V"⟩, 20), (⟨"RainBallotModel", "reads", "()I"⟩, 20), (⟨"RainBallotModel", "token", "()V"⟩, 20), (⟨"RainBallotModel", "letterAt", "(I)I"⟩, 20), (⟨"RainBallotModel", "readsClause", "()Z"⟩, 20), (⟨"RainBallotModel", "isWord", "(IIIIIII)Z"⟩, 20), (⟨"RainBallotModel", "readsStreet", "(I)Z"⟩, 20), (⟨"RainBallotModel", "number", "(III)Z"⟩, 20), (⟨"RainBallotModel", "readsSlope", "()Z"⟩, 20), (⟨"RainBallotModel", "isStreet", "(I)Z"⟩, 20), (⟨"RainBallotModel", "counts", "()V"⟩, 20), (⟨"RainBallotModel", "choice", "(I)I"⟩, 20), (⟨"RainBallotModel", "driestBut", "(I)I"⟩, 20), (⟨"RainBallotModel", "wants", "(I)I"⟩, 20), (⟨"RainBallotModel", "keeps", "()V"⟩, 20)]
theorem lw_r4 : ∀ q ∈ lw_privs_4, lw_okq q := List.forall_mem_cons.mpr ⟨lw_p48, List.forall_mem_cons.mpr ⟨lw_p49, List.forall_mem_cons.mpr ⟨lw_p50, List.forall_mem_cons.mpr ⟨lw_p51, List.forall_mem_cons.mpr ⟨lw_p52, List.forall_mem_cons.mpr ⟨lw_p53, List.forall_mem_cons.mpr ⟨lw_p54, List.forall_mem_cons.mpr ⟨lw_p55, List.forall_mem_cons.mpr ⟨lw_p56, List.forall_mem_cons.mpr ⟨lw_p57, List.forall_mem_cons.mpr ⟨lw_p58, List.forall_mem_cons.mpr ⟨lw_p59, List.forall_mem_cons.mpr ⟨lw_p60, List.forall_mem_cons.mpr ⟨lw_p61, List.forall_mem_cons.mpr ⟨lw_p62, List.forall_mem_cons.mpr ⟨lw_p63, fun _ h => absurd h List.not_mem_nil⟩⟩⟩⟩⟩⟩⟩⟩⟩⟩⟩⟩⟩⟩⟩⟩
theorem lw_p64 : lw_okq (⟨"RainBallotModel", "carried", "()I"⟩, 20) := ⟨⟨by decide +kernel, by decide +kernel⟩, List.mem_of_getElem? (i := 642) (by decide +kernel), List.mem_of_getElem? (i := 810) (by decide +kernel), List.mem_of_getElem? (i := 811) (by decide +kernel)⟩
theorem lw_p65 : lw_okq (⟨"RainBallotModel", "rains", "(I)V"⟩, 20) := ⟨⟨by decide +kernel, by decide +kernel⟩, List.mem_of_getElem? (i := 642) (by decide +kernel), List.mem_of_getElem? (i := 814) (by decide +kernel), List.mem_of_getElem? (i := 815) (by decide +kernel)⟩
theorem lw_p66 : lw_okq (⟨"RainBallotModel", "falls", "(I)I"⟩, 20) := ⟨⟨by decide +kernel, by decide +kernel⟩, List.mem_of_getElem? (i := 642) (by decide +kernel), List.mem_of_getElem? (i := 818) (by decide +kernel), List.mem_of_getElem? (i := 819) (by decide +kernel)⟩
theorem lw_p67 : lw_okq (⟨"RainBallotModel", "holds", "()V"⟩, 20) := ⟨⟨by decide +kernel, by decide +kernel⟩, List.mem_of_getElem? (i := 642) (by decide +kernel), List.mem_of_getElem? (i := 846) (by decide +kernel), List.mem_of_getElem? (i := 847) (by decide +kernel)⟩
theorem lw_p68 : lw_okq (⟨"RainBallotModel", "passes", "(I)V"⟩, 20) := ⟨⟨by decide +kernel, by decide +kernel⟩, List.mem_of_getElem? (i := 642) (by decide +kernel), List.mem_of_getElem? (i := 850) (by decide +kernel), List.mem_of_getElem? (i := 851) (by decide +kernel)⟩
theorem lw_p69 : lw_okq (⟨"RainBallotModel", "lets", "()V"⟩, 20) := ⟨⟨by decide +kernel, by decide +kernel⟩, List.mem_of_getElem? (i := 642) (by decide +kernel), List.mem_of_getElem? (i := 854) (by decide +kernel), List.mem_of_getElem? (i := 855) (by decide +kernel)⟩
theorem lw_p70 : lw_okq (⟨"RainBallotModel", "sated", "()I"⟩, 20) := ⟨⟨by decide +kernel, by decide +kernel⟩, List.mem_of_getElem? (i := 642) (by decide +kernel), List.mem_of_getElem? (i := 877) (by decide +kernel), List.mem_of_getElem? (i := 878) (by decide +kernel)⟩
theorem lw_p71 : lw_okq (⟨"RainBallotModel", "isSo", "()Z"⟩, 20) := ⟨⟨by decide +kernel, by decide +kernel⟩, List.mem_of_getElem? (i := 642) (by decide +kernel), List.mem_of_getElem? (i := 893) (by decide +kernel), List.mem_of_getElem? (i := 894) (by decide +kernel)⟩
def lw_privs_5 : List (MethodName × Nat) := [(⟨"RainBallotModel", "carried", "()I"⟩, 20), (⟨"RainBallotModel", "rains", "(I)V"⟩, 20), (⟨"RainBallotModel", "falls", "(I)I"⟩, 20), (⟨"RainBallotModel", "holds", "()V"⟩, 20), (⟨"RainBallotModel", "passes", "(I)V"⟩, 20), (⟨"RainBallotModel", "lets", "()V"⟩, 20), (⟨"RainBallotModel", "sated", "()I"⟩, 20), (⟨"RainBallotModel", "isSo", "()Z"⟩, 20)]
theorem lw_r5 : ∀ q ∈ lw_privs_5, lw_okq q := List.forall_mem_cons.mpr ⟨lw_p64, List.forall_mem_cons.mpr ⟨lw_p65, List.forall_mem_cons.mpr ⟨lw_p66, List.forall_mem_cons.mpr ⟨lw_p67, List.forall_mem_cons.mpr ⟨lw_p68, List.forall_mem_cons.mpr ⟨lw_p69, List.forall_mem_cons.mpr ⟨lw_p70, List.forall_mem_cons.mpr ⟨lw_p71, fun _ h => absurd h List.not_mem_nil⟩⟩⟩⟩⟩⟩⟩⟩
def lw_privs : List (MethodName × Nat) := lw_privs_1 ++ (lw_privs_2 ++ (lw_privs_3 ++ (lw_privs_4 ++ (lw_privs_5))))
def lw_tbl : List Cond := k2_sels lw_privs ++ tables_1
theorem lw_privs_ok : ∀ q ∈ lw_privs, lw_okq q := by
  show ∀ q ∈ lw_privs_1 ++ (lw_privs_2 ++ (lw_privs_3 ++ (lw_privs_4 ++ (lw_privs_5)))), lw_okq q
  exact List.forall_mem_append.mpr ⟨lw_r1, List.forall_mem_append.mpr ⟨lw_r2, List.forall_mem_append.mpr ⟨lw_r3, List.forall_mem_append.mpr ⟨lw_r4, lw_r5⟩⟩⟩⟩
end
section
/-! ===== BEGIN words of one list among another's, by their places ===== -/
theorem goodIn_r {big : List Cond} (ws : List Cond) (ps : List Nat) (hp : ws = ps.filterMap (fun i => big[i]?)) (h : ws.all goodWord = true) : GoodIn big ws := by
  intro w hw
  have h1 := List.all_eq_true.mp h w hw
  rw [hp] at hw
  obtain ⟨i, -, hi⟩ := List.mem_filterMap.mp hw
  have hm : w ∈ big := by first | exact List.mem_of_getElem? hi | exact List.getElem?_mem hi
  exact ⟨hm, good_of_word h1⟩
theorem goodIn_app {big a b : List Cond} (ha : GoodIn big a) (hb : GoodIn big b) : GoodIn big (a ++ b) := fun w h => (List.mem_append.mp h).elim (ha w) (hb w)
theorem goodIn_ca {big a b : List Cond} {c : Cond} (ha : GoodIn big (c :: a)) (hb : GoodIn big b) : GoodIn big (c :: (a ++ b)) := fun w h => (List.mem_cons.mp h).elim (fun e => ha w (List.mem_cons.mpr (Or.inl e))) (fun h => (List.mem_append.mp h).elim (fun h => ha w (List.mem_cons.mpr (Or.inr h))) (hb w))
theorem goodIn_sub {big ws : List Cond} (hm : ∀ w ∈ ws, w ∈ big) (h : ws.all goodWord = true) : GoodIn big ws := fun w hw => ⟨hm w hw, good_of_word (List.all_eq_true.mp h w hw)⟩
/-! ===== END ===== -/

def RX0 : String := "RainBallot$Ballot"
def TX0 : u_T := fun k => match k with
  | 0 => ("RainBallot$Ballot", "choice", "[I", true)
  | 1 => ("RainBallot$Ballot", "votes", "[I", true)
  | _ => ("RainBallot$Ballot", "streets", "I", false)
def tyX0 : Nat → FieldType := fun k => match k with
  | 0 => .array .int
  | 1 => .array .int
  | _ => .int
abbrev wsX00 : List Cond := u_ws RX0 TX0 3
theorem nmX0 : ∀ a, a < 3 → ∀ b, b < 3 → a ≠ b → (TX0 a).2.1 ≠ (TX0 b).2.1 := by decide +kernel
theorem tyX0_ok : ∀ k, k < 3 → parseFieldDescriptor (TX0 k).2.2.1 = some (tyX0 k) := by decide +kernel
abbrev cX0_init : ByteArray := prog_2_method_1_code
def yX0_init : MethodName := ⟨RX0, "<init>", "()V"⟩
abbrev cX0_choiceOf : ByteArray := prog_2_method_2_code
def yX0_choiceOf : MethodName := ⟨RX0, "choiceOf", "(LRainBallot$Plan;LRainBallot$Moment;I)I"⟩
abbrev cX0_choose : ByteArray := prog_2_method_3_code
def yX0_choose : MethodName := ⟨RX0, "choose", "(LRainBallot$Plan;LRainBallot$Moment;)V"⟩
abbrev cX0_tally : ByteArray := prog_2_method_4_code
def yX0_tally : MethodName := ⟨RX0, "tally", "(LRainBallot$Moment;I)V"⟩
abbrev cX0_tallyTurned : ByteArray := prog_2_method_5_code
def yX0_tallyTurned : MethodName := ⟨RX0, "tallyTurned", "(LRainBallot$Moment;II)V"⟩
abbrev cX0_tallyAll : ByteArray := prog_2_method_6_code
def yX0_tallyAll : MethodName := ⟨RX0, "tallyAll", "(LRainBallot$Moment;III)V"⟩
abbrev cX0_winner : ByteArray := prog_2_method_7_code
def yX0_winner : MethodName := ⟨RX0, "winner", "()I"⟩
def RX1 : String := "RainBallot$Moment"
def TX1 : u_T := fun k => match k with
  | 0 => ("RainBallot$Moment", "water", "[I", true)
  | 1 => ("RainBallot$Moment", "voters", "[I", true)
  | 2 => ("RainBallot$Moment", "rained", "I", false)
  | _ => ("RainBallot$Moment", "number", "I", false)
def tyX1 : Nat → FieldType := fun k => match k with
  | 0 => .array .int
  | 1 => .array .int
  | 2 => .int
  | _ => .int
abbrev wsX10 : List Cond := u_ws RX1 TX1 4
theorem nmX1 : ∀ a, a < 4 → ∀ b, b < 4 → a ≠ b → (TX1 a).2.1 ≠ (TX1 b).2.1 := by decide +kernel
theorem tyX1_ok : ∀ k, k < 4 → parseFieldDescriptor (TX1 k).2.2.1 = some (tyX1 k) := by decide +kernel
abbrev cX1_init : ByteArray := prog_3_method_1_code
def yX1_init : MethodName := ⟨RX1, "<init>", "()V"⟩
abbrev cX1_begin : ByteArray := prog_3_method_2_code
def yX1_begin : MethodName := ⟨RX1, "begin", "(LRainBallot$Plan;)V"⟩
abbrev cX1_copyFrom : ByteArray := prog_3_method_3_code
def yX1_copyFrom : MethodName := ⟨RX1, "copyFrom", "(LRainBallot$Moment;)V"⟩
abbrev cX1_pass : ByteArray := prog_3_method_4_code
def yX1_pass : MethodName := ⟨RX1, "pass", "(LRainBallot$Plan;I)V"⟩
abbrev cX1_fall : ByteArray := prog_3_method_5_code
def yX1_fall : MethodName := ⟨RX1, "fall", "(LRainBallot$Plan;I)I"⟩
abbrev cX1_driest : ByteArray := prog_3_method_6_code
def yX1_driest : MethodName := ⟨RX1, "driest", "(LRainBallot$Plan;I)I"⟩
abbrev cX1_isContent : ByteArray := prog_3_method_7_code
def yX1_isContent : MethodName := ⟨RX1, "isContent", "(LRainBallot$Plan;I)Z"⟩
abbrev cX1_contentBits : ByteArray := prog_3_method_8_code
def yX1_contentBits : MethodName := ⟨RX1, "contentBits", "(LRainBallot$Plan;)I"⟩
abbrev cX1_allWater : ByteArray := prog_3_method_9_code
def yX1_allWater : MethodName := ⟨RX1, "allWater", "(I)I"⟩
def RX2 : String := "RainBallot$Past"
def TX2 : u_T := fun k => match k with
  | 0 => ("RainBallot$Past", "moments", "[LRainBallot$Moment;", true)
  | 1 => ("RainBallot$Past", "next", "I", false)
  | _ => ("RainBallot$Past", "size", "I", false)
def tyX2 : Nat → FieldType := fun k => match k with
  | 0 => .array (.object "RainBallot$Moment")
  | 1 => .int
  | _ => .int
abbrev wsX20 : List Cond := u_ws RX2 TX2 3
theorem nmX2 : ∀ a, a < 3 → ∀ b, b < 3 → a ≠ b → (TX2 a).2.1 ≠ (TX2 b).2.1 := by decide +kernel
theorem tyX2_ok : ∀ k, k < 3 → parseFieldDescriptor (TX2 k).2.2.1 = some (tyX2 k) := by decide +kernel
abbrev cX2_init : ByteArray := prog_4_method_1_code
def yX2_init : MethodName := ⟨RX2, "<init>", "()V"⟩
abbrev cX2_clear : ByteArray := prog_4_method_2_code
def yX2_clear : MethodName := ⟨RX2, "clear", "()V"⟩
abbrev cX2_remember : ByteArray := prog_4_method_3_code
def yX2_remember : MethodName := ⟨RX2, "remember", "(LRainBallot$Moment;)V"⟩
abbrev cX2_recall : ByteArray := prog_4_method_4_code
def yX2_recall : MethodName := ⟨RX2, "recall", "(LRainBallot$Moment;)Z"⟩
def RX3 : String := "RainBallot$Plan"
def TX3 : u_T := fun k => match k with
  | 0 => ("RainBallot$Plan", "kind", "[I", true)
  | 1 => ("RainBallot$Plan", "need", "[I", true)
  | 2 => ("RainBallot$Plan", "voters", "[I", true)
  | 3 => ("RainBallot$Plan", "water", "[I", true)
  | 4 => ("RainBallot$Plan", "slope", "[I", true)
  | 5 => ("RainBallot$Plan", "streets", "I", false)
  | 6 => ("RainBallot$Plan", "cap", "I", false)
  | _ => ("RainBallot$Plan", "inches", "I", false)
def tyX3 : Nat → FieldType := fun k => match k with
  | 0 => .array .int
  | 1 => .array .int
  | 2 => .array .int
  | 3 => .array .int
  | 4 => .array .int
  | 5 => .int
  | 6 => .int
  | _ => .int
abbrev wsX30 : List Cond := u_ws RX3 TX3 8
theorem nmX3 : ∀ a, a < 8 → ∀ b, b < 8 → a ≠ b → (TX3 a).2.1 ≠ (TX3 b).2.1 := by decide +kernel
theorem tyX3_ok : ∀ k, k < 8 → parseFieldDescriptor (TX3 k).2.2.1 = some (tyX3 k) := by decide +kernel
abbrev cX3_init : ByteArray := prog_5_method_1_code
def yX3_init : MethodName := ⟨RX3, "<init>", "()V"⟩
abbrev cX3_clear : ByteArray := prog_5_method_2_code
def yX3_clear : MethodName := ⟨RX3, "clear", "()V"⟩
abbrev cX3_copyFrom : ByteArray := prog_5_method_3_code
def yX3_copyFrom : MethodName := ⟨RX3, "copyFrom", "(LRainBallot$Plan;)V"⟩
abbrev cX3_has : ByteArray := prog_5_method_4_code
def yX3_has : MethodName := ⟨RX3, "has", "(I)Z"⟩
abbrev cX3_add : ByteArray := prog_5_method_5_code
def yX3_add : MethodName := ⟨RX3, "add", "(IIII)V"⟩
abbrev cX3_tilt : ByteArray := prog_5_method_6_code
def yX3_tilt : MethodName := ⟨RX3, "tilt", "(II)V"⟩
abbrev cX3_wants : ByteArray := prog_5_method_7_code
def yX3_wants : MethodName := ⟨RX3, "wants", "(I)I"⟩
abbrev cX3_votingBits : ByteArray := prog_5_method_8_code
def yX3_votingBits : MethodName := ⟨RX3, "votingBits", "()I"⟩
def RX4 : String := "RainBallot$RowSearch"
def TX4 : u_T := fun k => match k with
  | 0 => ("RainBallot$RowSearch", "behind", "[LRainBallot$Moment;", true)
  | 1 => ("RainBallot$RowSearch", "row", "[I", true)
  | 2 => ("RainBallot$RowSearch", "best", "[I", true)
  | 3 => ("RainBallot$RowSearch", "length", "I", false)
  | _ => ("RainBallot$RowSearch", "most", "I", false)
def tyX4 : Nat → FieldType := fun k => match k with
  | 0 => .array (.object "RainBallot$Moment")
  | 1 => .array .int
  | 2 => .array .int
  | 3 => .int
  | _ => .int
abbrev wsX40 : List Cond := u_ws RX4 TX4 5
theorem nmX4 : ∀ a, a < 5 → ∀ b, b < 5 → a ≠ b → (TX4 a).2.1 ≠ (TX4 b).2.1 := by decide +kernel
theorem tyX4_ok : ∀ k, k < 5 → parseFieldDescriptor (TX4 k).2.2.1 = some (tyX4 k) := by decide +kernel
abbrev cX4_init : ByteArray := prog_6_method_1_code
def yX4_init : MethodName := ⟨RX4, "<init>", "()V"⟩
abbrev cX4_find : ByteArray := prog_6_method_2_code
def yX4_find : MethodName := ⟨RX4, "find", "(LRainBallot$Plan;LRainBallot$Moment;I)V"⟩
abbrev cX4_extend : ByteArray := prog_6_method_3_code
def yX4_extend : MethodName := ⟨RX4, "extend", "(LRainBallot$RowSearch;LRainBallot$Plan;I)V"⟩
abbrev cX4_judge : ByteArray := prog_6_method_4_code
def yX4_judge : MethodName := ⟨RX4, "judge", "(LRainBallot$Plan;)V"⟩
def RX5 : String := "RainBallot$Shelf"
def TX5 : u_T := fun k => match k with
  | 0 => ("RainBallot$Shelf", "moments", "[LRainBallot$Moment;", true)
  | _ => ("RainBallot$Shelf", "used", "[Z", true)
def tyX5 : Nat → FieldType := fun k => match k with
  | 0 => .array (.object "RainBallot$Moment")
  | _ => .array .boolean
abbrev wsX50 : List Cond := u_ws RX5 TX5 2
theorem nmX5 : ∀ a, a < 2 → ∀ b, b < 2 → a ≠ b → (TX5 a).2.1 ≠ (TX5 b).2.1 := by decide +kernel
theorem tyX5_ok : ∀ k, k < 2 → parseFieldDescriptor (TX5 k).2.2.1 = some (tyX5 k) := by decide +kernel
abbrev cX5_init : ByteArray := prog_7_method_1_code
def yX5_init : MethodName := ⟨RX5, "<init>", "()V"⟩
abbrev cX5_clear : ByteArray := prog_7_method_2_code
def yX5_clear : MethodName := ⟨RX5, "clear", "()V"⟩
abbrev cX5_put : ByteArray := prog_7_method_3_code
def yX5_put : MethodName := ⟨RX5, "put", "(ILRainBallot$Moment;)V"⟩
abbrev cX5_take : ByteArray := prog_7_method_4_code
def yX5_take : MethodName := ⟨RX5, "take", "(ILRainBallot$Moment;)Z"⟩
def RX6 : String := "RainBallot$Sightings"
def TX6 : u_T := fun k => match k with
  | 0 => ("RainBallot$Sightings", "place", "[I", true)
  | 1 => ("RainBallot$Sightings", "time", "[I", true)
  | _ => ("RainBallot$Sightings", "size", "I", false)
def tyX6 : Nat → FieldType := fun k => match k with
  | 0 => .array .int
  | 1 => .array .int
  | _ => .int
abbrev wsX60 : List Cond := u_ws RX6 TX6 3
theorem nmX6 : ∀ a, a < 3 → ∀ b, b < 3 → a ≠ b → (TX6 a).2.1 ≠ (TX6 b).2.1 := by decide +kernel
theorem tyX6_ok : ∀ k, k < 3 → parseFieldDescriptor (TX6 k).2.2.1 = some (tyX6 k) := by decide +kernel
abbrev cX6_init : ByteArray := prog_8_method_1_code
def yX6_init : MethodName := ⟨RX6, "<init>", "()V"⟩
abbrev cX6_add : ByteArray := prog_8_method_2_code
def yX6_add : MethodName := ⟨RX6, "add", "(II)Z"⟩
abbrev cX6_lastDay : ByteArray := prog_8_method_3_code
def yX6_lastDay : MethodName := ⟨RX6, "lastDay", "()I"⟩
abbrev cX6_allow : ByteArray := prog_8_method_4_code
def yX6_allow : MethodName := ⟨RX6, "allow", "(II)Z"⟩
def RX7 : String := "RainBallot$Text"
def TX7 : u_T := fun k => match k with
  | 0 => ("RainBallot$Text", "letters", "[C", true)
  | 1 => ("RainBallot$Text", "length", "I", false)
  | 2 => ("RainBallot$Text", "start", "I", false)
  | 3 => ("RainBallot$Text", "end", "I", false)
  | _ => ("RainBallot$Text", "clauses", "I", false)
def tyX7 : Nat → FieldType := fun k => match k with
  | 0 => .array .char
  | 1 => .int
  | 2 => .int
  | 3 => .int
  | _ => .int
abbrev wsX70 : List Cond := u_ws RX7 TX7 5
theorem nmX7 : ∀ a, a < 5 → ∀ b, b < 5 → a ≠ b → (TX7 a).2.1 ≠ (TX7 b).2.1 := by decide +kernel
theorem tyX7_ok : ∀ k, k < 5 → parseFieldDescriptor (TX7 k).2.2.1 = some (tyX7 k) := by decide +kernel
abbrev cX7_init : ByteArray := prog_9_method_1_code
def yX7_init : MethodName := ⟨RX7, "<init>", "()V"⟩
abbrev cX7_add : ByteArray := prog_9_method_2_code
def yX7_add : MethodName := ⟨RX7, "add", "(C)Z"⟩
abbrev cX7_read : ByteArray := prog_9_method_3_code
def yX7_read : MethodName := ⟨RX7, "read", "(LRainBallot$Plan;LRainBallot$Plan;)I"⟩
abbrev cX7_step : ByteArray := prog_9_method_4_code
def yX7_step : MethodName := ⟨RX7, "step", "()V"⟩
abbrev cX7_isDigitAt : ByteArray := prog_9_method_5_code
def yX7_isDigitAt : MethodName := ⟨RX7, "isDigitAt", "(I)Z"⟩
abbrev cX7_isSmallAt : ByteArray := prog_9_method_6_code
def yX7_isSmallAt : MethodName := ⟨RX7, "isSmallAt", "(I)Z"⟩
abbrev cX7_isWord : ByteArray := prog_9_method_7_code
def yX7_isWord : MethodName := ⟨RX7, "isWord", "(Ljava/lang/String;)Z"⟩
abbrev cX7_readClause : ByteArray := prog_9_method_8_code
def yX7_readClause : MethodName := ⟨RX7, "readClause", "(LRainBallot$Plan;)Z"⟩
abbrev cX7_kindOfWord : ByteArray := prog_9_method_9_code
def yX7_kindOfWord : MethodName := ⟨RX7, "kindOfWord", "()I"⟩
abbrev cX7_readStreet : ByteArray := prog_9_method_10_code
def yX7_readStreet : MethodName := ⟨RX7, "readStreet", "(LRainBallot$Plan;I)Z"⟩
abbrev cX7_readSlope : ByteArray := prog_9_method_11_code
def yX7_readSlope : MethodName := ⟨RX7, "readSlope", "(LRainBallot$Plan;)Z"⟩
abbrev cX7_readNumber : ByteArray := prog_9_method_12_code
def yX7_readNumber : MethodName := ⟨RX7, "readNumber", "(III)I"⟩
def RX8 : String := "RainBallot"
def TX8 : u_T := fun k => match k with
  | 0 => ("RainBallot", "text", "LRainBallot$Text;", true)
  | 1 => ("RainBallot", "told", "LRainBallot$Plan;", true)
  | 2 => ("RainBallot", "draft", "LRainBallot$Plan;", true)
  | 3 => ("RainBallot", "now", "LRainBallot$Moment;", true)
  | 4 => ("RainBallot", "trial", "LRainBallot$Moment;", true)
  | 5 => ("RainBallot", "past", "LRainBallot$Past;", true)
  | 6 => ("RainBallot", "shelf", "LRainBallot$Shelf;", true)
  | 7 => ("RainBallot", "sightings", "LRainBallot$Sightings;", true)
  | 8 => ("RainBallot", "ballot", "LRainBallot$Ballot;", true)
  | _ => ("RainBallot", "rows", "LRainBallot$RowSearch;", true)
def tyX8 : Nat → FieldType := fun k => match k with
  | 0 => .object "RainBallot$Text"
  | 1 => .object "RainBallot$Plan"
  | 2 => .object "RainBallot$Plan"
  | 3 => .object "RainBallot$Moment"
  | 4 => .object "RainBallot$Moment"
  | 5 => .object "RainBallot$Past"
  | 6 => .object "RainBallot$Shelf"
  | 7 => .object "RainBallot$Sightings"
  | 8 => .object "RainBallot$Ballot"
  | _ => .object "RainBallot$RowSearch"
abbrev wsX80 : List Cond := u_ws RX8 TX8 10
theorem nmX8 : ∀ a, a < 10 → ∀ b, b < 10 → a ≠ b → (TX8 a).2.1 ≠ (TX8 b).2.1 := by decide +kernel
theorem tyX8_ok : ∀ k, k < 10 → parseFieldDescriptor (TX8 k).2.2.1 = some (tyX8 k) := by decide +kernel
abbrev cX8_init : ByteArray := prog_1_method_1_code
def yX8_init : MethodName := ⟨RX8, "<init>", "()V"⟩
abbrev cX8_write : ByteArray := prog_1_method_2_code
def yX8_write : MethodName := ⟨RX8, "write", "(I)I"⟩
abbrev cX8_erase : ByteArray := prog_1_method_3_code
def yX8_erase : MethodName := ⟨RX8, "erase", "()I"⟩
abbrev cX8_fault : ByteArray := prog_1_method_4_code
def yX8_fault : MethodName := ⟨RX8, "fault", "()I"⟩
abbrev cX8_town : ByteArray := prog_1_method_5_code
def yX8_town : MethodName := ⟨RX8, "town", "()I"⟩
abbrev cX8_street : ByteArray := prog_1_method_6_code
def yX8_street : MethodName := ⟨RX8, "street", "(II)I"⟩
abbrev cX8_as : ByteArray := prog_1_method_7_code
def yX8_as : MethodName := ⟨RX8, "as", "(II)I"⟩
abbrev cX8_day : ByteArray := prog_1_method_8_code
def yX8_day : MethodName := ⟨RX8, "day", "()I"⟩
abbrev cX8_hose : ByteArray := prog_1_method_9_code
def yX8_hose : MethodName := ⟨RX8, "hose", "(II)I"⟩
abbrev cX8_poll : ByteArray := prog_1_method_10_code
def yX8_poll : MethodName := ⟨RX8, "poll", "(II)I"⟩
abbrev cX8_undo : ByteArray := prog_1_method_11_code
def yX8_undo : MethodName := ⟨RX8, "undo", "()I"⟩
abbrev cX8_keep : ByteArray := prog_1_method_12_code
def yX8_keep : MethodName := ⟨RX8, "keep", "(I)I"⟩
abbrev cX8_back : ByteArray := prog_1_method_13_code
def yX8_back : MethodName := ⟨RX8, "back", "(I)I"⟩
abbrev cX8_where : ByteArray := prog_1_method_14_code
def yX8_where : MethodName := ⟨RX8, "where", "(I)I"⟩
abbrev cX8_wet : ByteArray := prog_1_method_15_code
def yX8_wet : MethodName := ⟨RX8, "wet", "(II)I"⟩
abbrev cX8_carry : ByteArray := prog_1_method_16_code
def yX8_carry : MethodName := ⟨RX8, "carry", "(I)I"⟩
abbrev cX8_reach : ByteArray := prog_1_method_17_code
def yX8_reach : MethodName := ⟨RX8, "reach", "(I)I"⟩
abbrev cX8_month : ByteArray := prog_1_method_18_code
def yX8_month : MethodName := ⟨RX8, "month", "(II)I"⟩
abbrev cX8_seen : ByteArray := prog_1_method_19_code
def yX8_seen : MethodName := ⟨RX8, "seen", "(II)I"⟩
abbrev cX8_forget : ByteArray := prog_1_method_20_code
def yX8_forget : MethodName := ⟨RX8, "forget", "()I"⟩
abbrev cX8_polls : ByteArray := prog_1_method_21_code
def yX8_polls : MethodName := ⟨RX8, "polls", "(I)I"⟩
abbrev cX8_chance : ByteArray := prog_1_method_22_code
def yX8_chance : MethodName := ⟨RX8, "chance", "(III)I"⟩
abbrev cX8_count : ByteArray := prog_1_method_23_code
def yX8_count : MethodName := ⟨RX8, "count", "(I)I"⟩
abbrev cX8_isShelf : ByteArray := prog_1_method_24_code
def yX8_isShelf : MethodName := ⟨RX8, "isShelf", "(I)Z"⟩
abbrev cX8_isUnder : ByteArray := prog_1_method_25_code
def yX8_isUnder : MethodName := ⟨RX8, "isUnder", "(II)Z"⟩
abbrev cX8_passDay : ByteArray := prog_1_method_26_code
def yX8_passDay : MethodName := ⟨RX8, "passDay", "(LRainBallot$Moment;)I"⟩
abbrev cX8_passTrialDays : ByteArray := prog_1_method_27_code
def yX8_passTrialDays : MethodName := ⟨RX8, "passTrialDays", "(I)V"⟩
abbrev cX8_isCarriedWith : ByteArray := prog_1_method_28_code
def yX8_isCarriedWith : MethodName := ⟨RX8, "isCarriedWith", "(II)Z"⟩
abbrev cX8_isAllSeenInTrial : ByteArray := prog_1_method_29_code
def yX8_isAllSeenInTrial : MethodName := ⟨RX8, "isAllSeenInTrial", "()Z"⟩
abbrev cX8_weightOfCarried : ByteArray := prog_1_method_30_code
def yX8_weightOfCarried : MethodName := ⟨RX8, "weightOfCarried", "(II)J"⟩
abbrev cX8_weightOf : ByteArray := prog_1_method_31_code
def yX8_weightOf : MethodName := ⟨RX8, "weightOf", "(II)J"⟩
abbrev cX8_commonDivisor : ByteArray := prog_1_method_32_code
def yX8_commonDivisor : MethodName := ⟨RX8, "commonDivisor", "(JJ)J"⟩
def RX9 : String := "RainBallotModel"
def TX9 : u_T := fun k => match k with
  | 0 => ("RainBallotModel", "text", "[I", true)
  | 1 => ("RainBallotModel", "typed", "I", false)
  | 2 => ("RainBallotModel", "told", "[I", true)
  | 3 => ("RainBallotModel", "draft", "[I", true)
  | 4 => ("RainBallotModel", "s", "[I", true)
  | 5 => ("RainBallotModel", "past", "[I", true)
  | 6 => ("RainBallotModel", "known", "I", false)
  | 7 => ("RainBallotModel", "images", "[I", true)
  | 8 => ("RainBallotModel", "kept", "[Z", true)
  | 9 => ("RainBallotModel", "notes", "[I", true)
  | 10 => ("RainBallotModel", "noted", "I", false)
  | 11 => ("RainBallotModel", "at", "I", false)
  | 12 => ("RainBallotModel", "sort", "I", false)
  | 13 => ("RainBallotModel", "start", "I", false)
  | 14 => ("RainBallotModel", "value", "I", false)
  | 15 => ("RainBallotModel", "votes", "[I", true)
  | 16 => ("RainBallotModel", "home", "I", false)
  | 17 => ("RainBallotModel", "bought", "I", false)
  | 18 => ("RainBallotModel", "buyer", "I", false)
  | _ => ("RainBallotModel", "held", "[I", true)
def tyX9 : Nat → FieldType := fun k => match k with
  | 0 => .array .int
  | 1 => .int
  | 2 => .array .int
  | 3 => .array .int
  | 4 => .array .int
  | 5 => .array .int
  | 6 => .int
  | 7 => .array .int
  | 8 => .array .boolean
  | 9 => .array .int
  | 10 => .int
  | 11 => .int
  | 12 => .int
  | 13 => .int
  | 14 => .int
  | 15 => .array .int
  | 16 => .int
  | 17 => .int
  | 18 => .int
  | _ => .array .int
abbrev wsX90 : List Cond := u_ws RX9 TX9 20
theorem nmX9 : ∀ a, a < 20 → ∀ b, b < 20 → a ≠ b → (TX9 a).2.1 ≠ (TX9 b).2.1 := by decide +kernel
theorem tyX9_ok : ∀ k, k < 20 → parseFieldDescriptor (TX9 k).2.2.1 = some (tyX9 k) := by decide +kernel
abbrev cX9_init : ByteArray := prog_11_method_1_code
def yX9_init : MethodName := ⟨RX9, "<init>", "()V"⟩
abbrev cX9_in : ByteArray := prog_11_method_3_code
def yX9_in : MethodName := ⟨RX9, "in", "(III)Z"⟩
abbrev cX9_isStreet : ByteArray := prog_11_method_4_code
def yX9_isStreet : MethodName := ⟨RX9, "isStreet", "(I)Z"⟩
abbrev cX9_write : ByteArray := prog_11_method_5_code
def yX9_write : MethodName := ⟨RX9, "write", "(I)I"⟩
abbrev cX9_erase : ByteArray := prog_11_method_6_code
def yX9_erase : MethodName := ⟨RX9, "erase", "()I"⟩
abbrev cX9_letterAt : ByteArray := prog_11_method_7_code
def yX9_letterAt : MethodName := ⟨RX9, "letterAt", "(I)I"⟩
abbrev cX9_isLetter : ByteArray := prog_11_method_8_code
def yX9_isLetter : MethodName := ⟨RX9, "isLetter", "(I)Z"⟩
abbrev cX9_isDigit : ByteArray := prog_11_method_9_code
def yX9_isDigit : MethodName := ⟨RX9, "isDigit", "(I)Z"⟩
abbrev cX9_token : ByteArray := prog_11_method_10_code
def yX9_token : MethodName := ⟨RX9, "token", "()V"⟩
abbrev cX9_isWord : ByteArray := prog_11_method_11_code
def yX9_isWord : MethodName := ⟨RX9, "isWord", "(IIIIIII)Z"⟩
abbrev cX9_number : ByteArray := prog_11_method_12_code
def yX9_number : MethodName := ⟨RX9, "number", "(III)Z"⟩
abbrev cX9_forgets : ByteArray := prog_11_method_13_code
def yX9_forgets : MethodName := ⟨RX9, "forgets", "()V"⟩
abbrev cX9_readsStreet : ByteArray := prog_11_method_14_code
def yX9_readsStreet : MethodName := ⟨RX9, "readsStreet", "(I)Z"⟩
abbrev cX9_readsSlope : ByteArray := prog_11_method_15_code
def yX9_readsSlope : MethodName := ⟨RX9, "readsSlope", "()Z"⟩
abbrev cX9_readsClause : ByteArray := prog_11_method_16_code
def yX9_readsClause : MethodName := ⟨RX9, "readsClause", "()Z"⟩
abbrev cX9_reads : ByteArray := prog_11_method_17_code
def yX9_reads : MethodName := ⟨RX9, "reads", "()I"⟩
abbrev cX9_lays : ByteArray := prog_11_method_18_code
def yX9_lays : MethodName := ⟨RX9, "lays", "()V"⟩
abbrev cX9_fault : ByteArray := prog_11_method_19_code
def yX9_fault : MethodName := ⟨RX9, "fault", "()I"⟩
abbrev cX9_town : ByteArray := prog_11_method_20_code
def yX9_town : MethodName := ⟨RX9, "town", "()I"⟩
abbrev cX9_wants : ByteArray := prog_11_method_21_code
def yX9_wants : MethodName := ⟨RX9, "wants", "(I)I"⟩
abbrev cX9_driestBut : ByteArray := prog_11_method_22_code
def yX9_driestBut : MethodName := ⟨RX9, "driestBut", "(I)I"⟩
abbrev cX9_choice : ByteArray := prog_11_method_23_code
def yX9_choice : MethodName := ⟨RX9, "choice", "(I)I"⟩
abbrev cX9_counts : ByteArray := prog_11_method_24_code
def yX9_counts : MethodName := ⟨RX9, "counts", "()V"⟩
abbrev cX9_carried : ByteArray := prog_11_method_25_code
def yX9_carried : MethodName := ⟨RX9, "carried", "()I"⟩
abbrev cX9_street : ByteArray := prog_11_method_26_code
def yX9_street : MethodName := ⟨RX9, "street", "(II)I"⟩
abbrev cX9_as : ByteArray := prog_11_method_27_code
def yX9_as : MethodName := ⟨RX9, "as", "(II)I"⟩
abbrev cX9_keeps : ByteArray := prog_11_method_28_code
def yX9_keeps : MethodName := ⟨RX9, "keeps", "()V"⟩
abbrev cX9_falls : ByteArray := prog_11_method_29_code
def yX9_falls : MethodName := ⟨RX9, "falls", "(I)I"⟩
abbrev cX9_rains : ByteArray := prog_11_method_30_code
def yX9_rains : MethodName := ⟨RX9, "rains", "(I)V"⟩
abbrev cX9_day : ByteArray := prog_11_method_31_code
def yX9_day : MethodName := ⟨RX9, "day", "()I"⟩
abbrev cX9_hose : ByteArray := prog_11_method_32_code
def yX9_hose : MethodName := ⟨RX9, "hose", "(II)I"⟩
abbrev cX9_poll : ByteArray := prog_11_method_33_code
def yX9_poll : MethodName := ⟨RX9, "poll", "(II)I"⟩
abbrev cX9_undo : ByteArray := prog_11_method_34_code
def yX9_undo : MethodName := ⟨RX9, "undo", "()I"⟩
abbrev cX9_keep : ByteArray := prog_11_method_35_code
def yX9_keep : MethodName := ⟨RX9, "keep", "(I)I"⟩
abbrev cX9_back : ByteArray := prog_11_method_36_code
def yX9_back : MethodName := ⟨RX9, "back", "(I)I"⟩
abbrev cX9_holds : ByteArray := prog_11_method_37_code
def yX9_holds : MethodName := ⟨RX9, "holds", "()V"⟩
abbrev cX9_lets : ByteArray := prog_11_method_38_code
def yX9_lets : MethodName := ⟨RX9, "lets", "()V"⟩
abbrev cX9_passes : ByteArray := prog_11_method_39_code
def yX9_passes : MethodName := ⟨RX9, "passes", "(I)V"⟩
abbrev cX9_where : ByteArray := prog_11_method_40_code
def yX9_where : MethodName := ⟨RX9, "where", "(I)I"⟩
abbrev cX9_wet : ByteArray := prog_11_method_41_code
def yX9_wet : MethodName := ⟨RX9, "wet", "(II)I"⟩
abbrev cX9_ones : ByteArray := prog_11_method_42_code
def yX9_ones : MethodName := ⟨RX9, "ones", "(I)I"⟩
abbrev cX9_carry : ByteArray := prog_11_method_43_code
def yX9_carry : MethodName := ⟨RX9, "carry", "(I)I"⟩
abbrev cX9_reach : ByteArray := prog_11_method_44_code
def yX9_reach : MethodName := ⟨RX9, "reach", "(I)I"⟩
abbrev cX9_sated : ByteArray := prog_11_method_45_code
def yX9_sated : MethodName := ⟨RX9, "sated", "()I"⟩
abbrev cX9_month : ByteArray := prog_11_method_46_code
def yX9_month : MethodName := ⟨RX9, "month", "(II)I"⟩
abbrev cX9_seen : ByteArray := prog_11_method_47_code
def yX9_seen : MethodName := ⟨RX9, "seen", "(II)I"⟩
abbrev cX9_forget : ByteArray := prog_11_method_48_code
def yX9_forget : MethodName := ⟨RX9, "forget", "()I"⟩
abbrev cX9_isSo : ByteArray := prog_11_method_49_code
def yX9_isSo : MethodName := ⟨RX9, "isSo", "()Z"⟩
abbrev cX9_polls : ByteArray := prog_11_method_50_code
def yX9_polls : MethodName := ⟨RX9, "polls", "(I)I"⟩
abbrev cX9_chance : ByteArray := prog_11_method_51_code
def yX9_chance : MethodName := ⟨RX9, "chance", "(III)I"⟩
abbrev cX9_count : ByteArray := prog_11_method_52_code
def yX9_count : MethodName := ⟨RX9, "count", "(I)I"⟩
def RJ6 : String := "java/lang/Integer"
def TJ6 : u_T := fun k => match k with
  | _ => ("", "", "", false)
def tyJ6 : Nat → FieldType := fun k => match k with
  | _ => .int
abbrev wsJ60 : List Cond := u_ws RJ6 TJ6 0
theorem nmJ6 : ∀ a, a < 0 → ∀ b, b < 0 → a ≠ b → (TJ6 a).2.1 ≠ (TJ6 b).2.1 := by decide +kernel
theorem tyJ6_ok : ∀ k, k < 0 → parseFieldDescriptor (TJ6 k).2.2.1 = some (tyJ6 k) := by decide +kernel
abbrev cJ6_bitCount_0f7a4 : ByteArray := prog_12_method_49_code
def yJ6_bitCount_0f7a4 : MethodName := ⟨RJ6, "bitCount", "(I)I"⟩
def RJ9 : String := "java/lang/Math"
def TJ9 : u_T := fun k => match k with
  | _ => ("", "", "", false)
def tyJ9 : Nat → FieldType := fun k => match k with
  | _ => .int
abbrev wsJ90 : List Cond := u_ws RJ9 TJ9 0
theorem nmJ9 : ∀ a, a < 0 → ∀ b, b < 0 → a ≠ b → (TJ9 a).2.1 ≠ (TJ9 b).2.1 := by decide +kernel
theorem tyJ9_ok : ∀ k, k < 0 → parseFieldDescriptor (TJ9 k).2.2.1 = some (tyJ9 k) := by decide +kernel
abbrev cJ9_max_7cf53 : ByteArray := prog_13_method_65_code
def yJ9_max_7cf53 : MethodName := ⟨RJ9, "max", "(II)I"⟩
abbrev cJ9_min_7cf53 : ByteArray := prog_13_method_69_code
def yJ9_min_7cf53 : MethodName := ⟨RJ9, "min", "(II)I"⟩
def RJ0 : String := "java/lang/String"
def TJ0 : u_T := fun k => match k with
  | _ => ("", "", "", false)
def tyJ0 : Nat → FieldType := fun k => match k with
  | _ => .int
abbrev wsJ00 : List Cond := u_ws RJ0 TJ0 0
theorem nmJ0 : ∀ a, a < 0 → ∀ b, b < 0 → a ≠ b → (TJ0 a).2.1 ≠ (TJ0 b).2.1 := by decide +kernel
theorem tyJ0_ok : ∀ k, k < 0 → parseFieldDescriptor (TJ0 k).2.2.1 = some (tyJ0 k) := by decide +kernel
abbrev cJ0_length_8abf5 : ByteArray := prog_14_method_54_code
def yJ0_length_8abf5 : MethodName := ⟨RJ0, "length", "()I"⟩
abbrev cJ0_charAt_5068e : ByteArray := prog_14_method_56_code
def yJ0_charAt_5068e : MethodName := ⟨RJ0, "charAt", "(I)C"⟩
abbrev cJ0_coder_7d493 : ByteArray := prog_14_method_152_code
def yJ0_coder_7d493 : MethodName := ⟨RJ0, "coder", "()B"⟩
abbrev cJ0_isLatin1_aae02 : ByteArray := prog_14_method_154_code
def yJ0_isLatin1_aae02 : MethodName := ⟨RJ0, "isLatin1", "()Z"⟩
abbrev cJ0_checkIndex_df160 : ByteArray := prog_14_method_155_code
def yJ0_checkIndex_df160 : MethodName := ⟨RJ0, "checkIndex", "(II)V"⟩
def RJ1 : String := "java/lang/StringLatin1"
def TJ1 : u_T := fun k => match k with
  | _ => ("", "", "", false)
def tyJ1 : Nat → FieldType := fun k => match k with
  | _ => .int
abbrev wsJ10 : List Cond := u_ws RJ1 TJ1 0
theorem nmJ1 : ∀ a, a < 0 → ∀ b, b < 0 → a ≠ b → (TJ1 a).2.1 ≠ (TJ1 b).2.1 := by decide +kernel
theorem tyJ1_ok : ∀ k, k < 0 → parseFieldDescriptor (TJ1 k).2.2.1 = some (tyJ1 k) := by decide +kernel
abbrev cJ1_charAt_3b067 : ByteArray := prog_15_method_2_code
def yJ1_charAt_3b067 : MethodName := ⟨RJ1, "charAt", "([BI)C"⟩
def RJ2 : String := "java/lang/StringUTF16"
def TJ2 : u_T := fun k => match k with
  | _ => ("", "", "", false)
def tyJ2 : Nat → FieldType := fun k => match k with
  | _ => .int
abbrev wsJ20 : List Cond := u_ws RJ2 TJ2 0
theorem nmJ2 : ∀ a, a < 0 → ∀ b, b < 0 → a ≠ b → (TJ2 a).2.1 ≠ (TJ2 b).2.1 := by decide +kernel
theorem tyJ2_ok : ∀ k, k < 0 → parseFieldDescriptor (TJ2 k).2.2.1 = some (tyJ2 k) := by decide +kernel
abbrev cJ2_getChar_3b067 : ByteArray := prog_16_method_5_code
def yJ2_getChar_3b067 : MethodName := ⟨RJ2, "getChar", "([BI)C"⟩
abbrev cJ2_length_9d52b : ByteArray := prog_16_method_6_code
def yJ2_length_9d52b : MethodName := ⟨RJ2, "length", "([B)I"⟩
abbrev cJ2_charAt_3b067 : ByteArray := prog_16_method_83_code
def yJ2_charAt_3b067 : MethodName := ⟨RJ2, "charAt", "([BI)C"⟩
abbrev cJ2_checkIndex_2214a : ByteArray := prog_16_method_91_code
def yJ2_checkIndex_2214a : MethodName := ⟨RJ2, "checkIndex", "(I[B)V"⟩
def RJ10 : String := "java/lang/System"
def TJ10 : u_T := fun k => match k with
  | _ => ("", "", "", false)
def tyJ10 : Nat → FieldType := fun k => match k with
  | _ => .int
abbrev wsJ100 : List Cond := u_ws RJ10 TJ10 0
theorem nmJ10 : ∀ a, a < 0 → ∀ b, b < 0 → a ≠ b → (TJ10 a).2.1 ≠ (TJ10 b).2.1 := by decide +kernel
theorem tyJ10_ok : ∀ k, k < 0 → parseFieldDescriptor (TJ10 k).2.2.1 = some (tyJ10 k) := by decide +kernel
def RJ3 : String := "jdk/internal/util/Preconditions"
def TJ3 : u_T := fun k => match k with
  | _ => ("", "", "", false)
def tyJ3 : Nat → FieldType := fun k => match k with
  | _ => .int
abbrev wsJ30 : List Cond := u_ws RJ3 TJ3 0
theorem nmJ3 : ∀ a, a < 0 → ∀ b, b < 0 → a ≠ b → (TJ3 a).2.1 ≠ (TJ3 b).2.1 := by decide +kernel
theorem tyJ3_ok : ∀ k, k < 0 → parseFieldDescriptor (TJ3 k).2.2.1 = some (tyJ3 k) := by decide +kernel
abbrev cJ3_checkIndex_8e157 : ByteArray := prog_18_method_11_code
def yJ3_checkIndex_8e157 : MethodName := ⟨RJ3, "checkIndex", "(IILjava/util/function/BiFunction;)I"⟩
def RL : String := "RainBallotLaw"
abbrev cL_law : ByteArray := code
def yL_law : MethodName := ⟨RL, "law", "([I)Z"⟩
abbrev vwCl : List vw_C := [(RX0, TX0, 3), (RX1, TX1, 4), (RX2, TX2, 3), (RX3, TX3, 8), (RX4, TX4, 5), (RX5, TX5, 2), (RX6, TX6, 3), (RX7, TX7, 5), (RX8, TX8, 10), (RX9, TX9, 20)]
end
section
theorem dX0_init_0 : decode cX0_init 0 = .ok (.aload_n 0, 1) := by decide +kernel
theorem dX0_init_1 : decode cX0_init 1 = .ok (.invokespecial 3, 3) := by decide +kernel
theorem dX0_init_4 : decode cX0_init 4 = .ok (.aload_n 0, 1) := by decide +kernel
theorem dX0_init_5 : decode cX0_init 5 = .ok (.bipush 8, 2) := by decide +kernel
theorem dX0_init_7 : decode cX0_init 7 = .ok (.newarray .int, 2) := by decide +kernel
theorem dX0_init_9 : decode cX0_init 9 = .ok (.putfield 9, 3) := by decide +kernel
theorem dX0_init_12 : decode cX0_init 12 = .ok (.aload_n 0, 1) := by decide +kernel
theorem dX0_init_13 : decode cX0_init 13 = .ok (.bipush 8, 2) := by decide +kernel
theorem dX0_init_15 : decode cX0_init 15 = .ok (.newarray .int, 2) := by decide +kernel
theorem dX0_init_17 : decode cX0_init 17 = .ok (.putfield 15, 3) := by decide +kernel
theorem dX0_init_20 : decode cX0_init 20 = .ok (.aload_n 0, 1) := by decide +kernel
theorem dX0_init_21 : decode cX0_init 21 = .ok (.iconst 0, 1) := by decide +kernel
theorem dX0_init_22 : decode cX0_init 22 = .ok (.putfield 18, 3) := by decide +kernel
theorem dX0_init_25 : decode cX0_init 25 = .ok (.return_, 1) := by decide +kernel
theorem dX0_choiceOf_0 : decode cX0_choiceOf 0 = .ok (.aload_n 0, 1) := by decide +kernel
theorem dX0_choiceOf_1 : decode cX0_choiceOf 1 = .ok (.iload_n 2, 1) := by decide +kernel
theorem dX0_choiceOf_2 : decode cX0_choiceOf 2 = .ok (.invokevirtual 22, 3) := by decide +kernel
theorem dX0_choiceOf_5 : decode cX0_choiceOf 5 = .ok (.ifCond .eq 13, 3) := by decide +kernel
theorem dX0_choiceOf_8 : decode cX0_choiceOf 8 = .ok (.aload_n 0, 1) := by decide +kernel
theorem dX0_choiceOf_9 : decode cX0_choiceOf 9 = .ok (.getfield 28, 3) := by decide +kernel
theorem dX0_choiceOf_12 : decode cX0_choiceOf 12 = .ok (.iload_n 2, 1) := by decide +kernel
theorem dX0_choiceOf_13 : decode cX0_choiceOf 13 = .ok (.iaload, 1) := by decide +kernel
theorem dX0_choiceOf_14 : decode cX0_choiceOf 14 = .ok (.iconst 2, 1) := by decide +kernel
theorem dX0_choiceOf_15 : decode cX0_choiceOf 15 = .ok (.if_icmp .ne 5, 3) := by decide +kernel
theorem dX0_choiceOf_18 : decode cX0_choiceOf 18 = .ok (.iconst (-1), 1) := by decide +kernel
theorem dX0_choiceOf_19 : decode cX0_choiceOf 19 = .ok (.ireturn, 1) := by decide +kernel
theorem dX0_choiceOf_20 : decode cX0_choiceOf 20 = .ok (.aload_n 0, 1) := by decide +kernel
theorem dX0_choiceOf_21 : decode cX0_choiceOf 21 = .ok (.getfield 28, 3) := by decide +kernel
theorem dX0_choiceOf_24 : decode cX0_choiceOf 24 = .ok (.iload_n 2, 1) := by decide +kernel
theorem dX0_choiceOf_25 : decode cX0_choiceOf 25 = .ok (.iaload, 1) := by decide +kernel
theorem dX0_choiceOf_26 : decode cX0_choiceOf 26 = .ok (.iconst 3, 1) := by decide +kernel
theorem dX0_choiceOf_27 : decode cX0_choiceOf 27 = .ok (.if_icmp .ne 10, 3) := by decide +kernel
theorem dX0_choiceOf_30 : decode cX0_choiceOf 30 = .ok (.aload_n 1, 1) := by decide +kernel
theorem dX0_choiceOf_31 : decode cX0_choiceOf 31 = .ok (.aload_n 0, 1) := by decide +kernel
theorem dX0_choiceOf_32 : decode cX0_choiceOf 32 = .ok (.iload_n 2, 1) := by decide +kernel
theorem dX0_choiceOf_33 : decode cX0_choiceOf 33 = .ok (.invokevirtual 31, 3) := by decide +kernel
theorem dX0_choiceOf_36 : decode cX0_choiceOf 36 = .ok (.ireturn, 1) := by decide +kernel
theorem dX0_choiceOf_37 : decode cX0_choiceOf 37 = .ok (.aload_n 1, 1) := by decide +kernel
theorem dX0_choiceOf_38 : decode cX0_choiceOf 38 = .ok (.aload_n 0, 1) := by decide +kernel
theorem dX0_choiceOf_39 : decode cX0_choiceOf 39 = .ok (.iload_n 2, 1) := by decide +kernel
theorem dX0_choiceOf_40 : decode cX0_choiceOf 40 = .ok (.invokevirtual 37, 3) := by decide +kernel
theorem dX0_choiceOf_43 : decode cX0_choiceOf 43 = .ok (.ifCond .eq 12, 3) := by decide +kernel
theorem dX0_choiceOf_46 : decode cX0_choiceOf 46 = .ok (.aload_n 1, 1) := by decide +kernel
theorem dX0_choiceOf_47 : decode cX0_choiceOf 47 = .ok (.aload_n 0, 1) := by decide +kernel
theorem dX0_choiceOf_48 : decode cX0_choiceOf 48 = .ok (.iconst (-1), 1) := by decide +kernel
theorem dX0_choiceOf_49 : decode cX0_choiceOf 49 = .ok (.invokevirtual 31, 3) := by decide +kernel
theorem dX0_choiceOf_52 : decode cX0_choiceOf 52 = .ok (.goto 4, 3) := by decide +kernel
theorem dX0_choiceOf_55 : decode cX0_choiceOf 55 = .ok (.iload_n 2, 1) := by decide +kernel
theorem dX0_choiceOf_56 : decode cX0_choiceOf 56 = .ok (.ireturn, 1) := by decide +kernel
theorem dX0_choose_0 : decode cX0_choose 0 = .ok (.aload_n 0, 1) := by decide +kernel
theorem dX0_choose_1 : decode cX0_choose 1 = .ok (.aload_n 1, 1) := by decide +kernel
theorem dX0_choose_2 : decode cX0_choose 2 = .ok (.getfield 41, 3) := by decide +kernel
theorem dX0_choose_5 : decode cX0_choose 5 = .ok (.putfield 18, 3) := by decide +kernel
theorem dX0_choose_8 : decode cX0_choose 8 = .ok (.iconst 0, 1) := by decide +kernel
theorem dX0_choose_9 : decode cX0_choose 9 = .ok (.istore_n 3, 1) := by decide +kernel
theorem dX0_choose_10 : decode cX0_choose 10 = .ok (.iload_n 3, 1) := by decide +kernel
theorem dX0_choose_11 : decode cX0_choose 11 = .ok (.aload_n 0, 1) := by decide +kernel
theorem dX0_choose_12 : decode cX0_choose 12 = .ok (.getfield 18, 3) := by decide +kernel
theorem dX0_choose_15 : decode cX0_choose 15 = .ok (.if_icmp .ge 21, 3) := by decide +kernel
theorem dX0_choose_18 : decode cX0_choose 18 = .ok (.aload_n 0, 1) := by decide +kernel
theorem dX0_choose_19 : decode cX0_choose 19 = .ok (.getfield 9, 3) := by decide +kernel
theorem dX0_choose_22 : decode cX0_choose 22 = .ok (.iload_n 3, 1) := by decide +kernel
theorem dX0_choose_23 : decode cX0_choose 23 = .ok (.aload_n 1, 1) := by decide +kernel
theorem dX0_choose_24 : decode cX0_choose 24 = .ok (.aload_n 2, 1) := by decide +kernel
theorem dX0_choose_25 : decode cX0_choose 25 = .ok (.iload_n 3, 1) := by decide +kernel
theorem dX0_choose_26 : decode cX0_choose 26 = .ok (.invokestatic 42, 3) := by decide +kernel
theorem dX0_choose_29 : decode cX0_choose 29 = .ok (.iastore, 1) := by decide +kernel
theorem dX0_choose_30 : decode cX0_choose 30 = .ok (.iinc 3 1, 3) := by decide +kernel
theorem dX0_choose_33 : decode cX0_choose 33 = .ok (.goto (-23), 3) := by decide +kernel
theorem dX0_choose_36 : decode cX0_choose 36 = .ok (.return_, 1) := by decide +kernel
theorem dX0_tally_0 : decode cX0_tally 0 = .ok (.aload_n 0, 1) := by decide +kernel
theorem dX0_tally_1 : decode cX0_tally 1 = .ok (.aload_n 1, 1) := by decide +kernel
theorem dX0_tally_2 : decode cX0_tally 2 = .ok (.iload_n 2, 1) := by decide +kernel
theorem dX0_tally_3 : decode cX0_tally 3 = .ok (.iconst 0, 1) := by decide +kernel
theorem dX0_tally_4 : decode cX0_tally 4 = .ok (.iconst (-1), 1) := by decide +kernel
theorem dX0_tally_5 : decode cX0_tally 5 = .ok (.invokevirtual 46, 3) := by decide +kernel
theorem dX0_tally_8 : decode cX0_tally 8 = .ok (.return_, 1) := by decide +kernel
theorem dX0_tallyTurned_0 : decode cX0_tallyTurned 0 = .ok (.aload_n 0, 1) := by decide +kernel
theorem dX0_tallyTurned_1 : decode cX0_tallyTurned 1 = .ok (.aload_n 1, 1) := by decide +kernel
theorem dX0_tallyTurned_2 : decode cX0_tallyTurned 2 = .ok (.iconst 0, 1) := by decide +kernel
theorem dX0_tallyTurned_3 : decode cX0_tallyTurned 3 = .ok (.iload_n 2, 1) := by decide +kernel
theorem dX0_tallyTurned_4 : decode cX0_tallyTurned 4 = .ok (.iload_n 3, 1) := by decide +kernel
theorem dX0_tallyTurned_5 : decode cX0_tallyTurned 5 = .ok (.invokevirtual 46, 3) := by decide +kernel
theorem dX0_tallyTurned_8 : decode cX0_tallyTurned 8 = .ok (.return_, 1) := by decide +kernel
theorem dX0_tallyAll_0 : decode cX0_tallyAll 0 = .ok (.iconst 0, 1) := by decide +kernel
theorem dX0_tallyAll_1 : decode cX0_tallyAll 1 = .ok (.istore 5, 2) := by decide +kernel
theorem dX0_tallyAll_3 : decode cX0_tallyAll 3 = .ok (.iload 5, 2) := by decide +kernel
theorem dX0_tallyAll_5 : decode cX0_tallyAll 5 = .ok (.aload_n 0, 1) := by decide +kernel
theorem dX0_tallyAll_6 : decode cX0_tallyAll 6 = .ok (.getfield 18, 3) := by decide +kernel
theorem dX0_tallyAll_9 : decode cX0_tallyAll 9 = .ok (.if_icmp .ge 17, 3) := by decide +kernel
theorem dX0_tallyAll_12 : decode cX0_tallyAll 12 = .ok (.aload_n 0, 1) := by decide +kernel
theorem dX0_tallyAll_13 : decode cX0_tallyAll 13 = .ok (.getfield 15, 3) := by decide +kernel
theorem dX0_tallyAll_16 : decode cX0_tallyAll 16 = .ok (.iload 5, 2) := by decide +kernel
theorem dX0_tallyAll_18 : decode cX0_tallyAll 18 = .ok (.iconst 0, 1) := by decide +kernel
theorem dX0_tallyAll_19 : decode cX0_tallyAll 19 = .ok (.iastore, 1) := by decide +kernel
theorem dX0_tallyAll_20 : decode cX0_tallyAll 20 = .ok (.iinc 5 1, 3) := by decide +kernel
theorem dX0_tallyAll_23 : decode cX0_tallyAll 23 = .ok (.goto (-20), 3) := by decide +kernel
theorem dX0_tallyAll_26 : decode cX0_tallyAll 26 = .ok (.iconst 0, 1) := by decide +kernel
theorem dX0_tallyAll_27 : decode cX0_tallyAll 27 = .ok (.istore 5, 2) := by decide +kernel
theorem dX0_tallyAll_29 : decode cX0_tallyAll 29 = .ok (.iload 5, 2) := by decide +kernel
theorem dX0_tallyAll_31 : decode cX0_tallyAll 31 = .ok (.aload_n 0, 1) := by decide +kernel
theorem dX0_tallyAll_32 : decode cX0_tallyAll 32 = .ok (.getfield 18, 3) := by decide +kernel
theorem dX0_tallyAll_35 : decode cX0_tallyAll 35 = .ok (.if_icmp .ge 93, 3) := by decide +kernel
theorem dX0_tallyAll_38 : decode cX0_tallyAll 38 = .ok (.iload_n 3, 1) := by decide +kernel
theorem dX0_tallyAll_39 : decode cX0_tallyAll 39 = .ok (.iload 5, 2) := by decide +kernel
theorem dX0_tallyAll_41 : decode cX0_tallyAll 41 = .ok (.ishr, 1) := by decide +kernel
theorem dX0_tallyAll_42 : decode cX0_tallyAll 42 = .ok (.iconst 1, 1) := by decide +kernel
theorem dX0_tallyAll_43 : decode cX0_tallyAll 43 = .ok (.iand, 1) := by decide +kernel
theorem dX0_tallyAll_44 : decode cX0_tallyAll 44 = .ok (.ifCond .eq 8, 3) := by decide +kernel
theorem dX0_tallyAll_47 : decode cX0_tallyAll 47 = .ok (.iload 4, 2) := by decide +kernel
theorem dX0_tallyAll_49 : decode cX0_tallyAll 49 = .ok (.goto 10, 3) := by decide +kernel
theorem dX0_tallyAll_52 : decode cX0_tallyAll 52 = .ok (.aload_n 0, 1) := by decide +kernel
theorem dX0_tallyAll_53 : decode cX0_tallyAll 53 = .ok (.getfield 9, 3) := by decide +kernel
theorem dX0_tallyAll_56 : decode cX0_tallyAll 56 = .ok (.iload 5, 2) := by decide +kernel
theorem dX0_tallyAll_58 : decode cX0_tallyAll 58 = .ok (.iaload, 1) := by decide +kernel
theorem dX0_tallyAll_59 : decode cX0_tallyAll 59 = .ok (.istore 6, 2) := by decide +kernel
theorem dX0_tallyAll_61 : decode cX0_tallyAll 61 = .ok (.iload_n 2, 1) := by decide +kernel
theorem dX0_tallyAll_62 : decode cX0_tallyAll 62 = .ok (.iload 5, 2) := by decide +kernel
theorem dX0_tallyAll_64 : decode cX0_tallyAll 64 = .ok (.ishr, 1) := by decide +kernel
theorem dX0_tallyAll_65 : decode cX0_tallyAll 65 = .ok (.iconst 1, 1) := by decide +kernel
theorem dX0_tallyAll_66 : decode cX0_tallyAll 66 = .ok (.iand, 1) := by decide +kernel
theorem dX0_tallyAll_67 : decode cX0_tallyAll 67 = .ok (.ifCond .ne 16, 3) := by decide +kernel
theorem dX0_tallyAll_70 : decode cX0_tallyAll 70 = .ok (.iload 6, 2) := by decide +kernel
theorem dX0_tallyAll_72 : decode cX0_tallyAll 72 = .ok (.aload_n 1, 1) := by decide +kernel
theorem dX0_tallyAll_73 : decode cX0_tallyAll 73 = .ok (.getfield 50, 3) := by decide +kernel
theorem dX0_tallyAll_76 : decode cX0_tallyAll 76 = .ok (.if_icmp .eq 7, 3) := by decide +kernel
theorem dX0_tallyAll_79 : decode cX0_tallyAll 79 = .ok (.iconst 1, 1) := by decide +kernel
theorem dX0_tallyAll_80 : decode cX0_tallyAll 80 = .ok (.goto 4, 3) := by decide +kernel
theorem dX0_tallyAll_83 : decode cX0_tallyAll 83 = .ok (.iconst 0, 1) := by decide +kernel
theorem dX0_tallyAll_84 : decode cX0_tallyAll 84 = .ok (.istore 7, 2) := by decide +kernel
theorem dX0_tallyAll_86 : decode cX0_tallyAll 86 = .ok (.iload 7, 2) := by decide +kernel
theorem dX0_tallyAll_88 : decode cX0_tallyAll 88 = .ok (.ifCond .eq 34, 3) := by decide +kernel
theorem dX0_tallyAll_91 : decode cX0_tallyAll 91 = .ok (.iload 6, 2) := by decide +kernel
theorem dX0_tallyAll_93 : decode cX0_tallyAll 93 = .ok (.ifCond .lt 29, 3) := by decide +kernel
theorem dX0_tallyAll_96 : decode cX0_tallyAll 96 = .ok (.iload 6, 2) := by decide +kernel
theorem dX0_tallyAll_98 : decode cX0_tallyAll 98 = .ok (.aload_n 0, 1) := by decide +kernel
theorem dX0_tallyAll_99 : decode cX0_tallyAll 99 = .ok (.getfield 18, 3) := by decide +kernel
theorem dX0_tallyAll_102 : decode cX0_tallyAll 102 = .ok (.if_icmp .ge 20, 3) := by decide +kernel
theorem dX0_tallyAll_105 : decode cX0_tallyAll 105 = .ok (.aload_n 0, 1) := by decide +kernel
theorem dX0_tallyAll_106 : decode cX0_tallyAll 106 = .ok (.getfield 15, 3) := by decide +kernel
theorem dX0_tallyAll_109 : decode cX0_tallyAll 109 = .ok (.iload 6, 2) := by decide +kernel
theorem dX0_tallyAll_111 : decode cX0_tallyAll 111 = .ok (.dup2, 1) := by decide +kernel
theorem dX0_tallyAll_112 : decode cX0_tallyAll 112 = .ok (.iaload, 1) := by decide +kernel
theorem dX0_tallyAll_113 : decode cX0_tallyAll 113 = .ok (.aload_n 1, 1) := by decide +kernel
theorem dX0_tallyAll_114 : decode cX0_tallyAll 114 = .ok (.getfield 53, 3) := by decide +kernel
theorem dX0_tallyAll_117 : decode cX0_tallyAll 117 = .ok (.iload 5, 2) := by decide +kernel
theorem dX0_tallyAll_119 : decode cX0_tallyAll 119 = .ok (.iaload, 1) := by decide +kernel
theorem dX0_tallyAll_120 : decode cX0_tallyAll 120 = .ok (.iadd, 1) := by decide +kernel
theorem dX0_tallyAll_121 : decode cX0_tallyAll 121 = .ok (.iastore, 1) := by decide +kernel
theorem dX0_tallyAll_122 : decode cX0_tallyAll 122 = .ok (.iinc 5 1, 3) := by decide +kernel
theorem dX0_tallyAll_125 : decode cX0_tallyAll 125 = .ok (.goto (-96), 3) := by decide +kernel
theorem dX0_tallyAll_128 : decode cX0_tallyAll 128 = .ok (.return_, 1) := by decide +kernel
theorem dX0_winner_0 : decode cX0_winner 0 = .ok (.iconst (-1), 1) := by decide +kernel
theorem dX0_winner_1 : decode cX0_winner 1 = .ok (.istore_n 1, 1) := by decide +kernel
theorem dX0_winner_2 : decode cX0_winner 2 = .ok (.iconst 0, 1) := by decide +kernel
theorem dX0_winner_3 : decode cX0_winner 3 = .ok (.istore_n 2, 1) := by decide +kernel
theorem dX0_winner_4 : decode cX0_winner 4 = .ok (.iconst 0, 1) := by decide +kernel
theorem dX0_winner_5 : decode cX0_winner 5 = .ok (.istore_n 3, 1) := by decide +kernel
theorem dX0_winner_6 : decode cX0_winner 6 = .ok (.iload_n 3, 1) := by decide +kernel
theorem dX0_winner_7 : decode cX0_winner 7 = .ok (.aload_n 0, 1) := by decide +kernel
theorem dX0_winner_8 : decode cX0_winner 8 = .ok (.getfield 18, 3) := by decide +kernel
theorem dX0_winner_11 : decode cX0_winner 11 = .ok (.if_icmp .ge 43, 3) := by decide +kernel
theorem dX0_winner_14 : decode cX0_winner 14 = .ok (.aload_n 0, 1) := by decide +kernel
theorem dX0_winner_15 : decode cX0_winner 15 = .ok (.getfield 15, 3) := by decide +kernel
theorem dX0_winner_18 : decode cX0_winner 18 = .ok (.iload_n 3, 1) := by decide +kernel
theorem dX0_winner_19 : decode cX0_winner 19 = .ok (.iaload, 1) := by decide +kernel
theorem dX0_winner_20 : decode cX0_winner 20 = .ok (.iload_n 2, 1) := by decide +kernel
theorem dX0_winner_21 : decode cX0_winner 21 = .ok (.if_icmp .le 15, 3) := by decide +kernel
theorem dX0_winner_24 : decode cX0_winner 24 = .ok (.aload_n 0, 1) := by decide +kernel
theorem dX0_winner_25 : decode cX0_winner 25 = .ok (.getfield 15, 3) := by decide +kernel
theorem dX0_winner_28 : decode cX0_winner 28 = .ok (.iload_n 3, 1) := by decide +kernel
theorem dX0_winner_29 : decode cX0_winner 29 = .ok (.iaload, 1) := by decide +kernel
theorem dX0_winner_30 : decode cX0_winner 30 = .ok (.istore_n 2, 1) := by decide +kernel
theorem dX0_winner_31 : decode cX0_winner 31 = .ok (.iload_n 3, 1) := by decide +kernel
theorem dX0_winner_32 : decode cX0_winner 32 = .ok (.istore_n 1, 1) := by decide +kernel
theorem dX0_winner_33 : decode cX0_winner 33 = .ok (.goto 15, 3) := by decide +kernel
theorem dX0_winner_36 : decode cX0_winner 36 = .ok (.aload_n 0, 1) := by decide +kernel
theorem dX0_winner_37 : decode cX0_winner 37 = .ok (.getfield 15, 3) := by decide +kernel
theorem dX0_winner_40 : decode cX0_winner 40 = .ok (.iload_n 3, 1) := by decide +kernel
theorem dX0_winner_41 : decode cX0_winner 41 = .ok (.iaload, 1) := by decide +kernel
theorem dX0_winner_42 : decode cX0_winner 42 = .ok (.iload_n 2, 1) := by decide +kernel
theorem dX0_winner_43 : decode cX0_winner 43 = .ok (.if_icmp .ne 5, 3) := by decide +kernel
theorem dX0_winner_46 : decode cX0_winner 46 = .ok (.iconst (-1), 1) := by decide +kernel
theorem dX0_winner_47 : decode cX0_winner 47 = .ok (.istore_n 1, 1) := by decide +kernel
theorem dX0_winner_48 : decode cX0_winner 48 = .ok (.iinc 3 1, 3) := by decide +kernel
theorem dX0_winner_51 : decode cX0_winner 51 = .ok (.goto (-45), 3) := by decide +kernel
theorem dX0_winner_54 : decode cX0_winner 54 = .ok (.iload_n 1, 1) := by decide +kernel
theorem dX0_winner_55 : decode cX0_winner 55 = .ok (.ireturn, 1) := by decide +kernel
theorem dX1_init_0 : decode cX1_init 0 = .ok (.aload_n 0, 1) := by decide +kernel
theorem dX1_init_1 : decode cX1_init 1 = .ok (.invokespecial 3, 3) := by decide +kernel
theorem dX1_init_4 : decode cX1_init 4 = .ok (.aload_n 0, 1) := by decide +kernel
theorem dX1_init_5 : decode cX1_init 5 = .ok (.bipush 8, 2) := by decide +kernel
theorem dX1_init_7 : decode cX1_init 7 = .ok (.newarray .int, 2) := by decide +kernel
theorem dX1_init_9 : decode cX1_init 9 = .ok (.putfield 9, 3) := by decide +kernel
theorem dX1_init_12 : decode cX1_init 12 = .ok (.aload_n 0, 1) := by decide +kernel
theorem dX1_init_13 : decode cX1_init 13 = .ok (.bipush 8, 2) := by decide +kernel
theorem dX1_init_15 : decode cX1_init 15 = .ok (.newarray .int, 2) := by decide +kernel
theorem dX1_init_17 : decode cX1_init 17 = .ok (.putfield 15, 3) := by decide +kernel
theorem dX1_init_20 : decode cX1_init 20 = .ok (.aload_n 0, 1) := by decide +kernel
theorem dX1_init_21 : decode cX1_init 21 = .ok (.iconst (-1), 1) := by decide +kernel
theorem dX1_init_22 : decode cX1_init 22 = .ok (.putfield 18, 3) := by decide +kernel
theorem dX1_init_25 : decode cX1_init 25 = .ok (.aload_n 0, 1) := by decide +kernel
theorem dX1_init_26 : decode cX1_init 26 = .ok (.iconst 0, 1) := by decide +kernel
theorem dX1_init_27 : decode cX1_init 27 = .ok (.putfield 22, 3) := by decide +kernel
theorem dX1_init_30 : decode cX1_init 30 = .ok (.return_, 1) := by decide +kernel
theorem dX1_begin_0 : decode cX1_begin 0 = .ok (.aload_n 1, 1) := by decide +kernel
theorem dX1_begin_1 : decode cX1_begin 1 = .ok (.getfield 25, 3) := by decide +kernel
theorem dX1_begin_4 : decode cX1_begin 4 = .ok (.iconst 0, 1) := by decide +kernel
theorem dX1_begin_5 : decode cX1_begin 5 = .ok (.aload_n 0, 1) := by decide +kernel
theorem dX1_begin_6 : decode cX1_begin 6 = .ok (.getfield 9, 3) := by decide +kernel
theorem dX1_begin_9 : decode cX1_begin 9 = .ok (.iconst 0, 1) := by decide +kernel
theorem dX1_begin_10 : decode cX1_begin 10 = .ok (.bipush 8, 2) := by decide +kernel
theorem dX1_begin_12 : decode cX1_begin 12 = .ok (.invokestatic 28, 3) := by decide +kernel
theorem dX1_begin_15 : decode cX1_begin 15 = .ok (.aload_n 1, 1) := by decide +kernel
theorem dX1_begin_16 : decode cX1_begin 16 = .ok (.getfield 34, 3) := by decide +kernel
theorem dX1_begin_19 : decode cX1_begin 19 = .ok (.iconst 0, 1) := by decide +kernel
theorem dX1_begin_20 : decode cX1_begin 20 = .ok (.aload_n 0, 1) := by decide +kernel
theorem dX1_begin_21 : decode cX1_begin 21 = .ok (.getfield 15, 3) := by decide +kernel
theorem dX1_begin_24 : decode cX1_begin 24 = .ok (.iconst 0, 1) := by decide +kernel
theorem dX1_begin_25 : decode cX1_begin 25 = .ok (.bipush 8, 2) := by decide +kernel
theorem dX1_begin_27 : decode cX1_begin 27 = .ok (.invokestatic 28, 3) := by decide +kernel
theorem dX1_begin_30 : decode cX1_begin 30 = .ok (.aload_n 0, 1) := by decide +kernel
theorem dX1_begin_31 : decode cX1_begin 31 = .ok (.iconst (-1), 1) := by decide +kernel
theorem dX1_begin_32 : decode cX1_begin 32 = .ok (.putfield 18, 3) := by decide +kernel
theorem dX1_begin_35 : decode cX1_begin 35 = .ok (.aload_n 0, 1) := by decide +kernel
theorem dX1_begin_36 : decode cX1_begin 36 = .ok (.iconst 0, 1) := by decide +kernel
theorem dX1_begin_37 : decode cX1_begin 37 = .ok (.putfield 22, 3) := by decide +kernel
theorem dX1_begin_40 : decode cX1_begin 40 = .ok (.return_, 1) := by decide +kernel
theorem dX1_copyFrom_0 : decode cX1_copyFrom 0 = .ok (.aload_n 1, 1) := by decide +kernel
theorem dX1_copyFrom_1 : decode cX1_copyFrom 1 = .ok (.getfield 9, 3) := by decide +kernel
theorem dX1_copyFrom_4 : decode cX1_copyFrom 4 = .ok (.iconst 0, 1) := by decide +kernel
theorem dX1_copyFrom_5 : decode cX1_copyFrom 5 = .ok (.aload_n 0, 1) := by decide +kernel
theorem dX1_copyFrom_6 : decode cX1_copyFrom 6 = .ok (.getfield 9, 3) := by decide +kernel
theorem dX1_copyFrom_9 : decode cX1_copyFrom 9 = .ok (.iconst 0, 1) := by decide +kernel
theorem dX1_copyFrom_10 : decode cX1_copyFrom 10 = .ok (.bipush 8, 2) := by decide +kernel
theorem dX1_copyFrom_12 : decode cX1_copyFrom 12 = .ok (.invokestatic 28, 3) := by decide +kernel
theorem dX1_copyFrom_15 : decode cX1_copyFrom 15 = .ok (.aload_n 1, 1) := by decide +kernel
theorem dX1_copyFrom_16 : decode cX1_copyFrom 16 = .ok (.getfield 15, 3) := by decide +kernel
theorem dX1_copyFrom_19 : decode cX1_copyFrom 19 = .ok (.iconst 0, 1) := by decide +kernel
theorem dX1_copyFrom_20 : decode cX1_copyFrom 20 = .ok (.aload_n 0, 1) := by decide +kernel
theorem dX1_copyFrom_21 : decode cX1_copyFrom 21 = .ok (.getfield 15, 3) := by decide +kernel
theorem dX1_copyFrom_24 : decode cX1_copyFrom 24 = .ok (.iconst 0, 1) := by decide +kernel
theorem dX1_copyFrom_25 : decode cX1_copyFrom 25 = .ok (.bipush 8, 2) := by decide +kernel
theorem dX1_copyFrom_27 : decode cX1_copyFrom 27 = .ok (.invokestatic 28, 3) := by decide +kernel
theorem dX1_copyFrom_30 : decode cX1_copyFrom 30 = .ok (.aload_n 0, 1) := by decide +kernel
theorem dX1_copyFrom_31 : decode cX1_copyFrom 31 = .ok (.aload_n 1, 1) := by decide +kernel
theorem dX1_copyFrom_32 : decode cX1_copyFrom 32 = .ok (.getfield 18, 3) := by decide +kernel
theorem dX1_copyFrom_35 : decode cX1_copyFrom 35 = .ok (.putfield 18, 3) := by decide +kernel
theorem dX1_copyFrom_38 : decode cX1_copyFrom 38 = .ok (.aload_n 0, 1) := by decide +kernel
theorem dX1_copyFrom_39 : decode cX1_copyFrom 39 = .ok (.aload_n 1, 1) := by decide +kernel
theorem dX1_copyFrom_40 : decode cX1_copyFrom 40 = .ok (.getfield 22, 3) := by decide +kernel
theorem dX1_copyFrom_43 : decode cX1_copyFrom 43 = .ok (.putfield 22, 3) := by decide +kernel
theorem dX1_copyFrom_46 : decode cX1_copyFrom 46 = .ok (.return_, 1) := by decide +kernel
theorem dX1_pass_0 : decode cX1_pass 0 = .ok (.aload_n 0, 1) := by decide +kernel
theorem dX1_pass_1 : decode cX1_pass 1 = .ok (.aload_n 1, 1) := by decide +kernel
theorem dX1_pass_2 : decode cX1_pass 2 = .ok (.iload_n 2, 1) := by decide +kernel
theorem dX1_pass_3 : decode cX1_pass 3 = .ok (.invokevirtual 35, 3) := by decide +kernel
theorem dX1_pass_6 : decode cX1_pass 6 = .ok (.pop, 1) := by decide +kernel
theorem dX1_pass_7 : decode cX1_pass 7 = .ok (.iconst 0, 1) := by decide +kernel
theorem dX1_pass_8 : decode cX1_pass 8 = .ok (.istore_n 3, 1) := by decide +kernel
theorem dX1_pass_9 : decode cX1_pass 9 = .ok (.iload_n 3, 1) := by decide +kernel
theorem dX1_pass_10 : decode cX1_pass 10 = .ok (.aload_n 1, 1) := by decide +kernel
theorem dX1_pass_11 : decode cX1_pass 11 = .ok (.getfield 39, 3) := by decide +kernel
theorem dX1_pass_14 : decode cX1_pass 14 = .ok (.if_icmp .ge 27, 3) := by decide +kernel
theorem dX1_pass_17 : decode cX1_pass 17 = .ok (.aload_n 0, 1) := by decide +kernel
theorem dX1_pass_18 : decode cX1_pass 18 = .ok (.getfield 9, 3) := by decide +kernel
theorem dX1_pass_21 : decode cX1_pass 21 = .ok (.iload_n 3, 1) := by decide +kernel
theorem dX1_pass_22 : decode cX1_pass 22 = .ok (.iconst 0, 1) := by decide +kernel
theorem dX1_pass_23 : decode cX1_pass 23 = .ok (.aload_n 0, 1) := by decide +kernel
theorem dX1_pass_24 : decode cX1_pass 24 = .ok (.getfield 9, 3) := by decide +kernel
theorem dX1_pass_27 : decode cX1_pass 27 = .ok (.iload_n 3, 1) := by decide +kernel
theorem dX1_pass_28 : decode cX1_pass 28 = .ok (.iaload, 1) := by decide +kernel
theorem dX1_pass_29 : decode cX1_pass 29 = .ok (.iconst 1, 1) := by decide +kernel
theorem dX1_pass_30 : decode cX1_pass 30 = .ok (.isub, 1) := by decide +kernel
theorem dX1_pass_31 : decode cX1_pass 31 = .ok (.invokestatic 42, 3) := by decide +kernel
theorem dX1_pass_34 : decode cX1_pass 34 = .ok (.iastore, 1) := by decide +kernel
theorem dX1_pass_35 : decode cX1_pass 35 = .ok (.iinc 3 1, 3) := by decide +kernel
theorem dX1_pass_38 : decode cX1_pass 38 = .ok (.goto (-29), 3) := by decide +kernel
theorem dX1_pass_41 : decode cX1_pass 41 = .ok (.aload_n 0, 1) := by decide +kernel
theorem dX1_pass_42 : decode cX1_pass 42 = .ok (.iload_n 2, 1) := by decide +kernel
theorem dX1_pass_43 : decode cX1_pass 43 = .ok (.putfield 18, 3) := by decide +kernel
theorem dX1_pass_46 : decode cX1_pass 46 = .ok (.aload_n 0, 1) := by decide +kernel
theorem dX1_pass_47 : decode cX1_pass 47 = .ok (.dup, 1) := by decide +kernel
theorem dX1_pass_48 : decode cX1_pass 48 = .ok (.getfield 22, 3) := by decide +kernel
theorem dX1_pass_51 : decode cX1_pass 51 = .ok (.iconst 1, 1) := by decide +kernel
theorem dX1_pass_52 : decode cX1_pass 52 = .ok (.iadd, 1) := by decide +kernel
theorem dX1_pass_53 : decode cX1_pass 53 = .ok (.putfield 22, 3) := by decide +kernel
theorem dX1_pass_56 : decode cX1_pass 56 = .ok (.return_, 1) := by decide +kernel
theorem dX1_fall_0 : decode cX1_fall 0 = .ok (.iconst 0, 1) := by decide +kernel
theorem dX1_fall_1 : decode cX1_fall 1 = .ok (.istore_n 3, 1) := by decide +kernel
theorem dX1_fall_2 : decode cX1_fall 2 = .ok (.iload_n 2, 1) := by decide +kernel
theorem dX1_fall_3 : decode cX1_fall 3 = .ok (.istore 4, 2) := by decide +kernel
theorem dX1_fall_5 : decode cX1_fall 5 = .ok (.aload_n 1, 1) := by decide +kernel
theorem dX1_fall_6 : decode cX1_fall 6 = .ok (.getfield 48, 3) := by decide +kernel
theorem dX1_fall_9 : decode cX1_fall 9 = .ok (.istore 5, 2) := by decide +kernel
theorem dX1_fall_11 : decode cX1_fall 11 = .ok (.iconst 0, 1) := by decide +kernel
theorem dX1_fall_12 : decode cX1_fall 12 = .ok (.istore 6, 2) := by decide +kernel
theorem dX1_fall_14 : decode cX1_fall 14 = .ok (.iload 6, 2) := by decide +kernel
theorem dX1_fall_16 : decode cX1_fall 16 = .ok (.bipush 8, 2) := by decide +kernel
theorem dX1_fall_18 : decode cX1_fall 18 = .ok (.if_icmp .ge 91, 3) := by decide +kernel
theorem dX1_fall_21 : decode cX1_fall 21 = .ok (.iload 5, 2) := by decide +kernel
theorem dX1_fall_23 : decode cX1_fall 23 = .ok (.ifCond .le 86, 3) := by decide +kernel
theorem dX1_fall_26 : decode cX1_fall 26 = .ok (.aload_n 1, 1) := by decide +kernel
theorem dX1_fall_27 : decode cX1_fall 27 = .ok (.iload 4, 2) := by decide +kernel
theorem dX1_fall_29 : decode cX1_fall 29 = .ok (.invokevirtual 51, 3) := by decide +kernel
theorem dX1_fall_32 : decode cX1_fall 32 = .ok (.ifCond .eq 77, 3) := by decide +kernel
theorem dX1_fall_35 : decode cX1_fall 35 = .ok (.iload_n 3, 1) := by decide +kernel
theorem dX1_fall_36 : decode cX1_fall 36 = .ok (.iload 4, 2) := by decide +kernel
theorem dX1_fall_38 : decode cX1_fall 38 = .ok (.ishr, 1) := by decide +kernel
theorem dX1_fall_39 : decode cX1_fall 39 = .ok (.iconst 1, 1) := by decide +kernel
theorem dX1_fall_40 : decode cX1_fall 40 = .ok (.iand, 1) := by decide +kernel
theorem dX1_fall_41 : decode cX1_fall 41 = .ok (.ifCond .eq 6, 3) := by decide +kernel
theorem dX1_fall_44 : decode cX1_fall 44 = .ok (.goto 65, 3) := by decide +kernel
theorem dX1_fall_47 : decode cX1_fall 47 = .ok (.iload_n 3, 1) := by decide +kernel
theorem dX1_fall_48 : decode cX1_fall 48 = .ok (.iconst 1, 1) := by decide +kernel
theorem dX1_fall_49 : decode cX1_fall 49 = .ok (.iload 4, 2) := by decide +kernel
theorem dX1_fall_51 : decode cX1_fall 51 = .ok (.ishl, 1) := by decide +kernel
theorem dX1_fall_52 : decode cX1_fall 52 = .ok (.ior, 1) := by decide +kernel
theorem dX1_fall_53 : decode cX1_fall 53 = .ok (.istore_n 3, 1) := by decide +kernel
theorem dX1_fall_54 : decode cX1_fall 54 = .ok (.aload_n 0, 1) := by decide +kernel
theorem dX1_fall_55 : decode cX1_fall 55 = .ok (.getfield 9, 3) := by decide +kernel
theorem dX1_fall_58 : decode cX1_fall 58 = .ok (.iload 4, 2) := by decide +kernel
theorem dX1_fall_60 : decode cX1_fall 60 = .ok (.iaload, 1) := by decide +kernel
theorem dX1_fall_61 : decode cX1_fall 61 = .ok (.iload 5, 2) := by decide +kernel
theorem dX1_fall_63 : decode cX1_fall 63 = .ok (.iadd, 1) := by decide +kernel
theorem dX1_fall_64 : decode cX1_fall 64 = .ok (.istore 7, 2) := by decide +kernel
theorem dX1_fall_66 : decode cX1_fall 66 = .ok (.aload_n 0, 1) := by decide +kernel
theorem dX1_fall_67 : decode cX1_fall 67 = .ok (.getfield 9, 3) := by decide +kernel
theorem dX1_fall_70 : decode cX1_fall 70 = .ok (.iload 4, 2) := by decide +kernel
theorem dX1_fall_72 : decode cX1_fall 72 = .ok (.iload 7, 2) := by decide +kernel
theorem dX1_fall_74 : decode cX1_fall 74 = .ok (.aload_n 1, 1) := by decide +kernel
theorem dX1_fall_75 : decode cX1_fall 75 = .ok (.getfield 55, 3) := by decide +kernel
theorem dX1_fall_78 : decode cX1_fall 78 = .ok (.invokestatic 58, 3) := by decide +kernel
theorem dX1_fall_81 : decode cX1_fall 81 = .ok (.iastore, 1) := by decide +kernel
theorem dX1_fall_82 : decode cX1_fall 82 = .ok (.iload 7, 2) := by decide +kernel
theorem dX1_fall_84 : decode cX1_fall 84 = .ok (.aload_n 0, 1) := by decide +kernel
theorem dX1_fall_85 : decode cX1_fall 85 = .ok (.getfield 9, 3) := by decide +kernel
theorem dX1_fall_88 : decode cX1_fall 88 = .ok (.iload 4, 2) := by decide +kernel
theorem dX1_fall_90 : decode cX1_fall 90 = .ok (.iaload, 1) := by decide +kernel
theorem dX1_fall_91 : decode cX1_fall 91 = .ok (.isub, 1) := by decide +kernel
theorem dX1_fall_92 : decode cX1_fall 92 = .ok (.istore 5, 2) := by decide +kernel
theorem dX1_fall_94 : decode cX1_fall 94 = .ok (.aload_n 1, 1) := by decide +kernel
theorem dX1_fall_95 : decode cX1_fall 95 = .ok (.getfield 61, 3) := by decide +kernel
theorem dX1_fall_98 : decode cX1_fall 98 = .ok (.iload 4, 2) := by decide +kernel
theorem dX1_fall_100 : decode cX1_fall 100 = .ok (.iaload, 1) := by decide +kernel
theorem dX1_fall_101 : decode cX1_fall 101 = .ok (.istore 4, 2) := by decide +kernel
theorem dX1_fall_103 : decode cX1_fall 103 = .ok (.iinc 6 1, 3) := by decide +kernel
theorem dX1_fall_106 : decode cX1_fall 106 = .ok (.goto (-92), 3) := by decide +kernel
theorem dX1_fall_109 : decode cX1_fall 109 = .ok (.iload_n 3, 1) := by decide +kernel
theorem dX1_fall_110 : decode cX1_fall 110 = .ok (.ireturn, 1) := by decide +kernel
theorem dX1_driest_0 : decode cX1_driest 0 = .ok (.iconst (-1), 1) := by decide +kernel
theorem dX1_driest_1 : decode cX1_driest 1 = .ok (.istore_n 3, 1) := by decide +kernel
theorem dX1_driest_2 : decode cX1_driest 2 = .ok (.iconst 0, 1) := by decide +kernel
theorem dX1_driest_3 : decode cX1_driest 3 = .ok (.istore 4, 2) := by decide +kernel
theorem dX1_driest_5 : decode cX1_driest 5 = .ok (.iconst 0, 1) := by decide +kernel
theorem dX1_driest_6 : decode cX1_driest 6 = .ok (.istore 5, 2) := by decide +kernel
theorem dX1_driest_8 : decode cX1_driest 8 = .ok (.iload 5, 2) := by decide +kernel
theorem dX1_driest_10 : decode cX1_driest 10 = .ok (.aload_n 1, 1) := by decide +kernel
theorem dX1_driest_11 : decode cX1_driest 11 = .ok (.getfield 39, 3) := by decide +kernel
theorem dX1_driest_14 : decode cX1_driest 14 = .ok (.if_icmp .ge 44, 3) := by decide +kernel
theorem dX1_driest_17 : decode cX1_driest 17 = .ok (.iload 5, 2) := by decide +kernel
theorem dX1_driest_19 : decode cX1_driest 19 = .ok (.iload_n 2, 1) := by decide +kernel
theorem dX1_driest_20 : decode cX1_driest 20 = .ok (.if_icmp .eq 32, 3) := by decide +kernel
theorem dX1_driest_23 : decode cX1_driest 23 = .ok (.iload_n 3, 1) := by decide +kernel
theorem dX1_driest_24 : decode cX1_driest 24 = .ok (.iconst (-1), 1) := by decide +kernel
theorem dX1_driest_25 : decode cX1_driest 25 = .ok (.if_icmp .eq 15, 3) := by decide +kernel
theorem dX1_driest_28 : decode cX1_driest 28 = .ok (.aload_n 0, 1) := by decide +kernel
theorem dX1_driest_29 : decode cX1_driest 29 = .ok (.getfield 9, 3) := by decide +kernel
theorem dX1_driest_32 : decode cX1_driest 32 = .ok (.iload 5, 2) := by decide +kernel
theorem dX1_driest_34 : decode cX1_driest 34 = .ok (.iaload, 1) := by decide +kernel
theorem dX1_driest_35 : decode cX1_driest 35 = .ok (.iload 4, 2) := by decide +kernel
theorem dX1_driest_37 : decode cX1_driest 37 = .ok (.if_icmp .ge 15, 3) := by decide +kernel
theorem dX1_driest_40 : decode cX1_driest 40 = .ok (.iload 5, 2) := by decide +kernel
theorem dX1_driest_42 : decode cX1_driest 42 = .ok (.istore_n 3, 1) := by decide +kernel
theorem dX1_driest_43 : decode cX1_driest 43 = .ok (.aload_n 0, 1) := by decide +kernel
theorem dX1_driest_44 : decode cX1_driest 44 = .ok (.getfield 9, 3) := by decide +kernel
theorem dX1_driest_47 : decode cX1_driest 47 = .ok (.iload 5, 2) := by decide +kernel
theorem dX1_driest_49 : decode cX1_driest 49 = .ok (.iaload, 1) := by decide +kernel
theorem dX1_driest_50 : decode cX1_driest 50 = .ok (.istore 4, 2) := by decide +kernel
theorem dX1_driest_52 : decode cX1_driest 52 = .ok (.iinc 5 1, 3) := by decide +kernel
theorem dX1_driest_55 : decode cX1_driest 55 = .ok (.goto (-47), 3) := by decide +kernel
theorem dX1_driest_58 : decode cX1_driest 58 = .ok (.iload_n 3, 1) := by decide +kernel
theorem dX1_driest_59 : decode cX1_driest 59 = .ok (.ireturn, 1) := by decide +kernel
theorem dX1_isContent_0 : decode cX1_isContent 0 = .ok (.aload_n 1, 1) := by decide +kernel
theorem dX1_isContent_1 : decode cX1_isContent 1 = .ok (.iload_n 2, 1) := by decide +kernel
theorem dX1_isContent_2 : decode cX1_isContent 2 = .ok (.invokevirtual 51, 3) := by decide +kernel
theorem dX1_isContent_5 : decode cX1_isContent 5 = .ok (.ifCond .eq 21, 3) := by decide +kernel
theorem dX1_isContent_8 : decode cX1_isContent 8 = .ok (.aload_n 0, 1) := by decide +kernel
theorem dX1_isContent_9 : decode cX1_isContent 9 = .ok (.getfield 9, 3) := by decide +kernel
theorem dX1_isContent_12 : decode cX1_isContent 12 = .ok (.iload_n 2, 1) := by decide +kernel
theorem dX1_isContent_13 : decode cX1_isContent 13 = .ok (.iaload, 1) := by decide +kernel
theorem dX1_isContent_14 : decode cX1_isContent 14 = .ok (.aload_n 1, 1) := by decide +kernel
theorem dX1_isContent_15 : decode cX1_isContent 15 = .ok (.iload_n 2, 1) := by decide +kernel
theorem dX1_isContent_16 : decode cX1_isContent 16 = .ok (.invokevirtual 64, 3) := by decide +kernel
theorem dX1_isContent_19 : decode cX1_isContent 19 = .ok (.if_icmp .lt 7, 3) := by decide +kernel
theorem dX1_isContent_22 : decode cX1_isContent 22 = .ok (.iconst 1, 1) := by decide +kernel
theorem dX1_isContent_23 : decode cX1_isContent 23 = .ok (.goto 4, 3) := by decide +kernel
theorem dX1_isContent_26 : decode cX1_isContent 26 = .ok (.iconst 0, 1) := by decide +kernel
theorem dX1_isContent_27 : decode cX1_isContent 27 = .ok (.ireturn, 1) := by decide +kernel
theorem dX1_contentBits_0 : decode cX1_contentBits 0 = .ok (.iconst 0, 1) := by decide +kernel
theorem dX1_contentBits_1 : decode cX1_contentBits 1 = .ok (.istore_n 2, 1) := by decide +kernel
theorem dX1_contentBits_2 : decode cX1_contentBits 2 = .ok (.iconst 0, 1) := by decide +kernel
theorem dX1_contentBits_3 : decode cX1_contentBits 3 = .ok (.istore_n 3, 1) := by decide +kernel
theorem dX1_contentBits_4 : decode cX1_contentBits 4 = .ok (.iload_n 3, 1) := by decide +kernel
theorem dX1_contentBits_5 : decode cX1_contentBits 5 = .ok (.aload_n 1, 1) := by decide +kernel
theorem dX1_contentBits_6 : decode cX1_contentBits 6 = .ok (.getfield 39, 3) := by decide +kernel
theorem dX1_contentBits_9 : decode cX1_contentBits 9 = .ok (.if_icmp .ge 24, 3) := by decide +kernel
theorem dX1_contentBits_12 : decode cX1_contentBits 12 = .ok (.aload_n 0, 1) := by decide +kernel
theorem dX1_contentBits_13 : decode cX1_contentBits 13 = .ok (.aload_n 1, 1) := by decide +kernel
theorem dX1_contentBits_14 : decode cX1_contentBits 14 = .ok (.iload_n 3, 1) := by decide +kernel
theorem dX1_contentBits_15 : decode cX1_contentBits 15 = .ok (.invokevirtual 68, 3) := by decide +kernel
theorem dX1_contentBits_18 : decode cX1_contentBits 18 = .ok (.ifCond .eq 9, 3) := by decide +kernel
theorem dX1_contentBits_21 : decode cX1_contentBits 21 = .ok (.iload_n 2, 1) := by decide +kernel
theorem dX1_contentBits_22 : decode cX1_contentBits 22 = .ok (.iconst 1, 1) := by decide +kernel
theorem dX1_contentBits_23 : decode cX1_contentBits 23 = .ok (.iload_n 3, 1) := by decide +kernel
theorem dX1_contentBits_24 : decode cX1_contentBits 24 = .ok (.ishl, 1) := by decide +kernel
theorem dX1_contentBits_25 : decode cX1_contentBits 25 = .ok (.ior, 1) := by decide +kernel
theorem dX1_contentBits_26 : decode cX1_contentBits 26 = .ok (.istore_n 2, 1) := by decide +kernel
theorem dX1_contentBits_27 : decode cX1_contentBits 27 = .ok (.iinc 3 1, 3) := by decide +kernel
theorem dX1_contentBits_30 : decode cX1_contentBits 30 = .ok (.goto (-26), 3) := by decide +kernel
theorem dX1_contentBits_33 : decode cX1_contentBits 33 = .ok (.iload_n 2, 1) := by decide +kernel
theorem dX1_contentBits_34 : decode cX1_contentBits 34 = .ok (.ireturn, 1) := by decide +kernel
theorem dX1_allWater_0 : decode cX1_allWater 0 = .ok (.iconst 0, 1) := by decide +kernel
theorem dX1_allWater_1 : decode cX1_allWater 1 = .ok (.istore_n 2, 1) := by decide +kernel
theorem dX1_allWater_2 : decode cX1_allWater 2 = .ok (.iconst 0, 1) := by decide +kernel
theorem dX1_allWater_3 : decode cX1_allWater 3 = .ok (.istore_n 3, 1) := by decide +kernel
theorem dX1_allWater_4 : decode cX1_allWater 4 = .ok (.iload_n 3, 1) := by decide +kernel
theorem dX1_allWater_5 : decode cX1_allWater 5 = .ok (.iload_n 1, 1) := by decide +kernel
theorem dX1_allWater_6 : decode cX1_allWater 6 = .ok (.if_icmp .ge 24, 3) := by decide +kernel
theorem dX1_allWater_9 : decode cX1_allWater 9 = .ok (.iload_n 3, 1) := by decide +kernel
theorem dX1_allWater_10 : decode cX1_allWater 10 = .ok (.bipush 8, 2) := by decide +kernel
theorem dX1_allWater_12 : decode cX1_allWater 12 = .ok (.if_icmp .ge 18, 3) := by decide +kernel
theorem dX1_allWater_15 : decode cX1_allWater 15 = .ok (.iload_n 2, 1) := by decide +kernel
theorem dX1_allWater_16 : decode cX1_allWater 16 = .ok (.aload_n 0, 1) := by decide +kernel
theorem dX1_allWater_17 : decode cX1_allWater 17 = .ok (.getfield 9, 3) := by decide +kernel
theorem dX1_allWater_20 : decode cX1_allWater 20 = .ok (.iload_n 3, 1) := by decide +kernel
theorem dX1_allWater_21 : decode cX1_allWater 21 = .ok (.iaload, 1) := by decide +kernel
theorem dX1_allWater_22 : decode cX1_allWater 22 = .ok (.iadd, 1) := by decide +kernel
theorem dX1_allWater_23 : decode cX1_allWater 23 = .ok (.istore_n 2, 1) := by decide +kernel
theorem dX1_allWater_24 : decode cX1_allWater 24 = .ok (.iinc 3 1, 3) := by decide +kernel
theorem dX1_allWater_27 : decode cX1_allWater 27 = .ok (.goto (-23), 3) := by decide +kernel
theorem dX1_allWater_30 : decode cX1_allWater 30 = .ok (.iload_n 2, 1) := by decide +kernel
theorem dX1_allWater_31 : decode cX1_allWater 31 = .ok (.ireturn, 1) := by decide +kernel
theorem dX2_init_0 : decode cX2_init 0 = .ok (.aload_n 0, 1) := by decide +kernel
theorem dX2_init_1 : decode cX2_init 1 = .ok (.invokespecial 3, 3) := by decide +kernel
theorem dX2_init_4 : decode cX2_init 4 = .ok (.aload_n 0, 1) := by decide +kernel
theorem dX2_init_5 : decode cX2_init 5 = .ok (.bipush 8, 2) := by decide +kernel
theorem dX2_init_7 : decode cX2_init 7 = .ok (.anewarray 9, 3) := by decide +kernel
theorem dX2_init_10 : decode cX2_init 10 = .ok (.putfield 11, 3) := by decide +kernel
theorem dX2_init_13 : decode cX2_init 13 = .ok (.aload_n 0, 1) := by decide +kernel
theorem dX2_init_14 : decode cX2_init 14 = .ok (.iconst 0, 1) := by decide +kernel
theorem dX2_init_15 : decode cX2_init 15 = .ok (.putfield 17, 3) := by decide +kernel
theorem dX2_init_18 : decode cX2_init 18 = .ok (.aload_n 0, 1) := by decide +kernel
theorem dX2_init_19 : decode cX2_init 19 = .ok (.iconst 0, 1) := by decide +kernel
theorem dX2_init_20 : decode cX2_init 20 = .ok (.putfield 21, 3) := by decide +kernel
theorem dX2_init_23 : decode cX2_init 23 = .ok (.iconst 0, 1) := by decide +kernel
theorem dX2_init_24 : decode cX2_init 24 = .ok (.istore_n 1, 1) := by decide +kernel
theorem dX2_init_25 : decode cX2_init 25 = .ok (.iload_n 1, 1) := by decide +kernel
theorem dX2_init_26 : decode cX2_init 26 = .ok (.bipush 8, 2) := by decide +kernel
theorem dX2_init_28 : decode cX2_init 28 = .ok (.if_icmp .ge 22, 3) := by decide +kernel
theorem dX2_init_31 : decode cX2_init 31 = .ok (.aload_n 0, 1) := by decide +kernel
theorem dX2_init_32 : decode cX2_init 32 = .ok (.getfield 11, 3) := by decide +kernel
theorem dX2_init_35 : decode cX2_init 35 = .ok (.iload_n 1, 1) := by decide +kernel
theorem dX2_init_36 : decode cX2_init 36 = .ok (.new 9, 3) := by decide +kernel
theorem dX2_init_39 : decode cX2_init 39 = .ok (.dup, 1) := by decide +kernel
theorem dX2_init_40 : decode cX2_init 40 = .ok (.invokespecial 24, 3) := by decide +kernel
theorem dX2_init_43 : decode cX2_init 43 = .ok (.aastore, 1) := by decide +kernel
theorem dX2_init_44 : decode cX2_init 44 = .ok (.iinc 1 1, 3) := by decide +kernel
theorem dX2_init_47 : decode cX2_init 47 = .ok (.goto (-22), 3) := by decide +kernel
theorem dX2_init_50 : decode cX2_init 50 = .ok (.return_, 1) := by decide +kernel
theorem dX2_clear_0 : decode cX2_clear 0 = .ok (.aload_n 0, 1) := by decide +kernel
theorem dX2_clear_1 : decode cX2_clear 1 = .ok (.iconst 0, 1) := by decide +kernel
theorem dX2_clear_2 : decode cX2_clear 2 = .ok (.putfield 17, 3) := by decide +kernel
theorem dX2_clear_5 : decode cX2_clear 5 = .ok (.aload_n 0, 1) := by decide +kernel
theorem dX2_clear_6 : decode cX2_clear 6 = .ok (.iconst 0, 1) := by decide +kernel
theorem dX2_clear_7 : decode cX2_clear 7 = .ok (.putfield 21, 3) := by decide +kernel
theorem dX2_clear_10 : decode cX2_clear 10 = .ok (.return_, 1) := by decide +kernel
theorem dX2_remember_0 : decode cX2_remember 0 = .ok (.aload_n 0, 1) := by decide +kernel
theorem dX2_remember_1 : decode cX2_remember 1 = .ok (.getfield 11, 3) := by decide +kernel
theorem dX2_remember_4 : decode cX2_remember 4 = .ok (.aload_n 0, 1) := by decide +kernel
theorem dX2_remember_5 : decode cX2_remember 5 = .ok (.getfield 17, 3) := by decide +kernel
theorem dX2_remember_8 : decode cX2_remember 8 = .ok (.aaload, 1) := by decide +kernel
theorem dX2_remember_9 : decode cX2_remember 9 = .ok (.aload_n 1, 1) := by decide +kernel
theorem dX2_remember_10 : decode cX2_remember 10 = .ok (.invokevirtual 25, 3) := by decide +kernel
theorem dX2_remember_13 : decode cX2_remember 13 = .ok (.aload_n 0, 1) := by decide +kernel
theorem dX2_remember_14 : decode cX2_remember 14 = .ok (.aload_n 0, 1) := by decide +kernel
theorem dX2_remember_15 : decode cX2_remember 15 = .ok (.getfield 17, 3) := by decide +kernel
theorem dX2_remember_18 : decode cX2_remember 18 = .ok (.iconst 1, 1) := by decide +kernel
theorem dX2_remember_19 : decode cX2_remember 19 = .ok (.iadd, 1) := by decide +kernel
theorem dX2_remember_20 : decode cX2_remember 20 = .ok (.bipush 8, 2) := by decide +kernel
theorem dX2_remember_22 : decode cX2_remember 22 = .ok (.if_icmp .ge 12, 3) := by decide +kernel
theorem dX2_remember_25 : decode cX2_remember 25 = .ok (.aload_n 0, 1) := by decide +kernel
theorem dX2_remember_26 : decode cX2_remember 26 = .ok (.getfield 17, 3) := by decide +kernel
theorem dX2_remember_29 : decode cX2_remember 29 = .ok (.iconst 1, 1) := by decide +kernel
theorem dX2_remember_30 : decode cX2_remember 30 = .ok (.iadd, 1) := by decide +kernel
theorem dX2_remember_31 : decode cX2_remember 31 = .ok (.goto 4, 3) := by decide +kernel
theorem dX2_remember_34 : decode cX2_remember 34 = .ok (.iconst 0, 1) := by decide +kernel
theorem dX2_remember_35 : decode cX2_remember 35 = .ok (.putfield 17, 3) := by decide +kernel
theorem dX2_remember_38 : decode cX2_remember 38 = .ok (.aload_n 0, 1) := by decide +kernel
theorem dX2_remember_39 : decode cX2_remember 39 = .ok (.aload_n 0, 1) := by decide +kernel
theorem dX2_remember_40 : decode cX2_remember 40 = .ok (.getfield 21, 3) := by decide +kernel
theorem dX2_remember_43 : decode cX2_remember 43 = .ok (.iconst 1, 1) := by decide +kernel
theorem dX2_remember_44 : decode cX2_remember 44 = .ok (.iadd, 1) := by decide +kernel
theorem dX2_remember_45 : decode cX2_remember 45 = .ok (.bipush 8, 2) := by decide +kernel
theorem dX2_remember_47 : decode cX2_remember 47 = .ok (.invokestatic 29, 3) := by decide +kernel
theorem dX2_remember_50 : decode cX2_remember 50 = .ok (.putfield 21, 3) := by decide +kernel
theorem dX2_remember_53 : decode cX2_remember 53 = .ok (.return_, 1) := by decide +kernel
theorem dX2_recall_0 : decode cX2_recall 0 = .ok (.aload_n 0, 1) := by decide +kernel
theorem dX2_recall_1 : decode cX2_recall 1 = .ok (.getfield 21, 3) := by decide +kernel
theorem dX2_recall_4 : decode cX2_recall 4 = .ok (.ifCond .ne 5, 3) := by decide +kernel
theorem dX2_recall_7 : decode cX2_recall 7 = .ok (.iconst 0, 1) := by decide +kernel
theorem dX2_recall_8 : decode cX2_recall 8 = .ok (.ireturn, 1) := by decide +kernel
theorem dX2_recall_9 : decode cX2_recall 9 = .ok (.aload_n 0, 1) := by decide +kernel
theorem dX2_recall_10 : decode cX2_recall 10 = .ok (.aload_n 0, 1) := by decide +kernel
theorem dX2_recall_11 : decode cX2_recall 11 = .ok (.getfield 17, 3) := by decide +kernel
theorem dX2_recall_14 : decode cX2_recall 14 = .ok (.ifCond .le 12, 3) := by decide +kernel
theorem dX2_recall_17 : decode cX2_recall 17 = .ok (.aload_n 0, 1) := by decide +kernel
theorem dX2_recall_18 : decode cX2_recall 18 = .ok (.getfield 17, 3) := by decide +kernel
theorem dX2_recall_21 : decode cX2_recall 21 = .ok (.iconst 1, 1) := by decide +kernel
theorem dX2_recall_22 : decode cX2_recall 22 = .ok (.isub, 1) := by decide +kernel
theorem dX2_recall_23 : decode cX2_recall 23 = .ok (.goto 5, 3) := by decide +kernel
theorem dX2_recall_26 : decode cX2_recall 26 = .ok (.bipush 7, 2) := by decide +kernel
theorem dX2_recall_28 : decode cX2_recall 28 = .ok (.putfield 17, 3) := by decide +kernel
theorem dX2_recall_31 : decode cX2_recall 31 = .ok (.aload_n 0, 1) := by decide +kernel
theorem dX2_recall_32 : decode cX2_recall 32 = .ok (.dup, 1) := by decide +kernel
theorem dX2_recall_33 : decode cX2_recall 33 = .ok (.getfield 21, 3) := by decide +kernel
theorem dX2_recall_36 : decode cX2_recall 36 = .ok (.iconst 1, 1) := by decide +kernel
theorem dX2_recall_37 : decode cX2_recall 37 = .ok (.isub, 1) := by decide +kernel
theorem dX2_recall_38 : decode cX2_recall 38 = .ok (.putfield 21, 3) := by decide +kernel
theorem dX2_recall_41 : decode cX2_recall 41 = .ok (.aload_n 1, 1) := by decide +kernel
theorem dX2_recall_42 : decode cX2_recall 42 = .ok (.aload_n 0, 1) := by decide +kernel
theorem dX2_recall_43 : decode cX2_recall 43 = .ok (.getfield 11, 3) := by decide +kernel
theorem dX2_recall_46 : decode cX2_recall 46 = .ok (.aload_n 0, 1) := by decide +kernel
theorem dX2_recall_47 : decode cX2_recall 47 = .ok (.getfield 17, 3) := by decide +kernel
theorem dX2_recall_50 : decode cX2_recall 50 = .ok (.aaload, 1) := by decide +kernel
theorem dX2_recall_51 : decode cX2_recall 51 = .ok (.invokevirtual 25, 3) := by decide +kernel
theorem dX2_recall_54 : decode cX2_recall 54 = .ok (.iconst 1, 1) := by decide +kernel
theorem dX2_recall_55 : decode cX2_recall 55 = .ok (.ireturn, 1) := by decide +kernel
theorem dX3_init_0 : decode cX3_init 0 = .ok (.aload_n 0, 1) := by decide +kernel
theorem dX3_init_1 : decode cX3_init 1 = .ok (.invokespecial 3, 3) := by decide +kernel
theorem dX3_init_4 : decode cX3_init 4 = .ok (.aload_n 0, 1) := by decide +kernel
theorem dX3_init_5 : decode cX3_init 5 = .ok (.bipush 8, 2) := by decide +kernel
theorem dX3_init_7 : decode cX3_init 7 = .ok (.newarray .int, 2) := by decide +kernel
theorem dX3_init_9 : decode cX3_init 9 = .ok (.putfield 9, 3) := by decide +kernel
theorem dX3_init_12 : decode cX3_init 12 = .ok (.aload_n 0, 1) := by decide +kernel
theorem dX3_init_13 : decode cX3_init 13 = .ok (.bipush 8, 2) := by decide +kernel
theorem dX3_init_15 : decode cX3_init 15 = .ok (.newarray .int, 2) := by decide +kernel
theorem dX3_init_17 : decode cX3_init 17 = .ok (.putfield 15, 3) := by decide +kernel
theorem dX3_init_20 : decode cX3_init 20 = .ok (.aload_n 0, 1) := by decide +kernel
theorem dX3_init_21 : decode cX3_init 21 = .ok (.bipush 8, 2) := by decide +kernel
theorem dX3_init_23 : decode cX3_init 23 = .ok (.newarray .int, 2) := by decide +kernel
theorem dX3_init_25 : decode cX3_init 25 = .ok (.putfield 18, 3) := by decide +kernel
theorem dX3_init_28 : decode cX3_init 28 = .ok (.aload_n 0, 1) := by decide +kernel
theorem dX3_init_29 : decode cX3_init 29 = .ok (.bipush 8, 2) := by decide +kernel
theorem dX3_init_31 : decode cX3_init 31 = .ok (.newarray .int, 2) := by decide +kernel
theorem dX3_init_33 : decode cX3_init 33 = .ok (.putfield 21, 3) := by decide +kernel
theorem dX3_init_36 : decode cX3_init 36 = .ok (.aload_n 0, 1) := by decide +kernel
theorem dX3_init_37 : decode cX3_init 37 = .ok (.bipush 8, 2) := by decide +kernel
theorem dX3_init_39 : decode cX3_init 39 = .ok (.newarray .int, 2) := by decide +kernel
theorem dX3_init_41 : decode cX3_init 41 = .ok (.putfield 24, 3) := by decide +kernel
theorem dX3_init_44 : decode cX3_init 44 = .ok (.aload_n 0, 1) := by decide +kernel
theorem dX3_init_45 : decode cX3_init 45 = .ok (.iconst 0, 1) := by decide +kernel
theorem dX3_init_46 : decode cX3_init 46 = .ok (.putfield 27, 3) := by decide +kernel
theorem dX3_init_49 : decode cX3_init 49 = .ok (.aload_n 0, 1) := by decide +kernel
theorem dX3_init_50 : decode cX3_init 50 = .ok (.bipush 30, 2) := by decide +kernel
theorem dX3_init_52 : decode cX3_init 52 = .ok (.putfield 31, 3) := by decide +kernel
theorem dX3_init_55 : decode cX3_init 55 = .ok (.aload_n 0, 1) := by decide +kernel
theorem dX3_init_56 : decode cX3_init 56 = .ok (.bipush 8, 2) := by decide +kernel
theorem dX3_init_58 : decode cX3_init 58 = .ok (.putfield 34, 3) := by decide +kernel
theorem dX3_init_61 : decode cX3_init 61 = .ok (.return_, 1) := by decide +kernel
theorem dX3_clear_0 : decode cX3_clear 0 = .ok (.aload_n 0, 1) := by decide +kernel
theorem dX3_clear_1 : decode cX3_clear 1 = .ok (.iconst 0, 1) := by decide +kernel
theorem dX3_clear_2 : decode cX3_clear 2 = .ok (.putfield 27, 3) := by decide +kernel
theorem dX3_clear_5 : decode cX3_clear 5 = .ok (.aload_n 0, 1) := by decide +kernel
theorem dX3_clear_6 : decode cX3_clear 6 = .ok (.bipush 30, 2) := by decide +kernel
theorem dX3_clear_8 : decode cX3_clear 8 = .ok (.putfield 31, 3) := by decide +kernel
theorem dX3_clear_11 : decode cX3_clear 11 = .ok (.aload_n 0, 1) := by decide +kernel
theorem dX3_clear_12 : decode cX3_clear 12 = .ok (.bipush 8, 2) := by decide +kernel
theorem dX3_clear_14 : decode cX3_clear 14 = .ok (.putfield 34, 3) := by decide +kernel
theorem dX3_clear_17 : decode cX3_clear 17 = .ok (.return_, 1) := by decide +kernel
theorem dX3_copyFrom_0 : decode cX3_copyFrom 0 = .ok (.aload_n 1, 1) := by decide +kernel
theorem dX3_copyFrom_1 : decode cX3_copyFrom 1 = .ok (.getfield 9, 3) := by decide +kernel
theorem dX3_copyFrom_4 : decode cX3_copyFrom 4 = .ok (.iconst 0, 1) := by decide +kernel
theorem dX3_copyFrom_5 : decode cX3_copyFrom 5 = .ok (.aload_n 0, 1) := by decide +kernel
theorem dX3_copyFrom_6 : decode cX3_copyFrom 6 = .ok (.getfield 9, 3) := by decide +kernel
theorem dX3_copyFrom_9 : decode cX3_copyFrom 9 = .ok (.iconst 0, 1) := by decide +kernel
theorem dX3_copyFrom_10 : decode cX3_copyFrom 10 = .ok (.bipush 8, 2) := by decide +kernel
theorem dX3_copyFrom_12 : decode cX3_copyFrom 12 = .ok (.invokestatic 37, 3) := by decide +kernel
theorem dX3_copyFrom_15 : decode cX3_copyFrom 15 = .ok (.aload_n 1, 1) := by decide +kernel
theorem dX3_copyFrom_16 : decode cX3_copyFrom 16 = .ok (.getfield 15, 3) := by decide +kernel
theorem dX3_copyFrom_19 : decode cX3_copyFrom 19 = .ok (.iconst 0, 1) := by decide +kernel
theorem dX3_copyFrom_20 : decode cX3_copyFrom 20 = .ok (.aload_n 0, 1) := by decide +kernel
theorem dX3_copyFrom_21 : decode cX3_copyFrom 21 = .ok (.getfield 15, 3) := by decide +kernel
theorem dX3_copyFrom_24 : decode cX3_copyFrom 24 = .ok (.iconst 0, 1) := by decide +kernel
theorem dX3_copyFrom_25 : decode cX3_copyFrom 25 = .ok (.bipush 8, 2) := by decide +kernel
theorem dX3_copyFrom_27 : decode cX3_copyFrom 27 = .ok (.invokestatic 37, 3) := by decide +kernel
theorem dX3_copyFrom_30 : decode cX3_copyFrom 30 = .ok (.aload_n 1, 1) := by decide +kernel
theorem dX3_copyFrom_31 : decode cX3_copyFrom 31 = .ok (.getfield 18, 3) := by decide +kernel
theorem dX3_copyFrom_34 : decode cX3_copyFrom 34 = .ok (.iconst 0, 1) := by decide +kernel
theorem dX3_copyFrom_35 : decode cX3_copyFrom 35 = .ok (.aload_n 0, 1) := by decide +kernel
theorem dX3_copyFrom_36 : decode cX3_copyFrom 36 = .ok (.getfield 18, 3) := by decide +kernel
theorem dX3_copyFrom_39 : decode cX3_copyFrom 39 = .ok (.iconst 0, 1) := by decide +kernel
theorem dX3_copyFrom_40 : decode cX3_copyFrom 40 = .ok (.bipush 8, 2) := by decide +kernel
theorem dX3_copyFrom_42 : decode cX3_copyFrom 42 = .ok (.invokestatic 37, 3) := by decide +kernel
theorem dX3_copyFrom_45 : decode cX3_copyFrom 45 = .ok (.aload_n 1, 1) := by decide +kernel
theorem dX3_copyFrom_46 : decode cX3_copyFrom 46 = .ok (.getfield 21, 3) := by decide +kernel
theorem dX3_copyFrom_49 : decode cX3_copyFrom 49 = .ok (.iconst 0, 1) := by decide +kernel
theorem dX3_copyFrom_50 : decode cX3_copyFrom 50 = .ok (.aload_n 0, 1) := by decide +kernel
theorem dX3_copyFrom_51 : decode cX3_copyFrom 51 = .ok (.getfield 21, 3) := by decide +kernel
theorem dX3_copyFrom_54 : decode cX3_copyFrom 54 = .ok (.iconst 0, 1) := by decide +kernel
theorem dX3_copyFrom_55 : decode cX3_copyFrom 55 = .ok (.bipush 8, 2) := by decide +kernel
theorem dX3_copyFrom_57 : decode cX3_copyFrom 57 = .ok (.invokestatic 37, 3) := by decide +kernel
theorem dX3_copyFrom_60 : decode cX3_copyFrom 60 = .ok (.aload_n 1, 1) := by decide +kernel
theorem dX3_copyFrom_61 : decode cX3_copyFrom 61 = .ok (.getfield 24, 3) := by decide +kernel
theorem dX3_copyFrom_64 : decode cX3_copyFrom 64 = .ok (.iconst 0, 1) := by decide +kernel
theorem dX3_copyFrom_65 : decode cX3_copyFrom 65 = .ok (.aload_n 0, 1) := by decide +kernel
theorem dX3_copyFrom_66 : decode cX3_copyFrom 66 = .ok (.getfield 24, 3) := by decide +kernel
theorem dX3_copyFrom_69 : decode cX3_copyFrom 69 = .ok (.iconst 0, 1) := by decide +kernel
theorem dX3_copyFrom_70 : decode cX3_copyFrom 70 = .ok (.bipush 8, 2) := by decide +kernel
theorem dX3_copyFrom_72 : decode cX3_copyFrom 72 = .ok (.invokestatic 37, 3) := by decide +kernel
theorem dX3_copyFrom_75 : decode cX3_copyFrom 75 = .ok (.aload_n 0, 1) := by decide +kernel
theorem dX3_copyFrom_76 : decode cX3_copyFrom 76 = .ok (.aload_n 1, 1) := by decide +kernel
theorem dX3_copyFrom_77 : decode cX3_copyFrom 77 = .ok (.getfield 27, 3) := by decide +kernel
theorem dX3_copyFrom_80 : decode cX3_copyFrom 80 = .ok (.putfield 27, 3) := by decide +kernel
theorem dX3_copyFrom_83 : decode cX3_copyFrom 83 = .ok (.aload_n 0, 1) := by decide +kernel
theorem dX3_copyFrom_84 : decode cX3_copyFrom 84 = .ok (.aload_n 1, 1) := by decide +kernel
theorem dX3_copyFrom_85 : decode cX3_copyFrom 85 = .ok (.getfield 31, 3) := by decide +kernel
theorem dX3_copyFrom_88 : decode cX3_copyFrom 88 = .ok (.putfield 31, 3) := by decide +kernel
theorem dX3_copyFrom_91 : decode cX3_copyFrom 91 = .ok (.aload_n 0, 1) := by decide +kernel
theorem dX3_copyFrom_92 : decode cX3_copyFrom 92 = .ok (.aload_n 1, 1) := by decide +kernel
theorem dX3_copyFrom_93 : decode cX3_copyFrom 93 = .ok (.getfield 34, 3) := by decide +kernel
theorem dX3_copyFrom_96 : decode cX3_copyFrom 96 = .ok (.putfield 34, 3) := by decide +kernel
theorem dX3_copyFrom_99 : decode cX3_copyFrom 99 = .ok (.return_, 1) := by decide +kernel
theorem dX3_has_0 : decode cX3_has 0 = .ok (.iload_n 1, 1) := by decide +kernel
theorem dX3_has_1 : decode cX3_has 1 = .ok (.ifCond .lt 21, 3) := by decide +kernel
theorem dX3_has_4 : decode cX3_has 4 = .ok (.iload_n 1, 1) := by decide +kernel
theorem dX3_has_5 : decode cX3_has 5 = .ok (.aload_n 0, 1) := by decide +kernel
theorem dX3_has_6 : decode cX3_has 6 = .ok (.getfield 27, 3) := by decide +kernel
theorem dX3_has_9 : decode cX3_has 9 = .ok (.if_icmp .ge 13, 3) := by decide +kernel
theorem dX3_has_12 : decode cX3_has 12 = .ok (.iload_n 1, 1) := by decide +kernel
theorem dX3_has_13 : decode cX3_has 13 = .ok (.bipush 8, 2) := by decide +kernel
theorem dX3_has_15 : decode cX3_has 15 = .ok (.if_icmp .ge 7, 3) := by decide +kernel
theorem dX3_has_18 : decode cX3_has 18 = .ok (.iconst 1, 1) := by decide +kernel
theorem dX3_has_19 : decode cX3_has 19 = .ok (.goto 4, 3) := by decide +kernel
theorem dX3_has_22 : decode cX3_has 22 = .ok (.iconst 0, 1) := by decide +kernel
theorem dX3_has_23 : decode cX3_has 23 = .ok (.ireturn, 1) := by decide +kernel
theorem dX3_add_0 : decode cX3_add 0 = .ok (.aload_n 0, 1) := by decide +kernel
theorem dX3_add_1 : decode cX3_add 1 = .ok (.getfield 27, 3) := by decide +kernel
theorem dX3_add_4 : decode cX3_add 4 = .ok (.bipush 8, 2) := by decide +kernel
theorem dX3_add_6 : decode cX3_add 6 = .ok (.if_icmp .lt 4, 3) := by decide +kernel
theorem dX3_add_9 : decode cX3_add 9 = .ok (.return_, 1) := by decide +kernel
theorem dX3_add_10 : decode cX3_add 10 = .ok (.aload_n 0, 1) := by decide +kernel
theorem dX3_add_11 : decode cX3_add 11 = .ok (.getfield 9, 3) := by decide +kernel
theorem dX3_add_14 : decode cX3_add 14 = .ok (.aload_n 0, 1) := by decide +kernel
theorem dX3_add_15 : decode cX3_add 15 = .ok (.getfield 27, 3) := by decide +kernel
theorem dX3_add_18 : decode cX3_add 18 = .ok (.iload_n 1, 1) := by decide +kernel
theorem dX3_add_19 : decode cX3_add 19 = .ok (.iastore, 1) := by decide +kernel
theorem dX3_add_20 : decode cX3_add 20 = .ok (.aload_n 0, 1) := by decide +kernel
theorem dX3_add_21 : decode cX3_add 21 = .ok (.getfield 15, 3) := by decide +kernel
theorem dX3_add_24 : decode cX3_add 24 = .ok (.aload_n 0, 1) := by decide +kernel
theorem dX3_add_25 : decode cX3_add 25 = .ok (.getfield 27, 3) := by decide +kernel
theorem dX3_add_28 : decode cX3_add 28 = .ok (.iload_n 2, 1) := by decide +kernel
theorem dX3_add_29 : decode cX3_add 29 = .ok (.iastore, 1) := by decide +kernel
theorem dX3_add_30 : decode cX3_add 30 = .ok (.aload_n 0, 1) := by decide +kernel
theorem dX3_add_31 : decode cX3_add 31 = .ok (.getfield 18, 3) := by decide +kernel
theorem dX3_add_34 : decode cX3_add 34 = .ok (.aload_n 0, 1) := by decide +kernel
theorem dX3_add_35 : decode cX3_add 35 = .ok (.getfield 27, 3) := by decide +kernel
theorem dX3_add_38 : decode cX3_add 38 = .ok (.iload_n 3, 1) := by decide +kernel
theorem dX3_add_39 : decode cX3_add 39 = .ok (.iastore, 1) := by decide +kernel
theorem dX3_add_40 : decode cX3_add 40 = .ok (.aload_n 0, 1) := by decide +kernel
theorem dX3_add_41 : decode cX3_add 41 = .ok (.getfield 21, 3) := by decide +kernel
theorem dX3_add_44 : decode cX3_add 44 = .ok (.aload_n 0, 1) := by decide +kernel
theorem dX3_add_45 : decode cX3_add 45 = .ok (.getfield 27, 3) := by decide +kernel
theorem dX3_add_48 : decode cX3_add 48 = .ok (.iload 4, 2) := by decide +kernel
theorem dX3_add_50 : decode cX3_add 50 = .ok (.iastore, 1) := by decide +kernel
theorem dX3_add_51 : decode cX3_add 51 = .ok (.aload_n 0, 1) := by decide +kernel
theorem dX3_add_52 : decode cX3_add 52 = .ok (.getfield 24, 3) := by decide +kernel
theorem dX3_add_55 : decode cX3_add 55 = .ok (.aload_n 0, 1) := by decide +kernel
theorem dX3_add_56 : decode cX3_add 56 = .ok (.getfield 27, 3) := by decide +kernel
theorem dX3_add_59 : decode cX3_add 59 = .ok (.iconst (-1), 1) := by decide +kernel
theorem dX3_add_60 : decode cX3_add 60 = .ok (.iastore, 1) := by decide +kernel
theorem dX3_add_61 : decode cX3_add 61 = .ok (.aload_n 0, 1) := by decide +kernel
theorem dX3_add_62 : decode cX3_add 62 = .ok (.dup, 1) := by decide +kernel
theorem dX3_add_63 : decode cX3_add 63 = .ok (.getfield 27, 3) := by decide +kernel
theorem dX3_add_66 : decode cX3_add 66 = .ok (.iconst 1, 1) := by decide +kernel
theorem dX3_add_67 : decode cX3_add 67 = .ok (.iadd, 1) := by decide +kernel
theorem dX3_add_68 : decode cX3_add 68 = .ok (.putfield 27, 3) := by decide +kernel
theorem dX3_add_71 : decode cX3_add 71 = .ok (.return_, 1) := by decide +kernel
theorem dX3_tilt_0 : decode cX3_tilt 0 = .ok (.aload_n 0, 1) := by decide +kernel
theorem dX3_tilt_1 : decode cX3_tilt 1 = .ok (.iload_n 1, 1) := by decide +kernel
theorem dX3_tilt_2 : decode cX3_tilt 2 = .ok (.invokevirtual 43, 3) := by decide +kernel
theorem dX3_tilt_5 : decode cX3_tilt 5 = .ok (.ifCond .eq 18, 3) := by decide +kernel
theorem dX3_tilt_8 : decode cX3_tilt 8 = .ok (.aload_n 0, 1) := by decide +kernel
theorem dX3_tilt_9 : decode cX3_tilt 9 = .ok (.iload_n 2, 1) := by decide +kernel
theorem dX3_tilt_10 : decode cX3_tilt 10 = .ok (.invokevirtual 43, 3) := by decide +kernel
theorem dX3_tilt_13 : decode cX3_tilt 13 = .ok (.ifCond .eq 10, 3) := by decide +kernel
theorem dX3_tilt_16 : decode cX3_tilt 16 = .ok (.aload_n 0, 1) := by decide +kernel
theorem dX3_tilt_17 : decode cX3_tilt 17 = .ok (.getfield 24, 3) := by decide +kernel
theorem dX3_tilt_20 : decode cX3_tilt 20 = .ok (.iload_n 1, 1) := by decide +kernel
theorem dX3_tilt_21 : decode cX3_tilt 21 = .ok (.iload_n 2, 1) := by decide +kernel
theorem dX3_tilt_22 : decode cX3_tilt 22 = .ok (.iastore, 1) := by decide +kernel
theorem dX3_tilt_23 : decode cX3_tilt 23 = .ok (.return_, 1) := by decide +kernel
theorem dX3_wants_0 : decode cX3_wants 0 = .ok (.iload_n 1, 1) := by decide +kernel
theorem dX3_wants_1 : decode cX3_wants 1 = .ok (.ifCond .lt 21, 3) := by decide +kernel
theorem dX3_wants_4 : decode cX3_wants 4 = .ok (.iload_n 1, 1) := by decide +kernel
theorem dX3_wants_5 : decode cX3_wants 5 = .ok (.aload_n 0, 1) := by decide +kernel
theorem dX3_wants_6 : decode cX3_wants 6 = .ok (.getfield 27, 3) := by decide +kernel
theorem dX3_wants_9 : decode cX3_wants 9 = .ok (.if_icmp .ge 13, 3) := by decide +kernel
theorem dX3_wants_12 : decode cX3_wants 12 = .ok (.aload_n 0, 1) := by decide +kernel
theorem dX3_wants_13 : decode cX3_wants 13 = .ok (.getfield 9, 3) := by decide +kernel
theorem dX3_wants_16 : decode cX3_wants 16 = .ok (.iload_n 1, 1) := by decide +kernel
theorem dX3_wants_17 : decode cX3_wants 17 = .ok (.iaload, 1) := by decide +kernel
theorem dX3_wants_18 : decode cX3_wants 18 = .ok (.iconst 3, 1) := by decide +kernel
theorem dX3_wants_19 : decode cX3_wants 19 = .ok (.if_icmp .ne 5, 3) := by decide +kernel
theorem dX3_wants_22 : decode cX3_wants 22 = .ok (.iconst 0, 1) := by decide +kernel
theorem dX3_wants_23 : decode cX3_wants 23 = .ok (.ireturn, 1) := by decide +kernel
theorem dX3_wants_24 : decode cX3_wants 24 = .ok (.aload_n 0, 1) := by decide +kernel
theorem dX3_wants_25 : decode cX3_wants 25 = .ok (.getfield 9, 3) := by decide +kernel
theorem dX3_wants_28 : decode cX3_wants 28 = .ok (.iload_n 1, 1) := by decide +kernel
theorem dX3_wants_29 : decode cX3_wants 29 = .ok (.iaload, 1) := by decide +kernel
theorem dX3_wants_30 : decode cX3_wants 30 = .ok (.iconst 1, 1) := by decide +kernel
theorem dX3_wants_31 : decode cX3_wants 31 = .ok (.if_icmp .ne 14, 3) := by decide +kernel
theorem dX3_wants_34 : decode cX3_wants 34 = .ok (.iconst 2, 1) := by decide +kernel
theorem dX3_wants_35 : decode cX3_wants 35 = .ok (.aload_n 0, 1) := by decide +kernel
theorem dX3_wants_36 : decode cX3_wants 36 = .ok (.getfield 15, 3) := by decide +kernel
theorem dX3_wants_39 : decode cX3_wants 39 = .ok (.iload_n 1, 1) := by decide +kernel
theorem dX3_wants_40 : decode cX3_wants 40 = .ok (.iaload, 1) := by decide +kernel
theorem dX3_wants_41 : decode cX3_wants 41 = .ok (.imul, 1) := by decide +kernel
theorem dX3_wants_42 : decode cX3_wants 42 = .ok (.goto 9, 3) := by decide +kernel
theorem dX3_wants_45 : decode cX3_wants 45 = .ok (.aload_n 0, 1) := by decide +kernel
theorem dX3_wants_46 : decode cX3_wants 46 = .ok (.getfield 15, 3) := by decide +kernel
theorem dX3_wants_49 : decode cX3_wants 49 = .ok (.iload_n 1, 1) := by decide +kernel
theorem dX3_wants_50 : decode cX3_wants 50 = .ok (.iaload, 1) := by decide +kernel
theorem dX3_wants_51 : decode cX3_wants 51 = .ok (.ireturn, 1) := by decide +kernel
theorem dX3_votingBits_0 : decode cX3_votingBits 0 = .ok (.iconst 0, 1) := by decide +kernel
theorem dX3_votingBits_1 : decode cX3_votingBits 1 = .ok (.istore_n 1, 1) := by decide +kernel
theorem dX3_votingBits_2 : decode cX3_votingBits 2 = .ok (.iconst 0, 1) := by decide +kernel
theorem dX3_votingBits_3 : decode cX3_votingBits 3 = .ok (.istore_n 2, 1) := by decide +kernel
theorem dX3_votingBits_4 : decode cX3_votingBits 4 = .ok (.iload_n 2, 1) := by decide +kernel
theorem dX3_votingBits_5 : decode cX3_votingBits 5 = .ok (.aload_n 0, 1) := by decide +kernel
theorem dX3_votingBits_6 : decode cX3_votingBits 6 = .ok (.getfield 27, 3) := by decide +kernel
theorem dX3_votingBits_9 : decode cX3_votingBits 9 = .ok (.if_icmp .ge 25, 3) := by decide +kernel
theorem dX3_votingBits_12 : decode cX3_votingBits 12 = .ok (.aload_n 0, 1) := by decide +kernel
theorem dX3_votingBits_13 : decode cX3_votingBits 13 = .ok (.getfield 9, 3) := by decide +kernel
theorem dX3_votingBits_16 : decode cX3_votingBits 16 = .ok (.iload_n 2, 1) := by decide +kernel
theorem dX3_votingBits_17 : decode cX3_votingBits 17 = .ok (.iaload, 1) := by decide +kernel
theorem dX3_votingBits_18 : decode cX3_votingBits 18 = .ok (.iconst 2, 1) := by decide +kernel
theorem dX3_votingBits_19 : decode cX3_votingBits 19 = .ok (.if_icmp .eq 9, 3) := by decide +kernel
theorem dX3_votingBits_22 : decode cX3_votingBits 22 = .ok (.iload_n 1, 1) := by decide +kernel
theorem dX3_votingBits_23 : decode cX3_votingBits 23 = .ok (.iconst 1, 1) := by decide +kernel
theorem dX3_votingBits_24 : decode cX3_votingBits 24 = .ok (.iload_n 2, 1) := by decide +kernel
theorem dX3_votingBits_25 : decode cX3_votingBits 25 = .ok (.ishl, 1) := by decide +kernel
theorem dX3_votingBits_26 : decode cX3_votingBits 26 = .ok (.ior, 1) := by decide +kernel
theorem dX3_votingBits_27 : decode cX3_votingBits 27 = .ok (.istore_n 1, 1) := by decide +kernel
theorem dX3_votingBits_28 : decode cX3_votingBits 28 = .ok (.iinc 2 1, 3) := by decide +kernel
theorem dX3_votingBits_31 : decode cX3_votingBits 31 = .ok (.goto (-27), 3) := by decide +kernel
theorem dX3_votingBits_34 : decode cX3_votingBits 34 = .ok (.iload_n 1, 1) := by decide +kernel
theorem dX3_votingBits_35 : decode cX3_votingBits 35 = .ok (.ireturn, 1) := by decide +kernel
theorem dX4_init_0 : decode cX4_init 0 = .ok (.aload_n 0, 1) := by decide +kernel
theorem dX4_init_1 : decode cX4_init 1 = .ok (.invokespecial 3, 3) := by decide +kernel
theorem dX4_init_4 : decode cX4_init 4 = .ok (.aload_n 0, 1) := by decide +kernel
theorem dX4_init_5 : decode cX4_init 5 = .ok (.iconst 5, 1) := by decide +kernel
theorem dX4_init_6 : decode cX4_init 6 = .ok (.anewarray 9, 3) := by decide +kernel
theorem dX4_init_9 : decode cX4_init 9 = .ok (.putfield 11, 3) := by decide +kernel
theorem dX4_init_12 : decode cX4_init 12 = .ok (.aload_n 0, 1) := by decide +kernel
theorem dX4_init_13 : decode cX4_init 13 = .ok (.iconst 4, 1) := by decide +kernel
theorem dX4_init_14 : decode cX4_init 14 = .ok (.newarray .int, 2) := by decide +kernel
theorem dX4_init_16 : decode cX4_init 16 = .ok (.putfield 17, 3) := by decide +kernel
theorem dX4_init_19 : decode cX4_init 19 = .ok (.aload_n 0, 1) := by decide +kernel
theorem dX4_init_20 : decode cX4_init 20 = .ok (.iconst 4, 1) := by decide +kernel
theorem dX4_init_21 : decode cX4_init 21 = .ok (.newarray .int, 2) := by decide +kernel
theorem dX4_init_23 : decode cX4_init 23 = .ok (.putfield 21, 3) := by decide +kernel
theorem dX4_init_26 : decode cX4_init 26 = .ok (.aload_n 0, 1) := by decide +kernel
theorem dX4_init_27 : decode cX4_init 27 = .ok (.iconst 0, 1) := by decide +kernel
theorem dX4_init_28 : decode cX4_init 28 = .ok (.putfield 24, 3) := by decide +kernel
theorem dX4_init_31 : decode cX4_init 31 = .ok (.aload_n 0, 1) := by decide +kernel
theorem dX4_init_32 : decode cX4_init 32 = .ok (.iconst (-1), 1) := by decide +kernel
theorem dX4_init_33 : decode cX4_init 33 = .ok (.putfield 28, 3) := by decide +kernel
theorem dX4_init_36 : decode cX4_init 36 = .ok (.iconst 0, 1) := by decide +kernel
theorem dX4_init_37 : decode cX4_init 37 = .ok (.istore_n 1, 1) := by decide +kernel
theorem dX4_init_38 : decode cX4_init 38 = .ok (.iload_n 1, 1) := by decide +kernel
theorem dX4_init_39 : decode cX4_init 39 = .ok (.iconst 4, 1) := by decide +kernel
theorem dX4_init_40 : decode cX4_init 40 = .ok (.if_icmp .gt 22, 3) := by decide +kernel
theorem dX4_init_43 : decode cX4_init 43 = .ok (.aload_n 0, 1) := by decide +kernel
theorem dX4_init_44 : decode cX4_init 44 = .ok (.getfield 11, 3) := by decide +kernel
theorem dX4_init_47 : decode cX4_init 47 = .ok (.iload_n 1, 1) := by decide +kernel
theorem dX4_init_48 : decode cX4_init 48 = .ok (.new 9, 3) := by decide +kernel
theorem dX4_init_51 : decode cX4_init 51 = .ok (.dup, 1) := by decide +kernel
theorem dX4_init_52 : decode cX4_init 52 = .ok (.invokespecial 31, 3) := by decide +kernel
theorem dX4_init_55 : decode cX4_init 55 = .ok (.aastore, 1) := by decide +kernel
theorem dX4_init_56 : decode cX4_init 56 = .ok (.iinc 1 1, 3) := by decide +kernel
theorem dX4_init_59 : decode cX4_init 59 = .ok (.goto (-21), 3) := by decide +kernel
theorem dX4_init_62 : decode cX4_init 62 = .ok (.return_, 1) := by decide +kernel
theorem dX4_find_0 : decode cX4_find 0 = .ok (.aload_n 0, 1) := by decide +kernel
theorem dX4_find_1 : decode cX4_find 1 = .ok (.iload_n 3, 1) := by decide +kernel
theorem dX4_find_2 : decode cX4_find 2 = .ok (.iconst 4, 1) := by decide +kernel
theorem dX4_find_3 : decode cX4_find 3 = .ok (.invokestatic 32, 3) := by decide +kernel
theorem dX4_find_6 : decode cX4_find 6 = .ok (.putfield 24, 3) := by decide +kernel
theorem dX4_find_9 : decode cX4_find 9 = .ok (.aload_n 0, 1) := by decide +kernel
theorem dX4_find_10 : decode cX4_find 10 = .ok (.iconst (-1), 1) := by decide +kernel
theorem dX4_find_11 : decode cX4_find 11 = .ok (.putfield 28, 3) := by decide +kernel
theorem dX4_find_14 : decode cX4_find 14 = .ok (.aload_n 0, 1) := by decide +kernel
theorem dX4_find_15 : decode cX4_find 15 = .ok (.getfield 11, 3) := by decide +kernel
theorem dX4_find_18 : decode cX4_find 18 = .ok (.iconst 0, 1) := by decide +kernel
theorem dX4_find_19 : decode cX4_find 19 = .ok (.aaload, 1) := by decide +kernel
theorem dX4_find_20 : decode cX4_find 20 = .ok (.aload_n 2, 1) := by decide +kernel
theorem dX4_find_21 : decode cX4_find 21 = .ok (.invokevirtual 38, 3) := by decide +kernel
theorem dX4_find_24 : decode cX4_find 24 = .ok (.aload_n 0, 1) := by decide +kernel
theorem dX4_find_25 : decode cX4_find 25 = .ok (.aload_n 1, 1) := by decide +kernel
theorem dX4_find_26 : decode cX4_find 26 = .ok (.iconst 0, 1) := by decide +kernel
theorem dX4_find_27 : decode cX4_find 27 = .ok (.invokestatic 42, 3) := by decide +kernel
theorem dX4_find_30 : decode cX4_find 30 = .ok (.return_, 1) := by decide +kernel
theorem dX4_extend_0 : decode cX4_extend 0 = .ok (.iload_n 2, 1) := by decide +kernel
theorem dX4_extend_1 : decode cX4_extend 1 = .ok (.ifCond .lt 16, 3) := by decide +kernel
theorem dX4_extend_4 : decode cX4_extend 4 = .ok (.iload_n 2, 1) := by decide +kernel
theorem dX4_extend_5 : decode cX4_extend 5 = .ok (.aload_n 0, 1) := by decide +kernel
theorem dX4_extend_6 : decode cX4_extend 6 = .ok (.getfield 24, 3) := by decide +kernel
theorem dX4_extend_9 : decode cX4_extend 9 = .ok (.if_icmp .ge 8, 3) := by decide +kernel
theorem dX4_extend_12 : decode cX4_extend 12 = .ok (.iload_n 2, 1) := by decide +kernel
theorem dX4_extend_13 : decode cX4_extend 13 = .ok (.iconst 4, 1) := by decide +kernel
theorem dX4_extend_14 : decode cX4_extend 14 = .ok (.if_icmp .lt 9, 3) := by decide +kernel
theorem dX4_extend_17 : decode cX4_extend 17 = .ok (.aload_n 0, 1) := by decide +kernel
theorem dX4_extend_18 : decode cX4_extend 18 = .ok (.aload_n 1, 1) := by decide +kernel
theorem dX4_extend_19 : decode cX4_extend 19 = .ok (.invokevirtual 46, 3) := by decide +kernel
theorem dX4_extend_22 : decode cX4_extend 22 = .ok (.return_, 1) := by decide +kernel
theorem dX4_extend_23 : decode cX4_extend 23 = .ok (.iconst 0, 1) := by decide +kernel
theorem dX4_extend_24 : decode cX4_extend 24 = .ok (.istore_n 3, 1) := by decide +kernel
theorem dX4_extend_25 : decode cX4_extend 25 = .ok (.iload_n 3, 1) := by decide +kernel
theorem dX4_extend_26 : decode cX4_extend 26 = .ok (.aload_n 1, 1) := by decide +kernel
theorem dX4_extend_27 : decode cX4_extend 27 = .ok (.getfield 50, 3) := by decide +kernel
theorem dX4_extend_30 : decode cX4_extend 30 = .ok (.if_icmp .ge 63, 3) := by decide +kernel
theorem dX4_extend_33 : decode cX4_extend 33 = .ok (.aload_n 0, 1) := by decide +kernel
theorem dX4_extend_34 : decode cX4_extend 34 = .ok (.getfield 28, 3) := by decide +kernel
theorem dX4_extend_37 : decode cX4_extend 37 = .ok (.aload_n 1, 1) := by decide +kernel
theorem dX4_extend_38 : decode cX4_extend 38 = .ok (.getfield 50, 3) := by decide +kernel
theorem dX4_extend_41 : decode cX4_extend 41 = .ok (.if_icmp .ge 52, 3) := by decide +kernel
theorem dX4_extend_44 : decode cX4_extend 44 = .ok (.aload_n 0, 1) := by decide +kernel
theorem dX4_extend_45 : decode cX4_extend 45 = .ok (.getfield 17, 3) := by decide +kernel
theorem dX4_extend_48 : decode cX4_extend 48 = .ok (.iload_n 2, 1) := by decide +kernel
theorem dX4_extend_49 : decode cX4_extend 49 = .ok (.iload_n 3, 1) := by decide +kernel
theorem dX4_extend_50 : decode cX4_extend 50 = .ok (.iastore, 1) := by decide +kernel
theorem dX4_extend_51 : decode cX4_extend 51 = .ok (.aload_n 0, 1) := by decide +kernel
theorem dX4_extend_52 : decode cX4_extend 52 = .ok (.getfield 11, 3) := by decide +kernel
theorem dX4_extend_55 : decode cX4_extend 55 = .ok (.iload_n 2, 1) := by decide +kernel
theorem dX4_extend_56 : decode cX4_extend 56 = .ok (.iconst 1, 1) := by decide +kernel
theorem dX4_extend_57 : decode cX4_extend 57 = .ok (.iadd, 1) := by decide +kernel
theorem dX4_extend_58 : decode cX4_extend 58 = .ok (.aaload, 1) := by decide +kernel
theorem dX4_extend_59 : decode cX4_extend 59 = .ok (.astore 4, 2) := by decide +kernel
theorem dX4_extend_61 : decode cX4_extend 61 = .ok (.aload 4, 2) := by decide +kernel
theorem dX4_extend_63 : decode cX4_extend 63 = .ok (.aload_n 0, 1) := by decide +kernel
theorem dX4_extend_64 : decode cX4_extend 64 = .ok (.getfield 11, 3) := by decide +kernel
theorem dX4_extend_67 : decode cX4_extend 67 = .ok (.iload_n 2, 1) := by decide +kernel
theorem dX4_extend_68 : decode cX4_extend 68 = .ok (.aaload, 1) := by decide +kernel
theorem dX4_extend_69 : decode cX4_extend 69 = .ok (.invokevirtual 38, 3) := by decide +kernel
theorem dX4_extend_72 : decode cX4_extend 72 = .ok (.aload 4, 2) := by decide +kernel
theorem dX4_extend_74 : decode cX4_extend 74 = .ok (.aload_n 1, 1) := by decide +kernel
theorem dX4_extend_75 : decode cX4_extend 75 = .ok (.iload_n 3, 1) := by decide +kernel
theorem dX4_extend_76 : decode cX4_extend 76 = .ok (.invokevirtual 55, 3) := by decide +kernel
theorem dX4_extend_79 : decode cX4_extend 79 = .ok (.aload_n 0, 1) := by decide +kernel
theorem dX4_extend_80 : decode cX4_extend 80 = .ok (.aload_n 1, 1) := by decide +kernel
theorem dX4_extend_81 : decode cX4_extend 81 = .ok (.iload_n 2, 1) := by decide +kernel
theorem dX4_extend_82 : decode cX4_extend 82 = .ok (.iconst 1, 1) := by decide +kernel
theorem dX4_extend_83 : decode cX4_extend 83 = .ok (.iadd, 1) := by decide +kernel
theorem dX4_extend_84 : decode cX4_extend 84 = .ok (.invokestatic 42, 3) := by decide +kernel
theorem dX4_extend_87 : decode cX4_extend 87 = .ok (.iinc 3 1, 3) := by decide +kernel
theorem dX4_extend_90 : decode cX4_extend 90 = .ok (.goto (-65), 3) := by decide +kernel
theorem dX4_extend_93 : decode cX4_extend 93 = .ok (.return_, 1) := by decide +kernel
theorem dX4_judge_0 : decode cX4_judge 0 = .ok (.aload_n 0, 1) := by decide +kernel
theorem dX4_judge_1 : decode cX4_judge 1 = .ok (.getfield 11, 3) := by decide +kernel
theorem dX4_judge_4 : decode cX4_judge 4 = .ok (.aload_n 0, 1) := by decide +kernel
theorem dX4_judge_5 : decode cX4_judge 5 = .ok (.getfield 24, 3) := by decide +kernel
theorem dX4_judge_8 : decode cX4_judge 8 = .ok (.aaload, 1) := by decide +kernel
theorem dX4_judge_9 : decode cX4_judge 9 = .ok (.aload_n 1, 1) := by decide +kernel
theorem dX4_judge_10 : decode cX4_judge 10 = .ok (.invokevirtual 59, 3) := by decide +kernel
theorem dX4_judge_13 : decode cX4_judge 13 = .ok (.invokestatic 63, 3) := by decide +kernel
theorem dX4_judge_16 : decode cX4_judge 16 = .ok (.istore_n 2, 1) := by decide +kernel
theorem dX4_judge_17 : decode cX4_judge 17 = .ok (.iload_n 2, 1) := by decide +kernel
theorem dX4_judge_18 : decode cX4_judge 18 = .ok (.aload_n 0, 1) := by decide +kernel
theorem dX4_judge_19 : decode cX4_judge 19 = .ok (.getfield 28, 3) := by decide +kernel
theorem dX4_judge_22 : decode cX4_judge 22 = .ok (.if_icmp .le 22, 3) := by decide +kernel
theorem dX4_judge_25 : decode cX4_judge 25 = .ok (.aload_n 0, 1) := by decide +kernel
theorem dX4_judge_26 : decode cX4_judge 26 = .ok (.iload_n 2, 1) := by decide +kernel
theorem dX4_judge_27 : decode cX4_judge 27 = .ok (.putfield 28, 3) := by decide +kernel
theorem dX4_judge_30 : decode cX4_judge 30 = .ok (.aload_n 0, 1) := by decide +kernel
theorem dX4_judge_31 : decode cX4_judge 31 = .ok (.getfield 17, 3) := by decide +kernel
theorem dX4_judge_34 : decode cX4_judge 34 = .ok (.iconst 0, 1) := by decide +kernel
theorem dX4_judge_35 : decode cX4_judge 35 = .ok (.aload_n 0, 1) := by decide +kernel
theorem dX4_judge_36 : decode cX4_judge 36 = .ok (.getfield 21, 3) := by decide +kernel
theorem dX4_judge_39 : decode cX4_judge 39 = .ok (.iconst 0, 1) := by decide +kernel
theorem dX4_judge_40 : decode cX4_judge 40 = .ok (.iconst 4, 1) := by decide +kernel
theorem dX4_judge_41 : decode cX4_judge 41 = .ok (.invokestatic 69, 3) := by decide +kernel
theorem dX4_judge_44 : decode cX4_judge 44 = .ok (.return_, 1) := by decide +kernel
theorem dX5_init_0 : decode cX5_init 0 = .ok (.aload_n 0, 1) := by decide +kernel
theorem dX5_init_1 : decode cX5_init 1 = .ok (.invokespecial 3, 3) := by decide +kernel
theorem dX5_init_4 : decode cX5_init 4 = .ok (.aload_n 0, 1) := by decide +kernel
theorem dX5_init_5 : decode cX5_init 5 = .ok (.iconst 2, 1) := by decide +kernel
theorem dX5_init_6 : decode cX5_init 6 = .ok (.anewarray 9, 3) := by decide +kernel
theorem dX5_init_9 : decode cX5_init 9 = .ok (.putfield 11, 3) := by decide +kernel
theorem dX5_init_12 : decode cX5_init 12 = .ok (.aload_n 0, 1) := by decide +kernel
theorem dX5_init_13 : decode cX5_init 13 = .ok (.iconst 2, 1) := by decide +kernel
theorem dX5_init_14 : decode cX5_init 14 = .ok (.newarray .boolean, 2) := by decide +kernel
theorem dX5_init_16 : decode cX5_init 16 = .ok (.putfield 17, 3) := by decide +kernel
theorem dX5_init_19 : decode cX5_init 19 = .ok (.iconst 0, 1) := by decide +kernel
theorem dX5_init_20 : decode cX5_init 20 = .ok (.istore_n 1, 1) := by decide +kernel
theorem dX5_init_21 : decode cX5_init 21 = .ok (.iload_n 1, 1) := by decide +kernel
theorem dX5_init_22 : decode cX5_init 22 = .ok (.iconst 2, 1) := by decide +kernel
theorem dX5_init_23 : decode cX5_init 23 = .ok (.if_icmp .ge 22, 3) := by decide +kernel
theorem dX5_init_26 : decode cX5_init 26 = .ok (.aload_n 0, 1) := by decide +kernel
theorem dX5_init_27 : decode cX5_init 27 = .ok (.getfield 11, 3) := by decide +kernel
theorem dX5_init_30 : decode cX5_init 30 = .ok (.iload_n 1, 1) := by decide +kernel
theorem dX5_init_31 : decode cX5_init 31 = .ok (.new 9, 3) := by decide +kernel
theorem dX5_init_34 : decode cX5_init 34 = .ok (.dup, 1) := by decide +kernel
theorem dX5_init_35 : decode cX5_init 35 = .ok (.invokespecial 21, 3) := by decide +kernel
theorem dX5_init_38 : decode cX5_init 38 = .ok (.aastore, 1) := by decide +kernel
theorem dX5_init_39 : decode cX5_init 39 = .ok (.iinc 1 1, 3) := by decide +kernel
theorem dX5_init_42 : decode cX5_init 42 = .ok (.goto (-21), 3) := by decide +kernel
theorem dX5_init_45 : decode cX5_init 45 = .ok (.return_, 1) := by decide +kernel
theorem dX5_clear_0 : decode cX5_clear 0 = .ok (.iconst 0, 1) := by decide +kernel
theorem dX5_clear_1 : decode cX5_clear 1 = .ok (.istore_n 1, 1) := by decide +kernel
theorem dX5_clear_2 : decode cX5_clear 2 = .ok (.iload_n 1, 1) := by decide +kernel
theorem dX5_clear_3 : decode cX5_clear 3 = .ok (.iconst 2, 1) := by decide +kernel
theorem dX5_clear_4 : decode cX5_clear 4 = .ok (.if_icmp .ge 16, 3) := by decide +kernel
theorem dX5_clear_7 : decode cX5_clear 7 = .ok (.aload_n 0, 1) := by decide +kernel
theorem dX5_clear_8 : decode cX5_clear 8 = .ok (.getfield 17, 3) := by decide +kernel
theorem dX5_clear_11 : decode cX5_clear 11 = .ok (.iload_n 1, 1) := by decide +kernel
theorem dX5_clear_12 : decode cX5_clear 12 = .ok (.iconst 0, 1) := by decide +kernel
theorem dX5_clear_13 : decode cX5_clear 13 = .ok (.bastore, 1) := by decide +kernel
theorem dX5_clear_14 : decode cX5_clear 14 = .ok (.iinc 1 1, 3) := by decide +kernel
theorem dX5_clear_17 : decode cX5_clear 17 = .ok (.goto (-15), 3) := by decide +kernel
theorem dX5_clear_20 : decode cX5_clear 20 = .ok (.return_, 1) := by decide +kernel
theorem dX5_put_0 : decode cX5_put 0 = .ok (.iload_n 1, 1) := by decide +kernel
theorem dX5_put_1 : decode cX5_put 1 = .ok (.invokestatic 22, 3) := by decide +kernel
theorem dX5_put_4 : decode cX5_put 4 = .ok (.ifCond .eq 20, 3) := by decide +kernel
theorem dX5_put_7 : decode cX5_put 7 = .ok (.aload_n 0, 1) := by decide +kernel
theorem dX5_put_8 : decode cX5_put 8 = .ok (.getfield 11, 3) := by decide +kernel
theorem dX5_put_11 : decode cX5_put 11 = .ok (.iload_n 1, 1) := by decide +kernel
theorem dX5_put_12 : decode cX5_put 12 = .ok (.aaload, 1) := by decide +kernel
theorem dX5_put_13 : decode cX5_put 13 = .ok (.aload_n 2, 1) := by decide +kernel
theorem dX5_put_14 : decode cX5_put 14 = .ok (.invokevirtual 26, 3) := by decide +kernel
theorem dX5_put_17 : decode cX5_put 17 = .ok (.aload_n 0, 1) := by decide +kernel
theorem dX5_put_18 : decode cX5_put 18 = .ok (.getfield 17, 3) := by decide +kernel
theorem dX5_put_21 : decode cX5_put 21 = .ok (.iload_n 1, 1) := by decide +kernel
theorem dX5_put_22 : decode cX5_put 22 = .ok (.iconst 1, 1) := by decide +kernel
theorem dX5_put_23 : decode cX5_put 23 = .ok (.bastore, 1) := by decide +kernel
theorem dX5_put_24 : decode cX5_put 24 = .ok (.return_, 1) := by decide +kernel
theorem dX5_take_0 : decode cX5_take 0 = .ok (.iload_n 1, 1) := by decide +kernel
theorem dX5_take_1 : decode cX5_take 1 = .ok (.invokestatic 22, 3) := by decide +kernel
theorem dX5_take_4 : decode cX5_take 4 = .ok (.ifCond .eq 12, 3) := by decide +kernel
theorem dX5_take_7 : decode cX5_take 7 = .ok (.aload_n 0, 1) := by decide +kernel
theorem dX5_take_8 : decode cX5_take 8 = .ok (.getfield 17, 3) := by decide +kernel
theorem dX5_take_11 : decode cX5_take 11 = .ok (.iload_n 1, 1) := by decide +kernel
theorem dX5_take_12 : decode cX5_take 12 = .ok (.baload, 1) := by decide +kernel
theorem dX5_take_13 : decode cX5_take 13 = .ok (.ifCond .ne 5, 3) := by decide +kernel
theorem dX5_take_16 : decode cX5_take 16 = .ok (.iconst 0, 1) := by decide +kernel
theorem dX5_take_17 : decode cX5_take 17 = .ok (.ireturn, 1) := by decide +kernel
theorem dX5_take_18 : decode cX5_take 18 = .ok (.aload_n 2, 1) := by decide +kernel
theorem dX5_take_19 : decode cX5_take 19 = .ok (.aload_n 0, 1) := by decide +kernel
theorem dX5_take_20 : decode cX5_take 20 = .ok (.getfield 11, 3) := by decide +kernel
theorem dX5_take_23 : decode cX5_take 23 = .ok (.iload_n 1, 1) := by decide +kernel
theorem dX5_take_24 : decode cX5_take 24 = .ok (.aaload, 1) := by decide +kernel
theorem dX5_take_25 : decode cX5_take 25 = .ok (.invokevirtual 26, 3) := by decide +kernel
theorem dX5_take_28 : decode cX5_take 28 = .ok (.iconst 1, 1) := by decide +kernel
theorem dX5_take_29 : decode cX5_take 29 = .ok (.ireturn, 1) := by decide +kernel
theorem dX6_init_0 : decode cX6_init 0 = .ok (.aload_n 0, 1) := by decide +kernel
theorem dX6_init_1 : decode cX6_init 1 = .ok (.invokespecial 3, 3) := by decide +kernel
theorem dX6_init_4 : decode cX6_init 4 = .ok (.aload_n 0, 1) := by decide +kernel
theorem dX6_init_5 : decode cX6_init 5 = .ok (.bipush 6, 2) := by decide +kernel
theorem dX6_init_7 : decode cX6_init 7 = .ok (.newarray .int, 2) := by decide +kernel
theorem dX6_init_9 : decode cX6_init 9 = .ok (.putfield 9, 3) := by decide +kernel
theorem dX6_init_12 : decode cX6_init 12 = .ok (.aload_n 0, 1) := by decide +kernel
theorem dX6_init_13 : decode cX6_init 13 = .ok (.bipush 6, 2) := by decide +kernel
theorem dX6_init_15 : decode cX6_init 15 = .ok (.newarray .int, 2) := by decide +kernel
theorem dX6_init_17 : decode cX6_init 17 = .ok (.putfield 15, 3) := by decide +kernel
theorem dX6_init_20 : decode cX6_init 20 = .ok (.aload_n 0, 1) := by decide +kernel
theorem dX6_init_21 : decode cX6_init 21 = .ok (.iconst 0, 1) := by decide +kernel
theorem dX6_init_22 : decode cX6_init 22 = .ok (.putfield 18, 3) := by decide +kernel
theorem dX6_init_25 : decode cX6_init 25 = .ok (.return_, 1) := by decide +kernel
theorem dX6_add_0 : decode cX6_add 0 = .ok (.aload_n 0, 1) := by decide +kernel
theorem dX6_add_1 : decode cX6_add 1 = .ok (.getfield 18, 3) := by decide +kernel
theorem dX6_add_4 : decode cX6_add 4 = .ok (.bipush 6, 2) := by decide +kernel
theorem dX6_add_6 : decode cX6_add 6 = .ok (.if_icmp .lt 5, 3) := by decide +kernel
theorem dX6_add_9 : decode cX6_add 9 = .ok (.iconst 0, 1) := by decide +kernel
theorem dX6_add_10 : decode cX6_add 10 = .ok (.ireturn, 1) := by decide +kernel
theorem dX6_add_11 : decode cX6_add 11 = .ok (.aload_n 0, 1) := by decide +kernel
theorem dX6_add_12 : decode cX6_add 12 = .ok (.getfield 9, 3) := by decide +kernel
theorem dX6_add_15 : decode cX6_add 15 = .ok (.aload_n 0, 1) := by decide +kernel
theorem dX6_add_16 : decode cX6_add 16 = .ok (.getfield 18, 3) := by decide +kernel
theorem dX6_add_19 : decode cX6_add 19 = .ok (.iload_n 1, 1) := by decide +kernel
theorem dX6_add_20 : decode cX6_add 20 = .ok (.iastore, 1) := by decide +kernel
theorem dX6_add_21 : decode cX6_add 21 = .ok (.aload_n 0, 1) := by decide +kernel
theorem dX6_add_22 : decode cX6_add 22 = .ok (.getfield 15, 3) := by decide +kernel
theorem dX6_add_25 : decode cX6_add 25 = .ok (.aload_n 0, 1) := by decide +kernel
theorem dX6_add_26 : decode cX6_add 26 = .ok (.getfield 18, 3) := by decide +kernel
theorem dX6_add_29 : decode cX6_add 29 = .ok (.iload_n 2, 1) := by decide +kernel
theorem dX6_add_30 : decode cX6_add 30 = .ok (.iastore, 1) := by decide +kernel
theorem dX6_add_31 : decode cX6_add 31 = .ok (.aload_n 0, 1) := by decide +kernel
theorem dX6_add_32 : decode cX6_add 32 = .ok (.dup, 1) := by decide +kernel
theorem dX6_add_33 : decode cX6_add 33 = .ok (.getfield 18, 3) := by decide +kernel
theorem dX6_add_36 : decode cX6_add 36 = .ok (.iconst 1, 1) := by decide +kernel
theorem dX6_add_37 : decode cX6_add 37 = .ok (.iadd, 1) := by decide +kernel
theorem dX6_add_38 : decode cX6_add 38 = .ok (.putfield 18, 3) := by decide +kernel
theorem dX6_add_41 : decode cX6_add 41 = .ok (.iconst 1, 1) := by decide +kernel
theorem dX6_add_42 : decode cX6_add 42 = .ok (.ireturn, 1) := by decide +kernel
theorem dX6_lastDay_0 : decode cX6_lastDay 0 = .ok (.iconst 0, 1) := by decide +kernel
theorem dX6_lastDay_1 : decode cX6_lastDay 1 = .ok (.istore_n 1, 1) := by decide +kernel
theorem dX6_lastDay_2 : decode cX6_lastDay 2 = .ok (.iconst 0, 1) := by decide +kernel
theorem dX6_lastDay_3 : decode cX6_lastDay 3 = .ok (.istore_n 2, 1) := by decide +kernel
theorem dX6_lastDay_4 : decode cX6_lastDay 4 = .ok (.iload_n 2, 1) := by decide +kernel
theorem dX6_lastDay_5 : decode cX6_lastDay 5 = .ok (.aload_n 0, 1) := by decide +kernel
theorem dX6_lastDay_6 : decode cX6_lastDay 6 = .ok (.getfield 18, 3) := by decide +kernel
theorem dX6_lastDay_9 : decode cX6_lastDay 9 = .ok (.if_icmp .ge 20, 3) := by decide +kernel
theorem dX6_lastDay_12 : decode cX6_lastDay 12 = .ok (.iload_n 1, 1) := by decide +kernel
theorem dX6_lastDay_13 : decode cX6_lastDay 13 = .ok (.aload_n 0, 1) := by decide +kernel
theorem dX6_lastDay_14 : decode cX6_lastDay 14 = .ok (.getfield 15, 3) := by decide +kernel
theorem dX6_lastDay_17 : decode cX6_lastDay 17 = .ok (.iload_n 2, 1) := by decide +kernel
theorem dX6_lastDay_18 : decode cX6_lastDay 18 = .ok (.iaload, 1) := by decide +kernel
theorem dX6_lastDay_19 : decode cX6_lastDay 19 = .ok (.invokestatic 22, 3) := by decide +kernel
theorem dX6_lastDay_22 : decode cX6_lastDay 22 = .ok (.istore_n 1, 1) := by decide +kernel
theorem dX6_lastDay_23 : decode cX6_lastDay 23 = .ok (.iinc 2 1, 3) := by decide +kernel
theorem dX6_lastDay_26 : decode cX6_lastDay 26 = .ok (.goto (-22), 3) := by decide +kernel
theorem dX6_lastDay_29 : decode cX6_lastDay 29 = .ok (.iload_n 1, 1) := by decide +kernel
theorem dX6_lastDay_30 : decode cX6_lastDay 30 = .ok (.ireturn, 1) := by decide +kernel
theorem dX6_allow_0 : decode cX6_allow 0 = .ok (.iconst 0, 1) := by decide +kernel
theorem dX6_allow_1 : decode cX6_allow 1 = .ok (.istore_n 3, 1) := by decide +kernel
theorem dX6_allow_2 : decode cX6_allow 2 = .ok (.iload_n 3, 1) := by decide +kernel
theorem dX6_allow_3 : decode cX6_allow 3 = .ok (.aload_n 0, 1) := by decide +kernel
theorem dX6_allow_4 : decode cX6_allow 4 = .ok (.getfield 18, 3) := by decide +kernel
theorem dX6_allow_7 : decode cX6_allow 7 = .ok (.if_icmp .ge 31, 3) := by decide +kernel
theorem dX6_allow_10 : decode cX6_allow 10 = .ok (.aload_n 0, 1) := by decide +kernel
theorem dX6_allow_11 : decode cX6_allow 11 = .ok (.getfield 15, 3) := by decide +kernel
theorem dX6_allow_14 : decode cX6_allow 14 = .ok (.iload_n 3, 1) := by decide +kernel
theorem dX6_allow_15 : decode cX6_allow 15 = .ok (.iaload, 1) := by decide +kernel
theorem dX6_allow_16 : decode cX6_allow 16 = .ok (.iload_n 2, 1) := by decide +kernel
theorem dX6_allow_17 : decode cX6_allow 17 = .ok (.if_icmp .ne 15, 3) := by decide +kernel
theorem dX6_allow_20 : decode cX6_allow 20 = .ok (.aload_n 0, 1) := by decide +kernel
theorem dX6_allow_21 : decode cX6_allow 21 = .ok (.getfield 9, 3) := by decide +kernel
theorem dX6_allow_24 : decode cX6_allow 24 = .ok (.iload_n 3, 1) := by decide +kernel
theorem dX6_allow_25 : decode cX6_allow 25 = .ok (.iaload, 1) := by decide +kernel
theorem dX6_allow_26 : decode cX6_allow 26 = .ok (.iload_n 1, 1) := by decide +kernel
theorem dX6_allow_27 : decode cX6_allow 27 = .ok (.if_icmp .eq 5, 3) := by decide +kernel
theorem dX6_allow_30 : decode cX6_allow 30 = .ok (.iconst 0, 1) := by decide +kernel
theorem dX6_allow_31 : decode cX6_allow 31 = .ok (.ireturn, 1) := by decide +kernel
theorem dX6_allow_32 : decode cX6_allow 32 = .ok (.iinc 3 1, 3) := by decide +kernel
theorem dX6_allow_35 : decode cX6_allow 35 = .ok (.goto (-33), 3) := by decide +kernel
theorem dX6_allow_38 : decode cX6_allow 38 = .ok (.iconst 1, 1) := by decide +kernel
theorem dX6_allow_39 : decode cX6_allow 39 = .ok (.ireturn, 1) := by decide +kernel
theorem dX7_init_0 : decode cX7_init 0 = .ok (.aload_n 0, 1) := by decide +kernel
theorem dX7_init_1 : decode cX7_init 1 = .ok (.invokespecial 3, 3) := by decide +kernel
theorem dX7_init_4 : decode cX7_init 4 = .ok (.aload_n 0, 1) := by decide +kernel
theorem dX7_init_5 : decode cX7_init 5 = .ok (.sipush 160, 3) := by decide +kernel
theorem dX7_init_8 : decode cX7_init 8 = .ok (.newarray .char, 2) := by decide +kernel
theorem dX7_init_10 : decode cX7_init 10 = .ok (.putfield 9, 3) := by decide +kernel
theorem dX7_init_13 : decode cX7_init 13 = .ok (.aload_n 0, 1) := by decide +kernel
theorem dX7_init_14 : decode cX7_init 14 = .ok (.iconst 0, 1) := by decide +kernel
theorem dX7_init_15 : decode cX7_init 15 = .ok (.putfield 15, 3) := by decide +kernel
theorem dX7_init_18 : decode cX7_init 18 = .ok (.aload_n 0, 1) := by decide +kernel
theorem dX7_init_19 : decode cX7_init 19 = .ok (.iconst 0, 1) := by decide +kernel
theorem dX7_init_20 : decode cX7_init 20 = .ok (.putfield 19, 3) := by decide +kernel
theorem dX7_init_23 : decode cX7_init 23 = .ok (.aload_n 0, 1) := by decide +kernel
theorem dX7_init_24 : decode cX7_init 24 = .ok (.iconst 0, 1) := by decide +kernel
theorem dX7_init_25 : decode cX7_init 25 = .ok (.putfield 22, 3) := by decide +kernel
theorem dX7_init_28 : decode cX7_init 28 = .ok (.aload_n 0, 1) := by decide +kernel
theorem dX7_init_29 : decode cX7_init 29 = .ok (.iconst 0, 1) := by decide +kernel
theorem dX7_init_30 : decode cX7_init 30 = .ok (.putfield 25, 3) := by decide +kernel
theorem dX7_init_33 : decode cX7_init 33 = .ok (.return_, 1) := by decide +kernel
theorem dX7_add_0 : decode cX7_add 0 = .ok (.aload_n 0, 1) := by decide +kernel
theorem dX7_add_1 : decode cX7_add 1 = .ok (.getfield 15, 3) := by decide +kernel
theorem dX7_add_4 : decode cX7_add 4 = .ok (.sipush 160, 3) := by decide +kernel
theorem dX7_add_7 : decode cX7_add 7 = .ok (.if_icmp .lt 5, 3) := by decide +kernel
theorem dX7_add_10 : decode cX7_add 10 = .ok (.iconst 0, 1) := by decide +kernel
theorem dX7_add_11 : decode cX7_add 11 = .ok (.ireturn, 1) := by decide +kernel
theorem dX7_add_12 : decode cX7_add 12 = .ok (.aload_n 0, 1) := by decide +kernel
theorem dX7_add_13 : decode cX7_add 13 = .ok (.getfield 9, 3) := by decide +kernel
theorem dX7_add_16 : decode cX7_add 16 = .ok (.aload_n 0, 1) := by decide +kernel
theorem dX7_add_17 : decode cX7_add 17 = .ok (.getfield 15, 3) := by decide +kernel
theorem dX7_add_20 : decode cX7_add 20 = .ok (.iload_n 1, 1) := by decide +kernel
theorem dX7_add_21 : decode cX7_add 21 = .ok (.castore, 1) := by decide +kernel
theorem dX7_add_22 : decode cX7_add 22 = .ok (.aload_n 0, 1) := by decide +kernel
theorem dX7_add_23 : decode cX7_add 23 = .ok (.dup, 1) := by decide +kernel
theorem dX7_add_24 : decode cX7_add 24 = .ok (.getfield 15, 3) := by decide +kernel
theorem dX7_add_27 : decode cX7_add 27 = .ok (.iconst 1, 1) := by decide +kernel
theorem dX7_add_28 : decode cX7_add 28 = .ok (.iadd, 1) := by decide +kernel
theorem dX7_add_29 : decode cX7_add 29 = .ok (.putfield 15, 3) := by decide +kernel
theorem dX7_add_32 : decode cX7_add 32 = .ok (.iconst 1, 1) := by decide +kernel
theorem dX7_add_33 : decode cX7_add 33 = .ok (.ireturn, 1) := by decide +kernel
theorem dX7_read_0 : decode cX7_read 0 = .ok (.aload_n 2, 1) := by decide +kernel
theorem dX7_read_1 : decode cX7_read 1 = .ok (.aload_n 1, 1) := by decide +kernel
theorem dX7_read_2 : decode cX7_read 2 = .ok (.invokevirtual 28, 3) := by decide +kernel
theorem dX7_read_5 : decode cX7_read 5 = .ok (.aload_n 0, 1) := by decide +kernel
theorem dX7_read_6 : decode cX7_read 6 = .ok (.iconst 0, 1) := by decide +kernel
theorem dX7_read_7 : decode cX7_read 7 = .ok (.putfield 22, 3) := by decide +kernel
theorem dX7_read_10 : decode cX7_read 10 = .ok (.aload_n 0, 1) := by decide +kernel
theorem dX7_read_11 : decode cX7_read 11 = .ok (.iconst 0, 1) := by decide +kernel
theorem dX7_read_12 : decode cX7_read 12 = .ok (.putfield 25, 3) := by decide +kernel
theorem dX7_read_15 : decode cX7_read 15 = .ok (.aload_n 0, 1) := by decide +kernel
theorem dX7_read_16 : decode cX7_read 16 = .ok (.invokevirtual 34, 3) := by decide +kernel
theorem dX7_read_19 : decode cX7_read 19 = .ok (.iconst 0, 1) := by decide +kernel
theorem dX7_read_20 : decode cX7_read 20 = .ok (.istore_n 3, 1) := by decide +kernel
theorem dX7_read_21 : decode cX7_read 21 = .ok (.iload_n 3, 1) := by decide +kernel
theorem dX7_read_22 : decode cX7_read 22 = .ok (.bipush 14, 2) := by decide +kernel
theorem dX7_read_24 : decode cX7_read 24 = .ok (.if_icmp .ge 77, 3) := by decide +kernel
theorem dX7_read_27 : decode cX7_read 27 = .ok (.aload_n 0, 1) := by decide +kernel
theorem dX7_read_28 : decode cX7_read 28 = .ok (.aload_n 2, 1) := by decide +kernel
theorem dX7_read_29 : decode cX7_read 29 = .ok (.invokevirtual 37, 3) := by decide +kernel
theorem dX7_read_32 : decode cX7_read 32 = .ok (.ifCond .ne 8, 3) := by decide +kernel
theorem dX7_read_35 : decode cX7_read 35 = .ok (.aload_n 0, 1) := by decide +kernel
theorem dX7_read_36 : decode cX7_read 36 = .ok (.getfield 19, 3) := by decide +kernel
theorem dX7_read_39 : decode cX7_read 39 = .ok (.ireturn, 1) := by decide +kernel
theorem dX7_read_40 : decode cX7_read 40 = .ok (.aload_n 0, 1) := by decide +kernel
theorem dX7_read_41 : decode cX7_read 41 = .ok (.dup, 1) := by decide +kernel
theorem dX7_read_42 : decode cX7_read 42 = .ok (.getfield 25, 3) := by decide +kernel
theorem dX7_read_45 : decode cX7_read 45 = .ok (.iconst 1, 1) := by decide +kernel
theorem dX7_read_46 : decode cX7_read 46 = .ok (.iadd, 1) := by decide +kernel
theorem dX7_read_47 : decode cX7_read 47 = .ok (.putfield 25, 3) := by decide +kernel
theorem dX7_read_50 : decode cX7_read 50 = .ok (.aload_n 0, 1) := by decide +kernel
theorem dX7_read_51 : decode cX7_read 51 = .ok (.getfield 19, 3) := by decide +kernel
theorem dX7_read_54 : decode cX7_read 54 = .ok (.aload_n 0, 1) := by decide +kernel
theorem dX7_read_55 : decode cX7_read 55 = .ok (.getfield 15, 3) := by decide +kernel
theorem dX7_read_58 : decode cX7_read 58 = .ok (.if_icmp .lt 5, 3) := by decide +kernel
theorem dX7_read_61 : decode cX7_read 61 = .ok (.iconst (-1), 1) := by decide +kernel
theorem dX7_read_62 : decode cX7_read 62 = .ok (.ireturn, 1) := by decide +kernel
theorem dX7_read_63 : decode cX7_read 63 = .ok (.aload_n 0, 1) := by decide +kernel
theorem dX7_read_64 : decode cX7_read 64 = .ok (.getfield 9, 3) := by decide +kernel
theorem dX7_read_67 : decode cX7_read 67 = .ok (.aload_n 0, 1) := by decide +kernel
theorem dX7_read_68 : decode cX7_read 68 = .ok (.getfield 19, 3) := by decide +kernel
theorem dX7_read_71 : decode cX7_read 71 = .ok (.caload, 1) := by decide +kernel
theorem dX7_read_72 : decode cX7_read 72 = .ok (.bipush 59, 2) := by decide +kernel
theorem dX7_read_74 : decode cX7_read 74 = .ok (.if_icmp .ne 12, 3) := by decide +kernel
theorem dX7_read_77 : decode cX7_read 77 = .ok (.aload_n 0, 1) := by decide +kernel
theorem dX7_read_78 : decode cX7_read 78 = .ok (.getfield 25, 3) := by decide +kernel
theorem dX7_read_81 : decode cX7_read 81 = .ok (.bipush 14, 2) := by decide +kernel
theorem dX7_read_83 : decode cX7_read 83 = .ok (.if_icmp .lt 8, 3) := by decide +kernel
theorem dX7_read_86 : decode cX7_read 86 = .ok (.aload_n 0, 1) := by decide +kernel
theorem dX7_read_87 : decode cX7_read 87 = .ok (.getfield 19, 3) := by decide +kernel
theorem dX7_read_90 : decode cX7_read 90 = .ok (.ireturn, 1) := by decide +kernel
theorem dX7_read_91 : decode cX7_read 91 = .ok (.aload_n 0, 1) := by decide +kernel
theorem dX7_read_92 : decode cX7_read 92 = .ok (.invokevirtual 34, 3) := by decide +kernel
theorem dX7_read_95 : decode cX7_read 95 = .ok (.iinc 3 1, 3) := by decide +kernel
theorem dX7_read_98 : decode cX7_read 98 = .ok (.goto (-77), 3) := by decide +kernel
theorem dX7_read_101 : decode cX7_read 101 = .ok (.aload_n 0, 1) := by decide +kernel
theorem dX7_read_102 : decode cX7_read 102 = .ok (.getfield 19, 3) := by decide +kernel
theorem dX7_read_105 : decode cX7_read 105 = .ok (.ireturn, 1) := by decide +kernel
theorem dX7_step_0 : decode cX7_step 0 = .ok (.aload_n 0, 1) := by decide +kernel
theorem dX7_step_1 : decode cX7_step 1 = .ok (.aload_n 0, 1) := by decide +kernel
theorem dX7_step_2 : decode cX7_step 2 = .ok (.getfield 22, 3) := by decide +kernel
theorem dX7_step_5 : decode cX7_step 5 = .ok (.putfield 19, 3) := by decide +kernel
theorem dX7_step_8 : decode cX7_step 8 = .ok (.aload_n 0, 1) := by decide +kernel
theorem dX7_step_9 : decode cX7_step 9 = .ok (.getfield 19, 3) := by decide +kernel
theorem dX7_step_12 : decode cX7_step 12 = .ok (.aload_n 0, 1) := by decide +kernel
theorem dX7_step_13 : decode cX7_step 13 = .ok (.getfield 15, 3) := by decide +kernel
theorem dX7_step_16 : decode cX7_step 16 = .ok (.if_icmp .ge 30, 3) := by decide +kernel
theorem dX7_step_19 : decode cX7_step 19 = .ok (.aload_n 0, 1) := by decide +kernel
theorem dX7_step_20 : decode cX7_step 20 = .ok (.getfield 9, 3) := by decide +kernel
theorem dX7_step_23 : decode cX7_step 23 = .ok (.aload_n 0, 1) := by decide +kernel
theorem dX7_step_24 : decode cX7_step 24 = .ok (.getfield 19, 3) := by decide +kernel
theorem dX7_step_27 : decode cX7_step 27 = .ok (.caload, 1) := by decide +kernel
theorem dX7_step_28 : decode cX7_step 28 = .ok (.bipush 32, 2) := by decide +kernel
theorem dX7_step_30 : decode cX7_step 30 = .ok (.if_icmp .ne 16, 3) := by decide +kernel
theorem dX7_step_33 : decode cX7_step 33 = .ok (.aload_n 0, 1) := by decide +kernel
theorem dX7_step_34 : decode cX7_step 34 = .ok (.dup, 1) := by decide +kernel
theorem dX7_step_35 : decode cX7_step 35 = .ok (.getfield 19, 3) := by decide +kernel
theorem dX7_step_38 : decode cX7_step 38 = .ok (.iconst 1, 1) := by decide +kernel
theorem dX7_step_39 : decode cX7_step 39 = .ok (.iadd, 1) := by decide +kernel
theorem dX7_step_40 : decode cX7_step 40 = .ok (.putfield 19, 3) := by decide +kernel
theorem dX7_step_43 : decode cX7_step 43 = .ok (.goto (-35), 3) := by decide +kernel
theorem dX7_step_46 : decode cX7_step 46 = .ok (.aload_n 0, 1) := by decide +kernel
theorem dX7_step_47 : decode cX7_step 47 = .ok (.aload_n 0, 1) := by decide +kernel
theorem dX7_step_48 : decode cX7_step 48 = .ok (.getfield 19, 3) := by decide +kernel
theorem dX7_step_51 : decode cX7_step 51 = .ok (.putfield 22, 3) := by decide +kernel
theorem dX7_step_54 : decode cX7_step 54 = .ok (.aload_n 0, 1) := by decide +kernel
theorem dX7_step_55 : decode cX7_step 55 = .ok (.aload_n 0, 1) := by decide +kernel
theorem dX7_step_56 : decode cX7_step 56 = .ok (.getfield 19, 3) := by decide +kernel
theorem dX7_step_59 : decode cX7_step 59 = .ok (.invokevirtual 41, 3) := by decide +kernel
theorem dX7_step_62 : decode cX7_step 62 = .ok (.ifCond .eq 38, 3) := by decide +kernel
theorem dX7_step_65 : decode cX7_step 65 = .ok (.aload_n 0, 1) := by decide +kernel
theorem dX7_step_66 : decode cX7_step 66 = .ok (.aload_n 0, 1) := by decide +kernel
theorem dX7_step_67 : decode cX7_step 67 = .ok (.getfield 22, 3) := by decide +kernel
theorem dX7_step_70 : decode cX7_step 70 = .ok (.invokevirtual 41, 3) := by decide +kernel
theorem dX7_step_73 : decode cX7_step 73 = .ok (.ifCond .eq 94, 3) := by decide +kernel
theorem dX7_step_76 : decode cX7_step 76 = .ok (.aload_n 0, 1) := by decide +kernel
theorem dX7_step_77 : decode cX7_step 77 = .ok (.getfield 22, 3) := by decide +kernel
theorem dX7_step_80 : decode cX7_step 80 = .ok (.aload_n 0, 1) := by decide +kernel
theorem dX7_step_81 : decode cX7_step 81 = .ok (.getfield 15, 3) := by decide +kernel
theorem dX7_step_84 : decode cX7_step 84 = .ok (.if_icmp .ge 83, 3) := by decide +kernel
theorem dX7_step_87 : decode cX7_step 87 = .ok (.aload_n 0, 1) := by decide +kernel
theorem dX7_step_88 : decode cX7_step 88 = .ok (.dup, 1) := by decide +kernel
theorem dX7_step_89 : decode cX7_step 89 = .ok (.getfield 22, 3) := by decide +kernel
theorem dX7_step_92 : decode cX7_step 92 = .ok (.iconst 1, 1) := by decide +kernel
theorem dX7_step_93 : decode cX7_step 93 = .ok (.iadd, 1) := by decide +kernel
theorem dX7_step_94 : decode cX7_step 94 = .ok (.putfield 22, 3) := by decide +kernel
theorem dX7_step_97 : decode cX7_step 97 = .ok (.goto (-32), 3) := by decide +kernel
theorem dX7_step_100 : decode cX7_step 100 = .ok (.aload_n 0, 1) := by decide +kernel
theorem dX7_step_101 : decode cX7_step 101 = .ok (.aload_n 0, 1) := by decide +kernel
theorem dX7_step_102 : decode cX7_step 102 = .ok (.getfield 19, 3) := by decide +kernel
theorem dX7_step_105 : decode cX7_step 105 = .ok (.invokevirtual 45, 3) := by decide +kernel
theorem dX7_step_108 : decode cX7_step 108 = .ok (.ifCond .eq 38, 3) := by decide +kernel
theorem dX7_step_111 : decode cX7_step 111 = .ok (.aload_n 0, 1) := by decide +kernel
theorem dX7_step_112 : decode cX7_step 112 = .ok (.aload_n 0, 1) := by decide +kernel
theorem dX7_step_113 : decode cX7_step 113 = .ok (.getfield 22, 3) := by decide +kernel
theorem dX7_step_116 : decode cX7_step 116 = .ok (.invokevirtual 45, 3) := by decide +kernel
theorem dX7_step_119 : decode cX7_step 119 = .ok (.ifCond .eq 48, 3) := by decide +kernel
theorem dX7_step_122 : decode cX7_step 122 = .ok (.aload_n 0, 1) := by decide +kernel
theorem dX7_step_123 : decode cX7_step 123 = .ok (.getfield 22, 3) := by decide +kernel
theorem dX7_step_126 : decode cX7_step 126 = .ok (.aload_n 0, 1) := by decide +kernel
theorem dX7_step_127 : decode cX7_step 127 = .ok (.getfield 15, 3) := by decide +kernel
theorem dX7_step_130 : decode cX7_step 130 = .ok (.if_icmp .ge 37, 3) := by decide +kernel
theorem dX7_step_133 : decode cX7_step 133 = .ok (.aload_n 0, 1) := by decide +kernel
theorem dX7_step_134 : decode cX7_step 134 = .ok (.dup, 1) := by decide +kernel
theorem dX7_step_135 : decode cX7_step 135 = .ok (.getfield 22, 3) := by decide +kernel
theorem dX7_step_138 : decode cX7_step 138 = .ok (.iconst 1, 1) := by decide +kernel
theorem dX7_step_139 : decode cX7_step 139 = .ok (.iadd, 1) := by decide +kernel
theorem dX7_step_140 : decode cX7_step 140 = .ok (.putfield 22, 3) := by decide +kernel
theorem dX7_step_143 : decode cX7_step 143 = .ok (.goto (-32), 3) := by decide +kernel
theorem dX7_step_146 : decode cX7_step 146 = .ok (.aload_n 0, 1) := by decide +kernel
theorem dX7_step_147 : decode cX7_step 147 = .ok (.getfield 22, 3) := by decide +kernel
theorem dX7_step_150 : decode cX7_step 150 = .ok (.aload_n 0, 1) := by decide +kernel
theorem dX7_step_151 : decode cX7_step 151 = .ok (.getfield 15, 3) := by decide +kernel
theorem dX7_step_154 : decode cX7_step 154 = .ok (.if_icmp .ge 13, 3) := by decide +kernel
theorem dX7_step_157 : decode cX7_step 157 = .ok (.aload_n 0, 1) := by decide +kernel
theorem dX7_step_158 : decode cX7_step 158 = .ok (.dup, 1) := by decide +kernel
theorem dX7_step_159 : decode cX7_step 159 = .ok (.getfield 22, 3) := by decide +kernel
theorem dX7_step_162 : decode cX7_step 162 = .ok (.iconst 1, 1) := by decide +kernel
theorem dX7_step_163 : decode cX7_step 163 = .ok (.iadd, 1) := by decide +kernel
theorem dX7_step_164 : decode cX7_step 164 = .ok (.putfield 22, 3) := by decide +kernel
theorem dX7_step_167 : decode cX7_step 167 = .ok (.return_, 1) := by decide +kernel
theorem dX7_isDigitAt_0 : decode cX7_isDigitAt 0 = .ok (.iload_n 1, 1) := by decide +kernel
theorem dX7_isDigitAt_1 : decode cX7_isDigitAt 1 = .ok (.ifCond .lt 37, 3) := by decide +kernel
theorem dX7_isDigitAt_4 : decode cX7_isDigitAt 4 = .ok (.iload_n 1, 1) := by decide +kernel
theorem dX7_isDigitAt_5 : decode cX7_isDigitAt 5 = .ok (.aload_n 0, 1) := by decide +kernel
theorem dX7_isDigitAt_6 : decode cX7_isDigitAt 6 = .ok (.getfield 15, 3) := by decide +kernel
theorem dX7_isDigitAt_9 : decode cX7_isDigitAt 9 = .ok (.if_icmp .ge 29, 3) := by decide +kernel
theorem dX7_isDigitAt_12 : decode cX7_isDigitAt 12 = .ok (.aload_n 0, 1) := by decide +kernel
theorem dX7_isDigitAt_13 : decode cX7_isDigitAt 13 = .ok (.getfield 9, 3) := by decide +kernel
theorem dX7_isDigitAt_16 : decode cX7_isDigitAt 16 = .ok (.iload_n 1, 1) := by decide +kernel
theorem dX7_isDigitAt_17 : decode cX7_isDigitAt 17 = .ok (.caload, 1) := by decide +kernel
theorem dX7_isDigitAt_18 : decode cX7_isDigitAt 18 = .ok (.bipush 48, 2) := by decide +kernel
theorem dX7_isDigitAt_20 : decode cX7_isDigitAt 20 = .ok (.if_icmp .lt 18, 3) := by decide +kernel
theorem dX7_isDigitAt_23 : decode cX7_isDigitAt 23 = .ok (.aload_n 0, 1) := by decide +kernel
theorem dX7_isDigitAt_24 : decode cX7_isDigitAt 24 = .ok (.getfield 9, 3) := by decide +kernel
theorem dX7_isDigitAt_27 : decode cX7_isDigitAt 27 = .ok (.iload_n 1, 1) := by decide +kernel
theorem dX7_isDigitAt_28 : decode cX7_isDigitAt 28 = .ok (.caload, 1) := by decide +kernel
theorem dX7_isDigitAt_29 : decode cX7_isDigitAt 29 = .ok (.bipush 57, 2) := by decide +kernel
theorem dX7_isDigitAt_31 : decode cX7_isDigitAt 31 = .ok (.if_icmp .gt 7, 3) := by decide +kernel
theorem dX7_isDigitAt_34 : decode cX7_isDigitAt 34 = .ok (.iconst 1, 1) := by decide +kernel
theorem dX7_isDigitAt_35 : decode cX7_isDigitAt 35 = .ok (.goto 4, 3) := by decide +kernel
theorem dX7_isDigitAt_38 : decode cX7_isDigitAt 38 = .ok (.iconst 0, 1) := by decide +kernel
theorem dX7_isDigitAt_39 : decode cX7_isDigitAt 39 = .ok (.ireturn, 1) := by decide +kernel
theorem dX7_isSmallAt_0 : decode cX7_isSmallAt 0 = .ok (.iload_n 1, 1) := by decide +kernel
theorem dX7_isSmallAt_1 : decode cX7_isSmallAt 1 = .ok (.ifCond .lt 37, 3) := by decide +kernel
theorem dX7_isSmallAt_4 : decode cX7_isSmallAt 4 = .ok (.iload_n 1, 1) := by decide +kernel
theorem dX7_isSmallAt_5 : decode cX7_isSmallAt 5 = .ok (.aload_n 0, 1) := by decide +kernel
theorem dX7_isSmallAt_6 : decode cX7_isSmallAt 6 = .ok (.getfield 15, 3) := by decide +kernel
theorem dX7_isSmallAt_9 : decode cX7_isSmallAt 9 = .ok (.if_icmp .ge 29, 3) := by decide +kernel
theorem dX7_isSmallAt_12 : decode cX7_isSmallAt 12 = .ok (.aload_n 0, 1) := by decide +kernel
theorem dX7_isSmallAt_13 : decode cX7_isSmallAt 13 = .ok (.getfield 9, 3) := by decide +kernel
theorem dX7_isSmallAt_16 : decode cX7_isSmallAt 16 = .ok (.iload_n 1, 1) := by decide +kernel
theorem dX7_isSmallAt_17 : decode cX7_isSmallAt 17 = .ok (.caload, 1) := by decide +kernel
theorem dX7_isSmallAt_18 : decode cX7_isSmallAt 18 = .ok (.bipush 97, 2) := by decide +kernel
theorem dX7_isSmallAt_20 : decode cX7_isSmallAt 20 = .ok (.if_icmp .lt 18, 3) := by decide +kernel
theorem dX7_isSmallAt_23 : decode cX7_isSmallAt 23 = .ok (.aload_n 0, 1) := by decide +kernel
theorem dX7_isSmallAt_24 : decode cX7_isSmallAt 24 = .ok (.getfield 9, 3) := by decide +kernel
theorem dX7_isSmallAt_27 : decode cX7_isSmallAt 27 = .ok (.iload_n 1, 1) := by decide +kernel
theorem dX7_isSmallAt_28 : decode cX7_isSmallAt 28 = .ok (.caload, 1) := by decide +kernel
theorem dX7_isSmallAt_29 : decode cX7_isSmallAt 29 = .ok (.bipush 122, 2) := by decide +kernel
theorem dX7_isSmallAt_31 : decode cX7_isSmallAt 31 = .ok (.if_icmp .gt 7, 3) := by decide +kernel
theorem dX7_isSmallAt_34 : decode cX7_isSmallAt 34 = .ok (.iconst 1, 1) := by decide +kernel
theorem dX7_isSmallAt_35 : decode cX7_isSmallAt 35 = .ok (.goto 4, 3) := by decide +kernel
theorem dX7_isSmallAt_38 : decode cX7_isSmallAt 38 = .ok (.iconst 0, 1) := by decide +kernel
theorem dX7_isSmallAt_39 : decode cX7_isSmallAt 39 = .ok (.ireturn, 1) := by decide +kernel
theorem dX7_isWord_0 : decode cX7_isWord 0 = .ok (.aload_n 0, 1) := by decide +kernel
theorem dX7_isWord_1 : decode cX7_isWord 1 = .ok (.getfield 22, 3) := by decide +kernel
theorem dX7_isWord_4 : decode cX7_isWord 4 = .ok (.aload_n 0, 1) := by decide +kernel
theorem dX7_isWord_5 : decode cX7_isWord 5 = .ok (.getfield 19, 3) := by decide +kernel
theorem dX7_isWord_8 : decode cX7_isWord 8 = .ok (.isub, 1) := by decide +kernel
theorem dX7_isWord_9 : decode cX7_isWord 9 = .ok (.aload_n 1, 1) := by decide +kernel
theorem dX7_isWord_10 : decode cX7_isWord 10 = .ok (.invokevirtual 48, 3) := by decide +kernel
theorem dX7_isWord_13 : decode cX7_isWord 13 = .ok (.if_icmp .ne 14, 3) := by decide +kernel
theorem dX7_isWord_16 : decode cX7_isWord 16 = .ok (.aload_n 0, 1) := by decide +kernel
theorem dX7_isWord_17 : decode cX7_isWord 17 = .ok (.getfield 22, 3) := by decide +kernel
theorem dX7_isWord_20 : decode cX7_isWord 20 = .ok (.aload_n 0, 1) := by decide +kernel
theorem dX7_isWord_21 : decode cX7_isWord 21 = .ok (.getfield 15, 3) := by decide +kernel
theorem dX7_isWord_24 : decode cX7_isWord 24 = .ok (.if_icmp .le 5, 3) := by decide +kernel
theorem dX7_isWord_27 : decode cX7_isWord 27 = .ok (.iconst 0, 1) := by decide +kernel
theorem dX7_isWord_28 : decode cX7_isWord 28 = .ok (.ireturn, 1) := by decide +kernel
theorem dX7_isWord_29 : decode cX7_isWord 29 = .ok (.iconst 0, 1) := by decide +kernel
theorem dX7_isWord_30 : decode cX7_isWord 30 = .ok (.istore_n 2, 1) := by decide +kernel
theorem dX7_isWord_31 : decode cX7_isWord 31 = .ok (.iload_n 2, 1) := by decide +kernel
theorem dX7_isWord_32 : decode cX7_isWord 32 = .ok (.aload_n 1, 1) := by decide +kernel
theorem dX7_isWord_33 : decode cX7_isWord 33 = .ok (.invokevirtual 48, 3) := by decide +kernel
theorem dX7_isWord_36 : decode cX7_isWord 36 = .ok (.if_icmp .ge 30, 3) := by decide +kernel
theorem dX7_isWord_39 : decode cX7_isWord 39 = .ok (.aload_n 0, 1) := by decide +kernel
theorem dX7_isWord_40 : decode cX7_isWord 40 = .ok (.getfield 9, 3) := by decide +kernel
theorem dX7_isWord_43 : decode cX7_isWord 43 = .ok (.aload_n 0, 1) := by decide +kernel
theorem dX7_isWord_44 : decode cX7_isWord 44 = .ok (.getfield 19, 3) := by decide +kernel
theorem dX7_isWord_47 : decode cX7_isWord 47 = .ok (.iload_n 2, 1) := by decide +kernel
theorem dX7_isWord_48 : decode cX7_isWord 48 = .ok (.iadd, 1) := by decide +kernel
theorem dX7_isWord_49 : decode cX7_isWord 49 = .ok (.caload, 1) := by decide +kernel
theorem dX7_isWord_50 : decode cX7_isWord 50 = .ok (.aload_n 1, 1) := by decide +kernel
theorem dX7_isWord_51 : decode cX7_isWord 51 = .ok (.iload_n 2, 1) := by decide +kernel
theorem dX7_isWord_52 : decode cX7_isWord 52 = .ok (.invokevirtual 53, 3) := by decide +kernel
theorem dX7_isWord_55 : decode cX7_isWord 55 = .ok (.if_icmp .eq 5, 3) := by decide +kernel
theorem dX7_isWord_58 : decode cX7_isWord 58 = .ok (.iconst 0, 1) := by decide +kernel
theorem dX7_isWord_59 : decode cX7_isWord 59 = .ok (.ireturn, 1) := by decide +kernel
theorem dX7_isWord_60 : decode cX7_isWord 60 = .ok (.iinc 2 1, 3) := by decide +kernel
theorem dX7_isWord_63 : decode cX7_isWord 63 = .ok (.goto (-32), 3) := by decide +kernel
theorem dX7_isWord_66 : decode cX7_isWord 66 = .ok (.iconst 1, 1) := by decide +kernel
theorem dX7_isWord_67 : decode cX7_isWord 67 = .ok (.ireturn, 1) := by decide +kernel
theorem dX7_readClause_0 : decode cX7_readClause 0 = .ok (.aload_n 0, 1) := by decide +kernel
theorem dX7_readClause_1 : decode cX7_readClause 1 = .ok (.ldc 57, 2) := by decide +kernel
theorem dX7_readClause_3 : decode cX7_readClause 3 = .ok (.invokevirtual 59, 3) := by decide +kernel
theorem dX7_readClause_6 : decode cX7_readClause 6 = .ok (.ifCond .eq 13, 3) := by decide +kernel
theorem dX7_readClause_9 : decode cX7_readClause 9 = .ok (.aload_n 1, 1) := by decide +kernel
theorem dX7_readClause_10 : decode cX7_readClause 10 = .ok (.invokevirtual 63, 3) := by decide +kernel
end
section
theorem dX7_readClause_13 : decode cX7_readClause 13 = .ok (.aload_n 0, 1) := by decide +kernel
theorem dX7_readClause_14 : decode cX7_readClause 14 = .ok (.invokevirtual 34, 3) := by decide +kernel
theorem dX7_readClause_17 : decode cX7_readClause 17 = .ok (.iconst 1, 1) := by decide +kernel
theorem dX7_readClause_18 : decode cX7_readClause 18 = .ok (.ireturn, 1) := by decide +kernel
theorem dX7_readClause_19 : decode cX7_readClause 19 = .ok (.aload_n 0, 1) := by decide +kernel
theorem dX7_readClause_20 : decode cX7_readClause 20 = .ok (.ldc 66, 2) := by decide +kernel
theorem dX7_readClause_22 : decode cX7_readClause 22 = .ok (.invokevirtual 59, 3) := by decide +kernel
theorem dX7_readClause_25 : decode cX7_readClause 25 = .ok (.ifCond .eq 9, 3) := by decide +kernel
theorem dX7_readClause_28 : decode cX7_readClause 28 = .ok (.aload_n 0, 1) := by decide +kernel
theorem dX7_readClause_29 : decode cX7_readClause 29 = .ok (.aload_n 1, 1) := by decide +kernel
theorem dX7_readClause_30 : decode cX7_readClause 30 = .ok (.invokevirtual 68, 3) := by decide +kernel
theorem dX7_readClause_33 : decode cX7_readClause 33 = .ok (.ireturn, 1) := by decide +kernel
theorem dX7_readClause_34 : decode cX7_readClause 34 = .ok (.aload_n 0, 1) := by decide +kernel
theorem dX7_readClause_35 : decode cX7_readClause 35 = .ok (.ldc 71, 2) := by decide +kernel
theorem dX7_readClause_37 : decode cX7_readClause 37 = .ok (.invokevirtual 59, 3) := by decide +kernel
theorem dX7_readClause_40 : decode cX7_readClause 40 = .ok (.ifCond .eq 44, 3) := by decide +kernel
theorem dX7_readClause_43 : decode cX7_readClause 43 = .ok (.aload_n 0, 1) := by decide +kernel
theorem dX7_readClause_44 : decode cX7_readClause 44 = .ok (.invokevirtual 34, 3) := by decide +kernel
theorem dX7_readClause_47 : decode cX7_readClause 47 = .ok (.aload_n 0, 1) := by decide +kernel
theorem dX7_readClause_48 : decode cX7_readClause 48 = .ok (.iconst 5, 1) := by decide +kernel
theorem dX7_readClause_49 : decode cX7_readClause 49 = .ok (.bipush 99, 2) := by decide +kernel
theorem dX7_readClause_51 : decode cX7_readClause 51 = .ok (.iconst (-1), 1) := by decide +kernel
theorem dX7_readClause_52 : decode cX7_readClause 52 = .ok (.invokevirtual 73, 3) := by decide +kernel
theorem dX7_readClause_55 : decode cX7_readClause 55 = .ok (.istore_n 2, 1) := by decide +kernel
theorem dX7_readClause_56 : decode cX7_readClause 56 = .ok (.aload_n 1, 1) := by decide +kernel
theorem dX7_readClause_57 : decode cX7_readClause 57 = .ok (.iload_n 2, 1) := by decide +kernel
theorem dX7_readClause_58 : decode cX7_readClause 58 = .ok (.iconst (-1), 1) := by decide +kernel
theorem dX7_readClause_59 : decode cX7_readClause 59 = .ok (.if_icmp .ne 10, 3) := by decide +kernel
theorem dX7_readClause_62 : decode cX7_readClause 62 = .ok (.aload_n 1, 1) := by decide +kernel
theorem dX7_readClause_63 : decode cX7_readClause 63 = .ok (.getfield 77, 3) := by decide +kernel
theorem dX7_readClause_66 : decode cX7_readClause 66 = .ok (.goto 4, 3) := by decide +kernel
theorem dX7_readClause_69 : decode cX7_readClause 69 = .ok (.iload_n 2, 1) := by decide +kernel
theorem dX7_readClause_70 : decode cX7_readClause 70 = .ok (.putfield 77, 3) := by decide +kernel
theorem dX7_readClause_73 : decode cX7_readClause 73 = .ok (.iload_n 2, 1) := by decide +kernel
theorem dX7_readClause_74 : decode cX7_readClause 74 = .ok (.iconst (-1), 1) := by decide +kernel
theorem dX7_readClause_75 : decode cX7_readClause 75 = .ok (.if_icmp .eq 7, 3) := by decide +kernel
theorem dX7_readClause_78 : decode cX7_readClause 78 = .ok (.iconst 1, 1) := by decide +kernel
theorem dX7_readClause_79 : decode cX7_readClause 79 = .ok (.goto 4, 3) := by decide +kernel
theorem dX7_readClause_82 : decode cX7_readClause 82 = .ok (.iconst 0, 1) := by decide +kernel
theorem dX7_readClause_83 : decode cX7_readClause 83 = .ok (.ireturn, 1) := by decide +kernel
theorem dX7_readClause_84 : decode cX7_readClause 84 = .ok (.aload_n 0, 1) := by decide +kernel
theorem dX7_readClause_85 : decode cX7_readClause 85 = .ok (.ldc 79, 2) := by decide +kernel
theorem dX7_readClause_87 : decode cX7_readClause 87 = .ok (.invokevirtual 59, 3) := by decide +kernel
theorem dX7_readClause_90 : decode cX7_readClause 90 = .ok (.ifCond .eq 44, 3) := by decide +kernel
theorem dX7_readClause_93 : decode cX7_readClause 93 = .ok (.aload_n 0, 1) := by decide +kernel
theorem dX7_readClause_94 : decode cX7_readClause 94 = .ok (.invokevirtual 34, 3) := by decide +kernel
theorem dX7_readClause_97 : decode cX7_readClause 97 = .ok (.aload_n 0, 1) := by decide +kernel
theorem dX7_readClause_98 : decode cX7_readClause 98 = .ok (.iconst 1, 1) := by decide +kernel
theorem dX7_readClause_99 : decode cX7_readClause 99 = .ok (.bipush 20, 2) := by decide +kernel
theorem dX7_readClause_101 : decode cX7_readClause 101 = .ok (.iconst (-1), 1) := by decide +kernel
theorem dX7_readClause_102 : decode cX7_readClause 102 = .ok (.invokevirtual 73, 3) := by decide +kernel
theorem dX7_readClause_105 : decode cX7_readClause 105 = .ok (.istore_n 2, 1) := by decide +kernel
theorem dX7_readClause_106 : decode cX7_readClause 106 = .ok (.aload_n 1, 1) := by decide +kernel
theorem dX7_readClause_107 : decode cX7_readClause 107 = .ok (.iload_n 2, 1) := by decide +kernel
theorem dX7_readClause_108 : decode cX7_readClause 108 = .ok (.iconst (-1), 1) := by decide +kernel
theorem dX7_readClause_109 : decode cX7_readClause 109 = .ok (.if_icmp .ne 10, 3) := by decide +kernel
theorem dX7_readClause_112 : decode cX7_readClause 112 = .ok (.aload_n 1, 1) := by decide +kernel
theorem dX7_readClause_113 : decode cX7_readClause 113 = .ok (.getfield 81, 3) := by decide +kernel
theorem dX7_readClause_116 : decode cX7_readClause 116 = .ok (.goto 4, 3) := by decide +kernel
theorem dX7_readClause_119 : decode cX7_readClause 119 = .ok (.iload_n 2, 1) := by decide +kernel
theorem dX7_readClause_120 : decode cX7_readClause 120 = .ok (.putfield 81, 3) := by decide +kernel
theorem dX7_readClause_123 : decode cX7_readClause 123 = .ok (.iload_n 2, 1) := by decide +kernel
theorem dX7_readClause_124 : decode cX7_readClause 124 = .ok (.iconst (-1), 1) := by decide +kernel
theorem dX7_readClause_125 : decode cX7_readClause 125 = .ok (.if_icmp .eq 7, 3) := by decide +kernel
theorem dX7_readClause_128 : decode cX7_readClause 128 = .ok (.iconst 1, 1) := by decide +kernel
theorem dX7_readClause_129 : decode cX7_readClause 129 = .ok (.goto 4, 3) := by decide +kernel
theorem dX7_readClause_132 : decode cX7_readClause 132 = .ok (.iconst 0, 1) := by decide +kernel
theorem dX7_readClause_133 : decode cX7_readClause 133 = .ok (.ireturn, 1) := by decide +kernel
theorem dX7_readClause_134 : decode cX7_readClause 134 = .ok (.aload_n 0, 1) := by decide +kernel
theorem dX7_readClause_135 : decode cX7_readClause 135 = .ok (.aload_n 1, 1) := by decide +kernel
theorem dX7_readClause_136 : decode cX7_readClause 136 = .ok (.aload_n 0, 1) := by decide +kernel
theorem dX7_readClause_137 : decode cX7_readClause 137 = .ok (.invokevirtual 83, 3) := by decide +kernel
theorem dX7_readClause_140 : decode cX7_readClause 140 = .ok (.invokevirtual 86, 3) := by decide +kernel
theorem dX7_readClause_143 : decode cX7_readClause 143 = .ok (.ireturn, 1) := by decide +kernel
theorem dX7_kindOfWord_0 : decode cX7_kindOfWord 0 = .ok (.aload_n 0, 1) := by decide +kernel
theorem dX7_kindOfWord_1 : decode cX7_kindOfWord 1 = .ok (.ldc 90, 2) := by decide +kernel
theorem dX7_kindOfWord_3 : decode cX7_kindOfWord 3 = .ok (.invokevirtual 59, 3) := by decide +kernel
theorem dX7_kindOfWord_6 : decode cX7_kindOfWord 6 = .ok (.ifCond .eq 5, 3) := by decide +kernel
theorem dX7_kindOfWord_9 : decode cX7_kindOfWord 9 = .ok (.iconst 0, 1) := by decide +kernel
theorem dX7_kindOfWord_10 : decode cX7_kindOfWord 10 = .ok (.ireturn, 1) := by decide +kernel
theorem dX7_kindOfWord_11 : decode cX7_kindOfWord 11 = .ok (.aload_n 0, 1) := by decide +kernel
theorem dX7_kindOfWord_12 : decode cX7_kindOfWord 12 = .ok (.ldc 92, 2) := by decide +kernel
theorem dX7_kindOfWord_14 : decode cX7_kindOfWord 14 = .ok (.invokevirtual 59, 3) := by decide +kernel
theorem dX7_kindOfWord_17 : decode cX7_kindOfWord 17 = .ok (.ifCond .eq 5, 3) := by decide +kernel
theorem dX7_kindOfWord_20 : decode cX7_kindOfWord 20 = .ok (.iconst 1, 1) := by decide +kernel
theorem dX7_kindOfWord_21 : decode cX7_kindOfWord 21 = .ok (.ireturn, 1) := by decide +kernel
theorem dX7_kindOfWord_22 : decode cX7_kindOfWord 22 = .ok (.aload_n 0, 1) := by decide +kernel
theorem dX7_kindOfWord_23 : decode cX7_kindOfWord 23 = .ok (.ldc 94, 2) := by decide +kernel
theorem dX7_kindOfWord_25 : decode cX7_kindOfWord 25 = .ok (.invokevirtual 59, 3) := by decide +kernel
theorem dX7_kindOfWord_28 : decode cX7_kindOfWord 28 = .ok (.ifCond .eq 5, 3) := by decide +kernel
theorem dX7_kindOfWord_31 : decode cX7_kindOfWord 31 = .ok (.iconst 2, 1) := by decide +kernel
theorem dX7_kindOfWord_32 : decode cX7_kindOfWord 32 = .ok (.ireturn, 1) := by decide +kernel
theorem dX7_kindOfWord_33 : decode cX7_kindOfWord 33 = .ok (.aload_n 0, 1) := by decide +kernel
theorem dX7_kindOfWord_34 : decode cX7_kindOfWord 34 = .ok (.ldc 96, 2) := by decide +kernel
theorem dX7_kindOfWord_36 : decode cX7_kindOfWord 36 = .ok (.invokevirtual 59, 3) := by decide +kernel
theorem dX7_kindOfWord_39 : decode cX7_kindOfWord 39 = .ok (.ifCond .eq 7, 3) := by decide +kernel
theorem dX7_kindOfWord_42 : decode cX7_kindOfWord 42 = .ok (.iconst 3, 1) := by decide +kernel
theorem dX7_kindOfWord_43 : decode cX7_kindOfWord 43 = .ok (.goto 4, 3) := by decide +kernel
theorem dX7_kindOfWord_46 : decode cX7_kindOfWord 46 = .ok (.iconst (-1), 1) := by decide +kernel
theorem dX7_kindOfWord_47 : decode cX7_kindOfWord 47 = .ok (.ireturn, 1) := by decide +kernel
theorem dX7_readStreet_0 : decode cX7_readStreet 0 = .ok (.iload_n 2, 1) := by decide +kernel
theorem dX7_readStreet_1 : decode cX7_readStreet 1 = .ok (.iconst (-1), 1) := by decide +kernel
theorem dX7_readStreet_2 : decode cX7_readStreet 2 = .ok (.if_icmp .eq 12, 3) := by decide +kernel
theorem dX7_readStreet_5 : decode cX7_readStreet 5 = .ok (.aload_n 1, 1) := by decide +kernel
theorem dX7_readStreet_6 : decode cX7_readStreet 6 = .ok (.getfield 98, 3) := by decide +kernel
theorem dX7_readStreet_9 : decode cX7_readStreet 9 = .ok (.bipush 8, 2) := by decide +kernel
theorem dX7_readStreet_11 : decode cX7_readStreet 11 = .ok (.if_icmp .lt 5, 3) := by decide +kernel
theorem dX7_readStreet_14 : decode cX7_readStreet 14 = .ok (.iconst 0, 1) := by decide +kernel
theorem dX7_readStreet_15 : decode cX7_readStreet 15 = .ok (.ireturn, 1) := by decide +kernel
theorem dX7_readStreet_16 : decode cX7_readStreet 16 = .ok (.aload_n 0, 1) := by decide +kernel
theorem dX7_readStreet_17 : decode cX7_readStreet 17 = .ok (.invokevirtual 34, 3) := by decide +kernel
theorem dX7_readStreet_20 : decode cX7_readStreet 20 = .ok (.aload_n 0, 1) := by decide +kernel
theorem dX7_readStreet_21 : decode cX7_readStreet 21 = .ok (.iconst 0, 1) := by decide +kernel
theorem dX7_readStreet_22 : decode cX7_readStreet 22 = .ok (.bipush 20, 2) := by decide +kernel
theorem dX7_readStreet_24 : decode cX7_readStreet 24 = .ok (.iconst (-1), 1) := by decide +kernel
theorem dX7_readStreet_25 : decode cX7_readStreet 25 = .ok (.invokevirtual 73, 3) := by decide +kernel
theorem dX7_readStreet_28 : decode cX7_readStreet 28 = .ok (.istore_n 3, 1) := by decide +kernel
theorem dX7_readStreet_29 : decode cX7_readStreet 29 = .ok (.iload_n 3, 1) := by decide +kernel
theorem dX7_readStreet_30 : decode cX7_readStreet 30 = .ok (.iconst (-1), 1) := by decide +kernel
theorem dX7_readStreet_31 : decode cX7_readStreet 31 = .ok (.if_icmp .ne 5, 3) := by decide +kernel
theorem dX7_readStreet_34 : decode cX7_readStreet 34 = .ok (.iconst 0, 1) := by decide +kernel
theorem dX7_readStreet_35 : decode cX7_readStreet 35 = .ok (.ireturn, 1) := by decide +kernel
theorem dX7_readStreet_36 : decode cX7_readStreet 36 = .ok (.aload_n 0, 1) := by decide +kernel
theorem dX7_readStreet_37 : decode cX7_readStreet 37 = .ok (.iconst 0, 1) := by decide +kernel
theorem dX7_readStreet_38 : decode cX7_readStreet 38 = .ok (.bipush 20, 2) := by decide +kernel
theorem dX7_readStreet_40 : decode cX7_readStreet 40 = .ok (.iconst (-1), 1) := by decide +kernel
theorem dX7_readStreet_41 : decode cX7_readStreet 41 = .ok (.invokevirtual 73, 3) := by decide +kernel
theorem dX7_readStreet_44 : decode cX7_readStreet 44 = .ok (.istore 4, 2) := by decide +kernel
theorem dX7_readStreet_46 : decode cX7_readStreet 46 = .ok (.iload 4, 2) := by decide +kernel
theorem dX7_readStreet_48 : decode cX7_readStreet 48 = .ok (.iconst (-1), 1) := by decide +kernel
theorem dX7_readStreet_49 : decode cX7_readStreet 49 = .ok (.if_icmp .ne 5, 3) := by decide +kernel
theorem dX7_readStreet_52 : decode cX7_readStreet 52 = .ok (.iconst 0, 1) := by decide +kernel
theorem dX7_readStreet_53 : decode cX7_readStreet 53 = .ok (.ireturn, 1) := by decide +kernel
theorem dX7_readStreet_54 : decode cX7_readStreet 54 = .ok (.aload_n 0, 1) := by decide +kernel
theorem dX7_readStreet_55 : decode cX7_readStreet 55 = .ok (.iconst 0, 1) := by decide +kernel
theorem dX7_readStreet_56 : decode cX7_readStreet 56 = .ok (.bipush 99, 2) := by decide +kernel
theorem dX7_readStreet_58 : decode cX7_readStreet 58 = .ok (.iconst (-1), 1) := by decide +kernel
theorem dX7_readStreet_59 : decode cX7_readStreet 59 = .ok (.invokevirtual 73, 3) := by decide +kernel
theorem dX7_readStreet_62 : decode cX7_readStreet 62 = .ok (.istore 5, 2) := by decide +kernel
theorem dX7_readStreet_64 : decode cX7_readStreet 64 = .ok (.iload 5, 2) := by decide +kernel
theorem dX7_readStreet_66 : decode cX7_readStreet 66 = .ok (.iconst (-1), 1) := by decide +kernel
theorem dX7_readStreet_67 : decode cX7_readStreet 67 = .ok (.if_icmp .ne 5, 3) := by decide +kernel
theorem dX7_readStreet_70 : decode cX7_readStreet 70 = .ok (.iconst 0, 1) := by decide +kernel
theorem dX7_readStreet_71 : decode cX7_readStreet 71 = .ok (.ireturn, 1) := by decide +kernel
theorem dX7_readStreet_72 : decode cX7_readStreet 72 = .ok (.aload_n 1, 1) := by decide +kernel
theorem dX7_readStreet_73 : decode cX7_readStreet 73 = .ok (.iload_n 2, 1) := by decide +kernel
theorem dX7_readStreet_74 : decode cX7_readStreet 74 = .ok (.iload_n 3, 1) := by decide +kernel
theorem dX7_readStreet_75 : decode cX7_readStreet 75 = .ok (.iload 4, 2) := by decide +kernel
theorem dX7_readStreet_77 : decode cX7_readStreet 77 = .ok (.iload 5, 2) := by decide +kernel
theorem dX7_readStreet_79 : decode cX7_readStreet 79 = .ok (.invokevirtual 101, 3) := by decide +kernel
theorem dX7_readStreet_82 : decode cX7_readStreet 82 = .ok (.iconst 1, 1) := by decide +kernel
theorem dX7_readStreet_83 : decode cX7_readStreet 83 = .ok (.ireturn, 1) := by decide +kernel
theorem dX7_readSlope_0 : decode cX7_readSlope 0 = .ok (.aload_n 0, 1) := by decide +kernel
theorem dX7_readSlope_1 : decode cX7_readSlope 1 = .ok (.invokevirtual 34, 3) := by decide +kernel
theorem dX7_readSlope_4 : decode cX7_readSlope 4 = .ok (.aload_n 0, 1) := by decide +kernel
theorem dX7_readSlope_5 : decode cX7_readSlope 5 = .ok (.iconst 0, 1) := by decide +kernel
theorem dX7_readSlope_6 : decode cX7_readSlope 6 = .ok (.aload_n 1, 1) := by decide +kernel
theorem dX7_readSlope_7 : decode cX7_readSlope 7 = .ok (.getfield 98, 3) := by decide +kernel
theorem dX7_readSlope_10 : decode cX7_readSlope 10 = .ok (.iconst 1, 1) := by decide +kernel
theorem dX7_readSlope_11 : decode cX7_readSlope 11 = .ok (.isub, 1) := by decide +kernel
theorem dX7_readSlope_12 : decode cX7_readSlope 12 = .ok (.iconst (-1), 1) := by decide +kernel
theorem dX7_readSlope_13 : decode cX7_readSlope 13 = .ok (.invokevirtual 73, 3) := by decide +kernel
theorem dX7_readSlope_16 : decode cX7_readSlope 16 = .ok (.istore_n 2, 1) := by decide +kernel
theorem dX7_readSlope_17 : decode cX7_readSlope 17 = .ok (.iload_n 2, 1) := by decide +kernel
theorem dX7_readSlope_18 : decode cX7_readSlope 18 = .ok (.iconst (-1), 1) := by decide +kernel
theorem dX7_readSlope_19 : decode cX7_readSlope 19 = .ok (.if_icmp .ne 5, 3) := by decide +kernel
theorem dX7_readSlope_22 : decode cX7_readSlope 22 = .ok (.iconst 0, 1) := by decide +kernel
theorem dX7_readSlope_23 : decode cX7_readSlope 23 = .ok (.ireturn, 1) := by decide +kernel
theorem dX7_readSlope_24 : decode cX7_readSlope 24 = .ok (.aload_n 0, 1) := by decide +kernel
theorem dX7_readSlope_25 : decode cX7_readSlope 25 = .ok (.iconst 0, 1) := by decide +kernel
theorem dX7_readSlope_26 : decode cX7_readSlope 26 = .ok (.aload_n 1, 1) := by decide +kernel
theorem dX7_readSlope_27 : decode cX7_readSlope 27 = .ok (.getfield 98, 3) := by decide +kernel
theorem dX7_readSlope_30 : decode cX7_readSlope 30 = .ok (.iconst 1, 1) := by decide +kernel
theorem dX7_readSlope_31 : decode cX7_readSlope 31 = .ok (.isub, 1) := by decide +kernel
theorem dX7_readSlope_32 : decode cX7_readSlope 32 = .ok (.iload_n 2, 1) := by decide +kernel
theorem dX7_readSlope_33 : decode cX7_readSlope 33 = .ok (.invokevirtual 73, 3) := by decide +kernel
theorem dX7_readSlope_36 : decode cX7_readSlope 36 = .ok (.istore_n 3, 1) := by decide +kernel
theorem dX7_readSlope_37 : decode cX7_readSlope 37 = .ok (.iload_n 3, 1) := by decide +kernel
theorem dX7_readSlope_38 : decode cX7_readSlope 38 = .ok (.iconst (-1), 1) := by decide +kernel
theorem dX7_readSlope_39 : decode cX7_readSlope 39 = .ok (.if_icmp .ne 5, 3) := by decide +kernel
theorem dX7_readSlope_42 : decode cX7_readSlope 42 = .ok (.iconst 0, 1) := by decide +kernel
theorem dX7_readSlope_43 : decode cX7_readSlope 43 = .ok (.ireturn, 1) := by decide +kernel
theorem dX7_readSlope_44 : decode cX7_readSlope 44 = .ok (.aload_n 1, 1) := by decide +kernel
theorem dX7_readSlope_45 : decode cX7_readSlope 45 = .ok (.iload_n 2, 1) := by decide +kernel
theorem dX7_readSlope_46 : decode cX7_readSlope 46 = .ok (.iload_n 3, 1) := by decide +kernel
theorem dX7_readSlope_47 : decode cX7_readSlope 47 = .ok (.invokevirtual 105, 3) := by decide +kernel
theorem dX7_readSlope_50 : decode cX7_readSlope 50 = .ok (.iconst 1, 1) := by decide +kernel
theorem dX7_readSlope_51 : decode cX7_readSlope 51 = .ok (.ireturn, 1) := by decide +kernel
theorem dX7_readNumber_0 : decode cX7_readNumber 0 = .ok (.aload_n 0, 1) := by decide +kernel
theorem dX7_readNumber_1 : decode cX7_readNumber 1 = .ok (.aload_n 0, 1) := by decide +kernel
theorem dX7_readNumber_2 : decode cX7_readNumber 2 = .ok (.getfield 19, 3) := by decide +kernel
theorem dX7_readNumber_5 : decode cX7_readNumber 5 = .ok (.invokevirtual 41, 3) := by decide +kernel
theorem dX7_readNumber_8 : decode cX7_readNumber 8 = .ok (.ifCond .eq 16, 3) := by decide +kernel
theorem dX7_readNumber_11 : decode cX7_readNumber 11 = .ok (.aload_n 0, 1) := by decide +kernel
theorem dX7_readNumber_12 : decode cX7_readNumber 12 = .ok (.getfield 22, 3) := by decide +kernel
theorem dX7_readNumber_15 : decode cX7_readNumber 15 = .ok (.aload_n 0, 1) := by decide +kernel
theorem dX7_readNumber_16 : decode cX7_readNumber 16 = .ok (.getfield 19, 3) := by decide +kernel
theorem dX7_readNumber_19 : decode cX7_readNumber 19 = .ok (.isub, 1) := by decide +kernel
theorem dX7_readNumber_20 : decode cX7_readNumber 20 = .ok (.iconst 2, 1) := by decide +kernel
theorem dX7_readNumber_21 : decode cX7_readNumber 21 = .ok (.if_icmp .le 5, 3) := by decide +kernel
theorem dX7_readNumber_24 : decode cX7_readNumber 24 = .ok (.iconst (-1), 1) := by decide +kernel
theorem dX7_readNumber_25 : decode cX7_readNumber 25 = .ok (.ireturn, 1) := by decide +kernel
theorem dX7_readNumber_26 : decode cX7_readNumber 26 = .ok (.iconst 0, 1) := by decide +kernel
theorem dX7_readNumber_27 : decode cX7_readNumber 27 = .ok (.istore 4, 2) := by decide +kernel
theorem dX7_readNumber_29 : decode cX7_readNumber 29 = .ok (.aload_n 0, 1) := by decide +kernel
theorem dX7_readNumber_30 : decode cX7_readNumber 30 = .ok (.getfield 19, 3) := by decide +kernel
theorem dX7_readNumber_33 : decode cX7_readNumber 33 = .ok (.istore 5, 2) := by decide +kernel
theorem dX7_readNumber_35 : decode cX7_readNumber 35 = .ok (.iload 5, 2) := by decide +kernel
theorem dX7_readNumber_37 : decode cX7_readNumber 37 = .ok (.aload_n 0, 1) := by decide +kernel
theorem dX7_readNumber_38 : decode cX7_readNumber 38 = .ok (.getfield 22, 3) := by decide +kernel
theorem dX7_readNumber_41 : decode cX7_readNumber 41 = .ok (.if_icmp .ge 36, 3) := by decide +kernel
theorem dX7_readNumber_44 : decode cX7_readNumber 44 = .ok (.iload 5, 2) := by decide +kernel
theorem dX7_readNumber_46 : decode cX7_readNumber 46 = .ok (.aload_n 0, 1) := by decide +kernel
theorem dX7_readNumber_47 : decode cX7_readNumber 47 = .ok (.getfield 15, 3) := by decide +kernel
theorem dX7_readNumber_50 : decode cX7_readNumber 50 = .ok (.if_icmp .ge 27, 3) := by decide +kernel
theorem dX7_readNumber_53 : decode cX7_readNumber 53 = .ok (.bipush 10, 2) := by decide +kernel
theorem dX7_readNumber_55 : decode cX7_readNumber 55 = .ok (.iload 4, 2) := by decide +kernel
theorem dX7_readNumber_57 : decode cX7_readNumber 57 = .ok (.imul, 1) := by decide +kernel
theorem dX7_readNumber_58 : decode cX7_readNumber 58 = .ok (.aload_n 0, 1) := by decide +kernel
theorem dX7_readNumber_59 : decode cX7_readNumber 59 = .ok (.getfield 9, 3) := by decide +kernel
theorem dX7_readNumber_62 : decode cX7_readNumber 62 = .ok (.iload 5, 2) := by decide +kernel
theorem dX7_readNumber_64 : decode cX7_readNumber 64 = .ok (.caload, 1) := by decide +kernel
theorem dX7_readNumber_65 : decode cX7_readNumber 65 = .ok (.bipush 48, 2) := by decide +kernel
theorem dX7_readNumber_67 : decode cX7_readNumber 67 = .ok (.isub, 1) := by decide +kernel
theorem dX7_readNumber_68 : decode cX7_readNumber 68 = .ok (.iadd, 1) := by decide +kernel
theorem dX7_readNumber_69 : decode cX7_readNumber 69 = .ok (.istore 4, 2) := by decide +kernel
theorem dX7_readNumber_71 : decode cX7_readNumber 71 = .ok (.iinc 5 1, 3) := by decide +kernel
theorem dX7_readNumber_74 : decode cX7_readNumber 74 = .ok (.goto (-39), 3) := by decide +kernel
theorem dX7_readNumber_77 : decode cX7_readNumber 77 = .ok (.iload 4, 2) := by decide +kernel
theorem dX7_readNumber_79 : decode cX7_readNumber 79 = .ok (.iload_n 1, 1) := by decide +kernel
theorem dX7_readNumber_80 : decode cX7_readNumber 80 = .ok (.if_icmp .lt 15, 3) := by decide +kernel
theorem dX7_readNumber_83 : decode cX7_readNumber 83 = .ok (.iload 4, 2) := by decide +kernel
theorem dX7_readNumber_85 : decode cX7_readNumber 85 = .ok (.iload_n 2, 1) := by decide +kernel
theorem dX7_readNumber_86 : decode cX7_readNumber 86 = .ok (.if_icmp .gt 9, 3) := by decide +kernel
theorem dX7_readNumber_89 : decode cX7_readNumber 89 = .ok (.iload 4, 2) := by decide +kernel
theorem dX7_readNumber_91 : decode cX7_readNumber 91 = .ok (.iload_n 3, 1) := by decide +kernel
theorem dX7_readNumber_92 : decode cX7_readNumber 92 = .ok (.if_icmp .ne 5, 3) := by decide +kernel
theorem dX7_readNumber_95 : decode cX7_readNumber 95 = .ok (.iconst (-1), 1) := by decide +kernel
theorem dX7_readNumber_96 : decode cX7_readNumber 96 = .ok (.ireturn, 1) := by decide +kernel
theorem dX7_readNumber_97 : decode cX7_readNumber 97 = .ok (.aload_n 0, 1) := by decide +kernel
theorem dX7_readNumber_98 : decode cX7_readNumber 98 = .ok (.invokevirtual 34, 3) := by decide +kernel
theorem dX7_readNumber_101 : decode cX7_readNumber 101 = .ok (.iload 4, 2) := by decide +kernel
theorem dX7_readNumber_103 : decode cX7_readNumber 103 = .ok (.ireturn, 1) := by decide +kernel
theorem dX8_init_0 : decode cX8_init 0 = .ok (.aload_n 0, 1) := by decide +kernel
theorem dX8_init_1 : decode cX8_init 1 = .ok (.invokespecial 1, 3) := by decide +kernel
theorem dX8_init_4 : decode cX8_init 4 = .ok (.aload_n 0, 1) := by decide +kernel
theorem dX8_init_5 : decode cX8_init 5 = .ok (.new 7, 3) := by decide +kernel
theorem dX8_init_8 : decode cX8_init 8 = .ok (.dup, 1) := by decide +kernel
theorem dX8_init_9 : decode cX8_init 9 = .ok (.invokespecial 9, 3) := by decide +kernel
theorem dX8_init_12 : decode cX8_init 12 = .ok (.putfield 10, 3) := by decide +kernel
theorem dX8_init_15 : decode cX8_init 15 = .ok (.aload_n 0, 1) := by decide +kernel
theorem dX8_init_16 : decode cX8_init 16 = .ok (.new 16, 3) := by decide +kernel
theorem dX8_init_19 : decode cX8_init 19 = .ok (.dup, 1) := by decide +kernel
theorem dX8_init_20 : decode cX8_init 20 = .ok (.invokespecial 18, 3) := by decide +kernel
theorem dX8_init_23 : decode cX8_init 23 = .ok (.putfield 19, 3) := by decide +kernel
theorem dX8_init_26 : decode cX8_init 26 = .ok (.aload_n 0, 1) := by decide +kernel
theorem dX8_init_27 : decode cX8_init 27 = .ok (.new 16, 3) := by decide +kernel
theorem dX8_init_30 : decode cX8_init 30 = .ok (.dup, 1) := by decide +kernel
theorem dX8_init_31 : decode cX8_init 31 = .ok (.invokespecial 18, 3) := by decide +kernel
theorem dX8_init_34 : decode cX8_init 34 = .ok (.putfield 23, 3) := by decide +kernel
theorem dX8_init_37 : decode cX8_init 37 = .ok (.aload_n 0, 1) := by decide +kernel
theorem dX8_init_38 : decode cX8_init 38 = .ok (.new 26, 3) := by decide +kernel
theorem dX8_init_41 : decode cX8_init 41 = .ok (.dup, 1) := by decide +kernel
theorem dX8_init_42 : decode cX8_init 42 = .ok (.invokespecial 28, 3) := by decide +kernel
theorem dX8_init_45 : decode cX8_init 45 = .ok (.putfield 29, 3) := by decide +kernel
theorem dX8_init_48 : decode cX8_init 48 = .ok (.aload_n 0, 1) := by decide +kernel
theorem dX8_init_49 : decode cX8_init 49 = .ok (.new 26, 3) := by decide +kernel
theorem dX8_init_52 : decode cX8_init 52 = .ok (.dup, 1) := by decide +kernel
theorem dX8_init_53 : decode cX8_init 53 = .ok (.invokespecial 28, 3) := by decide +kernel
theorem dX8_init_56 : decode cX8_init 56 = .ok (.putfield 33, 3) := by decide +kernel
theorem dX8_init_59 : decode cX8_init 59 = .ok (.aload_n 0, 1) := by decide +kernel
theorem dX8_init_60 : decode cX8_init 60 = .ok (.new 36, 3) := by decide +kernel
theorem dX8_init_63 : decode cX8_init 63 = .ok (.dup, 1) := by decide +kernel
theorem dX8_init_64 : decode cX8_init 64 = .ok (.invokespecial 38, 3) := by decide +kernel
theorem dX8_init_67 : decode cX8_init 67 = .ok (.putfield 39, 3) := by decide +kernel
theorem dX8_init_70 : decode cX8_init 70 = .ok (.aload_n 0, 1) := by decide +kernel
theorem dX8_init_71 : decode cX8_init 71 = .ok (.new 43, 3) := by decide +kernel
theorem dX8_init_74 : decode cX8_init 74 = .ok (.dup, 1) := by decide +kernel
theorem dX8_init_75 : decode cX8_init 75 = .ok (.invokespecial 45, 3) := by decide +kernel
theorem dX8_init_78 : decode cX8_init 78 = .ok (.putfield 46, 3) := by decide +kernel
theorem dX8_init_81 : decode cX8_init 81 = .ok (.aload_n 0, 1) := by decide +kernel
theorem dX8_init_82 : decode cX8_init 82 = .ok (.new 50, 3) := by decide +kernel
theorem dX8_init_85 : decode cX8_init 85 = .ok (.dup, 1) := by decide +kernel
theorem dX8_init_86 : decode cX8_init 86 = .ok (.invokespecial 52, 3) := by decide +kernel
theorem dX8_init_89 : decode cX8_init 89 = .ok (.putfield 53, 3) := by decide +kernel
theorem dX8_init_92 : decode cX8_init 92 = .ok (.aload_n 0, 1) := by decide +kernel
theorem dX8_init_93 : decode cX8_init 93 = .ok (.new 57, 3) := by decide +kernel
theorem dX8_init_96 : decode cX8_init 96 = .ok (.dup, 1) := by decide +kernel
theorem dX8_init_97 : decode cX8_init 97 = .ok (.invokespecial 59, 3) := by decide +kernel
theorem dX8_init_100 : decode cX8_init 100 = .ok (.putfield 60, 3) := by decide +kernel
theorem dX8_init_103 : decode cX8_init 103 = .ok (.aload_n 0, 1) := by decide +kernel
theorem dX8_init_104 : decode cX8_init 104 = .ok (.new 64, 3) := by decide +kernel
theorem dX8_init_107 : decode cX8_init 107 = .ok (.dup, 1) := by decide +kernel
theorem dX8_init_108 : decode cX8_init 108 = .ok (.invokespecial 66, 3) := by decide +kernel
theorem dX8_init_111 : decode cX8_init 111 = .ok (.putfield 67, 3) := by decide +kernel
theorem dX8_init_114 : decode cX8_init 114 = .ok (.return_, 1) := by decide +kernel
theorem dX8_write_0 : decode cX8_write 0 = .ok (.iload_n 1, 1) := by decide +kernel
theorem dX8_write_1 : decode cX8_write 1 = .ok (.ifCond .lt 10, 3) := by decide +kernel
theorem dX8_write_4 : decode cX8_write 4 = .ok (.iload_n 1, 1) := by decide +kernel
theorem dX8_write_5 : decode cX8_write 5 = .ok (.sipush 255, 3) := by decide +kernel
theorem dX8_write_8 : decode cX8_write 8 = .ok (.if_icmp .le 6, 3) := by decide +kernel
theorem dX8_write_11 : decode cX8_write 11 = .ok (.bipush (-3), 2) := by decide +kernel
theorem dX8_write_13 : decode cX8_write 13 = .ok (.ireturn, 1) := by decide +kernel
theorem dX8_write_14 : decode cX8_write 14 = .ok (.aload_n 0, 1) := by decide +kernel
theorem dX8_write_15 : decode cX8_write 15 = .ok (.getfield 10, 3) := by decide +kernel
theorem dX8_write_18 : decode cX8_write 18 = .ok (.iload_n 1, 1) := by decide +kernel
theorem dX8_write_19 : decode cX8_write 19 = .ok (.i2c, 1) := by decide +kernel
theorem dX8_write_20 : decode cX8_write 20 = .ok (.invokevirtual 71, 3) := by decide +kernel
theorem dX8_write_23 : decode cX8_write 23 = .ok (.ifCond .eq 13, 3) := by decide +kernel
theorem dX8_write_26 : decode cX8_write 26 = .ok (.aload_n 0, 1) := by decide +kernel
theorem dX8_write_27 : decode cX8_write 27 = .ok (.getfield 10, 3) := by decide +kernel
theorem dX8_write_30 : decode cX8_write 30 = .ok (.getfield 75, 3) := by decide +kernel
theorem dX8_write_33 : decode cX8_write 33 = .ok (.goto 5, 3) := by decide +kernel
theorem dX8_write_36 : decode cX8_write 36 = .ok (.bipush (-5), 2) := by decide +kernel
theorem dX8_write_38 : decode cX8_write 38 = .ok (.ireturn, 1) := by decide +kernel
theorem dX8_erase_0 : decode cX8_erase 0 = .ok (.aload_n 0, 1) := by decide +kernel
theorem dX8_erase_1 : decode cX8_erase 1 = .ok (.getfield 10, 3) := by decide +kernel
theorem dX8_erase_4 : decode cX8_erase 4 = .ok (.getfield 75, 3) := by decide +kernel
theorem dX8_erase_7 : decode cX8_erase 7 = .ok (.istore_n 1, 1) := by decide +kernel
theorem dX8_erase_8 : decode cX8_erase 8 = .ok (.aload_n 0, 1) := by decide +kernel
theorem dX8_erase_9 : decode cX8_erase 9 = .ok (.getfield 10, 3) := by decide +kernel
theorem dX8_erase_12 : decode cX8_erase 12 = .ok (.iconst 0, 1) := by decide +kernel
theorem dX8_erase_13 : decode cX8_erase 13 = .ok (.putfield 75, 3) := by decide +kernel
theorem dX8_erase_16 : decode cX8_erase 16 = .ok (.iload_n 1, 1) := by decide +kernel
theorem dX8_erase_17 : decode cX8_erase 17 = .ok (.ireturn, 1) := by decide +kernel
theorem dX8_fault_0 : decode cX8_fault 0 = .ok (.aload_n 0, 1) := by decide +kernel
theorem dX8_fault_1 : decode cX8_fault 1 = .ok (.getfield 10, 3) := by decide +kernel
theorem dX8_fault_4 : decode cX8_fault 4 = .ok (.aload_n 0, 1) := by decide +kernel
theorem dX8_fault_5 : decode cX8_fault 5 = .ok (.getfield 19, 3) := by decide +kernel
theorem dX8_fault_8 : decode cX8_fault 8 = .ok (.aload_n 0, 1) := by decide +kernel
theorem dX8_fault_9 : decode cX8_fault 9 = .ok (.getfield 23, 3) := by decide +kernel
theorem dX8_fault_12 : decode cX8_fault 12 = .ok (.invokevirtual 79, 3) := by decide +kernel
theorem dX8_fault_15 : decode cX8_fault 15 = .ok (.ireturn, 1) := by decide +kernel
theorem dX8_town_0 : decode cX8_town 0 = .ok (.aload_n 0, 1) := by decide +kernel
theorem dX8_town_1 : decode cX8_town 1 = .ok (.getfield 10, 3) := by decide +kernel
theorem dX8_town_4 : decode cX8_town 4 = .ok (.aload_n 0, 1) := by decide +kernel
theorem dX8_town_5 : decode cX8_town 5 = .ok (.getfield 19, 3) := by decide +kernel
theorem dX8_town_8 : decode cX8_town 8 = .ok (.aload_n 0, 1) := by decide +kernel
theorem dX8_town_9 : decode cX8_town 9 = .ok (.getfield 23, 3) := by decide +kernel
theorem dX8_town_12 : decode cX8_town 12 = .ok (.invokevirtual 79, 3) := by decide +kernel
theorem dX8_town_15 : decode cX8_town 15 = .ok (.iconst (-1), 1) := by decide +kernel
theorem dX8_town_16 : decode cX8_town 16 = .ok (.if_icmp .eq 6, 3) := by decide +kernel
theorem dX8_town_19 : decode cX8_town 19 = .ok (.bipush (-4), 2) := by decide +kernel
theorem dX8_town_21 : decode cX8_town 21 = .ok (.ireturn, 1) := by decide +kernel
theorem dX8_town_22 : decode cX8_town 22 = .ok (.aload_n 0, 1) := by decide +kernel
theorem dX8_town_23 : decode cX8_town 23 = .ok (.getfield 19, 3) := by decide +kernel
theorem dX8_town_26 : decode cX8_town 26 = .ok (.aload_n 0, 1) := by decide +kernel
theorem dX8_town_27 : decode cX8_town 27 = .ok (.getfield 23, 3) := by decide +kernel
theorem dX8_town_30 : decode cX8_town 30 = .ok (.invokevirtual 83, 3) := by decide +kernel
theorem dX8_town_33 : decode cX8_town 33 = .ok (.aload_n 0, 1) := by decide +kernel
theorem dX8_town_34 : decode cX8_town 34 = .ok (.getfield 29, 3) := by decide +kernel
theorem dX8_town_37 : decode cX8_town 37 = .ok (.aload_n 0, 1) := by decide +kernel
theorem dX8_town_38 : decode cX8_town 38 = .ok (.getfield 19, 3) := by decide +kernel
theorem dX8_town_41 : decode cX8_town 41 = .ok (.invokevirtual 87, 3) := by decide +kernel
theorem dX8_town_44 : decode cX8_town 44 = .ok (.aload_n 0, 1) := by decide +kernel
theorem dX8_town_45 : decode cX8_town 45 = .ok (.getfield 39, 3) := by decide +kernel
theorem dX8_town_48 : decode cX8_town 48 = .ok (.invokevirtual 90, 3) := by decide +kernel
theorem dX8_town_51 : decode cX8_town 51 = .ok (.aload_n 0, 1) := by decide +kernel
theorem dX8_town_52 : decode cX8_town 52 = .ok (.getfield 46, 3) := by decide +kernel
theorem dX8_town_55 : decode cX8_town 55 = .ok (.invokevirtual 93, 3) := by decide +kernel
theorem dX8_town_58 : decode cX8_town 58 = .ok (.aload_n 0, 1) := by decide +kernel
theorem dX8_town_59 : decode cX8_town 59 = .ok (.getfield 53, 3) := by decide +kernel
theorem dX8_town_62 : decode cX8_town 62 = .ok (.iconst 0, 1) := by decide +kernel
theorem dX8_town_63 : decode cX8_town 63 = .ok (.putfield 94, 3) := by decide +kernel
theorem dX8_town_66 : decode cX8_town 66 = .ok (.aload_n 0, 1) := by decide +kernel
theorem dX8_town_67 : decode cX8_town 67 = .ok (.getfield 10, 3) := by decide +kernel
theorem dX8_town_70 : decode cX8_town 70 = .ok (.iconst 0, 1) := by decide +kernel
theorem dX8_town_71 : decode cX8_town 71 = .ok (.putfield 75, 3) := by decide +kernel
theorem dX8_town_74 : decode cX8_town 74 = .ok (.aload_n 0, 1) := by decide +kernel
theorem dX8_town_75 : decode cX8_town 75 = .ok (.getfield 10, 3) := by decide +kernel
theorem dX8_town_78 : decode cX8_town 78 = .ok (.getfield 97, 3) := by decide +kernel
theorem dX8_town_81 : decode cX8_town 81 = .ok (.ireturn, 1) := by decide +kernel
theorem dX8_street_0 : decode cX8_street 0 = .ok (.aload_n 0, 1) := by decide +kernel
theorem dX8_street_1 : decode cX8_street 1 = .ok (.getfield 19, 3) := by decide +kernel
theorem dX8_street_4 : decode cX8_street 4 = .ok (.iload_n 1, 1) := by decide +kernel
theorem dX8_street_5 : decode cX8_street 5 = .ok (.invokevirtual 100, 3) := by decide +kernel
theorem dX8_street_8 : decode cX8_street 8 = .ok (.ifCond .ne 6, 3) := by decide +kernel
theorem dX8_street_11 : decode cX8_street 11 = .ok (.bipush (-2), 2) := by decide +kernel
theorem dX8_street_13 : decode cX8_street 13 = .ok (.ireturn, 1) := by decide +kernel
theorem dX8_street_14 : decode cX8_street 14 = .ok (.iload_n 2, 1) := by decide +kernel
theorem dX8_street_15 : decode cX8_street 15 = .ok (.tableswitch 141 0 6 #[41, 51, 61, 71, 81, 91, 104], 41) := by decide +kernel
theorem dX8_street_56 : decode cX8_street 56 = .ok (.aload_n 0, 1) := by decide +kernel
theorem dX8_street_57 : decode cX8_street 57 = .ok (.getfield 19, 3) := by decide +kernel
theorem dX8_street_60 : decode cX8_street 60 = .ok (.getfield 104, 3) := by decide +kernel
theorem dX8_street_63 : decode cX8_street 63 = .ok (.iload_n 1, 1) := by decide +kernel
theorem dX8_street_64 : decode cX8_street 64 = .ok (.iaload, 1) := by decide +kernel
theorem dX8_street_65 : decode cX8_street 65 = .ok (.ireturn, 1) := by decide +kernel
theorem dX8_street_66 : decode cX8_street 66 = .ok (.aload_n 0, 1) := by decide +kernel
theorem dX8_street_67 : decode cX8_street 67 = .ok (.getfield 19, 3) := by decide +kernel
theorem dX8_street_70 : decode cX8_street 70 = .ok (.getfield 108, 3) := by decide +kernel
theorem dX8_street_73 : decode cX8_street 73 = .ok (.iload_n 1, 1) := by decide +kernel
theorem dX8_street_74 : decode cX8_street 74 = .ok (.iaload, 1) := by decide +kernel
theorem dX8_street_75 : decode cX8_street 75 = .ok (.ireturn, 1) := by decide +kernel
theorem dX8_street_76 : decode cX8_street 76 = .ok (.aload_n 0, 1) := by decide +kernel
theorem dX8_street_77 : decode cX8_street 77 = .ok (.getfield 29, 3) := by decide +kernel
theorem dX8_street_80 : decode cX8_street 80 = .ok (.getfield 111, 3) := by decide +kernel
theorem dX8_street_83 : decode cX8_street 83 = .ok (.iload_n 1, 1) := by decide +kernel
theorem dX8_street_84 : decode cX8_street 84 = .ok (.iaload, 1) := by decide +kernel
theorem dX8_street_85 : decode cX8_street 85 = .ok (.ireturn, 1) := by decide +kernel
theorem dX8_street_86 : decode cX8_street 86 = .ok (.aload_n 0, 1) := by decide +kernel
theorem dX8_street_87 : decode cX8_street 87 = .ok (.getfield 29, 3) := by decide +kernel
theorem dX8_street_90 : decode cX8_street 90 = .ok (.getfield 114, 3) := by decide +kernel
theorem dX8_street_93 : decode cX8_street 93 = .ok (.iload_n 1, 1) := by decide +kernel
theorem dX8_street_94 : decode cX8_street 94 = .ok (.iaload, 1) := by decide +kernel
theorem dX8_street_95 : decode cX8_street 95 = .ok (.ireturn, 1) := by decide +kernel
theorem dX8_street_96 : decode cX8_street 96 = .ok (.aload_n 0, 1) := by decide +kernel
theorem dX8_street_97 : decode cX8_street 97 = .ok (.getfield 19, 3) := by decide +kernel
theorem dX8_street_100 : decode cX8_street 100 = .ok (.getfield 117, 3) := by decide +kernel
theorem dX8_street_103 : decode cX8_street 103 = .ok (.iload_n 1, 1) := by decide +kernel
theorem dX8_street_104 : decode cX8_street 104 = .ok (.iaload, 1) := by decide +kernel
theorem dX8_street_105 : decode cX8_street 105 = .ok (.ireturn, 1) := by decide +kernel
theorem dX8_street_106 : decode cX8_street 106 = .ok (.aload_n 0, 1) := by decide +kernel
theorem dX8_street_107 : decode cX8_street 107 = .ok (.getfield 19, 3) := by decide +kernel
theorem dX8_street_110 : decode cX8_street 110 = .ok (.aload_n 0, 1) := by decide +kernel
theorem dX8_street_111 : decode cX8_street 111 = .ok (.getfield 29, 3) := by decide +kernel
theorem dX8_street_114 : decode cX8_street 114 = .ok (.iload_n 1, 1) := by decide +kernel
theorem dX8_street_115 : decode cX8_street 115 = .ok (.invokestatic 120, 3) := by decide +kernel
theorem dX8_street_118 : decode cX8_street 118 = .ok (.ireturn, 1) := by decide +kernel
theorem dX8_street_119 : decode cX8_street 119 = .ok (.aload_n 0, 1) := by decide +kernel
theorem dX8_street_120 : decode cX8_street 120 = .ok (.getfield 60, 3) := by decide +kernel
theorem dX8_street_123 : decode cX8_street 123 = .ok (.aload_n 0, 1) := by decide +kernel
theorem dX8_street_124 : decode cX8_street 124 = .ok (.getfield 19, 3) := by decide +kernel
theorem dX8_street_127 : decode cX8_street 127 = .ok (.aload_n 0, 1) := by decide +kernel
theorem dX8_street_128 : decode cX8_street 128 = .ok (.getfield 29, 3) := by decide +kernel
theorem dX8_street_131 : decode cX8_street 131 = .ok (.invokevirtual 124, 3) := by decide +kernel
theorem dX8_street_134 : decode cX8_street 134 = .ok (.aload_n 0, 1) := by decide +kernel
theorem dX8_street_135 : decode cX8_street 135 = .ok (.getfield 60, 3) := by decide +kernel
theorem dX8_street_138 : decode cX8_street 138 = .ok (.aload_n 0, 1) := by decide +kernel
theorem dX8_street_139 : decode cX8_street 139 = .ok (.getfield 29, 3) := by decide +kernel
theorem dX8_street_142 : decode cX8_street 142 = .ok (.iconst 0, 1) := by decide +kernel
theorem dX8_street_143 : decode cX8_street 143 = .ok (.invokevirtual 128, 3) := by decide +kernel
theorem dX8_street_146 : decode cX8_street 146 = .ok (.aload_n 0, 1) := by decide +kernel
theorem dX8_street_147 : decode cX8_street 147 = .ok (.getfield 60, 3) := by decide +kernel
theorem dX8_street_150 : decode cX8_street 150 = .ok (.getfield 132, 3) := by decide +kernel
theorem dX8_street_153 : decode cX8_street 153 = .ok (.iload_n 1, 1) := by decide +kernel
theorem dX8_street_154 : decode cX8_street 154 = .ok (.iaload, 1) := by decide +kernel
theorem dX8_street_155 : decode cX8_street 155 = .ok (.ireturn, 1) := by decide +kernel
theorem dX8_street_156 : decode cX8_street 156 = .ok (.bipush (-3), 2) := by decide +kernel
theorem dX8_street_158 : decode cX8_street 158 = .ok (.ireturn, 1) := by decide +kernel
theorem dX8_as_0 : decode cX8_as 0 = .ok (.aload_n 0, 1) := by decide +kernel
theorem dX8_as_1 : decode cX8_as 1 = .ok (.getfield 19, 3) := by decide +kernel
theorem dX8_as_4 : decode cX8_as 4 = .ok (.iload_n 1, 1) := by decide +kernel
theorem dX8_as_5 : decode cX8_as 5 = .ok (.invokevirtual 100, 3) := by decide +kernel
theorem dX8_as_8 : decode cX8_as 8 = .ok (.ifCond .ne 6, 3) := by decide +kernel
theorem dX8_as_11 : decode cX8_as 11 = .ok (.bipush (-2), 2) := by decide +kernel
theorem dX8_as_13 : decode cX8_as 13 = .ok (.ireturn, 1) := by decide +kernel
theorem dX8_as_14 : decode cX8_as 14 = .ok (.iload_n 2, 1) := by decide +kernel
theorem dX8_as_15 : decode cX8_as 15 = .ok (.ifCond .lt 8, 3) := by decide +kernel
theorem dX8_as_18 : decode cX8_as 18 = .ok (.iload_n 2, 1) := by decide +kernel
theorem dX8_as_19 : decode cX8_as 19 = .ok (.iconst 4, 1) := by decide +kernel
theorem dX8_as_20 : decode cX8_as 20 = .ok (.if_icmp .le 6, 3) := by decide +kernel
theorem dX8_as_23 : decode cX8_as 23 = .ok (.bipush (-3), 2) := by decide +kernel
theorem dX8_as_25 : decode cX8_as 25 = .ok (.ireturn, 1) := by decide +kernel
theorem dX8_as_26 : decode cX8_as 26 = .ok (.aload_n 0, 1) := by decide +kernel
theorem dX8_as_27 : decode cX8_as 27 = .ok (.getfield 19, 3) := by decide +kernel
theorem dX8_as_30 : decode cX8_as 30 = .ok (.getfield 104, 3) := by decide +kernel
theorem dX8_as_33 : decode cX8_as 33 = .ok (.iload_n 1, 1) := by decide +kernel
theorem dX8_as_34 : decode cX8_as 34 = .ok (.iaload, 1) := by decide +kernel
theorem dX8_as_35 : decode cX8_as 35 = .ok (.iload_n 2, 1) := by decide +kernel
theorem dX8_as_36 : decode cX8_as 36 = .ok (.invokestatic 135, 3) := by decide +kernel
theorem dX8_as_39 : decode cX8_as 39 = .ok (.ifCond .eq 14, 3) := by decide +kernel
theorem dX8_as_42 : decode cX8_as 42 = .ok (.aload_n 0, 1) := by decide +kernel
theorem dX8_as_43 : decode cX8_as 43 = .ok (.getfield 19, 3) := by decide +kernel
theorem dX8_as_46 : decode cX8_as 46 = .ok (.iload_n 1, 1) := by decide +kernel
theorem dX8_as_47 : decode cX8_as 47 = .ok (.invokevirtual 139, 3) := by decide +kernel
theorem dX8_as_50 : decode cX8_as 50 = .ok (.goto 5, 3) := by decide +kernel
theorem dX8_as_53 : decode cX8_as 53 = .ok (.bipush (-4), 2) := by decide +kernel
theorem dX8_as_55 : decode cX8_as 55 = .ok (.ireturn, 1) := by decide +kernel
theorem dX8_day_0 : decode cX8_day 0 = .ok (.aload_n 0, 1) := by decide +kernel
theorem dX8_day_1 : decode cX8_day 1 = .ok (.getfield 29, 3) := by decide +kernel
theorem dX8_day_4 : decode cX8_day 4 = .ok (.getfield 143, 3) := by decide +kernel
theorem dX8_day_7 : decode cX8_day 7 = .ok (.sipush 999, 3) := by decide +kernel
theorem dX8_day_10 : decode cX8_day 10 = .ok (.if_icmp .lt 6, 3) := by decide +kernel
theorem dX8_day_13 : decode cX8_day 13 = .ok (.bipush (-5), 2) := by decide +kernel
theorem dX8_day_15 : decode cX8_day 15 = .ok (.ireturn, 1) := by decide +kernel
theorem dX8_day_16 : decode cX8_day 16 = .ok (.aload_n 0, 1) := by decide +kernel
theorem dX8_day_17 : decode cX8_day 17 = .ok (.getfield 39, 3) := by decide +kernel
theorem dX8_day_20 : decode cX8_day 20 = .ok (.aload_n 0, 1) := by decide +kernel
theorem dX8_day_21 : decode cX8_day 21 = .ok (.getfield 29, 3) := by decide +kernel
theorem dX8_day_24 : decode cX8_day 24 = .ok (.invokevirtual 146, 3) := by decide +kernel
theorem dX8_day_27 : decode cX8_day 27 = .ok (.aload_n 0, 1) := by decide +kernel
theorem dX8_day_28 : decode cX8_day 28 = .ok (.aload_n 0, 1) := by decide +kernel
theorem dX8_day_29 : decode cX8_day 29 = .ok (.getfield 29, 3) := by decide +kernel
theorem dX8_day_32 : decode cX8_day 32 = .ok (.invokevirtual 150, 3) := by decide +kernel
theorem dX8_day_35 : decode cX8_day 35 = .ok (.ireturn, 1) := by decide +kernel
theorem dX8_hose_0 : decode cX8_hose 0 = .ok (.aload_n 0, 1) := by decide +kernel
theorem dX8_hose_1 : decode cX8_hose 1 = .ok (.getfield 19, 3) := by decide +kernel
theorem dX8_hose_4 : decode cX8_hose 4 = .ok (.iload_n 1, 1) := by decide +kernel
theorem dX8_hose_5 : decode cX8_hose 5 = .ok (.invokevirtual 100, 3) := by decide +kernel
theorem dX8_hose_8 : decode cX8_hose 8 = .ok (.ifCond .ne 6, 3) := by decide +kernel
theorem dX8_hose_11 : decode cX8_hose 11 = .ok (.bipush (-2), 2) := by decide +kernel
theorem dX8_hose_13 : decode cX8_hose 13 = .ok (.ireturn, 1) := by decide +kernel
theorem dX8_hose_14 : decode cX8_hose 14 = .ok (.iload_n 2, 1) := by decide +kernel
theorem dX8_hose_15 : decode cX8_hose 15 = .ok (.iconst 1, 1) := by decide +kernel
theorem dX8_hose_16 : decode cX8_hose 16 = .ok (.if_icmp .lt 9, 3) := by decide +kernel
theorem dX8_hose_19 : decode cX8_hose 19 = .ok (.iload_n 2, 1) := by decide +kernel
theorem dX8_hose_20 : decode cX8_hose 20 = .ok (.bipush 20, 2) := by decide +kernel
theorem dX8_hose_22 : decode cX8_hose 22 = .ok (.if_icmp .le 6, 3) := by decide +kernel
theorem dX8_hose_25 : decode cX8_hose 25 = .ok (.bipush (-3), 2) := by decide +kernel
theorem dX8_hose_27 : decode cX8_hose 27 = .ok (.ireturn, 1) := by decide +kernel
theorem dX8_hose_28 : decode cX8_hose 28 = .ok (.aload_n 0, 1) := by decide +kernel
theorem dX8_hose_29 : decode cX8_hose 29 = .ok (.getfield 39, 3) := by decide +kernel
theorem dX8_hose_32 : decode cX8_hose 32 = .ok (.aload_n 0, 1) := by decide +kernel
theorem dX8_hose_33 : decode cX8_hose 33 = .ok (.getfield 29, 3) := by decide +kernel
theorem dX8_hose_36 : decode cX8_hose 36 = .ok (.invokevirtual 146, 3) := by decide +kernel
theorem dX8_hose_39 : decode cX8_hose 39 = .ok (.aload_n 0, 1) := by decide +kernel
theorem dX8_hose_40 : decode cX8_hose 40 = .ok (.getfield 29, 3) := by decide +kernel
theorem dX8_hose_43 : decode cX8_hose 43 = .ok (.getfield 114, 3) := by decide +kernel
theorem dX8_hose_46 : decode cX8_hose 46 = .ok (.iload_n 1, 1) := by decide +kernel
theorem dX8_hose_47 : decode cX8_hose 47 = .ok (.bipush 99, 2) := by decide +kernel
theorem dX8_hose_49 : decode cX8_hose 49 = .ok (.aload_n 0, 1) := by decide +kernel
theorem dX8_hose_50 : decode cX8_hose 50 = .ok (.getfield 29, 3) := by decide +kernel
theorem dX8_hose_53 : decode cX8_hose 53 = .ok (.getfield 114, 3) := by decide +kernel
theorem dX8_hose_56 : decode cX8_hose 56 = .ok (.iload_n 1, 1) := by decide +kernel
theorem dX8_hose_57 : decode cX8_hose 57 = .ok (.iaload, 1) := by decide +kernel
theorem dX8_hose_58 : decode cX8_hose 58 = .ok (.iload_n 2, 1) := by decide +kernel
theorem dX8_hose_59 : decode cX8_hose 59 = .ok (.iadd, 1) := by decide +kernel
theorem dX8_hose_60 : decode cX8_hose 60 = .ok (.invokestatic 154, 3) := by decide +kernel
theorem dX8_hose_63 : decode cX8_hose 63 = .ok (.iastore, 1) := by decide +kernel
theorem dX8_hose_64 : decode cX8_hose 64 = .ok (.aload_n 0, 1) := by decide +kernel
theorem dX8_hose_65 : decode cX8_hose 65 = .ok (.getfield 29, 3) := by decide +kernel
theorem dX8_hose_68 : decode cX8_hose 68 = .ok (.getfield 114, 3) := by decide +kernel
theorem dX8_hose_71 : decode cX8_hose 71 = .ok (.iload_n 1, 1) := by decide +kernel
theorem dX8_hose_72 : decode cX8_hose 72 = .ok (.iaload, 1) := by decide +kernel
theorem dX8_hose_73 : decode cX8_hose 73 = .ok (.ireturn, 1) := by decide +kernel
theorem dX8_poll_0 : decode cX8_poll 0 = .ok (.aload_n 0, 1) := by decide +kernel
theorem dX8_poll_1 : decode cX8_poll 1 = .ok (.getfield 19, 3) := by decide +kernel
theorem dX8_poll_4 : decode cX8_poll 4 = .ok (.iload_n 1, 1) := by decide +kernel
theorem dX8_poll_5 : decode cX8_poll 5 = .ok (.invokevirtual 100, 3) := by decide +kernel
theorem dX8_poll_8 : decode cX8_poll 8 = .ok (.ifCond .ne 6, 3) := by decide +kernel
theorem dX8_poll_11 : decode cX8_poll 11 = .ok (.bipush (-2), 2) := by decide +kernel
theorem dX8_poll_13 : decode cX8_poll 13 = .ok (.ireturn, 1) := by decide +kernel
theorem dX8_poll_14 : decode cX8_poll 14 = .ok (.iload_n 2, 1) := by decide +kernel
theorem dX8_poll_15 : decode cX8_poll 15 = .ok (.ifCond .lt 9, 3) := by decide +kernel
theorem dX8_poll_18 : decode cX8_poll 18 = .ok (.iload_n 2, 1) := by decide +kernel
theorem dX8_poll_19 : decode cX8_poll 19 = .ok (.bipush 20, 2) := by decide +kernel
theorem dX8_poll_21 : decode cX8_poll 21 = .ok (.if_icmp .le 6, 3) := by decide +kernel
theorem dX8_poll_24 : decode cX8_poll 24 = .ok (.bipush (-3), 2) := by decide +kernel
theorem dX8_poll_26 : decode cX8_poll 26 = .ok (.ireturn, 1) := by decide +kernel
theorem dX8_poll_27 : decode cX8_poll 27 = .ok (.aload_n 0, 1) := by decide +kernel
theorem dX8_poll_28 : decode cX8_poll 28 = .ok (.getfield 39, 3) := by decide +kernel
theorem dX8_poll_31 : decode cX8_poll 31 = .ok (.aload_n 0, 1) := by decide +kernel
theorem dX8_poll_32 : decode cX8_poll 32 = .ok (.getfield 29, 3) := by decide +kernel
theorem dX8_poll_35 : decode cX8_poll 35 = .ok (.invokevirtual 146, 3) := by decide +kernel
theorem dX8_poll_38 : decode cX8_poll 38 = .ok (.aload_n 0, 1) := by decide +kernel
theorem dX8_poll_39 : decode cX8_poll 39 = .ok (.getfield 29, 3) := by decide +kernel
theorem dX8_poll_42 : decode cX8_poll 42 = .ok (.getfield 111, 3) := by decide +kernel
theorem dX8_poll_45 : decode cX8_poll 45 = .ok (.iload_n 1, 1) := by decide +kernel
theorem dX8_poll_46 : decode cX8_poll 46 = .ok (.iaload, 1) := by decide +kernel
theorem dX8_poll_47 : decode cX8_poll 47 = .ok (.istore_n 3, 1) := by decide +kernel
theorem dX8_poll_48 : decode cX8_poll 48 = .ok (.aload_n 0, 1) := by decide +kernel
theorem dX8_poll_49 : decode cX8_poll 49 = .ok (.getfield 29, 3) := by decide +kernel
theorem dX8_poll_52 : decode cX8_poll 52 = .ok (.getfield 111, 3) := by decide +kernel
theorem dX8_poll_55 : decode cX8_poll 55 = .ok (.iload_n 1, 1) := by decide +kernel
theorem dX8_poll_56 : decode cX8_poll 56 = .ok (.iload_n 2, 1) := by decide +kernel
theorem dX8_poll_57 : decode cX8_poll 57 = .ok (.iastore, 1) := by decide +kernel
theorem dX8_poll_58 : decode cX8_poll 58 = .ok (.iload_n 3, 1) := by decide +kernel
theorem dX8_poll_59 : decode cX8_poll 59 = .ok (.ireturn, 1) := by decide +kernel
theorem dX8_undo_0 : decode cX8_undo 0 = .ok (.aload_n 0, 1) := by decide +kernel
theorem dX8_undo_1 : decode cX8_undo 1 = .ok (.getfield 39, 3) := by decide +kernel
theorem dX8_undo_4 : decode cX8_undo 4 = .ok (.aload_n 0, 1) := by decide +kernel
theorem dX8_undo_5 : decode cX8_undo 5 = .ok (.getfield 29, 3) := by decide +kernel
theorem dX8_undo_8 : decode cX8_undo 8 = .ok (.invokevirtual 160, 3) := by decide +kernel
theorem dX8_undo_11 : decode cX8_undo 11 = .ok (.ifCond .eq 13, 3) := by decide +kernel
theorem dX8_undo_14 : decode cX8_undo 14 = .ok (.aload_n 0, 1) := by decide +kernel
theorem dX8_undo_15 : decode cX8_undo 15 = .ok (.getfield 39, 3) := by decide +kernel
theorem dX8_undo_18 : decode cX8_undo 18 = .ok (.getfield 164, 3) := by decide +kernel
theorem dX8_undo_21 : decode cX8_undo 21 = .ok (.goto 5, 3) := by decide +kernel
theorem dX8_undo_24 : decode cX8_undo 24 = .ok (.bipush (-4), 2) := by decide +kernel
theorem dX8_undo_26 : decode cX8_undo 26 = .ok (.ireturn, 1) := by decide +kernel
theorem dX8_keep_0 : decode cX8_keep 0 = .ok (.iload_n 1, 1) := by decide +kernel
theorem dX8_keep_1 : decode cX8_keep 1 = .ok (.invokestatic 165, 3) := by decide +kernel
theorem dX8_keep_4 : decode cX8_keep 4 = .ok (.ifCond .ne 6, 3) := by decide +kernel
theorem dX8_keep_7 : decode cX8_keep 7 = .ok (.bipush (-2), 2) := by decide +kernel
theorem dX8_keep_9 : decode cX8_keep 9 = .ok (.ireturn, 1) := by decide +kernel
theorem dX8_keep_10 : decode cX8_keep 10 = .ok (.aload_n 0, 1) := by decide +kernel
theorem dX8_keep_11 : decode cX8_keep 11 = .ok (.getfield 46, 3) := by decide +kernel
theorem dX8_keep_14 : decode cX8_keep 14 = .ok (.iload_n 1, 1) := by decide +kernel
theorem dX8_keep_15 : decode cX8_keep 15 = .ok (.aload_n 0, 1) := by decide +kernel
theorem dX8_keep_16 : decode cX8_keep 16 = .ok (.getfield 29, 3) := by decide +kernel
theorem dX8_keep_19 : decode cX8_keep 19 = .ok (.invokevirtual 168, 3) := by decide +kernel
theorem dX8_keep_22 : decode cX8_keep 22 = .ok (.aload_n 0, 1) := by decide +kernel
theorem dX8_keep_23 : decode cX8_keep 23 = .ok (.getfield 29, 3) := by decide +kernel
theorem dX8_keep_26 : decode cX8_keep 26 = .ok (.getfield 143, 3) := by decide +kernel
theorem dX8_keep_29 : decode cX8_keep 29 = .ok (.ireturn, 1) := by decide +kernel
theorem dX8_back_0 : decode cX8_back 0 = .ok (.iload_n 1, 1) := by decide +kernel
theorem dX8_back_1 : decode cX8_back 1 = .ok (.invokestatic 165, 3) := by decide +kernel
theorem dX8_back_4 : decode cX8_back 4 = .ok (.ifCond .ne 6, 3) := by decide +kernel
theorem dX8_back_7 : decode cX8_back 7 = .ok (.bipush (-2), 2) := by decide +kernel
theorem dX8_back_9 : decode cX8_back 9 = .ok (.ireturn, 1) := by decide +kernel
theorem dX8_back_10 : decode cX8_back 10 = .ok (.aload_n 0, 1) := by decide +kernel
theorem dX8_back_11 : decode cX8_back 11 = .ok (.getfield 46, 3) := by decide +kernel
theorem dX8_back_14 : decode cX8_back 14 = .ok (.iload_n 1, 1) := by decide +kernel
theorem dX8_back_15 : decode cX8_back 15 = .ok (.aload_n 0, 1) := by decide +kernel
theorem dX8_back_16 : decode cX8_back 16 = .ok (.getfield 29, 3) := by decide +kernel
theorem dX8_back_19 : decode cX8_back 19 = .ok (.invokevirtual 172, 3) := by decide +kernel
theorem dX8_back_22 : decode cX8_back 22 = .ok (.ifCond .ne 6, 3) := by decide +kernel
theorem dX8_back_25 : decode cX8_back 25 = .ok (.bipush (-4), 2) := by decide +kernel
theorem dX8_back_27 : decode cX8_back 27 = .ok (.ireturn, 1) := by decide +kernel
theorem dX8_back_28 : decode cX8_back 28 = .ok (.aload_n 0, 1) := by decide +kernel
theorem dX8_back_29 : decode cX8_back 29 = .ok (.getfield 39, 3) := by decide +kernel
theorem dX8_back_32 : decode cX8_back 32 = .ok (.invokevirtual 90, 3) := by decide +kernel
theorem dX8_back_35 : decode cX8_back 35 = .ok (.aload_n 0, 1) := by decide +kernel
theorem dX8_back_36 : decode cX8_back 36 = .ok (.getfield 29, 3) := by decide +kernel
theorem dX8_back_39 : decode cX8_back 39 = .ok (.getfield 143, 3) := by decide +kernel
theorem dX8_back_42 : decode cX8_back 42 = .ok (.ireturn, 1) := by decide +kernel
theorem dX8_where_0 : decode cX8_where 0 = .ok (.iload_n 1, 1) := by decide +kernel
theorem dX8_where_1 : decode cX8_where 1 = .ok (.iconst 1, 1) := by decide +kernel
theorem dX8_where_2 : decode cX8_where 2 = .ok (.if_icmp .lt 9, 3) := by decide +kernel
theorem dX8_where_5 : decode cX8_where 5 = .ok (.iload_n 1, 1) := by decide +kernel
theorem dX8_where_6 : decode cX8_where 6 = .ok (.bipush 30, 2) := by decide +kernel
theorem dX8_where_8 : decode cX8_where 8 = .ok (.if_icmp .le 6, 3) := by decide +kernel
theorem dX8_where_11 : decode cX8_where 11 = .ok (.bipush (-3), 2) := by decide +kernel
theorem dX8_where_13 : decode cX8_where 13 = .ok (.ireturn, 1) := by decide +kernel
theorem dX8_where_14 : decode cX8_where 14 = .ok (.aload_n 0, 1) := by decide +kernel
theorem dX8_where_15 : decode cX8_where 15 = .ok (.iload_n 1, 1) := by decide +kernel
theorem dX8_where_16 : decode cX8_where 16 = .ok (.invokevirtual 176, 3) := by decide +kernel
theorem dX8_where_19 : decode cX8_where 19 = .ok (.aload_n 0, 1) := by decide +kernel
theorem dX8_where_20 : decode cX8_where 20 = .ok (.getfield 33, 3) := by decide +kernel
theorem dX8_where_23 : decode cX8_where 23 = .ok (.getfield 180, 3) := by decide +kernel
theorem dX8_where_26 : decode cX8_where 26 = .ok (.ireturn, 1) := by decide +kernel
theorem dX8_wet_0 : decode cX8_wet 0 = .ok (.aload_n 0, 1) := by decide +kernel
theorem dX8_wet_1 : decode cX8_wet 1 = .ok (.getfield 19, 3) := by decide +kernel
theorem dX8_wet_4 : decode cX8_wet 4 = .ok (.iload_n 1, 1) := by decide +kernel
theorem dX8_wet_5 : decode cX8_wet 5 = .ok (.invokevirtual 100, 3) := by decide +kernel
theorem dX8_wet_8 : decode cX8_wet 8 = .ok (.ifCond .ne 6, 3) := by decide +kernel
theorem dX8_wet_11 : decode cX8_wet 11 = .ok (.bipush (-2), 2) := by decide +kernel
theorem dX8_wet_13 : decode cX8_wet 13 = .ok (.ireturn, 1) := by decide +kernel
theorem dX8_wet_14 : decode cX8_wet 14 = .ok (.iload_n 2, 1) := by decide +kernel
theorem dX8_wet_15 : decode cX8_wet 15 = .ok (.ifCond .lt 9, 3) := by decide +kernel
theorem dX8_wet_18 : decode cX8_wet 18 = .ok (.iload_n 2, 1) := by decide +kernel
theorem dX8_wet_19 : decode cX8_wet 19 = .ok (.bipush 30, 2) := by decide +kernel
theorem dX8_wet_21 : decode cX8_wet 21 = .ok (.if_icmp .le 6, 3) := by decide +kernel
theorem dX8_wet_24 : decode cX8_wet 24 = .ok (.bipush (-3), 2) := by decide +kernel
theorem dX8_wet_26 : decode cX8_wet 26 = .ok (.ireturn, 1) := by decide +kernel
theorem dX8_wet_27 : decode cX8_wet 27 = .ok (.aload_n 0, 1) := by decide +kernel
theorem dX8_wet_28 : decode cX8_wet 28 = .ok (.iload_n 2, 1) := by decide +kernel
theorem dX8_wet_29 : decode cX8_wet 29 = .ok (.invokevirtual 176, 3) := by decide +kernel
theorem dX8_wet_32 : decode cX8_wet 32 = .ok (.aload_n 0, 1) := by decide +kernel
theorem dX8_wet_33 : decode cX8_wet 33 = .ok (.getfield 33, 3) := by decide +kernel
theorem dX8_wet_36 : decode cX8_wet 36 = .ok (.getfield 114, 3) := by decide +kernel
theorem dX8_wet_39 : decode cX8_wet 39 = .ok (.iload_n 1, 1) := by decide +kernel
theorem dX8_wet_40 : decode cX8_wet 40 = .ok (.iaload, 1) := by decide +kernel
theorem dX8_wet_41 : decode cX8_wet 41 = .ok (.ireturn, 1) := by decide +kernel
theorem dX8_carry_0 : decode cX8_carry 0 = .ok (.aload_n 0, 1) := by decide +kernel
theorem dX8_carry_1 : decode cX8_carry 1 = .ok (.getfield 19, 3) := by decide +kernel
theorem dX8_carry_4 : decode cX8_carry 4 = .ok (.iload_n 1, 1) := by decide +kernel
theorem dX8_carry_5 : decode cX8_carry 5 = .ok (.invokevirtual 100, 3) := by decide +kernel
theorem dX8_carry_8 : decode cX8_carry 8 = .ok (.ifCond .ne 6, 3) := by decide +kernel
theorem dX8_carry_11 : decode cX8_carry 11 = .ok (.bipush (-2), 2) := by decide +kernel
theorem dX8_carry_13 : decode cX8_carry 13 = .ok (.ireturn, 1) := by decide +kernel
theorem dX8_carry_14 : decode cX8_carry 14 = .ok (.aload_n 0, 1) := by decide +kernel
theorem dX8_carry_15 : decode cX8_carry 15 = .ok (.getfield 19, 3) := by decide +kernel
theorem dX8_carry_18 : decode cX8_carry 18 = .ok (.invokevirtual 183, 3) := by decide +kernel
theorem dX8_carry_21 : decode cX8_carry 21 = .ok (.iconst 1, 1) := by decide +kernel
theorem dX8_carry_22 : decode cX8_carry 22 = .ok (.iload_n 1, 1) := by decide +kernel
theorem dX8_carry_23 : decode cX8_carry 23 = .ok (.ishl, 1) := by decide +kernel
theorem dX8_carry_24 : decode cX8_carry 24 = .ok (.iconst (-1), 1) := by decide +kernel
theorem dX8_carry_25 : decode cX8_carry 25 = .ok (.ixor, 1) := by decide +kernel
theorem dX8_carry_26 : decode cX8_carry 26 = .ok (.iand, 1) := by decide +kernel
theorem dX8_carry_27 : decode cX8_carry 27 = .ok (.istore_n 2, 1) := by decide +kernel
theorem dX8_carry_28 : decode cX8_carry 28 = .ok (.iconst (-1), 1) := by decide +kernel
theorem dX8_carry_29 : decode cX8_carry 29 = .ok (.istore_n 3, 1) := by decide +kernel
theorem dX8_carry_30 : decode cX8_carry 30 = .ok (.bipush 9, 2) := by decide +kernel
theorem dX8_carry_32 : decode cX8_carry 32 = .ok (.istore 4, 2) := by decide +kernel
theorem dX8_carry_34 : decode cX8_carry 34 = .ok (.aload_n 0, 1) := by decide +kernel
theorem dX8_carry_35 : decode cX8_carry 35 = .ok (.getfield 60, 3) := by decide +kernel
theorem dX8_carry_38 : decode cX8_carry 38 = .ok (.aload_n 0, 1) := by decide +kernel
theorem dX8_carry_39 : decode cX8_carry 39 = .ok (.getfield 19, 3) := by decide +kernel
theorem dX8_carry_42 : decode cX8_carry 42 = .ok (.aload_n 0, 1) := by decide +kernel
theorem dX8_carry_43 : decode cX8_carry 43 = .ok (.getfield 29, 3) := by decide +kernel
theorem dX8_carry_46 : decode cX8_carry 46 = .ok (.invokevirtual 124, 3) := by decide +kernel
theorem dX8_carry_49 : decode cX8_carry 49 = .ok (.iconst 0, 1) := by decide +kernel
theorem dX8_carry_50 : decode cX8_carry 50 = .ok (.istore 5, 2) := by decide +kernel
theorem dX8_carry_52 : decode cX8_carry 52 = .ok (.iload 5, 2) := by decide +kernel
theorem dX8_carry_54 : decode cX8_carry 54 = .ok (.iconst 1, 1) := by decide +kernel
theorem dX8_carry_55 : decode cX8_carry 55 = .ok (.aload_n 0, 1) := by decide +kernel
theorem dX8_carry_56 : decode cX8_carry 56 = .ok (.getfield 19, 3) := by decide +kernel
theorem dX8_carry_59 : decode cX8_carry 59 = .ok (.getfield 187, 3) := by decide +kernel
theorem dX8_carry_62 : decode cX8_carry 62 = .ok (.ishl, 1) := by decide +kernel
theorem dX8_carry_63 : decode cX8_carry 63 = .ok (.if_icmp .ge 48, 3) := by decide +kernel
theorem dX8_carry_66 : decode cX8_carry 66 = .ok (.iload 5, 2) := by decide +kernel
theorem dX8_carry_68 : decode cX8_carry 68 = .ok (.iload_n 2, 1) := by decide +kernel
theorem dX8_carry_69 : decode cX8_carry 69 = .ok (.iconst (-1), 1) := by decide +kernel
theorem dX8_carry_70 : decode cX8_carry 70 = .ok (.ixor, 1) := by decide +kernel
theorem dX8_carry_71 : decode cX8_carry 71 = .ok (.iand, 1) := by decide +kernel
theorem dX8_carry_72 : decode cX8_carry 72 = .ok (.ifCond .ne 33, 3) := by decide +kernel
theorem dX8_carry_75 : decode cX8_carry 75 = .ok (.iload 5, 2) := by decide +kernel
theorem dX8_carry_77 : decode cX8_carry 77 = .ok (.invokestatic 190, 3) := by decide +kernel
theorem dX8_carry_80 : decode cX8_carry 80 = .ok (.iload 4, 2) := by decide +kernel
theorem dX8_carry_82 : decode cX8_carry 82 = .ok (.if_icmp .ge 23, 3) := by decide +kernel
theorem dX8_carry_85 : decode cX8_carry 85 = .ok (.aload_n 0, 1) := by decide +kernel
theorem dX8_carry_86 : decode cX8_carry 86 = .ok (.iload 5, 2) := by decide +kernel
theorem dX8_carry_88 : decode cX8_carry 88 = .ok (.iload_n 1, 1) := by decide +kernel
theorem dX8_carry_89 : decode cX8_carry 89 = .ok (.invokevirtual 195, 3) := by decide +kernel
theorem dX8_carry_92 : decode cX8_carry 92 = .ok (.ifCond .eq 13, 3) := by decide +kernel
theorem dX8_carry_95 : decode cX8_carry 95 = .ok (.iload 5, 2) := by decide +kernel
theorem dX8_carry_97 : decode cX8_carry 97 = .ok (.invokestatic 190, 3) := by decide +kernel
theorem dX8_carry_100 : decode cX8_carry 100 = .ok (.istore 4, 2) := by decide +kernel
theorem dX8_carry_102 : decode cX8_carry 102 = .ok (.iload 5, 2) := by decide +kernel
theorem dX8_carry_104 : decode cX8_carry 104 = .ok (.istore_n 3, 1) := by decide +kernel
theorem dX8_carry_105 : decode cX8_carry 105 = .ok (.iinc 5 1, 3) := by decide +kernel
theorem dX8_carry_108 : decode cX8_carry 108 = .ok (.goto (-56), 3) := by decide +kernel
theorem dX8_carry_111 : decode cX8_carry 111 = .ok (.iload_n 3, 1) := by decide +kernel
theorem dX8_carry_112 : decode cX8_carry 112 = .ok (.ireturn, 1) := by decide +kernel
theorem dX8_reach_0 : decode cX8_reach 0 = .ok (.aload_n 0, 1) := by decide +kernel
theorem dX8_reach_1 : decode cX8_reach 1 = .ok (.getfield 19, 3) := by decide +kernel
theorem dX8_reach_4 : decode cX8_reach 4 = .ok (.iload_n 1, 1) := by decide +kernel
theorem dX8_reach_5 : decode cX8_reach 5 = .ok (.invokevirtual 100, 3) := by decide +kernel
theorem dX8_reach_8 : decode cX8_reach 8 = .ok (.ifCond .ne 6, 3) := by decide +kernel
theorem dX8_reach_11 : decode cX8_reach 11 = .ok (.bipush (-2), 2) := by decide +kernel
theorem dX8_reach_13 : decode cX8_reach 13 = .ok (.ireturn, 1) := by decide +kernel
theorem dX8_reach_14 : decode cX8_reach 14 = .ok (.iconst 0, 1) := by decide +kernel
theorem dX8_reach_15 : decode cX8_reach 15 = .ok (.istore_n 2, 1) := by decide +kernel
theorem dX8_reach_16 : decode cX8_reach 16 = .ok (.iconst 0, 1) := by decide +kernel
theorem dX8_reach_17 : decode cX8_reach 17 = .ok (.istore_n 3, 1) := by decide +kernel
theorem dX8_reach_18 : decode cX8_reach 18 = .ok (.iload_n 3, 1) := by decide +kernel
theorem dX8_reach_19 : decode cX8_reach 19 = .ok (.aload_n 0, 1) := by decide +kernel
theorem dX8_reach_20 : decode cX8_reach 20 = .ok (.getfield 19, 3) := by decide +kernel
theorem dX8_reach_23 : decode cX8_reach 23 = .ok (.getfield 187, 3) := by decide +kernel
theorem dX8_reach_26 : decode cX8_reach 26 = .ok (.if_icmp .ge 45, 3) := by decide +kernel
theorem dX8_reach_29 : decode cX8_reach 29 = .ok (.aload_n 0, 1) := by decide +kernel
theorem dX8_reach_30 : decode cX8_reach 30 = .ok (.getfield 33, 3) := by decide +kernel
theorem dX8_reach_33 : decode cX8_reach 33 = .ok (.aload_n 0, 1) := by decide +kernel
theorem dX8_reach_34 : decode cX8_reach 34 = .ok (.getfield 29, 3) := by decide +kernel
theorem dX8_reach_37 : decode cX8_reach 37 = .ok (.invokevirtual 198, 3) := by decide +kernel
theorem dX8_reach_40 : decode cX8_reach 40 = .ok (.aload_n 0, 1) := by decide +kernel
theorem dX8_reach_41 : decode cX8_reach 41 = .ok (.getfield 33, 3) := by decide +kernel
theorem dX8_reach_44 : decode cX8_reach 44 = .ok (.aload_n 0, 1) := by decide +kernel
theorem dX8_reach_45 : decode cX8_reach 45 = .ok (.getfield 19, 3) := by decide +kernel
theorem dX8_reach_48 : decode cX8_reach 48 = .ok (.iload_n 3, 1) := by decide +kernel
theorem dX8_reach_49 : decode cX8_reach 49 = .ok (.invokevirtual 200, 3) := by decide +kernel
theorem dX8_reach_52 : decode cX8_reach 52 = .ok (.iload_n 1, 1) := by decide +kernel
theorem dX8_reach_53 : decode cX8_reach 53 = .ok (.ishr, 1) := by decide +kernel
theorem dX8_reach_54 : decode cX8_reach 54 = .ok (.iconst 1, 1) := by decide +kernel
theorem dX8_reach_55 : decode cX8_reach 55 = .ok (.iand, 1) := by decide +kernel
theorem dX8_reach_56 : decode cX8_reach 56 = .ok (.ifCond .eq 9, 3) := by decide +kernel
theorem dX8_reach_59 : decode cX8_reach 59 = .ok (.iload_n 2, 1) := by decide +kernel
theorem dX8_reach_60 : decode cX8_reach 60 = .ok (.iconst 1, 1) := by decide +kernel
theorem dX8_reach_61 : decode cX8_reach 61 = .ok (.iload_n 3, 1) := by decide +kernel
theorem dX8_reach_62 : decode cX8_reach 62 = .ok (.ishl, 1) := by decide +kernel
theorem dX8_reach_63 : decode cX8_reach 63 = .ok (.ior, 1) := by decide +kernel
theorem dX8_reach_64 : decode cX8_reach 64 = .ok (.istore_n 2, 1) := by decide +kernel
theorem dX8_reach_65 : decode cX8_reach 65 = .ok (.iinc 3 1, 3) := by decide +kernel
theorem dX8_reach_68 : decode cX8_reach 68 = .ok (.goto (-50), 3) := by decide +kernel
theorem dX8_reach_71 : decode cX8_reach 71 = .ok (.iload_n 2, 1) := by decide +kernel
theorem dX8_reach_72 : decode cX8_reach 72 = .ok (.ireturn, 1) := by decide +kernel
theorem dX8_month_0 : decode cX8_month 0 = .ok (.iload_n 1, 1) := by decide +kernel
theorem dX8_month_1 : decode cX8_month 1 = .ok (.iconst 1, 1) := by decide +kernel
theorem dX8_month_2 : decode cX8_month 2 = .ok (.if_icmp .lt 18, 3) := by decide +kernel
theorem dX8_month_5 : decode cX8_month 5 = .ok (.iload_n 1, 1) := by decide +kernel
theorem dX8_month_6 : decode cX8_month 6 = .ok (.iconst 4, 1) := by decide +kernel
theorem dX8_month_7 : decode cX8_month 7 = .ok (.if_icmp .gt 13, 3) := by decide +kernel
theorem dX8_month_10 : decode cX8_month 10 = .ok (.iload_n 2, 1) := by decide +kernel
theorem dX8_month_11 : decode cX8_month 11 = .ok (.iconst (-1), 1) := by decide +kernel
theorem dX8_month_12 : decode cX8_month 12 = .ok (.if_icmp .lt 8, 3) := by decide +kernel
theorem dX8_month_15 : decode cX8_month 15 = .ok (.iload_n 2, 1) := by decide +kernel
theorem dX8_month_16 : decode cX8_month 16 = .ok (.iconst 4, 1) := by decide +kernel
theorem dX8_month_17 : decode cX8_month 17 = .ok (.if_icmp .lt 6, 3) := by decide +kernel
theorem dX8_month_20 : decode cX8_month 20 = .ok (.bipush (-3), 2) := by decide +kernel
theorem dX8_month_22 : decode cX8_month 22 = .ok (.ireturn, 1) := by decide +kernel
theorem dX8_month_23 : decode cX8_month 23 = .ok (.aload_n 0, 1) := by decide +kernel
theorem dX8_month_24 : decode cX8_month 24 = .ok (.getfield 19, 3) := by decide +kernel
theorem dX8_month_27 : decode cX8_month 27 = .ok (.getfield 187, 3) := by decide +kernel
theorem dX8_month_30 : decode cX8_month 30 = .ok (.ifCond .eq 8, 3) := by decide +kernel
theorem dX8_month_33 : decode cX8_month 33 = .ok (.iload_n 2, 1) := by decide +kernel
theorem dX8_month_34 : decode cX8_month 34 = .ok (.iload_n 1, 1) := by decide +kernel
theorem dX8_month_35 : decode cX8_month 35 = .ok (.if_icmp .lt 5, 3) := by decide +kernel
theorem dX8_month_38 : decode cX8_month 38 = .ok (.iconst (-1), 1) := by decide +kernel
theorem dX8_month_39 : decode cX8_month 39 = .ok (.ireturn, 1) := by decide +kernel
theorem dX8_month_40 : decode cX8_month 40 = .ok (.aload_n 0, 1) := by decide +kernel
theorem dX8_month_41 : decode cX8_month 41 = .ok (.getfield 67, 3) := by decide +kernel
theorem dX8_month_44 : decode cX8_month 44 = .ok (.aload_n 0, 1) := by decide +kernel
theorem dX8_month_45 : decode cX8_month 45 = .ok (.getfield 19, 3) := by decide +kernel
theorem dX8_month_48 : decode cX8_month 48 = .ok (.aload_n 0, 1) := by decide +kernel
theorem dX8_month_49 : decode cX8_month 49 = .ok (.getfield 29, 3) := by decide +kernel
theorem dX8_month_52 : decode cX8_month 52 = .ok (.iload_n 1, 1) := by decide +kernel
theorem dX8_month_53 : decode cX8_month 53 = .ok (.invokevirtual 204, 3) := by decide +kernel
theorem dX8_month_56 : decode cX8_month 56 = .ok (.iload_n 2, 1) := by decide +kernel
theorem dX8_month_57 : decode cX8_month 57 = .ok (.iconst (-1), 1) := by decide +kernel
theorem dX8_month_58 : decode cX8_month 58 = .ok (.if_icmp .ne 13, 3) := by decide +kernel
theorem dX8_month_61 : decode cX8_month 61 = .ok (.aload_n 0, 1) := by decide +kernel
theorem dX8_month_62 : decode cX8_month 62 = .ok (.getfield 67, 3) := by decide +kernel
theorem dX8_month_65 : decode cX8_month 65 = .ok (.getfield 208, 3) := by decide +kernel
theorem dX8_month_68 : decode cX8_month 68 = .ok (.goto 12, 3) := by decide +kernel
theorem dX8_month_71 : decode cX8_month 71 = .ok (.aload_n 0, 1) := by decide +kernel
theorem dX8_month_72 : decode cX8_month 72 = .ok (.getfield 67, 3) := by decide +kernel
theorem dX8_month_75 : decode cX8_month 75 = .ok (.getfield 211, 3) := by decide +kernel
theorem dX8_month_78 : decode cX8_month 78 = .ok (.iload_n 2, 1) := by decide +kernel
theorem dX8_month_79 : decode cX8_month 79 = .ok (.iaload, 1) := by decide +kernel
theorem dX8_month_80 : decode cX8_month 80 = .ok (.ireturn, 1) := by decide +kernel
theorem dX8_seen_0 : decode cX8_seen 0 = .ok (.iload_n 1, 1) := by decide +kernel
theorem dX8_seen_1 : decode cX8_seen 1 = .ok (.iconst (-1), 1) := by decide +kernel
theorem dX8_seen_2 : decode cX8_seen 2 = .ok (.if_icmp .eq 17, 3) := by decide +kernel
theorem dX8_seen_5 : decode cX8_seen 5 = .ok (.aload_n 0, 1) := by decide +kernel
theorem dX8_seen_6 : decode cX8_seen 6 = .ok (.getfield 19, 3) := by decide +kernel
theorem dX8_seen_9 : decode cX8_seen 9 = .ok (.iload_n 1, 1) := by decide +kernel
theorem dX8_seen_10 : decode cX8_seen 10 = .ok (.invokevirtual 100, 3) := by decide +kernel
theorem dX8_seen_13 : decode cX8_seen 13 = .ok (.ifCond .ne 6, 3) := by decide +kernel
theorem dX8_seen_16 : decode cX8_seen 16 = .ok (.bipush (-2), 2) := by decide +kernel
theorem dX8_seen_18 : decode cX8_seen 18 = .ok (.ireturn, 1) := by decide +kernel
theorem dX8_seen_19 : decode cX8_seen 19 = .ok (.iload_n 2, 1) := by decide +kernel
theorem dX8_seen_20 : decode cX8_seen 20 = .ok (.iconst 1, 1) := by decide +kernel
theorem dX8_seen_21 : decode cX8_seen 21 = .ok (.if_icmp .lt 9, 3) := by decide +kernel
theorem dX8_seen_24 : decode cX8_seen 24 = .ok (.iload_n 2, 1) := by decide +kernel
theorem dX8_seen_25 : decode cX8_seen 25 = .ok (.bipush 20, 2) := by decide +kernel
theorem dX8_seen_27 : decode cX8_seen 27 = .ok (.if_icmp .le 6, 3) := by decide +kernel
theorem dX8_seen_30 : decode cX8_seen 30 = .ok (.bipush (-3), 2) := by decide +kernel
theorem dX8_seen_32 : decode cX8_seen 32 = .ok (.ireturn, 1) := by decide +kernel
theorem dX8_seen_33 : decode cX8_seen 33 = .ok (.aload_n 0, 1) := by decide +kernel
theorem dX8_seen_34 : decode cX8_seen 34 = .ok (.getfield 53, 3) := by decide +kernel
theorem dX8_seen_37 : decode cX8_seen 37 = .ok (.iload_n 1, 1) := by decide +kernel
theorem dX8_seen_38 : decode cX8_seen 38 = .ok (.iload_n 2, 1) := by decide +kernel
theorem dX8_seen_39 : decode cX8_seen 39 = .ok (.invokevirtual 214, 3) := by decide +kernel
theorem dX8_seen_42 : decode cX8_seen 42 = .ok (.ifCond .eq 13, 3) := by decide +kernel
theorem dX8_seen_45 : decode cX8_seen 45 = .ok (.aload_n 0, 1) := by decide +kernel
theorem dX8_seen_46 : decode cX8_seen 46 = .ok (.getfield 53, 3) := by decide +kernel
theorem dX8_seen_49 : decode cX8_seen 49 = .ok (.getfield 94, 3) := by decide +kernel
theorem dX8_seen_52 : decode cX8_seen 52 = .ok (.goto 5, 3) := by decide +kernel
theorem dX8_seen_55 : decode cX8_seen 55 = .ok (.bipush (-5), 2) := by decide +kernel
theorem dX8_seen_57 : decode cX8_seen 57 = .ok (.ireturn, 1) := by decide +kernel
theorem dX8_forget_0 : decode cX8_forget 0 = .ok (.aload_n 0, 1) := by decide +kernel
theorem dX8_forget_1 : decode cX8_forget 1 = .ok (.getfield 53, 3) := by decide +kernel
theorem dX8_forget_4 : decode cX8_forget 4 = .ok (.getfield 94, 3) := by decide +kernel
theorem dX8_forget_7 : decode cX8_forget 7 = .ok (.istore_n 1, 1) := by decide +kernel
theorem dX8_forget_8 : decode cX8_forget 8 = .ok (.aload_n 0, 1) := by decide +kernel
theorem dX8_forget_9 : decode cX8_forget 9 = .ok (.getfield 53, 3) := by decide +kernel
theorem dX8_forget_12 : decode cX8_forget 12 = .ok (.iconst 0, 1) := by decide +kernel
theorem dX8_forget_13 : decode cX8_forget 13 = .ok (.putfield 94, 3) := by decide +kernel
theorem dX8_forget_16 : decode cX8_forget 16 = .ok (.iload_n 1, 1) := by decide +kernel
theorem dX8_forget_17 : decode cX8_forget 17 = .ok (.ireturn, 1) := by decide +kernel
theorem dX8_polls_0 : decode cX8_polls 0 = .ok (.aload_n 0, 1) := by decide +kernel
theorem dX8_polls_1 : decode cX8_polls 1 = .ok (.getfield 19, 3) := by decide +kernel
theorem dX8_polls_4 : decode cX8_polls 4 = .ok (.iload_n 1, 1) := by decide +kernel
theorem dX8_polls_5 : decode cX8_polls 5 = .ok (.invokevirtual 100, 3) := by decide +kernel
theorem dX8_polls_8 : decode cX8_polls 8 = .ok (.ifCond .ne 6, 3) := by decide +kernel
theorem dX8_polls_11 : decode cX8_polls 11 = .ok (.bipush (-2), 2) := by decide +kernel
theorem dX8_polls_13 : decode cX8_polls 13 = .ok (.ireturn, 1) := by decide +kernel
theorem dX8_polls_14 : decode cX8_polls 14 = .ok (.iconst 0, 1) := by decide +kernel
theorem dX8_polls_15 : decode cX8_polls 15 = .ok (.istore_n 2, 1) := by decide +kernel
theorem dX8_polls_16 : decode cX8_polls 16 = .ok (.iconst 0, 1) := by decide +kernel
theorem dX8_polls_17 : decode cX8_polls 17 = .ok (.istore_n 3, 1) := by decide +kernel
theorem dX8_polls_18 : decode cX8_polls 18 = .ok (.iload_n 3, 1) := by decide +kernel
theorem dX8_polls_19 : decode cX8_polls 19 = .ok (.bipush 20, 2) := by decide +kernel
theorem dX8_polls_21 : decode cX8_polls 21 = .ok (.if_icmp .gt 43, 3) := by decide +kernel
theorem dX8_polls_24 : decode cX8_polls 24 = .ok (.aload_n 0, 1) := by decide +kernel
theorem dX8_polls_25 : decode cX8_polls 25 = .ok (.getfield 33, 3) := by decide +kernel
theorem dX8_polls_28 : decode cX8_polls 28 = .ok (.aload_n 0, 1) := by decide +kernel
theorem dX8_polls_29 : decode cX8_polls 29 = .ok (.getfield 29, 3) := by decide +kernel
theorem dX8_polls_32 : decode cX8_polls 32 = .ok (.invokevirtual 198, 3) := by decide +kernel
theorem dX8_polls_35 : decode cX8_polls 35 = .ok (.aload_n 0, 1) := by decide +kernel
theorem dX8_polls_36 : decode cX8_polls 36 = .ok (.getfield 33, 3) := by decide +kernel
theorem dX8_polls_39 : decode cX8_polls 39 = .ok (.getfield 111, 3) := by decide +kernel
theorem dX8_polls_42 : decode cX8_polls 42 = .ok (.iload_n 1, 1) := by decide +kernel
theorem dX8_polls_43 : decode cX8_polls 43 = .ok (.iload_n 3, 1) := by decide +kernel
theorem dX8_polls_44 : decode cX8_polls 44 = .ok (.iastore, 1) := by decide +kernel
theorem dX8_polls_45 : decode cX8_polls 45 = .ok (.aload_n 0, 1) := by decide +kernel
theorem dX8_polls_46 : decode cX8_polls 46 = .ok (.invokevirtual 216, 3) := by decide +kernel
theorem dX8_polls_49 : decode cX8_polls 49 = .ok (.ifCond .eq 9, 3) := by decide +kernel
theorem dX8_polls_52 : decode cX8_polls 52 = .ok (.iload_n 2, 1) := by decide +kernel
theorem dX8_polls_53 : decode cX8_polls 53 = .ok (.iconst 1, 1) := by decide +kernel
theorem dX8_polls_54 : decode cX8_polls 54 = .ok (.iload_n 3, 1) := by decide +kernel
theorem dX8_polls_55 : decode cX8_polls 55 = .ok (.ishl, 1) := by decide +kernel
theorem dX8_polls_56 : decode cX8_polls 56 = .ok (.ior, 1) := by decide +kernel
theorem dX8_polls_57 : decode cX8_polls 57 = .ok (.istore_n 2, 1) := by decide +kernel
theorem dX8_polls_58 : decode cX8_polls 58 = .ok (.iinc 3 1, 3) := by decide +kernel
theorem dX8_polls_61 : decode cX8_polls 61 = .ok (.goto (-43), 3) := by decide +kernel
theorem dX8_polls_64 : decode cX8_polls 64 = .ok (.iload_n 2, 1) := by decide +kernel
theorem dX8_polls_65 : decode cX8_polls 65 = .ok (.ireturn, 1) := by decide +kernel
theorem dX8_chance_0 : decode cX8_chance 0 = .ok (.iload_n 1, 1) := by decide +kernel
theorem dX8_chance_1 : decode cX8_chance 1 = .ok (.iconst (-1), 1) := by decide +kernel
theorem dX8_chance_2 : decode cX8_chance 2 = .ok (.if_icmp .eq 17, 3) := by decide +kernel
theorem dX8_chance_5 : decode cX8_chance 5 = .ok (.aload_n 0, 1) := by decide +kernel
theorem dX8_chance_6 : decode cX8_chance 6 = .ok (.getfield 19, 3) := by decide +kernel
theorem dX8_chance_9 : decode cX8_chance 9 = .ok (.iload_n 1, 1) := by decide +kernel
theorem dX8_chance_10 : decode cX8_chance 10 = .ok (.invokevirtual 100, 3) := by decide +kernel
theorem dX8_chance_13 : decode cX8_chance 13 = .ok (.ifCond .ne 6, 3) := by decide +kernel
theorem dX8_chance_16 : decode cX8_chance 16 = .ok (.bipush (-2), 2) := by decide +kernel
theorem dX8_chance_18 : decode cX8_chance 18 = .ok (.ireturn, 1) := by decide +kernel
theorem dX8_chance_19 : decode cX8_chance 19 = .ok (.iload_n 2, 1) := by decide +kernel
theorem dX8_chance_20 : decode cX8_chance 20 = .ok (.ifCond .lt 18, 3) := by decide +kernel
theorem dX8_chance_23 : decode cX8_chance 23 = .ok (.iload_n 2, 1) := by decide +kernel
theorem dX8_chance_24 : decode cX8_chance 24 = .ok (.bipush 10, 2) := by decide +kernel
theorem dX8_chance_26 : decode cX8_chance 26 = .ok (.if_icmp .gt 12, 3) := by decide +kernel
theorem dX8_chance_29 : decode cX8_chance 29 = .ok (.iload_n 3, 1) := by decide +kernel
theorem dX8_chance_30 : decode cX8_chance 30 = .ok (.ifCond .lt 8, 3) := by decide +kernel
theorem dX8_chance_33 : decode cX8_chance 33 = .ok (.iload_n 3, 1) := by decide +kernel
theorem dX8_chance_34 : decode cX8_chance 34 = .ok (.iconst 1, 1) := by decide +kernel
theorem dX8_chance_35 : decode cX8_chance 35 = .ok (.if_icmp .le 6, 3) := by decide +kernel
theorem dX8_chance_38 : decode cX8_chance 38 = .ok (.bipush (-3), 2) := by decide +kernel
theorem dX8_chance_40 : decode cX8_chance 40 = .ok (.ireturn, 1) := by decide +kernel
theorem dX8_chance_41 : decode cX8_chance 41 = .ok (.aload_n 0, 1) := by decide +kernel
theorem dX8_chance_42 : decode cX8_chance 42 = .ok (.iload_n 1, 1) := by decide +kernel
theorem dX8_chance_43 : decode cX8_chance 43 = .ok (.iload_n 2, 1) := by decide +kernel
theorem dX8_chance_44 : decode cX8_chance 44 = .ok (.invokevirtual 220, 3) := by decide +kernel
theorem dX8_chance_47 : decode cX8_chance 47 = .ok (.lstore 4, 2) := by decide +kernel
theorem dX8_chance_49 : decode cX8_chance 49 = .ok (.aload_n 0, 1) := by decide +kernel
theorem dX8_chance_50 : decode cX8_chance 50 = .ok (.iconst 0, 1) := by decide +kernel
theorem dX8_chance_51 : decode cX8_chance 51 = .ok (.iconst 0, 1) := by decide +kernel
theorem dX8_chance_52 : decode cX8_chance 52 = .ok (.invokevirtual 224, 3) := by decide +kernel
theorem dX8_chance_55 : decode cX8_chance 55 = .ok (.lstore 6, 2) := by decide +kernel
theorem dX8_chance_57 : decode cX8_chance 57 = .ok (.lload 4, 2) := by decide +kernel
theorem dX8_chance_59 : decode cX8_chance 59 = .ok (.lload 6, 2) := by decide +kernel
theorem dX8_chance_61 : decode cX8_chance 61 = .ok (.invokestatic 227, 3) := by decide +kernel
theorem dX8_chance_64 : decode cX8_chance 64 = .ok (.lstore 8, 2) := by decide +kernel
theorem dX8_chance_66 : decode cX8_chance 66 = .ok (.lload 8, 2) := by decide +kernel
theorem dX8_chance_68 : decode cX8_chance 68 = .ok (.lconst 0, 1) := by decide +kernel
theorem dX8_chance_69 : decode cX8_chance 69 = .ok (.lcmp, 1) := by decide +kernel
theorem dX8_chance_70 : decode cX8_chance 70 = .ok (.ifCond .gt 6, 3) := by decide +kernel
theorem dX8_chance_73 : decode cX8_chance 73 = .ok (.bipush (-3), 2) := by decide +kernel
theorem dX8_chance_75 : decode cX8_chance 75 = .ok (.ireturn, 1) := by decide +kernel
theorem dX8_chance_76 : decode cX8_chance 76 = .ok (.iload_n 3, 1) := by decide +kernel
theorem dX8_chance_77 : decode cX8_chance 77 = .ok (.ifCond .ne 8, 3) := by decide +kernel
theorem dX8_chance_80 : decode cX8_chance 80 = .ok (.lload 4, 2) := by decide +kernel
theorem dX8_chance_82 : decode cX8_chance 82 = .ok (.goto 5, 3) := by decide +kernel
theorem dX8_chance_85 : decode cX8_chance 85 = .ok (.lload 6, 2) := by decide +kernel
theorem dX8_chance_87 : decode cX8_chance 87 = .ok (.lload 8, 2) := by decide +kernel
theorem dX8_chance_89 : decode cX8_chance 89 = .ok (.ldiv, 1) := by decide +kernel
theorem dX8_chance_90 : decode cX8_chance 90 = .ok (.l2i, 1) := by decide +kernel
theorem dX8_chance_91 : decode cX8_chance 91 = .ok (.ireturn, 1) := by decide +kernel
theorem dX8_count_0 : decode cX8_count 0 = .ok (.iload_n 1, 1) := by decide +kernel
theorem dX8_count_1 : decode cX8_count 1 = .ok (.tableswitch 146 0 9 #[55, 63, 71, 79, 87, 102, 114, 122, 130, 138], 55) := by decide +kernel
theorem dX8_count_56 : decode cX8_count 56 = .ok (.aload_n 0, 1) := by decide +kernel
theorem dX8_count_57 : decode cX8_count 57 = .ok (.getfield 19, 3) := by decide +kernel
theorem dX8_count_60 : decode cX8_count 60 = .ok (.getfield 187, 3) := by decide +kernel
theorem dX8_count_63 : decode cX8_count 63 = .ok (.ireturn, 1) := by decide +kernel
theorem dX8_count_64 : decode cX8_count 64 = .ok (.aload_n 0, 1) := by decide +kernel
theorem dX8_count_65 : decode cX8_count 65 = .ok (.getfield 29, 3) := by decide +kernel
theorem dX8_count_68 : decode cX8_count 68 = .ok (.getfield 143, 3) := by decide +kernel
theorem dX8_count_71 : decode cX8_count 71 = .ok (.ireturn, 1) := by decide +kernel
theorem dX8_count_72 : decode cX8_count 72 = .ok (.aload_n 0, 1) := by decide +kernel
theorem dX8_count_73 : decode cX8_count 73 = .ok (.getfield 19, 3) := by decide +kernel
theorem dX8_count_76 : decode cX8_count 76 = .ok (.getfield 231, 3) := by decide +kernel
theorem dX8_count_79 : decode cX8_count 79 = .ok (.ireturn, 1) := by decide +kernel
theorem dX8_count_80 : decode cX8_count 80 = .ok (.aload_n 0, 1) := by decide +kernel
theorem dX8_count_81 : decode cX8_count 81 = .ok (.getfield 19, 3) := by decide +kernel
theorem dX8_count_84 : decode cX8_count 84 = .ok (.getfield 234, 3) := by decide +kernel
theorem dX8_count_87 : decode cX8_count 87 = .ok (.ireturn, 1) := by decide +kernel
theorem dX8_count_88 : decode cX8_count 88 = .ok (.aload_n 0, 1) := by decide +kernel
theorem dX8_count_89 : decode cX8_count 89 = .ok (.getfield 29, 3) := by decide +kernel
theorem dX8_count_92 : decode cX8_count 92 = .ok (.aload_n 0, 1) := by decide +kernel
theorem dX8_count_93 : decode cX8_count 93 = .ok (.getfield 19, 3) := by decide +kernel
theorem dX8_count_96 : decode cX8_count 96 = .ok (.getfield 187, 3) := by decide +kernel
theorem dX8_count_99 : decode cX8_count 99 = .ok (.invokevirtual 237, 3) := by decide +kernel
theorem dX8_count_102 : decode cX8_count 102 = .ok (.ireturn, 1) := by decide +kernel
theorem dX8_count_103 : decode cX8_count 103 = .ok (.aload_n 0, 1) := by decide +kernel
theorem dX8_count_104 : decode cX8_count 104 = .ok (.getfield 29, 3) := by decide +kernel
theorem dX8_count_107 : decode cX8_count 107 = .ok (.aload_n 0, 1) := by decide +kernel
theorem dX8_count_108 : decode cX8_count 108 = .ok (.getfield 19, 3) := by decide +kernel
theorem dX8_count_111 : decode cX8_count 111 = .ok (.invokevirtual 240, 3) := by decide +kernel
theorem dX8_count_114 : decode cX8_count 114 = .ok (.ireturn, 1) := by decide +kernel
theorem dX8_count_115 : decode cX8_count 115 = .ok (.aload_n 0, 1) := by decide +kernel
theorem dX8_count_116 : decode cX8_count 116 = .ok (.getfield 29, 3) := by decide +kernel
theorem dX8_count_119 : decode cX8_count 119 = .ok (.getfield 180, 3) := by decide +kernel
theorem dX8_count_122 : decode cX8_count 122 = .ok (.ireturn, 1) := by decide +kernel
theorem dX8_count_123 : decode cX8_count 123 = .ok (.aload_n 0, 1) := by decide +kernel
theorem dX8_count_124 : decode cX8_count 124 = .ok (.getfield 53, 3) := by decide +kernel
theorem dX8_count_127 : decode cX8_count 127 = .ok (.getfield 94, 3) := by decide +kernel
theorem dX8_count_130 : decode cX8_count 130 = .ok (.ireturn, 1) := by decide +kernel
theorem dX8_count_131 : decode cX8_count 131 = .ok (.aload_n 0, 1) := by decide +kernel
theorem dX8_count_132 : decode cX8_count 132 = .ok (.getfield 39, 3) := by decide +kernel
theorem dX8_count_135 : decode cX8_count 135 = .ok (.getfield 164, 3) := by decide +kernel
theorem dX8_count_138 : decode cX8_count 138 = .ok (.ireturn, 1) := by decide +kernel
theorem dX8_count_139 : decode cX8_count 139 = .ok (.aload_n 0, 1) := by decide +kernel
theorem dX8_count_140 : decode cX8_count 140 = .ok (.getfield 10, 3) := by decide +kernel
theorem dX8_count_143 : decode cX8_count 143 = .ok (.getfield 75, 3) := by decide +kernel
theorem dX8_count_146 : decode cX8_count 146 = .ok (.ireturn, 1) := by decide +kernel
theorem dX8_count_147 : decode cX8_count 147 = .ok (.bipush (-3), 2) := by decide +kernel
theorem dX8_count_149 : decode cX8_count 149 = .ok (.ireturn, 1) := by decide +kernel
theorem dX8_isShelf_0 : decode cX8_isShelf 0 = .ok (.iload_n 0, 1) := by decide +kernel
theorem dX8_isShelf_1 : decode cX8_isShelf 1 = .ok (.ifCond .lt 12, 3) := by decide +kernel
theorem dX8_isShelf_4 : decode cX8_isShelf 4 = .ok (.iload_n 0, 1) := by decide +kernel
theorem dX8_isShelf_5 : decode cX8_isShelf 5 = .ok (.iconst 2, 1) := by decide +kernel
theorem dX8_isShelf_6 : decode cX8_isShelf 6 = .ok (.if_icmp .ge 7, 3) := by decide +kernel
theorem dX8_isShelf_9 : decode cX8_isShelf 9 = .ok (.iconst 1, 1) := by decide +kernel
theorem dX8_isShelf_10 : decode cX8_isShelf 10 = .ok (.goto 4, 3) := by decide +kernel
theorem dX8_isShelf_13 : decode cX8_isShelf 13 = .ok (.iconst 0, 1) := by decide +kernel
theorem dX8_isShelf_14 : decode cX8_isShelf 14 = .ok (.ireturn, 1) := by decide +kernel
theorem dX8_isUnder_0 : decode cX8_isUnder 0 = .ok (.iload_n 1, 1) := by decide +kernel
theorem dX8_isUnder_1 : decode cX8_isUnder 1 = .ok (.ifCond .eq 10, 3) := by decide +kernel
theorem dX8_isUnder_4 : decode cX8_isUnder 4 = .ok (.iload_n 1, 1) := by decide +kernel
theorem dX8_isUnder_5 : decode cX8_isUnder 5 = .ok (.iload_n 0, 1) := by decide +kernel
theorem dX8_isUnder_6 : decode cX8_isUnder 6 = .ok (.iconst 1, 1) := by decide +kernel
theorem dX8_isUnder_7 : decode cX8_isUnder 7 = .ok (.iadd, 1) := by decide +kernel
theorem dX8_isUnder_8 : decode cX8_isUnder 8 = .ok (.if_icmp .ne 5, 3) := by decide +kernel
theorem dX8_isUnder_11 : decode cX8_isUnder 11 = .ok (.iconst 1, 1) := by decide +kernel
theorem dX8_isUnder_12 : decode cX8_isUnder 12 = .ok (.ireturn, 1) := by decide +kernel
theorem dX8_isUnder_13 : decode cX8_isUnder 13 = .ok (.iload_n 1, 1) := by decide +kernel
theorem dX8_isUnder_14 : decode cX8_isUnder 14 = .ok (.iconst 1, 1) := by decide +kernel
theorem dX8_isUnder_15 : decode cX8_isUnder 15 = .ok (.if_icmp .ne 17, 3) := by decide +kernel
theorem dX8_isUnder_18 : decode cX8_isUnder 18 = .ok (.iload_n 0, 1) := by decide +kernel
theorem dX8_isUnder_19 : decode cX8_isUnder 19 = .ok (.iconst 1, 1) := by decide +kernel
theorem dX8_isUnder_20 : decode cX8_isUnder 20 = .ok (.if_icmp .eq 8, 3) := by decide +kernel
theorem dX8_isUnder_23 : decode cX8_isUnder 23 = .ok (.iload_n 0, 1) := by decide +kernel
theorem dX8_isUnder_24 : decode cX8_isUnder 24 = .ok (.iconst 2, 1) := by decide +kernel
theorem dX8_isUnder_25 : decode cX8_isUnder 25 = .ok (.if_icmp .ne 7, 3) := by decide +kernel
theorem dX8_isUnder_28 : decode cX8_isUnder 28 = .ok (.iconst 1, 1) := by decide +kernel
theorem dX8_isUnder_29 : decode cX8_isUnder 29 = .ok (.goto 4, 3) := by decide +kernel
theorem dX8_isUnder_32 : decode cX8_isUnder 32 = .ok (.iconst 0, 1) := by decide +kernel
theorem dX8_isUnder_33 : decode cX8_isUnder 33 = .ok (.ireturn, 1) := by decide +kernel
theorem dX8_passDay_0 : decode cX8_passDay 0 = .ok (.aload_n 0, 1) := by decide +kernel
theorem dX8_passDay_1 : decode cX8_passDay 1 = .ok (.getfield 60, 3) := by decide +kernel
theorem dX8_passDay_4 : decode cX8_passDay 4 = .ok (.aload_n 0, 1) := by decide +kernel
theorem dX8_passDay_5 : decode cX8_passDay 5 = .ok (.getfield 19, 3) := by decide +kernel
theorem dX8_passDay_8 : decode cX8_passDay 8 = .ok (.aload_n 1, 1) := by decide +kernel
theorem dX8_passDay_9 : decode cX8_passDay 9 = .ok (.invokevirtual 124, 3) := by decide +kernel
theorem dX8_passDay_12 : decode cX8_passDay 12 = .ok (.aload_n 0, 1) := by decide +kernel
theorem dX8_passDay_13 : decode cX8_passDay 13 = .ok (.getfield 60, 3) := by decide +kernel
theorem dX8_passDay_16 : decode cX8_passDay 16 = .ok (.aload_n 1, 1) := by decide +kernel
theorem dX8_passDay_17 : decode cX8_passDay 17 = .ok (.iconst 0, 1) := by decide +kernel
theorem dX8_passDay_18 : decode cX8_passDay 18 = .ok (.invokevirtual 128, 3) := by decide +kernel
theorem dX8_passDay_21 : decode cX8_passDay 21 = .ok (.aload_n 0, 1) := by decide +kernel
theorem dX8_passDay_22 : decode cX8_passDay 22 = .ok (.getfield 60, 3) := by decide +kernel
theorem dX8_passDay_25 : decode cX8_passDay 25 = .ok (.invokevirtual 244, 3) := by decide +kernel
theorem dX8_passDay_28 : decode cX8_passDay 28 = .ok (.istore_n 2, 1) := by decide +kernel
theorem dX8_passDay_29 : decode cX8_passDay 29 = .ok (.aload_n 1, 1) := by decide +kernel
theorem dX8_passDay_30 : decode cX8_passDay 30 = .ok (.aload_n 0, 1) := by decide +kernel
theorem dX8_passDay_31 : decode cX8_passDay 31 = .ok (.getfield 19, 3) := by decide +kernel
theorem dX8_passDay_34 : decode cX8_passDay 34 = .ok (.iload_n 2, 1) := by decide +kernel
theorem dX8_passDay_35 : decode cX8_passDay 35 = .ok (.invokevirtual 247, 3) := by decide +kernel
theorem dX8_passDay_38 : decode cX8_passDay 38 = .ok (.iload_n 2, 1) := by decide +kernel
theorem dX8_passDay_39 : decode cX8_passDay 39 = .ok (.ireturn, 1) := by decide +kernel
theorem dX8_passTrialDays_0 : decode cX8_passTrialDays 0 = .ok (.aload_n 0, 1) := by decide +kernel
theorem dX8_passTrialDays_1 : decode cX8_passTrialDays 1 = .ok (.getfield 33, 3) := by decide +kernel
theorem dX8_passTrialDays_4 : decode cX8_passTrialDays 4 = .ok (.aload_n 0, 1) := by decide +kernel
theorem dX8_passTrialDays_5 : decode cX8_passTrialDays 5 = .ok (.getfield 29, 3) := by decide +kernel
theorem dX8_passTrialDays_8 : decode cX8_passTrialDays 8 = .ok (.invokevirtual 198, 3) := by decide +kernel
theorem dX8_passTrialDays_11 : decode cX8_passTrialDays 11 = .ok (.iconst 0, 1) := by decide +kernel
theorem dX8_passTrialDays_12 : decode cX8_passTrialDays 12 = .ok (.istore_n 2, 1) := by decide +kernel
theorem dX8_passTrialDays_13 : decode cX8_passTrialDays 13 = .ok (.iload_n 2, 1) := by decide +kernel
theorem dX8_passTrialDays_14 : decode cX8_passTrialDays 14 = .ok (.iload_n 1, 1) := by decide +kernel
theorem dX8_passTrialDays_15 : decode cX8_passTrialDays 15 = .ok (.if_icmp .ge 18, 3) := by decide +kernel
theorem dX8_passTrialDays_18 : decode cX8_passTrialDays 18 = .ok (.aload_n 0, 1) := by decide +kernel
theorem dX8_passTrialDays_19 : decode cX8_passTrialDays 19 = .ok (.aload_n 0, 1) := by decide +kernel
theorem dX8_passTrialDays_20 : decode cX8_passTrialDays 20 = .ok (.getfield 33, 3) := by decide +kernel
theorem dX8_passTrialDays_23 : decode cX8_passTrialDays 23 = .ok (.invokevirtual 150, 3) := by decide +kernel
theorem dX8_passTrialDays_26 : decode cX8_passTrialDays 26 = .ok (.pop, 1) := by decide +kernel
theorem dX8_passTrialDays_27 : decode cX8_passTrialDays 27 = .ok (.iinc 2 1, 3) := by decide +kernel
theorem dX8_passTrialDays_30 : decode cX8_passTrialDays 30 = .ok (.goto (-17), 3) := by decide +kernel
theorem dX8_passTrialDays_33 : decode cX8_passTrialDays 33 = .ok (.return_, 1) := by decide +kernel
theorem dX8_isCarriedWith_0 : decode cX8_isCarriedWith 0 = .ok (.aload_n 0, 1) := by decide +kernel
theorem dX8_isCarriedWith_1 : decode cX8_isCarriedWith 1 = .ok (.getfield 60, 3) := by decide +kernel
theorem dX8_isCarriedWith_4 : decode cX8_isCarriedWith 4 = .ok (.aload_n 0, 1) := by decide +kernel
theorem dX8_isCarriedWith_5 : decode cX8_isCarriedWith 5 = .ok (.getfield 29, 3) := by decide +kernel
theorem dX8_isCarriedWith_8 : decode cX8_isCarriedWith 8 = .ok (.iload_n 1, 1) := by decide +kernel
theorem dX8_isCarriedWith_9 : decode cX8_isCarriedWith 9 = .ok (.iload_n 2, 1) := by decide +kernel
theorem dX8_isCarriedWith_10 : decode cX8_isCarriedWith 10 = .ok (.invokevirtual 251, 3) := by decide +kernel
theorem dX8_isCarriedWith_13 : decode cX8_isCarriedWith 13 = .ok (.aload_n 0, 1) := by decide +kernel
theorem dX8_isCarriedWith_14 : decode cX8_isCarriedWith 14 = .ok (.getfield 60, 3) := by decide +kernel
theorem dX8_isCarriedWith_17 : decode cX8_isCarriedWith 17 = .ok (.invokevirtual 244, 3) := by decide +kernel
theorem dX8_isCarriedWith_20 : decode cX8_isCarriedWith 20 = .ok (.iload_n 2, 1) := by decide +kernel
theorem dX8_isCarriedWith_21 : decode cX8_isCarriedWith 21 = .ok (.if_icmp .ne 7, 3) := by decide +kernel
theorem dX8_isCarriedWith_24 : decode cX8_isCarriedWith 24 = .ok (.iconst 1, 1) := by decide +kernel
theorem dX8_isCarriedWith_25 : decode cX8_isCarriedWith 25 = .ok (.goto 4, 3) := by decide +kernel
theorem dX8_isCarriedWith_28 : decode cX8_isCarriedWith 28 = .ok (.iconst 0, 1) := by decide +kernel
theorem dX8_isCarriedWith_29 : decode cX8_isCarriedWith 29 = .ok (.ireturn, 1) := by decide +kernel
theorem dX8_isAllSeenInTrial_0 : decode cX8_isAllSeenInTrial 0 = .ok (.aload_n 0, 1) := by decide +kernel
theorem dX8_isAllSeenInTrial_1 : decode cX8_isAllSeenInTrial 1 = .ok (.getfield 53, 3) := by decide +kernel
theorem dX8_isAllSeenInTrial_4 : decode cX8_isAllSeenInTrial 4 = .ok (.invokevirtual 255, 3) := by decide +kernel
theorem dX8_isAllSeenInTrial_7 : decode cX8_isAllSeenInTrial 7 = .ok (.istore_n 1, 1) := by decide +kernel
theorem dX8_isAllSeenInTrial_8 : decode cX8_isAllSeenInTrial 8 = .ok (.iconst 1, 1) := by decide +kernel
theorem dX8_isAllSeenInTrial_9 : decode cX8_isAllSeenInTrial 9 = .ok (.istore_n 2, 1) := by decide +kernel
theorem dX8_isAllSeenInTrial_10 : decode cX8_isAllSeenInTrial 10 = .ok (.iload_n 2, 1) := by decide +kernel
theorem dX8_isAllSeenInTrial_11 : decode cX8_isAllSeenInTrial 11 = .ok (.iload_n 1, 1) := by decide +kernel
theorem dX8_isAllSeenInTrial_12 : decode cX8_isAllSeenInTrial 12 = .ok (.if_icmp .gt 30, 3) := by decide +kernel
theorem dX8_isAllSeenInTrial_15 : decode cX8_isAllSeenInTrial 15 = .ok (.aload_n 0, 1) := by decide +kernel
theorem dX8_isAllSeenInTrial_16 : decode cX8_isAllSeenInTrial 16 = .ok (.getfield 53, 3) := by decide +kernel
theorem dX8_isAllSeenInTrial_19 : decode cX8_isAllSeenInTrial 19 = .ok (.aload_n 0, 1) := by decide +kernel
theorem dX8_isAllSeenInTrial_20 : decode cX8_isAllSeenInTrial 20 = .ok (.aload_n 0, 1) := by decide +kernel
theorem dX8_isAllSeenInTrial_21 : decode cX8_isAllSeenInTrial 21 = .ok (.getfield 33, 3) := by decide +kernel
theorem dX8_isAllSeenInTrial_24 : decode cX8_isAllSeenInTrial 24 = .ok (.invokevirtual 150, 3) := by decide +kernel
theorem dX8_isAllSeenInTrial_27 : decode cX8_isAllSeenInTrial 27 = .ok (.iload_n 2, 1) := by decide +kernel
theorem dX8_isAllSeenInTrial_28 : decode cX8_isAllSeenInTrial 28 = .ok (.invokevirtual 258, 3) := by decide +kernel
theorem dX8_isAllSeenInTrial_31 : decode cX8_isAllSeenInTrial 31 = .ok (.ifCond .ne 5, 3) := by decide +kernel
theorem dX8_isAllSeenInTrial_34 : decode cX8_isAllSeenInTrial 34 = .ok (.iconst 0, 1) := by decide +kernel
theorem dX8_isAllSeenInTrial_35 : decode cX8_isAllSeenInTrial 35 = .ok (.ireturn, 1) := by decide +kernel
theorem dX8_isAllSeenInTrial_36 : decode cX8_isAllSeenInTrial 36 = .ok (.iinc 2 1, 3) := by decide +kernel
theorem dX8_isAllSeenInTrial_39 : decode cX8_isAllSeenInTrial 39 = .ok (.goto (-29), 3) := by decide +kernel
theorem dX8_isAllSeenInTrial_42 : decode cX8_isAllSeenInTrial 42 = .ok (.iconst 1, 1) := by decide +kernel
theorem dX8_isAllSeenInTrial_43 : decode cX8_isAllSeenInTrial 43 = .ok (.ireturn, 1) := by decide +kernel
theorem dX8_weightOfCarried_0 : decode cX8_weightOfCarried 0 = .ok (.lconst 0, 1) := by decide +kernel
theorem dX8_weightOfCarried_1 : decode cX8_weightOfCarried 1 = .ok (.lstore_n 3, 1) := by decide +kernel
theorem dX8_weightOfCarried_2 : decode cX8_weightOfCarried 2 = .ok (.aload_n 0, 1) := by decide +kernel
theorem dX8_weightOfCarried_3 : decode cX8_weightOfCarried 3 = .ok (.getfield 60, 3) := by decide +kernel
theorem dX8_weightOfCarried_6 : decode cX8_weightOfCarried 6 = .ok (.aload_n 0, 1) := by decide +kernel
theorem dX8_weightOfCarried_7 : decode cX8_weightOfCarried 7 = .ok (.getfield 19, 3) := by decide +kernel
theorem dX8_weightOfCarried_10 : decode cX8_weightOfCarried 10 = .ok (.aload_n 0, 1) := by decide +kernel
theorem dX8_weightOfCarried_11 : decode cX8_weightOfCarried 11 = .ok (.getfield 29, 3) := by decide +kernel
theorem dX8_weightOfCarried_14 : decode cX8_weightOfCarried 14 = .ok (.invokevirtual 124, 3) := by decide +kernel
theorem dX8_weightOfCarried_17 : decode cX8_weightOfCarried 17 = .ok (.iconst 0, 1) := by decide +kernel
theorem dX8_weightOfCarried_18 : decode cX8_weightOfCarried 18 = .ok (.istore 5, 2) := by decide +kernel
theorem dX8_weightOfCarried_20 : decode cX8_weightOfCarried 20 = .ok (.iload 5, 2) := by decide +kernel
theorem dX8_weightOfCarried_22 : decode cX8_weightOfCarried 22 = .ok (.iconst 1, 1) := by decide +kernel
theorem dX8_weightOfCarried_23 : decode cX8_weightOfCarried 23 = .ok (.aload_n 0, 1) := by decide +kernel
theorem dX8_weightOfCarried_24 : decode cX8_weightOfCarried 24 = .ok (.getfield 19, 3) := by decide +kernel
theorem dX8_weightOfCarried_27 : decode cX8_weightOfCarried 27 = .ok (.getfield 187, 3) := by decide +kernel
theorem dX8_weightOfCarried_30 : decode cX8_weightOfCarried 30 = .ok (.ishl, 1) := by decide +kernel
theorem dX8_weightOfCarried_31 : decode cX8_weightOfCarried 31 = .ok (.if_icmp .ge 43, 3) := by decide +kernel
theorem dX8_weightOfCarried_34 : decode cX8_weightOfCarried 34 = .ok (.aload_n 0, 1) := by decide +kernel
theorem dX8_weightOfCarried_35 : decode cX8_weightOfCarried 35 = .ok (.getfield 60, 3) := by decide +kernel
theorem dX8_weightOfCarried_38 : decode cX8_weightOfCarried 38 = .ok (.aload_n 0, 1) := by decide +kernel
theorem dX8_weightOfCarried_39 : decode cX8_weightOfCarried 39 = .ok (.getfield 29, 3) := by decide +kernel
theorem dX8_weightOfCarried_42 : decode cX8_weightOfCarried 42 = .ok (.iload 5, 2) := by decide +kernel
theorem dX8_weightOfCarried_44 : decode cX8_weightOfCarried 44 = .ok (.invokevirtual 128, 3) := by decide +kernel
theorem dX8_weightOfCarried_47 : decode cX8_weightOfCarried 47 = .ok (.aload_n 0, 1) := by decide +kernel
theorem dX8_weightOfCarried_48 : decode cX8_weightOfCarried 48 = .ok (.getfield 60, 3) := by decide +kernel
theorem dX8_weightOfCarried_51 : decode cX8_weightOfCarried 51 = .ok (.invokevirtual 244, 3) := by decide +kernel
theorem dX8_weightOfCarried_54 : decode cX8_weightOfCarried 54 = .ok (.iload_n 1, 1) := by decide +kernel
theorem dX8_weightOfCarried_55 : decode cX8_weightOfCarried 55 = .ok (.if_icmp .ne 13, 3) := by decide +kernel
theorem dX8_weightOfCarried_58 : decode cX8_weightOfCarried 58 = .ok (.lload_n 3, 1) := by decide +kernel
theorem dX8_weightOfCarried_59 : decode cX8_weightOfCarried 59 = .ok (.aload_n 0, 1) := by decide +kernel
theorem dX8_weightOfCarried_60 : decode cX8_weightOfCarried 60 = .ok (.iload 5, 2) := by decide +kernel
theorem dX8_weightOfCarried_62 : decode cX8_weightOfCarried 62 = .ok (.iload_n 2, 1) := by decide +kernel
theorem dX8_weightOfCarried_63 : decode cX8_weightOfCarried 63 = .ok (.invokevirtual 224, 3) := by decide +kernel
theorem dX8_weightOfCarried_66 : decode cX8_weightOfCarried 66 = .ok (.ladd, 1) := by decide +kernel
theorem dX8_weightOfCarried_67 : decode cX8_weightOfCarried 67 = .ok (.lstore_n 3, 1) := by decide +kernel
theorem dX8_weightOfCarried_68 : decode cX8_weightOfCarried 68 = .ok (.iinc 5 1, 3) := by decide +kernel
theorem dX8_weightOfCarried_71 : decode cX8_weightOfCarried 71 = .ok (.goto (-51), 3) := by decide +kernel
theorem dX8_weightOfCarried_74 : decode cX8_weightOfCarried 74 = .ok (.lload_n 3, 1) := by decide +kernel
theorem dX8_weightOfCarried_75 : decode cX8_weightOfCarried 75 = .ok (.lreturn, 1) := by decide +kernel
theorem dX8_weightOf_0 : decode cX8_weightOf 0 = .ok (.lconst 1, 1) := by decide +kernel
theorem dX8_weightOf_1 : decode cX8_weightOf 1 = .ok (.lstore_n 3, 1) := by decide +kernel
theorem dX8_weightOf_2 : decode cX8_weightOf 2 = .ok (.iconst 0, 1) := by decide +kernel
theorem dX8_weightOf_3 : decode cX8_weightOf 3 = .ok (.istore 5, 2) := by decide +kernel
theorem dX8_weightOf_5 : decode cX8_weightOf 5 = .ok (.iload 5, 2) := by decide +kernel
theorem dX8_weightOf_7 : decode cX8_weightOf 7 = .ok (.aload_n 0, 1) := by decide +kernel
theorem dX8_weightOf_8 : decode cX8_weightOf 8 = .ok (.getfield 19, 3) := by decide +kernel
theorem dX8_weightOf_11 : decode cX8_weightOf 11 = .ok (.getfield 187, 3) := by decide +kernel
theorem dX8_weightOf_14 : decode cX8_weightOf 14 = .ok (.if_icmp .ge 31, 3) := by decide +kernel
theorem dX8_weightOf_17 : decode cX8_weightOf 17 = .ok (.lload_n 3, 1) := by decide +kernel
theorem dX8_weightOf_18 : decode cX8_weightOf 18 = .ok (.iload_n 1, 1) := by decide +kernel
theorem dX8_weightOf_19 : decode cX8_weightOf 19 = .ok (.iload 5, 2) := by decide +kernel
theorem dX8_weightOf_21 : decode cX8_weightOf 21 = .ok (.ishr, 1) := by decide +kernel
theorem dX8_weightOf_22 : decode cX8_weightOf 22 = .ok (.iconst 1, 1) := by decide +kernel
theorem dX8_weightOf_23 : decode cX8_weightOf 23 = .ok (.iand, 1) := by decide +kernel
theorem dX8_weightOf_24 : decode cX8_weightOf 24 = .ok (.ifCond .eq 8, 3) := by decide +kernel
theorem dX8_weightOf_27 : decode cX8_weightOf 27 = .ok (.iload_n 2, 1) := by decide +kernel
theorem dX8_weightOf_28 : decode cX8_weightOf 28 = .ok (.i2l, 1) := by decide +kernel
theorem dX8_weightOf_29 : decode cX8_weightOf 29 = .ok (.goto 8, 3) := by decide +kernel
theorem dX8_weightOf_32 : decode cX8_weightOf 32 = .ok (.bipush 10, 2) := by decide +kernel
theorem dX8_weightOf_34 : decode cX8_weightOf 34 = .ok (.iload_n 2, 1) := by decide +kernel
theorem dX8_weightOf_35 : decode cX8_weightOf 35 = .ok (.isub, 1) := by decide +kernel
theorem dX8_weightOf_36 : decode cX8_weightOf 36 = .ok (.i2l, 1) := by decide +kernel
theorem dX8_weightOf_37 : decode cX8_weightOf 37 = .ok (.lmul, 1) := by decide +kernel
theorem dX8_weightOf_38 : decode cX8_weightOf 38 = .ok (.lstore_n 3, 1) := by decide +kernel
theorem dX8_weightOf_39 : decode cX8_weightOf 39 = .ok (.iinc 5 1, 3) := by decide +kernel
theorem dX8_weightOf_42 : decode cX8_weightOf 42 = .ok (.goto (-37), 3) := by decide +kernel
theorem dX8_weightOf_45 : decode cX8_weightOf 45 = .ok (.lload_n 3, 1) := by decide +kernel
theorem dX8_weightOf_46 : decode cX8_weightOf 46 = .ok (.lreturn, 1) := by decide +kernel
theorem dX8_commonDivisor_0 : decode cX8_commonDivisor 0 = .ok (.lload_n 0, 1) := by decide +kernel
theorem dX8_commonDivisor_1 : decode cX8_commonDivisor 1 = .ok (.lstore 4, 2) := by decide +kernel
theorem dX8_commonDivisor_3 : decode cX8_commonDivisor 3 = .ok (.lload_n 2, 1) := by decide +kernel
theorem dX8_commonDivisor_4 : decode cX8_commonDivisor 4 = .ok (.lstore 6, 2) := by decide +kernel
theorem dX8_commonDivisor_6 : decode cX8_commonDivisor 6 = .ok (.iconst 0, 1) := by decide +kernel
theorem dX8_commonDivisor_7 : decode cX8_commonDivisor 7 = .ok (.istore 8, 2) := by decide +kernel
theorem dX8_commonDivisor_9 : decode cX8_commonDivisor 9 = .ok (.iload 8, 2) := by decide +kernel
theorem dX8_commonDivisor_11 : decode cX8_commonDivisor 11 = .ok (.bipush 100, 2) := by decide +kernel
theorem dX8_commonDivisor_13 : decode cX8_commonDivisor 13 = .ok (.if_icmp .ge 31, 3) := by decide +kernel
theorem dX8_commonDivisor_16 : decode cX8_commonDivisor 16 = .ok (.lload 6, 2) := by decide +kernel
theorem dX8_commonDivisor_18 : decode cX8_commonDivisor 18 = .ok (.lconst 0, 1) := by decide +kernel
theorem dX8_commonDivisor_19 : decode cX8_commonDivisor 19 = .ok (.lcmp, 1) := by decide +kernel
theorem dX8_commonDivisor_20 : decode cX8_commonDivisor 20 = .ok (.ifCond .eq 24, 3) := by decide +kernel
theorem dX8_commonDivisor_23 : decode cX8_commonDivisor 23 = .ok (.lload 4, 2) := by decide +kernel
theorem dX8_commonDivisor_25 : decode cX8_commonDivisor 25 = .ok (.lload 6, 2) := by decide +kernel
theorem dX8_commonDivisor_27 : decode cX8_commonDivisor 27 = .ok (.lrem, 1) := by decide +kernel
theorem dX8_commonDivisor_28 : decode cX8_commonDivisor 28 = .ok (.lstore 9, 2) := by decide +kernel
theorem dX8_commonDivisor_30 : decode cX8_commonDivisor 30 = .ok (.lload 6, 2) := by decide +kernel
theorem dX8_commonDivisor_32 : decode cX8_commonDivisor 32 = .ok (.lstore 4, 2) := by decide +kernel
theorem dX8_commonDivisor_34 : decode cX8_commonDivisor 34 = .ok (.lload 9, 2) := by decide +kernel
theorem dX8_commonDivisor_36 : decode cX8_commonDivisor 36 = .ok (.lstore 6, 2) := by decide +kernel
theorem dX8_commonDivisor_38 : decode cX8_commonDivisor 38 = .ok (.iinc 8 1, 3) := by decide +kernel
theorem dX8_commonDivisor_41 : decode cX8_commonDivisor 41 = .ok (.goto (-32), 3) := by decide +kernel
theorem dX8_commonDivisor_44 : decode cX8_commonDivisor 44 = .ok (.lload 4, 2) := by decide +kernel
theorem dX8_commonDivisor_46 : decode cX8_commonDivisor 46 = .ok (.lreturn, 1) := by decide +kernel
theorem dX9_init_0 : decode cX9_init 0 = .ok (.aload_n 0, 1) := by decide +kernel
theorem dX9_init_1 : decode cX9_init 1 = .ok (.invokespecial 1, 3) := by decide +kernel
theorem dX9_init_4 : decode cX9_init 4 = .ok (.aload_n 0, 1) := by decide +kernel
theorem dX9_init_5 : decode cX9_init 5 = .ok (.sipush 160, 3) := by decide +kernel
theorem dX9_init_8 : decode cX9_init 8 = .ok (.newarray .int, 2) := by decide +kernel
theorem dX9_init_10 : decode cX9_init 10 = .ok (.putfield 7, 3) := by decide +kernel
theorem dX9_init_13 : decode cX9_init 13 = .ok (.aload_n 0, 1) := by decide +kernel
theorem dX9_init_14 : decode cX9_init 14 = .ok (.bipush 43, 2) := by decide +kernel
theorem dX9_init_16 : decode cX9_init 16 = .ok (.newarray .int, 2) := by decide +kernel
theorem dX9_init_18 : decode cX9_init 18 = .ok (.putfield 13, 3) := by decide +kernel
theorem dX9_init_21 : decode cX9_init 21 = .ok (.aload_n 0, 1) := by decide +kernel
theorem dX9_init_22 : decode cX9_init 22 = .ok (.bipush 43, 2) := by decide +kernel
theorem dX9_init_24 : decode cX9_init 24 = .ok (.newarray .int, 2) := by decide +kernel
theorem dX9_init_26 : decode cX9_init 26 = .ok (.putfield 16, 3) := by decide +kernel
theorem dX9_init_29 : decode cX9_init 29 = .ok (.aload_n 0, 1) := by decide +kernel
theorem dX9_init_30 : decode cX9_init 30 = .ok (.bipush 18, 2) := by decide +kernel
theorem dX9_init_32 : decode cX9_init 32 = .ok (.newarray .int, 2) := by decide +kernel
theorem dX9_init_34 : decode cX9_init 34 = .ok (.putfield 19, 3) := by decide +kernel
theorem dX9_init_37 : decode cX9_init 37 = .ok (.aload_n 0, 1) := by decide +kernel
theorem dX9_init_38 : decode cX9_init 38 = .ok (.sipush 144, 3) := by decide +kernel
theorem dX9_init_41 : decode cX9_init 41 = .ok (.newarray .int, 2) := by decide +kernel
theorem dX9_init_43 : decode cX9_init 43 = .ok (.putfield 22, 3) := by decide +kernel
theorem dX9_init_46 : decode cX9_init 46 = .ok (.aload_n 0, 1) := by decide +kernel
theorem dX9_init_47 : decode cX9_init 47 = .ok (.bipush 36, 2) := by decide +kernel
theorem dX9_init_49 : decode cX9_init 49 = .ok (.newarray .int, 2) := by decide +kernel
theorem dX9_init_51 : decode cX9_init 51 = .ok (.putfield 25, 3) := by decide +kernel
theorem dX9_init_54 : decode cX9_init 54 = .ok (.aload_n 0, 1) := by decide +kernel
theorem dX9_init_55 : decode cX9_init 55 = .ok (.iconst 2, 1) := by decide +kernel
theorem dX9_init_56 : decode cX9_init 56 = .ok (.newarray .boolean, 2) := by decide +kernel
theorem dX9_init_58 : decode cX9_init 58 = .ok (.putfield 28, 3) := by decide +kernel
theorem dX9_init_61 : decode cX9_init 61 = .ok (.aload_n 0, 1) := by decide +kernel
theorem dX9_init_62 : decode cX9_init 62 = .ok (.bipush 6, 2) := by decide +kernel
theorem dX9_init_64 : decode cX9_init 64 = .ok (.newarray .int, 2) := by decide +kernel
theorem dX9_init_66 : decode cX9_init 66 = .ok (.putfield 32, 3) := by decide +kernel
theorem dX9_init_69 : decode cX9_init 69 = .ok (.aload_n 0, 1) := by decide +kernel
theorem dX9_init_70 : decode cX9_init 70 = .ok (.bipush 8, 2) := by decide +kernel
theorem dX9_init_72 : decode cX9_init 72 = .ok (.newarray .int, 2) := by decide +kernel
theorem dX9_init_74 : decode cX9_init 74 = .ok (.putfield 35, 3) := by decide +kernel
theorem dX9_init_77 : decode cX9_init 77 = .ok (.aload_n 0, 1) := by decide +kernel
theorem dX9_init_78 : decode cX9_init 78 = .ok (.iconst (-1), 1) := by decide +kernel
theorem dX9_init_79 : decode cX9_init 79 = .ok (.putfield 38, 3) := by decide +kernel
theorem dX9_init_82 : decode cX9_init 82 = .ok (.aload_n 0, 1) := by decide +kernel
theorem dX9_init_83 : decode cX9_init 83 = .ok (.bipush 18, 2) := by decide +kernel
theorem dX9_init_85 : decode cX9_init 85 = .ok (.newarray .int, 2) := by decide +kernel
theorem dX9_init_87 : decode cX9_init 87 = .ok (.putfield 42, 3) := by decide +kernel
theorem dX9_init_90 : decode cX9_init 90 = .ok (.aload_n 0, 1) := by decide +kernel
theorem dX9_init_91 : decode cX9_init 91 = .ok (.invokevirtual 45, 3) := by decide +kernel
theorem dX9_init_94 : decode cX9_init 94 = .ok (.iconst 0, 1) := by decide +kernel
theorem dX9_init_95 : decode cX9_init 95 = .ok (.istore_n 1, 1) := by decide +kernel
theorem dX9_init_96 : decode cX9_init 96 = .ok (.iload_n 1, 1) := by decide +kernel
theorem dX9_init_97 : decode cX9_init 97 = .ok (.bipush 43, 2) := by decide +kernel
theorem dX9_init_99 : decode cX9_init 99 = .ok (.if_icmp .ge 21, 3) := by decide +kernel
theorem dX9_init_102 : decode cX9_init 102 = .ok (.aload_n 0, 1) := by decide +kernel
theorem dX9_init_103 : decode cX9_init 103 = .ok (.getfield 13, 3) := by decide +kernel
theorem dX9_init_106 : decode cX9_init 106 = .ok (.iload_n 1, 1) := by decide +kernel
theorem dX9_init_107 : decode cX9_init 107 = .ok (.aload_n 0, 1) := by decide +kernel
theorem dX9_init_108 : decode cX9_init 108 = .ok (.getfield 16, 3) := by decide +kernel
theorem dX9_init_111 : decode cX9_init 111 = .ok (.iload_n 1, 1) := by decide +kernel
theorem dX9_init_112 : decode cX9_init 112 = .ok (.iaload, 1) := by decide +kernel
theorem dX9_init_113 : decode cX9_init 113 = .ok (.iastore, 1) := by decide +kernel
theorem dX9_init_114 : decode cX9_init 114 = .ok (.iinc 1 1, 3) := by decide +kernel
theorem dX9_init_117 : decode cX9_init 117 = .ok (.goto (-21), 3) := by decide +kernel
theorem dX9_init_120 : decode cX9_init 120 = .ok (.aload_n 0, 1) := by decide +kernel
theorem dX9_init_121 : decode cX9_init 121 = .ok (.invokevirtual 48, 3) := by decide +kernel
theorem dX9_init_124 : decode cX9_init 124 = .ok (.return_, 1) := by decide +kernel
theorem dX9_in_0 : decode cX9_in 0 = .ok (.iload_n 0, 1) := by decide +kernel
theorem dX9_in_1 : decode cX9_in 1 = .ok (.iload_n 1, 1) := by decide +kernel
theorem dX9_in_2 : decode cX9_in 2 = .ok (.if_icmp .lt 12, 3) := by decide +kernel
theorem dX9_in_5 : decode cX9_in 5 = .ok (.iload_n 0, 1) := by decide +kernel
theorem dX9_in_6 : decode cX9_in 6 = .ok (.iload_n 2, 1) := by decide +kernel
theorem dX9_in_7 : decode cX9_in 7 = .ok (.if_icmp .gt 7, 3) := by decide +kernel
theorem dX9_in_10 : decode cX9_in 10 = .ok (.iconst 1, 1) := by decide +kernel
theorem dX9_in_11 : decode cX9_in 11 = .ok (.goto 4, 3) := by decide +kernel
theorem dX9_in_14 : decode cX9_in 14 = .ok (.iconst 0, 1) := by decide +kernel
theorem dX9_in_15 : decode cX9_in 15 = .ok (.ireturn, 1) := by decide +kernel
theorem dX9_isStreet_0 : decode cX9_isStreet 0 = .ok (.iload_n 1, 1) := by decide +kernel
theorem dX9_isStreet_1 : decode cX9_isStreet 1 = .ok (.iconst 0, 1) := by decide +kernel
theorem dX9_isStreet_2 : decode cX9_isStreet 2 = .ok (.aload_n 0, 1) := by decide +kernel
theorem dX9_isStreet_3 : decode cX9_isStreet 3 = .ok (.getfield 13, 3) := by decide +kernel
theorem dX9_isStreet_6 : decode cX9_isStreet 6 = .ok (.iconst 0, 1) := by decide +kernel
theorem dX9_isStreet_7 : decode cX9_isStreet 7 = .ok (.iaload, 1) := by decide +kernel
theorem dX9_isStreet_8 : decode cX9_isStreet 8 = .ok (.iconst 1, 1) := by decide +kernel
theorem dX9_isStreet_9 : decode cX9_isStreet 9 = .ok (.isub, 1) := by decide +kernel
theorem dX9_isStreet_10 : decode cX9_isStreet 10 = .ok (.invokestatic 51, 3) := by decide +kernel
theorem dX9_isStreet_13 : decode cX9_isStreet 13 = .ok (.ireturn, 1) := by decide +kernel
theorem dX9_write_0 : decode cX9_write 0 = .ok (.iload_n 1, 1) := by decide +kernel
theorem dX9_write_1 : decode cX9_write 1 = .ok (.iconst 0, 1) := by decide +kernel
theorem dX9_write_2 : decode cX9_write 2 = .ok (.sipush 255, 3) := by decide +kernel
theorem dX9_write_5 : decode cX9_write 5 = .ok (.invokestatic 51, 3) := by decide +kernel
theorem dX9_write_8 : decode cX9_write 8 = .ok (.ifCond .ne 6, 3) := by decide +kernel
theorem dX9_write_11 : decode cX9_write 11 = .ok (.bipush (-3), 2) := by decide +kernel
theorem dX9_write_13 : decode cX9_write 13 = .ok (.ireturn, 1) := by decide +kernel
theorem dX9_write_14 : decode cX9_write 14 = .ok (.aload_n 0, 1) := by decide +kernel
theorem dX9_write_15 : decode cX9_write 15 = .ok (.getfield 55, 3) := by decide +kernel
theorem dX9_write_18 : decode cX9_write 18 = .ok (.sipush 160, 3) := by decide +kernel
theorem dX9_write_21 : decode cX9_write 21 = .ok (.if_icmp .ne 6, 3) := by decide +kernel
theorem dX9_write_24 : decode cX9_write 24 = .ok (.bipush (-5), 2) := by decide +kernel
theorem dX9_write_26 : decode cX9_write 26 = .ok (.ireturn, 1) := by decide +kernel
theorem dX9_write_27 : decode cX9_write 27 = .ok (.aload_n 0, 1) := by decide +kernel
theorem dX9_write_28 : decode cX9_write 28 = .ok (.getfield 7, 3) := by decide +kernel
theorem dX9_write_31 : decode cX9_write 31 = .ok (.aload_n 0, 1) := by decide +kernel
theorem dX9_write_32 : decode cX9_write 32 = .ok (.getfield 55, 3) := by decide +kernel
theorem dX9_write_35 : decode cX9_write 35 = .ok (.iload_n 1, 1) := by decide +kernel
theorem dX9_write_36 : decode cX9_write 36 = .ok (.iastore, 1) := by decide +kernel
theorem dX9_write_37 : decode cX9_write 37 = .ok (.aload_n 0, 1) := by decide +kernel
theorem dX9_write_38 : decode cX9_write 38 = .ok (.dup, 1) := by decide +kernel
theorem dX9_write_39 : decode cX9_write 39 = .ok (.getfield 55, 3) := by decide +kernel
theorem dX9_write_42 : decode cX9_write 42 = .ok (.iconst 1, 1) := by decide +kernel
theorem dX9_write_43 : decode cX9_write 43 = .ok (.iadd, 1) := by decide +kernel
theorem dX9_write_44 : decode cX9_write 44 = .ok (.putfield 55, 3) := by decide +kernel
theorem dX9_write_47 : decode cX9_write 47 = .ok (.aload_n 0, 1) := by decide +kernel
theorem dX9_write_48 : decode cX9_write 48 = .ok (.getfield 55, 3) := by decide +kernel
theorem dX9_write_51 : decode cX9_write 51 = .ok (.ireturn, 1) := by decide +kernel
theorem dX9_erase_0 : decode cX9_erase 0 = .ok (.aload_n 0, 1) := by decide +kernel
theorem dX9_erase_1 : decode cX9_erase 1 = .ok (.getfield 55, 3) := by decide +kernel
theorem dX9_erase_4 : decode cX9_erase 4 = .ok (.istore_n 1, 1) := by decide +kernel
theorem dX9_erase_5 : decode cX9_erase 5 = .ok (.aload_n 0, 1) := by decide +kernel
theorem dX9_erase_6 : decode cX9_erase 6 = .ok (.iconst 0, 1) := by decide +kernel
theorem dX9_erase_7 : decode cX9_erase 7 = .ok (.putfield 55, 3) := by decide +kernel
theorem dX9_erase_10 : decode cX9_erase 10 = .ok (.iload_n 1, 1) := by decide +kernel
theorem dX9_erase_11 : decode cX9_erase 11 = .ok (.ireturn, 1) := by decide +kernel
theorem dX9_letterAt_0 : decode cX9_letterAt 0 = .ok (.iload_n 1, 1) := by decide +kernel
theorem dX9_letterAt_1 : decode cX9_letterAt 1 = .ok (.aload_n 0, 1) := by decide +kernel
theorem dX9_letterAt_2 : decode cX9_letterAt 2 = .ok (.getfield 55, 3) := by decide +kernel
theorem dX9_letterAt_5 : decode cX9_letterAt 5 = .ok (.if_icmp .ge 12, 3) := by decide +kernel
theorem dX9_letterAt_8 : decode cX9_letterAt 8 = .ok (.aload_n 0, 1) := by decide +kernel
theorem dX9_letterAt_9 : decode cX9_letterAt 9 = .ok (.getfield 7, 3) := by decide +kernel
theorem dX9_letterAt_12 : decode cX9_letterAt 12 = .ok (.iload_n 1, 1) := by decide +kernel
theorem dX9_letterAt_13 : decode cX9_letterAt 13 = .ok (.iaload, 1) := by decide +kernel
theorem dX9_letterAt_14 : decode cX9_letterAt 14 = .ok (.goto 4, 3) := by decide +kernel
theorem dX9_letterAt_17 : decode cX9_letterAt 17 = .ok (.iconst (-1), 1) := by decide +kernel
theorem dX9_letterAt_18 : decode cX9_letterAt 18 = .ok (.ireturn, 1) := by decide +kernel
theorem dX9_isLetter_0 : decode cX9_isLetter 0 = .ok (.iload_n 0, 1) := by decide +kernel
theorem dX9_isLetter_1 : decode cX9_isLetter 1 = .ok (.bipush 97, 2) := by decide +kernel
theorem dX9_isLetter_3 : decode cX9_isLetter 3 = .ok (.bipush 122, 2) := by decide +kernel
theorem dX9_isLetter_5 : decode cX9_isLetter 5 = .ok (.invokestatic 51, 3) := by decide +kernel
theorem dX9_isLetter_8 : decode cX9_isLetter 8 = .ok (.ireturn, 1) := by decide +kernel
theorem dX9_isDigit_0 : decode cX9_isDigit 0 = .ok (.iload_n 0, 1) := by decide +kernel
theorem dX9_isDigit_1 : decode cX9_isDigit 1 = .ok (.bipush 48, 2) := by decide +kernel
end
section
theorem dX9_isDigit_3 : decode cX9_isDigit 3 = .ok (.bipush 57, 2) := by decide +kernel
theorem dX9_isDigit_5 : decode cX9_isDigit 5 = .ok (.invokestatic 51, 3) := by decide +kernel
theorem dX9_isDigit_8 : decode cX9_isDigit 8 = .ok (.ireturn, 1) := by decide +kernel
theorem dX9_token_0 : decode cX9_token 0 = .ok (.aload_n 0, 1) := by decide +kernel
theorem dX9_token_1 : decode cX9_token 1 = .ok (.aload_n 0, 1) := by decide +kernel
theorem dX9_token_2 : decode cX9_token 2 = .ok (.getfield 58, 3) := by decide +kernel
theorem dX9_token_5 : decode cX9_token 5 = .ok (.invokevirtual 61, 3) := by decide +kernel
theorem dX9_token_8 : decode cX9_token 8 = .ok (.bipush 32, 2) := by decide +kernel
theorem dX9_token_10 : decode cX9_token 10 = .ok (.if_icmp .ne 16, 3) := by decide +kernel
theorem dX9_token_13 : decode cX9_token 13 = .ok (.aload_n 0, 1) := by decide +kernel
theorem dX9_token_14 : decode cX9_token 14 = .ok (.dup, 1) := by decide +kernel
theorem dX9_token_15 : decode cX9_token 15 = .ok (.getfield 58, 3) := by decide +kernel
theorem dX9_token_18 : decode cX9_token 18 = .ok (.iconst 1, 1) := by decide +kernel
theorem dX9_token_19 : decode cX9_token 19 = .ok (.iadd, 1) := by decide +kernel
theorem dX9_token_20 : decode cX9_token 20 = .ok (.putfield 58, 3) := by decide +kernel
theorem dX9_token_23 : decode cX9_token 23 = .ok (.goto (-23), 3) := by decide +kernel
theorem dX9_token_26 : decode cX9_token 26 = .ok (.aload_n 0, 1) := by decide +kernel
theorem dX9_token_27 : decode cX9_token 27 = .ok (.aload_n 0, 1) := by decide +kernel
theorem dX9_token_28 : decode cX9_token 28 = .ok (.getfield 58, 3) := by decide +kernel
theorem dX9_token_31 : decode cX9_token 31 = .ok (.putfield 65, 3) := by decide +kernel
theorem dX9_token_34 : decode cX9_token 34 = .ok (.aload_n 0, 1) := by decide +kernel
theorem dX9_token_35 : decode cX9_token 35 = .ok (.aload_n 0, 1) := by decide +kernel
theorem dX9_token_36 : decode cX9_token 36 = .ok (.getfield 58, 3) := by decide +kernel
theorem dX9_token_39 : decode cX9_token 39 = .ok (.invokevirtual 61, 3) := by decide +kernel
theorem dX9_token_42 : decode cX9_token 42 = .ok (.istore_n 1, 1) := by decide +kernel
theorem dX9_token_43 : decode cX9_token 43 = .ok (.aload_n 0, 1) := by decide +kernel
theorem dX9_token_44 : decode cX9_token 44 = .ok (.iload_n 1, 1) := by decide +kernel
theorem dX9_token_45 : decode cX9_token 45 = .ok (.ifCond .ge 7, 3) := by decide +kernel
theorem dX9_token_48 : decode cX9_token 48 = .ok (.iconst 0, 1) := by decide +kernel
theorem dX9_token_49 : decode cX9_token 49 = .ok (.goto 26, 3) := by decide +kernel
theorem dX9_token_52 : decode cX9_token 52 = .ok (.iload_n 1, 1) := by decide +kernel
theorem dX9_token_53 : decode cX9_token 53 = .ok (.invokestatic 68, 3) := by decide +kernel
theorem dX9_token_56 : decode cX9_token 56 = .ok (.ifCond .eq 7, 3) := by decide +kernel
theorem dX9_token_59 : decode cX9_token 59 = .ok (.iconst 1, 1) := by decide +kernel
theorem dX9_token_60 : decode cX9_token 60 = .ok (.goto 15, 3) := by decide +kernel
theorem dX9_token_63 : decode cX9_token 63 = .ok (.iload_n 1, 1) := by decide +kernel
theorem dX9_token_64 : decode cX9_token 64 = .ok (.invokestatic 72, 3) := by decide +kernel
theorem dX9_token_67 : decode cX9_token 67 = .ok (.ifCond .eq 7, 3) := by decide +kernel
theorem dX9_token_70 : decode cX9_token 70 = .ok (.iconst 2, 1) := by decide +kernel
theorem dX9_token_71 : decode cX9_token 71 = .ok (.goto 4, 3) := by decide +kernel
theorem dX9_token_74 : decode cX9_token 74 = .ok (.iconst 3, 1) := by decide +kernel
theorem dX9_token_75 : decode cX9_token 75 = .ok (.putfield 75, 3) := by decide +kernel
theorem dX9_token_78 : decode cX9_token 78 = .ok (.aload_n 0, 1) := by decide +kernel
theorem dX9_token_79 : decode cX9_token 79 = .ok (.iconst 0, 1) := by decide +kernel
theorem dX9_token_80 : decode cX9_token 80 = .ok (.putfield 78, 3) := by decide +kernel
theorem dX9_token_83 : decode cX9_token 83 = .ok (.aload_n 0, 1) := by decide +kernel
theorem dX9_token_84 : decode cX9_token 84 = .ok (.getfield 75, 3) := by decide +kernel
theorem dX9_token_87 : decode cX9_token 87 = .ok (.iconst 1, 1) := by decide +kernel
theorem dX9_token_88 : decode cX9_token 88 = .ok (.if_icmp .ne 30, 3) := by decide +kernel
theorem dX9_token_91 : decode cX9_token 91 = .ok (.aload_n 0, 1) := by decide +kernel
theorem dX9_token_92 : decode cX9_token 92 = .ok (.aload_n 0, 1) := by decide +kernel
theorem dX9_token_93 : decode cX9_token 93 = .ok (.getfield 58, 3) := by decide +kernel
theorem dX9_token_96 : decode cX9_token 96 = .ok (.invokevirtual 61, 3) := by decide +kernel
theorem dX9_token_99 : decode cX9_token 99 = .ok (.invokestatic 68, 3) := by decide +kernel
theorem dX9_token_102 : decode cX9_token 102 = .ok (.ifCond .eq 16, 3) := by decide +kernel
theorem dX9_token_105 : decode cX9_token 105 = .ok (.aload_n 0, 1) := by decide +kernel
theorem dX9_token_106 : decode cX9_token 106 = .ok (.dup, 1) := by decide +kernel
theorem dX9_token_107 : decode cX9_token 107 = .ok (.getfield 58, 3) := by decide +kernel
theorem dX9_token_110 : decode cX9_token 110 = .ok (.iconst 1, 1) := by decide +kernel
theorem dX9_token_111 : decode cX9_token 111 = .ok (.iadd, 1) := by decide +kernel
theorem dX9_token_112 : decode cX9_token 112 = .ok (.putfield 58, 3) := by decide +kernel
theorem dX9_token_115 : decode cX9_token 115 = .ok (.goto (-32), 3) := by decide +kernel
theorem dX9_token_118 : decode cX9_token 118 = .ok (.aload_n 0, 1) := by decide +kernel
theorem dX9_token_119 : decode cX9_token 119 = .ok (.getfield 75, 3) := by decide +kernel
theorem dX9_token_122 : decode cX9_token 122 = .ok (.iconst 2, 1) := by decide +kernel
theorem dX9_token_123 : decode cX9_token 123 = .ok (.if_icmp .ne 72, 3) := by decide +kernel
theorem dX9_token_126 : decode cX9_token 126 = .ok (.aload_n 0, 1) := by decide +kernel
theorem dX9_token_127 : decode cX9_token 127 = .ok (.aload_n 0, 1) := by decide +kernel
theorem dX9_token_128 : decode cX9_token 128 = .ok (.getfield 58, 3) := by decide +kernel
theorem dX9_token_131 : decode cX9_token 131 = .ok (.invokevirtual 61, 3) := by decide +kernel
theorem dX9_token_134 : decode cX9_token 134 = .ok (.invokestatic 72, 3) := by decide +kernel
theorem dX9_token_137 : decode cX9_token 137 = .ok (.ifCond .eq 58, 3) := by decide +kernel
theorem dX9_token_140 : decode cX9_token 140 = .ok (.aload_n 0, 1) := by decide +kernel
theorem dX9_token_141 : decode cX9_token 141 = .ok (.aload_n 0, 1) := by decide +kernel
theorem dX9_token_142 : decode cX9_token 142 = .ok (.getfield 58, 3) := by decide +kernel
theorem dX9_token_145 : decode cX9_token 145 = .ok (.aload_n 0, 1) := by decide +kernel
theorem dX9_token_146 : decode cX9_token 146 = .ok (.getfield 65, 3) := by decide +kernel
theorem dX9_token_149 : decode cX9_token 149 = .ok (.isub, 1) := by decide +kernel
theorem dX9_token_150 : decode cX9_token 150 = .ok (.iconst 2, 1) := by decide +kernel
theorem dX9_token_151 : decode cX9_token 151 = .ok (.if_icmp .ge 26, 3) := by decide +kernel
theorem dX9_token_154 : decode cX9_token 154 = .ok (.bipush 10, 2) := by decide +kernel
theorem dX9_token_156 : decode cX9_token 156 = .ok (.aload_n 0, 1) := by decide +kernel
theorem dX9_token_157 : decode cX9_token 157 = .ok (.getfield 78, 3) := by decide +kernel
theorem dX9_token_160 : decode cX9_token 160 = .ok (.imul, 1) := by decide +kernel
theorem dX9_token_161 : decode cX9_token 161 = .ok (.aload_n 0, 1) := by decide +kernel
theorem dX9_token_162 : decode cX9_token 162 = .ok (.getfield 7, 3) := by decide +kernel
theorem dX9_token_165 : decode cX9_token 165 = .ok (.aload_n 0, 1) := by decide +kernel
theorem dX9_token_166 : decode cX9_token 166 = .ok (.getfield 58, 3) := by decide +kernel
theorem dX9_token_169 : decode cX9_token 169 = .ok (.iaload, 1) := by decide +kernel
theorem dX9_token_170 : decode cX9_token 170 = .ok (.iadd, 1) := by decide +kernel
theorem dX9_token_171 : decode cX9_token 171 = .ok (.bipush 48, 2) := by decide +kernel
theorem dX9_token_173 : decode cX9_token 173 = .ok (.isub, 1) := by decide +kernel
theorem dX9_token_174 : decode cX9_token 174 = .ok (.goto 5, 3) := by decide +kernel
theorem dX9_token_177 : decode cX9_token 177 = .ok (.bipush 100, 2) := by decide +kernel
theorem dX9_token_179 : decode cX9_token 179 = .ok (.putfield 78, 3) := by decide +kernel
theorem dX9_token_182 : decode cX9_token 182 = .ok (.aload_n 0, 1) := by decide +kernel
theorem dX9_token_183 : decode cX9_token 183 = .ok (.dup, 1) := by decide +kernel
theorem dX9_token_184 : decode cX9_token 184 = .ok (.getfield 58, 3) := by decide +kernel
theorem dX9_token_187 : decode cX9_token 187 = .ok (.iconst 1, 1) := by decide +kernel
theorem dX9_token_188 : decode cX9_token 188 = .ok (.iadd, 1) := by decide +kernel
theorem dX9_token_189 : decode cX9_token 189 = .ok (.putfield 58, 3) := by decide +kernel
theorem dX9_token_192 : decode cX9_token 192 = .ok (.goto (-74), 3) := by decide +kernel
theorem dX9_token_195 : decode cX9_token 195 = .ok (.aload_n 0, 1) := by decide +kernel
theorem dX9_token_196 : decode cX9_token 196 = .ok (.dup, 1) := by decide +kernel
theorem dX9_token_197 : decode cX9_token 197 = .ok (.getfield 58, 3) := by decide +kernel
theorem dX9_token_200 : decode cX9_token 200 = .ok (.aload_n 0, 1) := by decide +kernel
theorem dX9_token_201 : decode cX9_token 201 = .ok (.getfield 75, 3) := by decide +kernel
theorem dX9_token_204 : decode cX9_token 204 = .ok (.iconst 3, 1) := by decide +kernel
theorem dX9_token_205 : decode cX9_token 205 = .ok (.if_icmp .ne 7, 3) := by decide +kernel
theorem dX9_token_208 : decode cX9_token 208 = .ok (.iconst 1, 1) := by decide +kernel
theorem dX9_token_209 : decode cX9_token 209 = .ok (.goto 4, 3) := by decide +kernel
theorem dX9_token_212 : decode cX9_token 212 = .ok (.iconst 0, 1) := by decide +kernel
theorem dX9_token_213 : decode cX9_token 213 = .ok (.iadd, 1) := by decide +kernel
theorem dX9_token_214 : decode cX9_token 214 = .ok (.putfield 58, 3) := by decide +kernel
theorem dX9_token_217 : decode cX9_token 217 = .ok (.return_, 1) := by decide +kernel
theorem dX9_isWord_0 : decode cX9_isWord 0 = .ok (.aload_n 0, 1) := by decide +kernel
theorem dX9_isWord_1 : decode cX9_isWord 1 = .ok (.getfield 75, 3) := by decide +kernel
theorem dX9_isWord_4 : decode cX9_isWord 4 = .ok (.iconst 1, 1) := by decide +kernel
theorem dX9_isWord_5 : decode cX9_isWord 5 = .ok (.if_icmp .ne 21, 3) := by decide +kernel
theorem dX9_isWord_8 : decode cX9_isWord 8 = .ok (.aload_n 0, 1) := by decide +kernel
theorem dX9_isWord_9 : decode cX9_isWord 9 = .ok (.getfield 58, 3) := by decide +kernel
theorem dX9_isWord_12 : decode cX9_isWord 12 = .ok (.aload_n 0, 1) := by decide +kernel
theorem dX9_isWord_13 : decode cX9_isWord 13 = .ok (.getfield 65, 3) := by decide +kernel
theorem dX9_isWord_16 : decode cX9_isWord 16 = .ok (.isub, 1) := by decide +kernel
theorem dX9_isWord_17 : decode cX9_isWord 17 = .ok (.bipush 8, 2) := by decide +kernel
theorem dX9_isWord_19 : decode cX9_isWord 19 = .ok (.if_icmp .ge 7, 3) := by decide +kernel
theorem dX9_isWord_22 : decode cX9_isWord 22 = .ok (.iconst 1, 1) := by decide +kernel
theorem dX9_isWord_23 : decode cX9_isWord 23 = .ok (.goto 4, 3) := by decide +kernel
theorem dX9_isWord_26 : decode cX9_isWord 26 = .ok (.iconst 0, 1) := by decide +kernel
theorem dX9_isWord_27 : decode cX9_isWord 27 = .ok (.istore 8, 2) := by decide +kernel
theorem dX9_isWord_29 : decode cX9_isWord 29 = .ok (.iconst 0, 1) := by decide +kernel
theorem dX9_isWord_30 : decode cX9_isWord 30 = .ok (.istore 9, 2) := by decide +kernel
theorem dX9_isWord_32 : decode cX9_isWord 32 = .ok (.iload 9, 2) := by decide +kernel
theorem dX9_isWord_34 : decode cX9_isWord 34 = .ok (.bipush 7, 2) := by decide +kernel
theorem dX9_isWord_36 : decode cX9_isWord 36 = .ok (.if_icmp .ge 131, 3) := by decide +kernel
theorem dX9_isWord_39 : decode cX9_isWord 39 = .ok (.iload 8, 2) := by decide +kernel
theorem dX9_isWord_41 : decode cX9_isWord 41 = .ok (.ifCond .eq 126, 3) := by decide +kernel
theorem dX9_isWord_44 : decode cX9_isWord 44 = .ok (.iload 9, 2) := by decide +kernel
theorem dX9_isWord_46 : decode cX9_isWord 46 = .ok (.ifCond .ne 7, 3) := by decide +kernel
theorem dX9_isWord_49 : decode cX9_isWord 49 = .ok (.iload_n 1, 1) := by decide +kernel
theorem dX9_isWord_50 : decode cX9_isWord 50 = .ok (.goto 58, 3) := by decide +kernel
theorem dX9_isWord_53 : decode cX9_isWord 53 = .ok (.iload 9, 2) := by decide +kernel
theorem dX9_isWord_55 : decode cX9_isWord 55 = .ok (.iconst 1, 1) := by decide +kernel
theorem dX9_isWord_56 : decode cX9_isWord 56 = .ok (.if_icmp .ne 7, 3) := by decide +kernel
theorem dX9_isWord_59 : decode cX9_isWord 59 = .ok (.iload_n 2, 1) := by decide +kernel
theorem dX9_isWord_60 : decode cX9_isWord 60 = .ok (.goto 48, 3) := by decide +kernel
theorem dX9_isWord_63 : decode cX9_isWord 63 = .ok (.iload 9, 2) := by decide +kernel
theorem dX9_isWord_65 : decode cX9_isWord 65 = .ok (.iconst 2, 1) := by decide +kernel
theorem dX9_isWord_66 : decode cX9_isWord 66 = .ok (.if_icmp .ne 7, 3) := by decide +kernel
theorem dX9_isWord_69 : decode cX9_isWord 69 = .ok (.iload_n 3, 1) := by decide +kernel
theorem dX9_isWord_70 : decode cX9_isWord 70 = .ok (.goto 38, 3) := by decide +kernel
theorem dX9_isWord_73 : decode cX9_isWord 73 = .ok (.iload 9, 2) := by decide +kernel
theorem dX9_isWord_75 : decode cX9_isWord 75 = .ok (.iconst 3, 1) := by decide +kernel
theorem dX9_isWord_76 : decode cX9_isWord 76 = .ok (.if_icmp .ne 8, 3) := by decide +kernel
theorem dX9_isWord_79 : decode cX9_isWord 79 = .ok (.iload 4, 2) := by decide +kernel
theorem dX9_isWord_81 : decode cX9_isWord 81 = .ok (.goto 27, 3) := by decide +kernel
theorem dX9_isWord_84 : decode cX9_isWord 84 = .ok (.iload 9, 2) := by decide +kernel
theorem dX9_isWord_86 : decode cX9_isWord 86 = .ok (.iconst 4, 1) := by decide +kernel
theorem dX9_isWord_87 : decode cX9_isWord 87 = .ok (.if_icmp .ne 8, 3) := by decide +kernel
theorem dX9_isWord_90 : decode cX9_isWord 90 = .ok (.iload 5, 2) := by decide +kernel
theorem dX9_isWord_92 : decode cX9_isWord 92 = .ok (.goto 16, 3) := by decide +kernel
theorem dX9_isWord_95 : decode cX9_isWord 95 = .ok (.iload 9, 2) := by decide +kernel
theorem dX9_isWord_97 : decode cX9_isWord 97 = .ok (.iconst 5, 1) := by decide +kernel
theorem dX9_isWord_98 : decode cX9_isWord 98 = .ok (.if_icmp .ne 8, 3) := by decide +kernel
theorem dX9_isWord_101 : decode cX9_isWord 101 = .ok (.iload 6, 2) := by decide +kernel
theorem dX9_isWord_103 : decode cX9_isWord 103 = .ok (.goto 5, 3) := by decide +kernel
theorem dX9_isWord_106 : decode cX9_isWord 106 = .ok (.iload 7, 2) := by decide +kernel
theorem dX9_isWord_108 : decode cX9_isWord 108 = .ok (.istore 10, 2) := by decide +kernel
theorem dX9_isWord_110 : decode cX9_isWord 110 = .ok (.aload_n 0, 1) := by decide +kernel
theorem dX9_isWord_111 : decode cX9_isWord 111 = .ok (.getfield 65, 3) := by decide +kernel
theorem dX9_isWord_114 : decode cX9_isWord 114 = .ok (.iload 9, 2) := by decide +kernel
theorem dX9_isWord_116 : decode cX9_isWord 116 = .ok (.iadd, 1) := by decide +kernel
theorem dX9_isWord_117 : decode cX9_isWord 117 = .ok (.aload_n 0, 1) := by decide +kernel
theorem dX9_isWord_118 : decode cX9_isWord 118 = .ok (.getfield 58, 3) := by decide +kernel
theorem dX9_isWord_121 : decode cX9_isWord 121 = .ok (.if_icmp .ge 28, 3) := by decide +kernel
theorem dX9_isWord_124 : decode cX9_isWord 124 = .ok (.aload_n 0, 1) := by decide +kernel
theorem dX9_isWord_125 : decode cX9_isWord 125 = .ok (.getfield 7, 3) := by decide +kernel
theorem dX9_isWord_128 : decode cX9_isWord 128 = .ok (.aload_n 0, 1) := by decide +kernel
theorem dX9_isWord_129 : decode cX9_isWord 129 = .ok (.getfield 65, 3) := by decide +kernel
theorem dX9_isWord_132 : decode cX9_isWord 132 = .ok (.iload 9, 2) := by decide +kernel
theorem dX9_isWord_134 : decode cX9_isWord 134 = .ok (.iadd, 1) := by decide +kernel
theorem dX9_isWord_135 : decode cX9_isWord 135 = .ok (.iaload, 1) := by decide +kernel
theorem dX9_isWord_136 : decode cX9_isWord 136 = .ok (.iload 10, 2) := by decide +kernel
theorem dX9_isWord_138 : decode cX9_isWord 138 = .ok (.if_icmp .ne 7, 3) := by decide +kernel
theorem dX9_isWord_141 : decode cX9_isWord 141 = .ok (.iconst 1, 1) := by decide +kernel
theorem dX9_isWord_142 : decode cX9_isWord 142 = .ok (.goto 17, 3) := by decide +kernel
theorem dX9_isWord_145 : decode cX9_isWord 145 = .ok (.iconst 0, 1) := by decide +kernel
theorem dX9_isWord_146 : decode cX9_isWord 146 = .ok (.goto 13, 3) := by decide +kernel
theorem dX9_isWord_149 : decode cX9_isWord 149 = .ok (.iload 10, 2) := by decide +kernel
theorem dX9_isWord_151 : decode cX9_isWord 151 = .ok (.ifCond .ne 7, 3) := by decide +kernel
theorem dX9_isWord_154 : decode cX9_isWord 154 = .ok (.iconst 1, 1) := by decide +kernel
theorem dX9_isWord_155 : decode cX9_isWord 155 = .ok (.goto 4, 3) := by decide +kernel
theorem dX9_isWord_158 : decode cX9_isWord 158 = .ok (.iconst 0, 1) := by decide +kernel
theorem dX9_isWord_159 : decode cX9_isWord 159 = .ok (.istore 8, 2) := by decide +kernel
theorem dX9_isWord_161 : decode cX9_isWord 161 = .ok (.iinc 9 1, 3) := by decide +kernel
theorem dX9_isWord_164 : decode cX9_isWord 164 = .ok (.goto (-132), 3) := by decide +kernel
theorem dX9_isWord_167 : decode cX9_isWord 167 = .ok (.iload 8, 2) := by decide +kernel
theorem dX9_isWord_169 : decode cX9_isWord 169 = .ok (.ireturn, 1) := by decide +kernel
theorem dX9_number_0 : decode cX9_number 0 = .ok (.aload_n 0, 1) := by decide +kernel
theorem dX9_number_1 : decode cX9_number 1 = .ok (.invokevirtual 81, 3) := by decide +kernel
theorem dX9_number_4 : decode cX9_number 4 = .ok (.aload_n 0, 1) := by decide +kernel
theorem dX9_number_5 : decode cX9_number 5 = .ok (.getfield 16, 3) := by decide +kernel
theorem dX9_number_8 : decode cX9_number 8 = .ok (.iload_n 1, 1) := by decide +kernel
theorem dX9_number_9 : decode cX9_number 9 = .ok (.aload_n 0, 1) := by decide +kernel
theorem dX9_number_10 : decode cX9_number 10 = .ok (.getfield 78, 3) := by decide +kernel
theorem dX9_number_13 : decode cX9_number 13 = .ok (.iastore, 1) := by decide +kernel
theorem dX9_number_14 : decode cX9_number 14 = .ok (.aload_n 0, 1) := by decide +kernel
theorem dX9_number_15 : decode cX9_number 15 = .ok (.getfield 75, 3) := by decide +kernel
theorem dX9_number_18 : decode cX9_number 18 = .ok (.iconst 2, 1) := by decide +kernel
theorem dX9_number_19 : decode cX9_number 19 = .ok (.if_icmp .ne 19, 3) := by decide +kernel
theorem dX9_number_22 : decode cX9_number 22 = .ok (.aload_n 0, 1) := by decide +kernel
theorem dX9_number_23 : decode cX9_number 23 = .ok (.getfield 78, 3) := by decide +kernel
theorem dX9_number_26 : decode cX9_number 26 = .ok (.iload_n 2, 1) := by decide +kernel
theorem dX9_number_27 : decode cX9_number 27 = .ok (.iload_n 3, 1) := by decide +kernel
theorem dX9_number_28 : decode cX9_number 28 = .ok (.invokestatic 51, 3) := by decide +kernel
theorem dX9_number_31 : decode cX9_number 31 = .ok (.ifCond .eq 7, 3) := by decide +kernel
theorem dX9_number_34 : decode cX9_number 34 = .ok (.iconst 1, 1) := by decide +kernel
theorem dX9_number_35 : decode cX9_number 35 = .ok (.goto 4, 3) := by decide +kernel
theorem dX9_number_38 : decode cX9_number 38 = .ok (.iconst 0, 1) := by decide +kernel
theorem dX9_number_39 : decode cX9_number 39 = .ok (.ireturn, 1) := by decide +kernel
theorem dX9_forgets_0 : decode cX9_forgets 0 = .ok (.iconst 0, 1) := by decide +kernel
theorem dX9_forgets_1 : decode cX9_forgets 1 = .ok (.istore_n 1, 1) := by decide +kernel
theorem dX9_forgets_2 : decode cX9_forgets 2 = .ok (.iload_n 1, 1) := by decide +kernel
theorem dX9_forgets_3 : decode cX9_forgets 3 = .ok (.bipush 43, 2) := by decide +kernel
theorem dX9_forgets_5 : decode cX9_forgets 5 = .ok (.if_icmp .ge 26, 3) := by decide +kernel
theorem dX9_forgets_8 : decode cX9_forgets 8 = .ok (.aload_n 0, 1) := by decide +kernel
theorem dX9_forgets_9 : decode cX9_forgets 9 = .ok (.getfield 16, 3) := by decide +kernel
theorem dX9_forgets_12 : decode cX9_forgets 12 = .ok (.iload_n 1, 1) := by decide +kernel
theorem dX9_forgets_13 : decode cX9_forgets 13 = .ok (.iload_n 1, 1) := by decide +kernel
theorem dX9_forgets_14 : decode cX9_forgets 14 = .ok (.bipush 35, 2) := by decide +kernel
theorem dX9_forgets_16 : decode cX9_forgets 16 = .ok (.if_icmp .ge 7, 3) := by decide +kernel
theorem dX9_forgets_19 : decode cX9_forgets 19 = .ok (.iconst 0, 1) := by decide +kernel
theorem dX9_forgets_20 : decode cX9_forgets 20 = .ok (.goto 4, 3) := by decide +kernel
theorem dX9_forgets_23 : decode cX9_forgets 23 = .ok (.iconst (-1), 1) := by decide +kernel
theorem dX9_forgets_24 : decode cX9_forgets 24 = .ok (.iastore, 1) := by decide +kernel
theorem dX9_forgets_25 : decode cX9_forgets 25 = .ok (.iinc 1 1, 3) := by decide +kernel
theorem dX9_forgets_28 : decode cX9_forgets 28 = .ok (.goto (-26), 3) := by decide +kernel
theorem dX9_forgets_31 : decode cX9_forgets 31 = .ok (.aload_n 0, 1) := by decide +kernel
theorem dX9_forgets_32 : decode cX9_forgets 32 = .ok (.getfield 16, 3) := by decide +kernel
theorem dX9_forgets_35 : decode cX9_forgets 35 = .ok (.iconst 1, 1) := by decide +kernel
theorem dX9_forgets_36 : decode cX9_forgets 36 = .ok (.bipush 30, 2) := by decide +kernel
theorem dX9_forgets_38 : decode cX9_forgets 38 = .ok (.iastore, 1) := by decide +kernel
theorem dX9_forgets_39 : decode cX9_forgets 39 = .ok (.aload_n 0, 1) := by decide +kernel
theorem dX9_forgets_40 : decode cX9_forgets 40 = .ok (.getfield 16, 3) := by decide +kernel
theorem dX9_forgets_43 : decode cX9_forgets 43 = .ok (.iconst 2, 1) := by decide +kernel
theorem dX9_forgets_44 : decode cX9_forgets 44 = .ok (.bipush 8, 2) := by decide +kernel
theorem dX9_forgets_46 : decode cX9_forgets 46 = .ok (.iastore, 1) := by decide +kernel
theorem dX9_forgets_47 : decode cX9_forgets 47 = .ok (.return_, 1) := by decide +kernel
theorem dX9_readsStreet_0 : decode cX9_readsStreet 0 = .ok (.aload_n 0, 1) := by decide +kernel
theorem dX9_readsStreet_1 : decode cX9_readsStreet 1 = .ok (.getfield 16, 3) := by decide +kernel
theorem dX9_readsStreet_4 : decode cX9_readsStreet 4 = .ok (.iconst 0, 1) := by decide +kernel
theorem dX9_readsStreet_5 : decode cX9_readsStreet 5 = .ok (.iaload, 1) := by decide +kernel
theorem dX9_readsStreet_6 : decode cX9_readsStreet 6 = .ok (.istore_n 2, 1) := by decide +kernel
theorem dX9_readsStreet_7 : decode cX9_readsStreet 7 = .ok (.iload_n 2, 1) := by decide +kernel
theorem dX9_readsStreet_8 : decode cX9_readsStreet 8 = .ok (.bipush 8, 2) := by decide +kernel
theorem dX9_readsStreet_10 : decode cX9_readsStreet 10 = .ok (.if_icmp .eq 45, 3) := by decide +kernel
theorem dX9_readsStreet_13 : decode cX9_readsStreet 13 = .ok (.aload_n 0, 1) := by decide +kernel
theorem dX9_readsStreet_14 : decode cX9_readsStreet 14 = .ok (.bipush 11, 2) := by decide +kernel
theorem dX9_readsStreet_16 : decode cX9_readsStreet 16 = .ok (.iload_n 2, 1) := by decide +kernel
theorem dX9_readsStreet_17 : decode cX9_readsStreet 17 = .ok (.iadd, 1) := by decide +kernel
theorem dX9_readsStreet_18 : decode cX9_readsStreet 18 = .ok (.iconst 0, 1) := by decide +kernel
theorem dX9_readsStreet_19 : decode cX9_readsStreet 19 = .ok (.bipush 20, 2) := by decide +kernel
theorem dX9_readsStreet_21 : decode cX9_readsStreet 21 = .ok (.invokevirtual 84, 3) := by decide +kernel
theorem dX9_readsStreet_24 : decode cX9_readsStreet 24 = .ok (.ifCond .eq 31, 3) := by decide +kernel
theorem dX9_readsStreet_27 : decode cX9_readsStreet 27 = .ok (.aload_n 0, 1) := by decide +kernel
theorem dX9_readsStreet_28 : decode cX9_readsStreet 28 = .ok (.bipush 19, 2) := by decide +kernel
theorem dX9_readsStreet_30 : decode cX9_readsStreet 30 = .ok (.iload_n 2, 1) := by decide +kernel
theorem dX9_readsStreet_31 : decode cX9_readsStreet 31 = .ok (.iadd, 1) := by decide +kernel
theorem dX9_readsStreet_32 : decode cX9_readsStreet 32 = .ok (.iconst 0, 1) := by decide +kernel
theorem dX9_readsStreet_33 : decode cX9_readsStreet 33 = .ok (.bipush 20, 2) := by decide +kernel
theorem dX9_readsStreet_35 : decode cX9_readsStreet 35 = .ok (.invokevirtual 84, 3) := by decide +kernel
theorem dX9_readsStreet_38 : decode cX9_readsStreet 38 = .ok (.ifCond .eq 17, 3) := by decide +kernel
theorem dX9_readsStreet_41 : decode cX9_readsStreet 41 = .ok (.aload_n 0, 1) := by decide +kernel
theorem dX9_readsStreet_42 : decode cX9_readsStreet 42 = .ok (.bipush 27, 2) := by decide +kernel
theorem dX9_readsStreet_44 : decode cX9_readsStreet 44 = .ok (.iload_n 2, 1) := by decide +kernel
theorem dX9_readsStreet_45 : decode cX9_readsStreet 45 = .ok (.iadd, 1) := by decide +kernel
theorem dX9_readsStreet_46 : decode cX9_readsStreet 46 = .ok (.iconst 0, 1) := by decide +kernel
theorem dX9_readsStreet_47 : decode cX9_readsStreet 47 = .ok (.bipush 99, 2) := by decide +kernel
theorem dX9_readsStreet_49 : decode cX9_readsStreet 49 = .ok (.invokevirtual 84, 3) := by decide +kernel
theorem dX9_readsStreet_52 : decode cX9_readsStreet 52 = .ok (.ifCond .ne 5, 3) := by decide +kernel
theorem dX9_readsStreet_55 : decode cX9_readsStreet 55 = .ok (.iconst 0, 1) := by decide +kernel
theorem dX9_readsStreet_56 : decode cX9_readsStreet 56 = .ok (.ireturn, 1) := by decide +kernel
theorem dX9_readsStreet_57 : decode cX9_readsStreet 57 = .ok (.aload_n 0, 1) := by decide +kernel
theorem dX9_readsStreet_58 : decode cX9_readsStreet 58 = .ok (.getfield 16, 3) := by decide +kernel
theorem dX9_readsStreet_61 : decode cX9_readsStreet 61 = .ok (.iconst 3, 1) := by decide +kernel
theorem dX9_readsStreet_62 : decode cX9_readsStreet 62 = .ok (.iload_n 2, 1) := by decide +kernel
theorem dX9_readsStreet_63 : decode cX9_readsStreet 63 = .ok (.iadd, 1) := by decide +kernel
theorem dX9_readsStreet_64 : decode cX9_readsStreet 64 = .ok (.iload_n 1, 1) := by decide +kernel
theorem dX9_readsStreet_65 : decode cX9_readsStreet 65 = .ok (.iastore, 1) := by decide +kernel
theorem dX9_readsStreet_66 : decode cX9_readsStreet 66 = .ok (.aload_n 0, 1) := by decide +kernel
theorem dX9_readsStreet_67 : decode cX9_readsStreet 67 = .ok (.getfield 16, 3) := by decide +kernel
theorem dX9_readsStreet_70 : decode cX9_readsStreet 70 = .ok (.bipush 35, 2) := by decide +kernel
theorem dX9_readsStreet_72 : decode cX9_readsStreet 72 = .ok (.iload_n 2, 1) := by decide +kernel
theorem dX9_readsStreet_73 : decode cX9_readsStreet 73 = .ok (.iadd, 1) := by decide +kernel
theorem dX9_readsStreet_74 : decode cX9_readsStreet 74 = .ok (.iconst (-1), 1) := by decide +kernel
theorem dX9_readsStreet_75 : decode cX9_readsStreet 75 = .ok (.iastore, 1) := by decide +kernel
theorem dX9_readsStreet_76 : decode cX9_readsStreet 76 = .ok (.aload_n 0, 1) := by decide +kernel
theorem dX9_readsStreet_77 : decode cX9_readsStreet 77 = .ok (.getfield 16, 3) := by decide +kernel
theorem dX9_readsStreet_80 : decode cX9_readsStreet 80 = .ok (.iconst 0, 1) := by decide +kernel
theorem dX9_readsStreet_81 : decode cX9_readsStreet 81 = .ok (.dup2, 1) := by decide +kernel
theorem dX9_readsStreet_82 : decode cX9_readsStreet 82 = .ok (.iaload, 1) := by decide +kernel
theorem dX9_readsStreet_83 : decode cX9_readsStreet 83 = .ok (.iconst 1, 1) := by decide +kernel
theorem dX9_readsStreet_84 : decode cX9_readsStreet 84 = .ok (.iadd, 1) := by decide +kernel
theorem dX9_readsStreet_85 : decode cX9_readsStreet 85 = .ok (.iastore, 1) := by decide +kernel
theorem dX9_readsStreet_86 : decode cX9_readsStreet 86 = .ok (.iconst 1, 1) := by decide +kernel
theorem dX9_readsStreet_87 : decode cX9_readsStreet 87 = .ok (.ireturn, 1) := by decide +kernel
theorem dX9_readsSlope_0 : decode cX9_readsSlope 0 = .ok (.aload_n 0, 1) := by decide +kernel
theorem dX9_readsSlope_1 : decode cX9_readsSlope 1 = .ok (.invokevirtual 81, 3) := by decide +kernel
theorem dX9_readsSlope_4 : decode cX9_readsSlope 4 = .ok (.aload_n 0, 1) := by decide +kernel
theorem dX9_readsSlope_5 : decode cX9_readsSlope 5 = .ok (.getfield 78, 3) := by decide +kernel
theorem dX9_readsSlope_8 : decode cX9_readsSlope 8 = .ok (.istore_n 1, 1) := by decide +kernel
theorem dX9_readsSlope_9 : decode cX9_readsSlope 9 = .ok (.aload_n 0, 1) := by decide +kernel
theorem dX9_readsSlope_10 : decode cX9_readsSlope 10 = .ok (.getfield 75, 3) := by decide +kernel
theorem dX9_readsSlope_13 : decode cX9_readsSlope 13 = .ok (.iconst 2, 1) := by decide +kernel
theorem dX9_readsSlope_14 : decode cX9_readsSlope 14 = .ok (.if_icmp .ne 13, 3) := by decide +kernel
theorem dX9_readsSlope_17 : decode cX9_readsSlope 17 = .ok (.iload_n 1, 1) := by decide +kernel
theorem dX9_readsSlope_18 : decode cX9_readsSlope 18 = .ok (.aload_n 0, 1) := by decide +kernel
theorem dX9_readsSlope_19 : decode cX9_readsSlope 19 = .ok (.getfield 16, 3) := by decide +kernel
theorem dX9_readsSlope_22 : decode cX9_readsSlope 22 = .ok (.iconst 0, 1) := by decide +kernel
theorem dX9_readsSlope_23 : decode cX9_readsSlope 23 = .ok (.iaload, 1) := by decide +kernel
theorem dX9_readsSlope_24 : decode cX9_readsSlope 24 = .ok (.if_icmp .lt 5, 3) := by decide +kernel
theorem dX9_readsSlope_27 : decode cX9_readsSlope 27 = .ok (.iconst 0, 1) := by decide +kernel
theorem dX9_readsSlope_28 : decode cX9_readsSlope 28 = .ok (.ireturn, 1) := by decide +kernel
theorem dX9_readsSlope_29 : decode cX9_readsSlope 29 = .ok (.aload_n 0, 1) := by decide +kernel
theorem dX9_readsSlope_30 : decode cX9_readsSlope 30 = .ok (.invokevirtual 81, 3) := by decide +kernel
theorem dX9_readsSlope_33 : decode cX9_readsSlope 33 = .ok (.aload_n 0, 1) := by decide +kernel
theorem dX9_readsSlope_34 : decode cX9_readsSlope 34 = .ok (.getfield 75, 3) := by decide +kernel
theorem dX9_readsSlope_37 : decode cX9_readsSlope 37 = .ok (.iconst 2, 1) := by decide +kernel
theorem dX9_readsSlope_38 : decode cX9_readsSlope 38 = .ok (.if_icmp .ne 24, 3) := by decide +kernel
theorem dX9_readsSlope_41 : decode cX9_readsSlope 41 = .ok (.aload_n 0, 1) := by decide +kernel
theorem dX9_readsSlope_42 : decode cX9_readsSlope 42 = .ok (.getfield 78, 3) := by decide +kernel
theorem dX9_readsSlope_45 : decode cX9_readsSlope 45 = .ok (.aload_n 0, 1) := by decide +kernel
theorem dX9_readsSlope_46 : decode cX9_readsSlope 46 = .ok (.getfield 16, 3) := by decide +kernel
theorem dX9_readsSlope_49 : decode cX9_readsSlope 49 = .ok (.iconst 0, 1) := by decide +kernel
theorem dX9_readsSlope_50 : decode cX9_readsSlope 50 = .ok (.iaload, 1) := by decide +kernel
theorem dX9_readsSlope_51 : decode cX9_readsSlope 51 = .ok (.if_icmp .ge 11, 3) := by decide +kernel
theorem dX9_readsSlope_54 : decode cX9_readsSlope 54 = .ok (.aload_n 0, 1) := by decide +kernel
theorem dX9_readsSlope_55 : decode cX9_readsSlope 55 = .ok (.getfield 78, 3) := by decide +kernel
theorem dX9_readsSlope_58 : decode cX9_readsSlope 58 = .ok (.iload_n 1, 1) := by decide +kernel
theorem dX9_readsSlope_59 : decode cX9_readsSlope 59 = .ok (.if_icmp .ne 5, 3) := by decide +kernel
theorem dX9_readsSlope_62 : decode cX9_readsSlope 62 = .ok (.iconst 0, 1) := by decide +kernel
theorem dX9_readsSlope_63 : decode cX9_readsSlope 63 = .ok (.ireturn, 1) := by decide +kernel
theorem dX9_readsSlope_64 : decode cX9_readsSlope 64 = .ok (.aload_n 0, 1) := by decide +kernel
theorem dX9_readsSlope_65 : decode cX9_readsSlope 65 = .ok (.getfield 16, 3) := by decide +kernel
theorem dX9_readsSlope_68 : decode cX9_readsSlope 68 = .ok (.bipush 35, 2) := by decide +kernel
theorem dX9_readsSlope_70 : decode cX9_readsSlope 70 = .ok (.iload_n 1, 1) := by decide +kernel
theorem dX9_readsSlope_71 : decode cX9_readsSlope 71 = .ok (.iadd, 1) := by decide +kernel
theorem dX9_readsSlope_72 : decode cX9_readsSlope 72 = .ok (.aload_n 0, 1) := by decide +kernel
theorem dX9_readsSlope_73 : decode cX9_readsSlope 73 = .ok (.getfield 78, 3) := by decide +kernel
theorem dX9_readsSlope_76 : decode cX9_readsSlope 76 = .ok (.iastore, 1) := by decide +kernel
theorem dX9_readsSlope_77 : decode cX9_readsSlope 77 = .ok (.iconst 1, 1) := by decide +kernel
theorem dX9_readsSlope_78 : decode cX9_readsSlope 78 = .ok (.ireturn, 1) := by decide +kernel
theorem dX9_readsClause_0 : decode cX9_readsClause 0 = .ok (.aload_n 0, 1) := by decide +kernel
theorem dX9_readsClause_1 : decode cX9_readsClause 1 = .ok (.bipush 116, 2) := by decide +kernel
theorem dX9_readsClause_3 : decode cX9_readsClause 3 = .ok (.bipush 111, 2) := by decide +kernel
theorem dX9_readsClause_5 : decode cX9_readsClause 5 = .ok (.bipush 119, 2) := by decide +kernel
theorem dX9_readsClause_7 : decode cX9_readsClause 7 = .ok (.bipush 110, 2) := by decide +kernel
theorem dX9_readsClause_9 : decode cX9_readsClause 9 = .ok (.iconst 0, 1) := by decide +kernel
theorem dX9_readsClause_10 : decode cX9_readsClause 10 = .ok (.iconst 0, 1) := by decide +kernel
theorem dX9_readsClause_11 : decode cX9_readsClause 11 = .ok (.iconst 0, 1) := by decide +kernel
theorem dX9_readsClause_12 : decode cX9_readsClause 12 = .ok (.invokevirtual 87, 3) := by decide +kernel
theorem dX9_readsClause_15 : decode cX9_readsClause 15 = .ok (.ifCond .eq 9, 3) := by decide +kernel
theorem dX9_readsClause_18 : decode cX9_readsClause 18 = .ok (.aload_n 0, 1) := by decide +kernel
theorem dX9_readsClause_19 : decode cX9_readsClause 19 = .ok (.invokevirtual 45, 3) := by decide +kernel
theorem dX9_readsClause_22 : decode cX9_readsClause 22 = .ok (.iconst 1, 1) := by decide +kernel
theorem dX9_readsClause_23 : decode cX9_readsClause 23 = .ok (.ireturn, 1) := by decide +kernel
theorem dX9_readsClause_24 : decode cX9_readsClause 24 = .ok (.aload_n 0, 1) := by decide +kernel
theorem dX9_readsClause_25 : decode cX9_readsClause 25 = .ok (.bipush 103, 2) := by decide +kernel
theorem dX9_readsClause_27 : decode cX9_readsClause 27 = .ok (.bipush 97, 2) := by decide +kernel
theorem dX9_readsClause_29 : decode cX9_readsClause 29 = .ok (.bipush 114, 2) := by decide +kernel
theorem dX9_readsClause_31 : decode cX9_readsClause 31 = .ok (.bipush 100, 2) := by decide +kernel
theorem dX9_readsClause_33 : decode cX9_readsClause 33 = .ok (.bipush 101, 2) := by decide +kernel
theorem dX9_readsClause_35 : decode cX9_readsClause 35 = .ok (.bipush 110, 2) := by decide +kernel
theorem dX9_readsClause_37 : decode cX9_readsClause 37 = .ok (.iconst 0, 1) := by decide +kernel
theorem dX9_readsClause_38 : decode cX9_readsClause 38 = .ok (.invokevirtual 87, 3) := by decide +kernel
theorem dX9_readsClause_41 : decode cX9_readsClause 41 = .ok (.ifCond .eq 9, 3) := by decide +kernel
theorem dX9_readsClause_44 : decode cX9_readsClause 44 = .ok (.aload_n 0, 1) := by decide +kernel
theorem dX9_readsClause_45 : decode cX9_readsClause 45 = .ok (.iconst 0, 1) := by decide +kernel
theorem dX9_readsClause_46 : decode cX9_readsClause 46 = .ok (.invokevirtual 91, 3) := by decide +kernel
theorem dX9_readsClause_49 : decode cX9_readsClause 49 = .ok (.ireturn, 1) := by decide +kernel
theorem dX9_readsClause_50 : decode cX9_readsClause 50 = .ok (.aload_n 0, 1) := by decide +kernel
theorem dX9_readsClause_51 : decode cX9_readsClause 51 = .ok (.bipush 111, 2) := by decide +kernel
theorem dX9_readsClause_53 : decode cX9_readsClause 53 = .ok (.bipush 114, 2) := by decide +kernel
theorem dX9_readsClause_55 : decode cX9_readsClause 55 = .ok (.bipush 99, 2) := by decide +kernel
theorem dX9_readsClause_57 : decode cX9_readsClause 57 = .ok (.bipush 104, 2) := by decide +kernel
theorem dX9_readsClause_59 : decode cX9_readsClause 59 = .ok (.bipush 97, 2) := by decide +kernel
theorem dX9_readsClause_61 : decode cX9_readsClause 61 = .ok (.bipush 114, 2) := by decide +kernel
theorem dX9_readsClause_63 : decode cX9_readsClause 63 = .ok (.bipush 100, 2) := by decide +kernel
theorem dX9_readsClause_65 : decode cX9_readsClause 65 = .ok (.invokevirtual 87, 3) := by decide +kernel
theorem dX9_readsClause_68 : decode cX9_readsClause 68 = .ok (.ifCond .eq 9, 3) := by decide +kernel
theorem dX9_readsClause_71 : decode cX9_readsClause 71 = .ok (.aload_n 0, 1) := by decide +kernel
theorem dX9_readsClause_72 : decode cX9_readsClause 72 = .ok (.iconst 1, 1) := by decide +kernel
theorem dX9_readsClause_73 : decode cX9_readsClause 73 = .ok (.invokevirtual 91, 3) := by decide +kernel
theorem dX9_readsClause_76 : decode cX9_readsClause 76 = .ok (.ireturn, 1) := by decide +kernel
theorem dX9_readsClause_77 : decode cX9_readsClause 77 = .ok (.aload_n 0, 1) := by decide +kernel
theorem dX9_readsClause_78 : decode cX9_readsClause 78 = .ok (.bipush 97, 2) := by decide +kernel
theorem dX9_readsClause_80 : decode cX9_readsClause 80 = .ok (.bipush 108, 2) := by decide +kernel
theorem dX9_readsClause_82 : decode cX9_readsClause 82 = .ok (.bipush 108, 2) := by decide +kernel
theorem dX9_readsClause_84 : decode cX9_readsClause 84 = .ok (.bipush 101, 2) := by decide +kernel
theorem dX9_readsClause_86 : decode cX9_readsClause 86 = .ok (.bipush 121, 2) := by decide +kernel
theorem dX9_readsClause_88 : decode cX9_readsClause 88 = .ok (.iconst 0, 1) := by decide +kernel
theorem dX9_readsClause_89 : decode cX9_readsClause 89 = .ok (.iconst 0, 1) := by decide +kernel
theorem dX9_readsClause_90 : decode cX9_readsClause 90 = .ok (.invokevirtual 87, 3) := by decide +kernel
theorem dX9_readsClause_93 : decode cX9_readsClause 93 = .ok (.ifCond .eq 9, 3) := by decide +kernel
theorem dX9_readsClause_96 : decode cX9_readsClause 96 = .ok (.aload_n 0, 1) := by decide +kernel
theorem dX9_readsClause_97 : decode cX9_readsClause 97 = .ok (.iconst 2, 1) := by decide +kernel
theorem dX9_readsClause_98 : decode cX9_readsClause 98 = .ok (.invokevirtual 91, 3) := by decide +kernel
theorem dX9_readsClause_101 : decode cX9_readsClause 101 = .ok (.ireturn, 1) := by decide +kernel
theorem dX9_readsClause_102 : decode cX9_readsClause 102 = .ok (.aload_n 0, 1) := by decide +kernel
theorem dX9_readsClause_103 : decode cX9_readsClause 103 = .ok (.bipush 108, 2) := by decide +kernel
theorem dX9_readsClause_105 : decode cX9_readsClause 105 = .ok (.bipush 97, 2) := by decide +kernel
theorem dX9_readsClause_107 : decode cX9_readsClause 107 = .ok (.bipush 117, 2) := by decide +kernel
theorem dX9_readsClause_109 : decode cX9_readsClause 109 = .ok (.bipush 110, 2) := by decide +kernel
theorem dX9_readsClause_111 : decode cX9_readsClause 111 = .ok (.bipush 100, 2) := by decide +kernel
theorem dX9_readsClause_113 : decode cX9_readsClause 113 = .ok (.bipush 114, 2) := by decide +kernel
theorem dX9_readsClause_115 : decode cX9_readsClause 115 = .ok (.bipush 121, 2) := by decide +kernel
theorem dX9_readsClause_117 : decode cX9_readsClause 117 = .ok (.invokevirtual 87, 3) := by decide +kernel
theorem dX9_readsClause_120 : decode cX9_readsClause 120 = .ok (.ifCond .eq 9, 3) := by decide +kernel
theorem dX9_readsClause_123 : decode cX9_readsClause 123 = .ok (.aload_n 0, 1) := by decide +kernel
theorem dX9_readsClause_124 : decode cX9_readsClause 124 = .ok (.iconst 3, 1) := by decide +kernel
theorem dX9_readsClause_125 : decode cX9_readsClause 125 = .ok (.invokevirtual 91, 3) := by decide +kernel
theorem dX9_readsClause_128 : decode cX9_readsClause 128 = .ok (.ireturn, 1) := by decide +kernel
theorem dX9_readsClause_129 : decode cX9_readsClause 129 = .ok (.aload_n 0, 1) := by decide +kernel
theorem dX9_readsClause_130 : decode cX9_readsClause 130 = .ok (.bipush 115, 2) := by decide +kernel
theorem dX9_readsClause_132 : decode cX9_readsClause 132 = .ok (.bipush 108, 2) := by decide +kernel
theorem dX9_readsClause_134 : decode cX9_readsClause 134 = .ok (.bipush 111, 2) := by decide +kernel
theorem dX9_readsClause_136 : decode cX9_readsClause 136 = .ok (.bipush 112, 2) := by decide +kernel
theorem dX9_readsClause_138 : decode cX9_readsClause 138 = .ok (.bipush 101, 2) := by decide +kernel
theorem dX9_readsClause_140 : decode cX9_readsClause 140 = .ok (.iconst 0, 1) := by decide +kernel
theorem dX9_readsClause_141 : decode cX9_readsClause 141 = .ok (.iconst 0, 1) := by decide +kernel
theorem dX9_readsClause_142 : decode cX9_readsClause 142 = .ok (.invokevirtual 87, 3) := by decide +kernel
theorem dX9_readsClause_145 : decode cX9_readsClause 145 = .ok (.ifCond .eq 8, 3) := by decide +kernel
theorem dX9_readsClause_148 : decode cX9_readsClause 148 = .ok (.aload_n 0, 1) := by decide +kernel
theorem dX9_readsClause_149 : decode cX9_readsClause 149 = .ok (.invokevirtual 94, 3) := by decide +kernel
theorem dX9_readsClause_152 : decode cX9_readsClause 152 = .ok (.ireturn, 1) := by decide +kernel
theorem dX9_readsClause_153 : decode cX9_readsClause 153 = .ok (.aload_n 0, 1) := by decide +kernel
theorem dX9_readsClause_154 : decode cX9_readsClause 154 = .ok (.bipush 99, 2) := by decide +kernel
theorem dX9_readsClause_156 : decode cX9_readsClause 156 = .ok (.bipush 97, 2) := by decide +kernel
theorem dX9_readsClause_158 : decode cX9_readsClause 158 = .ok (.bipush 112, 2) := by decide +kernel
theorem dX9_readsClause_160 : decode cX9_readsClause 160 = .ok (.iconst 0, 1) := by decide +kernel
theorem dX9_readsClause_161 : decode cX9_readsClause 161 = .ok (.iconst 0, 1) := by decide +kernel
theorem dX9_readsClause_162 : decode cX9_readsClause 162 = .ok (.iconst 0, 1) := by decide +kernel
theorem dX9_readsClause_163 : decode cX9_readsClause 163 = .ok (.iconst 0, 1) := by decide +kernel
theorem dX9_readsClause_164 : decode cX9_readsClause 164 = .ok (.invokevirtual 87, 3) := by decide +kernel
theorem dX9_readsClause_167 : decode cX9_readsClause 167 = .ok (.ifCond .eq 12, 3) := by decide +kernel
theorem dX9_readsClause_170 : decode cX9_readsClause 170 = .ok (.aload_n 0, 1) := by decide +kernel
theorem dX9_readsClause_171 : decode cX9_readsClause 171 = .ok (.iconst 1, 1) := by decide +kernel
theorem dX9_readsClause_172 : decode cX9_readsClause 172 = .ok (.iconst 5, 1) := by decide +kernel
theorem dX9_readsClause_173 : decode cX9_readsClause 173 = .ok (.bipush 99, 2) := by decide +kernel
theorem dX9_readsClause_175 : decode cX9_readsClause 175 = .ok (.invokevirtual 84, 3) := by decide +kernel
theorem dX9_readsClause_178 : decode cX9_readsClause 178 = .ok (.ireturn, 1) := by decide +kernel
theorem dX9_readsClause_179 : decode cX9_readsClause 179 = .ok (.aload_n 0, 1) := by decide +kernel
theorem dX9_readsClause_180 : decode cX9_readsClause 180 = .ok (.bipush 105, 2) := by decide +kernel
theorem dX9_readsClause_182 : decode cX9_readsClause 182 = .ok (.bipush 110, 2) := by decide +kernel
theorem dX9_readsClause_184 : decode cX9_readsClause 184 = .ok (.bipush 99, 2) := by decide +kernel
theorem dX9_readsClause_186 : decode cX9_readsClause 186 = .ok (.bipush 104, 2) := by decide +kernel
theorem dX9_readsClause_188 : decode cX9_readsClause 188 = .ok (.bipush 101, 2) := by decide +kernel
theorem dX9_readsClause_190 : decode cX9_readsClause 190 = .ok (.bipush 115, 2) := by decide +kernel
theorem dX9_readsClause_192 : decode cX9_readsClause 192 = .ok (.iconst 0, 1) := by decide +kernel
theorem dX9_readsClause_193 : decode cX9_readsClause 193 = .ok (.invokevirtual 87, 3) := by decide +kernel
theorem dX9_readsClause_196 : decode cX9_readsClause 196 = .ok (.ifCond .eq 18, 3) := by decide +kernel
theorem dX9_readsClause_199 : decode cX9_readsClause 199 = .ok (.aload_n 0, 1) := by decide +kernel
theorem dX9_readsClause_200 : decode cX9_readsClause 200 = .ok (.iconst 2, 1) := by decide +kernel
theorem dX9_readsClause_201 : decode cX9_readsClause 201 = .ok (.iconst 1, 1) := by decide +kernel
theorem dX9_readsClause_202 : decode cX9_readsClause 202 = .ok (.bipush 20, 2) := by decide +kernel
theorem dX9_readsClause_204 : decode cX9_readsClause 204 = .ok (.invokevirtual 84, 3) := by decide +kernel
theorem dX9_readsClause_207 : decode cX9_readsClause 207 = .ok (.ifCond .eq 7, 3) := by decide +kernel
theorem dX9_readsClause_210 : decode cX9_readsClause 210 = .ok (.iconst 1, 1) := by decide +kernel
theorem dX9_readsClause_211 : decode cX9_readsClause 211 = .ok (.goto 4, 3) := by decide +kernel
theorem dX9_readsClause_214 : decode cX9_readsClause 214 = .ok (.iconst 0, 1) := by decide +kernel
theorem dX9_readsClause_215 : decode cX9_readsClause 215 = .ok (.ireturn, 1) := by decide +kernel
theorem dX9_reads_0 : decode cX9_reads 0 = .ok (.iconst 0, 1) := by decide +kernel
theorem dX9_reads_1 : decode cX9_reads 1 = .ok (.istore_n 1, 1) := by decide +kernel
theorem dX9_reads_2 : decode cX9_reads 2 = .ok (.iload_n 1, 1) := by decide +kernel
theorem dX9_reads_3 : decode cX9_reads 3 = .ok (.bipush 43, 2) := by decide +kernel
theorem dX9_reads_5 : decode cX9_reads 5 = .ok (.if_icmp .ge 21, 3) := by decide +kernel
theorem dX9_reads_8 : decode cX9_reads 8 = .ok (.aload_n 0, 1) := by decide +kernel
theorem dX9_reads_9 : decode cX9_reads 9 = .ok (.getfield 16, 3) := by decide +kernel
theorem dX9_reads_12 : decode cX9_reads 12 = .ok (.iload_n 1, 1) := by decide +kernel
theorem dX9_reads_13 : decode cX9_reads 13 = .ok (.aload_n 0, 1) := by decide +kernel
theorem dX9_reads_14 : decode cX9_reads 14 = .ok (.getfield 13, 3) := by decide +kernel
theorem dX9_reads_17 : decode cX9_reads 17 = .ok (.iload_n 1, 1) := by decide +kernel
theorem dX9_reads_18 : decode cX9_reads 18 = .ok (.iaload, 1) := by decide +kernel
theorem dX9_reads_19 : decode cX9_reads 19 = .ok (.iastore, 1) := by decide +kernel
theorem dX9_reads_20 : decode cX9_reads 20 = .ok (.iinc 1 1, 3) := by decide +kernel
theorem dX9_reads_23 : decode cX9_reads 23 = .ok (.goto (-21), 3) := by decide +kernel
theorem dX9_reads_26 : decode cX9_reads 26 = .ok (.aload_n 0, 1) := by decide +kernel
theorem dX9_reads_27 : decode cX9_reads 27 = .ok (.iconst 0, 1) := by decide +kernel
theorem dX9_reads_28 : decode cX9_reads 28 = .ok (.putfield 58, 3) := by decide +kernel
theorem dX9_reads_31 : decode cX9_reads 31 = .ok (.iconst 0, 1) := by decide +kernel
theorem dX9_reads_32 : decode cX9_reads 32 = .ok (.istore_n 1, 1) := by decide +kernel
theorem dX9_reads_33 : decode cX9_reads 33 = .ok (.iconst 1, 1) := by decide +kernel
theorem dX9_reads_34 : decode cX9_reads 34 = .ok (.istore_n 2, 1) := by decide +kernel
theorem dX9_reads_35 : decode cX9_reads 35 = .ok (.iload_n 2, 1) := by decide +kernel
theorem dX9_reads_36 : decode cX9_reads 36 = .ok (.ifCond .eq 70, 3) := by decide +kernel
theorem dX9_reads_39 : decode cX9_reads 39 = .ok (.aload_n 0, 1) := by decide +kernel
theorem dX9_reads_40 : decode cX9_reads 40 = .ok (.invokevirtual 81, 3) := by decide +kernel
theorem dX9_reads_43 : decode cX9_reads 43 = .ok (.aload_n 0, 1) := by decide +kernel
theorem dX9_reads_44 : decode cX9_reads 44 = .ok (.invokevirtual 98, 3) := by decide +kernel
theorem dX9_reads_47 : decode cX9_reads 47 = .ok (.ifCond .ne 5, 3) := by decide +kernel
theorem dX9_reads_50 : decode cX9_reads 50 = .ok (.iconst (-1), 1) := by decide +kernel
theorem dX9_reads_51 : decode cX9_reads 51 = .ok (.ireturn, 1) := by decide +kernel
theorem dX9_reads_52 : decode cX9_reads 52 = .ok (.iinc 1 1, 3) := by decide +kernel
theorem dX9_reads_55 : decode cX9_reads 55 = .ok (.aload_n 0, 1) := by decide +kernel
theorem dX9_reads_56 : decode cX9_reads 56 = .ok (.invokevirtual 81, 3) := by decide +kernel
theorem dX9_reads_59 : decode cX9_reads 59 = .ok (.aload_n 0, 1) := by decide +kernel
theorem dX9_reads_60 : decode cX9_reads 60 = .ok (.getfield 75, 3) := by decide +kernel
theorem dX9_reads_63 : decode cX9_reads 63 = .ok (.ifCond .eq 7, 3) := by decide +kernel
theorem dX9_reads_66 : decode cX9_reads 66 = .ok (.iconst 1, 1) := by decide +kernel
theorem dX9_reads_67 : decode cX9_reads 67 = .ok (.goto 4, 3) := by decide +kernel
theorem dX9_reads_70 : decode cX9_reads 70 = .ok (.iconst 0, 1) := by decide +kernel
theorem dX9_reads_71 : decode cX9_reads 71 = .ok (.istore_n 2, 1) := by decide +kernel
theorem dX9_reads_72 : decode cX9_reads 72 = .ok (.iload_n 2, 1) := by decide +kernel
theorem dX9_reads_73 : decode cX9_reads 73 = .ok (.ifCond .eq (-38), 3) := by decide +kernel
theorem dX9_reads_76 : decode cX9_reads 76 = .ok (.aload_n 0, 1) := by decide +kernel
theorem dX9_reads_77 : decode cX9_reads 77 = .ok (.getfield 75, 3) := by decide +kernel
theorem dX9_reads_80 : decode cX9_reads 80 = .ok (.iconst 3, 1) := by decide +kernel
theorem dX9_reads_81 : decode cX9_reads 81 = .ok (.if_icmp .ne 23, 3) := by decide +kernel
theorem dX9_reads_84 : decode cX9_reads 84 = .ok (.aload_n 0, 1) := by decide +kernel
theorem dX9_reads_85 : decode cX9_reads 85 = .ok (.getfield 7, 3) := by decide +kernel
theorem dX9_reads_88 : decode cX9_reads 88 = .ok (.aload_n 0, 1) := by decide +kernel
theorem dX9_reads_89 : decode cX9_reads 89 = .ok (.getfield 65, 3) := by decide +kernel
theorem dX9_reads_92 : decode cX9_reads 92 = .ok (.iaload, 1) := by decide +kernel
theorem dX9_reads_93 : decode cX9_reads 93 = .ok (.bipush 59, 2) := by decide +kernel
theorem dX9_reads_95 : decode cX9_reads 95 = .ok (.if_icmp .ne 9, 3) := by decide +kernel
theorem dX9_reads_98 : decode cX9_reads 98 = .ok (.iload_n 1, 1) := by decide +kernel
theorem dX9_reads_99 : decode cX9_reads 99 = .ok (.bipush 14, 2) := by decide +kernel
theorem dX9_reads_101 : decode cX9_reads 101 = .ok (.if_icmp .ne (-66), 3) := by decide +kernel
theorem dX9_reads_104 : decode cX9_reads 104 = .ok (.iconst (-1), 1) := by decide +kernel
theorem dX9_reads_105 : decode cX9_reads 105 = .ok (.ireturn, 1) := by decide +kernel
theorem dX9_reads_106 : decode cX9_reads 106 = .ok (.iload_n 1, 1) := by decide +kernel
theorem dX9_reads_107 : decode cX9_reads 107 = .ok (.ireturn, 1) := by decide +kernel
theorem dX9_lays_0 : decode cX9_lays 0 = .ok (.iconst 0, 1) := by decide +kernel
theorem dX9_lays_1 : decode cX9_lays 1 = .ok (.istore_n 1, 1) := by decide +kernel
theorem dX9_lays_2 : decode cX9_lays 2 = .ok (.iload_n 1, 1) := by decide +kernel
theorem dX9_lays_3 : decode cX9_lays 3 = .ok (.bipush 8, 2) := by decide +kernel
theorem dX9_lays_5 : decode cX9_lays 5 = .ok (.if_icmp .ge 42, 3) := by decide +kernel
theorem dX9_lays_8 : decode cX9_lays 8 = .ok (.aload_n 0, 1) := by decide +kernel
theorem dX9_lays_9 : decode cX9_lays 9 = .ok (.getfield 19, 3) := by decide +kernel
theorem dX9_lays_12 : decode cX9_lays 12 = .ok (.iload_n 1, 1) := by decide +kernel
theorem dX9_lays_13 : decode cX9_lays 13 = .ok (.aload_n 0, 1) := by decide +kernel
theorem dX9_lays_14 : decode cX9_lays 14 = .ok (.getfield 13, 3) := by decide +kernel
theorem dX9_lays_17 : decode cX9_lays 17 = .ok (.bipush 27, 2) := by decide +kernel
theorem dX9_lays_19 : decode cX9_lays 19 = .ok (.iload_n 1, 1) := by decide +kernel
theorem dX9_lays_20 : decode cX9_lays 20 = .ok (.iadd, 1) := by decide +kernel
theorem dX9_lays_21 : decode cX9_lays 21 = .ok (.iaload, 1) := by decide +kernel
theorem dX9_lays_22 : decode cX9_lays 22 = .ok (.iastore, 1) := by decide +kernel
theorem dX9_lays_23 : decode cX9_lays 23 = .ok (.aload_n 0, 1) := by decide +kernel
theorem dX9_lays_24 : decode cX9_lays 24 = .ok (.getfield 19, 3) := by decide +kernel
theorem dX9_lays_27 : decode cX9_lays 27 = .ok (.bipush 8, 2) := by decide +kernel
theorem dX9_lays_29 : decode cX9_lays 29 = .ok (.iload_n 1, 1) := by decide +kernel
theorem dX9_lays_30 : decode cX9_lays 30 = .ok (.iadd, 1) := by decide +kernel
theorem dX9_lays_31 : decode cX9_lays 31 = .ok (.aload_n 0, 1) := by decide +kernel
theorem dX9_lays_32 : decode cX9_lays 32 = .ok (.getfield 13, 3) := by decide +kernel
theorem dX9_lays_35 : decode cX9_lays 35 = .ok (.bipush 19, 2) := by decide +kernel
theorem dX9_lays_37 : decode cX9_lays 37 = .ok (.iload_n 1, 1) := by decide +kernel
theorem dX9_lays_38 : decode cX9_lays 38 = .ok (.iadd, 1) := by decide +kernel
theorem dX9_lays_39 : decode cX9_lays 39 = .ok (.iaload, 1) := by decide +kernel
theorem dX9_lays_40 : decode cX9_lays 40 = .ok (.iastore, 1) := by decide +kernel
theorem dX9_lays_41 : decode cX9_lays 41 = .ok (.iinc 1 1, 3) := by decide +kernel
theorem dX9_lays_44 : decode cX9_lays 44 = .ok (.goto (-42), 3) := by decide +kernel
theorem dX9_lays_47 : decode cX9_lays 47 = .ok (.aload_n 0, 1) := by decide +kernel
theorem dX9_lays_48 : decode cX9_lays 48 = .ok (.getfield 19, 3) := by decide +kernel
theorem dX9_lays_51 : decode cX9_lays 51 = .ok (.bipush 16, 2) := by decide +kernel
theorem dX9_lays_53 : decode cX9_lays 53 = .ok (.iconst 0, 1) := by decide +kernel
theorem dX9_lays_54 : decode cX9_lays 54 = .ok (.iastore, 1) := by decide +kernel
theorem dX9_lays_55 : decode cX9_lays 55 = .ok (.aload_n 0, 1) := by decide +kernel
theorem dX9_lays_56 : decode cX9_lays 56 = .ok (.getfield 19, 3) := by decide +kernel
theorem dX9_lays_59 : decode cX9_lays 59 = .ok (.bipush 17, 2) := by decide +kernel
theorem dX9_lays_61 : decode cX9_lays 61 = .ok (.iconst (-1), 1) := by decide +kernel
theorem dX9_lays_62 : decode cX9_lays 62 = .ok (.iastore, 1) := by decide +kernel
theorem dX9_lays_63 : decode cX9_lays 63 = .ok (.aload_n 0, 1) := by decide +kernel
theorem dX9_lays_64 : decode cX9_lays 64 = .ok (.iconst 0, 1) := by decide +kernel
theorem dX9_lays_65 : decode cX9_lays 65 = .ok (.putfield 101, 3) := by decide +kernel
theorem dX9_lays_68 : decode cX9_lays 68 = .ok (.aload_n 0, 1) := by decide +kernel
theorem dX9_lays_69 : decode cX9_lays 69 = .ok (.iconst 0, 1) := by decide +kernel
theorem dX9_lays_70 : decode cX9_lays 70 = .ok (.putfield 104, 3) := by decide +kernel
theorem dX9_lays_73 : decode cX9_lays 73 = .ok (.aload_n 0, 1) := by decide +kernel
theorem dX9_lays_74 : decode cX9_lays 74 = .ok (.getfield 28, 3) := by decide +kernel
theorem dX9_lays_77 : decode cX9_lays 77 = .ok (.iconst 0, 1) := by decide +kernel
theorem dX9_lays_78 : decode cX9_lays 78 = .ok (.iconst 0, 1) := by decide +kernel
theorem dX9_lays_79 : decode cX9_lays 79 = .ok (.bastore, 1) := by decide +kernel
theorem dX9_lays_80 : decode cX9_lays 80 = .ok (.aload_n 0, 1) := by decide +kernel
theorem dX9_lays_81 : decode cX9_lays 81 = .ok (.getfield 28, 3) := by decide +kernel
theorem dX9_lays_84 : decode cX9_lays 84 = .ok (.iconst 1, 1) := by decide +kernel
theorem dX9_lays_85 : decode cX9_lays 85 = .ok (.iconst 0, 1) := by decide +kernel
theorem dX9_lays_86 : decode cX9_lays 86 = .ok (.bastore, 1) := by decide +kernel
theorem dX9_lays_87 : decode cX9_lays 87 = .ok (.return_, 1) := by decide +kernel
theorem dX9_fault_0 : decode cX9_fault 0 = .ok (.aload_n 0, 1) := by decide +kernel
theorem dX9_fault_1 : decode cX9_fault 1 = .ok (.invokevirtual 107, 3) := by decide +kernel
theorem dX9_fault_4 : decode cX9_fault 4 = .ok (.iconst (-1), 1) := by decide +kernel
theorem dX9_fault_5 : decode cX9_fault 5 = .ok (.if_icmp .ne 10, 3) := by decide +kernel
theorem dX9_fault_8 : decode cX9_fault 8 = .ok (.aload_n 0, 1) := by decide +kernel
theorem dX9_fault_9 : decode cX9_fault 9 = .ok (.getfield 65, 3) := by decide +kernel
theorem dX9_fault_12 : decode cX9_fault 12 = .ok (.goto 4, 3) := by decide +kernel
theorem dX9_fault_15 : decode cX9_fault 15 = .ok (.iconst (-1), 1) := by decide +kernel
theorem dX9_fault_16 : decode cX9_fault 16 = .ok (.ireturn, 1) := by decide +kernel
theorem dX9_town_0 : decode cX9_town 0 = .ok (.aload_n 0, 1) := by decide +kernel
theorem dX9_town_1 : decode cX9_town 1 = .ok (.invokevirtual 107, 3) := by decide +kernel
theorem dX9_town_4 : decode cX9_town 4 = .ok (.istore_n 1, 1) := by decide +kernel
theorem dX9_town_5 : decode cX9_town 5 = .ok (.iload_n 1, 1) := by decide +kernel
theorem dX9_town_6 : decode cX9_town 6 = .ok (.iconst (-1), 1) := by decide +kernel
theorem dX9_town_7 : decode cX9_town 7 = .ok (.if_icmp .ne 6, 3) := by decide +kernel
theorem dX9_town_10 : decode cX9_town 10 = .ok (.bipush (-4), 2) := by decide +kernel
theorem dX9_town_12 : decode cX9_town 12 = .ok (.ireturn, 1) := by decide +kernel
theorem dX9_town_13 : decode cX9_town 13 = .ok (.iconst 0, 1) := by decide +kernel
theorem dX9_town_14 : decode cX9_town 14 = .ok (.istore_n 2, 1) := by decide +kernel
theorem dX9_town_15 : decode cX9_town 15 = .ok (.iload_n 2, 1) := by decide +kernel
theorem dX9_town_16 : decode cX9_town 16 = .ok (.bipush 43, 2) := by decide +kernel
theorem dX9_town_18 : decode cX9_town 18 = .ok (.if_icmp .ge 21, 3) := by decide +kernel
theorem dX9_town_21 : decode cX9_town 21 = .ok (.aload_n 0, 1) := by decide +kernel
theorem dX9_town_22 : decode cX9_town 22 = .ok (.getfield 13, 3) := by decide +kernel
theorem dX9_town_25 : decode cX9_town 25 = .ok (.iload_n 2, 1) := by decide +kernel
theorem dX9_town_26 : decode cX9_town 26 = .ok (.aload_n 0, 1) := by decide +kernel
theorem dX9_town_27 : decode cX9_town 27 = .ok (.getfield 16, 3) := by decide +kernel
theorem dX9_town_30 : decode cX9_town 30 = .ok (.iload_n 2, 1) := by decide +kernel
theorem dX9_town_31 : decode cX9_town 31 = .ok (.iaload, 1) := by decide +kernel
theorem dX9_town_32 : decode cX9_town 32 = .ok (.iastore, 1) := by decide +kernel
theorem dX9_town_33 : decode cX9_town 33 = .ok (.iinc 2 1, 3) := by decide +kernel
theorem dX9_town_36 : decode cX9_town 36 = .ok (.goto (-21), 3) := by decide +kernel
theorem dX9_town_39 : decode cX9_town 39 = .ok (.aload_n 0, 1) := by decide +kernel
theorem dX9_town_40 : decode cX9_town 40 = .ok (.invokevirtual 48, 3) := by decide +kernel
theorem dX9_town_43 : decode cX9_town 43 = .ok (.aload_n 0, 1) := by decide +kernel
theorem dX9_town_44 : decode cX9_town 44 = .ok (.iconst 0, 1) := by decide +kernel
theorem dX9_town_45 : decode cX9_town 45 = .ok (.putfield 55, 3) := by decide +kernel
theorem dX9_town_48 : decode cX9_town 48 = .ok (.iload_n 1, 1) := by decide +kernel
theorem dX9_town_49 : decode cX9_town 49 = .ok (.ireturn, 1) := by decide +kernel
theorem dX9_wants_0 : decode cX9_wants 0 = .ok (.aload_n 0, 1) := by decide +kernel
theorem dX9_wants_1 : decode cX9_wants 1 = .ok (.getfield 13, 3) := by decide +kernel
theorem dX9_wants_4 : decode cX9_wants 4 = .ok (.iconst 3, 1) := by decide +kernel
theorem dX9_wants_5 : decode cX9_wants 5 = .ok (.iload_n 1, 1) := by decide +kernel
theorem dX9_wants_6 : decode cX9_wants 6 = .ok (.iadd, 1) := by decide +kernel
theorem dX9_wants_7 : decode cX9_wants 7 = .ok (.iaload, 1) := by decide +kernel
theorem dX9_wants_8 : decode cX9_wants 8 = .ok (.istore_n 2, 1) := by decide +kernel
theorem dX9_wants_9 : decode cX9_wants 9 = .ok (.iload_n 2, 1) := by decide +kernel
theorem dX9_wants_10 : decode cX9_wants 10 = .ok (.iconst 3, 1) := by decide +kernel
theorem dX9_wants_11 : decode cX9_wants 11 = .ok (.if_icmp .ne 7, 3) := by decide +kernel
theorem dX9_wants_14 : decode cX9_wants 14 = .ok (.iconst 0, 1) := by decide +kernel
theorem dX9_wants_15 : decode cX9_wants 15 = .ok (.goto 31, 3) := by decide +kernel
theorem dX9_wants_18 : decode cX9_wants 18 = .ok (.iload_n 2, 1) := by decide +kernel
theorem dX9_wants_19 : decode cX9_wants 19 = .ok (.iconst 1, 1) := by decide +kernel
theorem dX9_wants_20 : decode cX9_wants 20 = .ok (.if_icmp .ne 17, 3) := by decide +kernel
theorem dX9_wants_23 : decode cX9_wants 23 = .ok (.iconst 2, 1) := by decide +kernel
theorem dX9_wants_24 : decode cX9_wants 24 = .ok (.aload_n 0, 1) := by decide +kernel
theorem dX9_wants_25 : decode cX9_wants 25 = .ok (.getfield 13, 3) := by decide +kernel
theorem dX9_wants_28 : decode cX9_wants 28 = .ok (.bipush 11, 2) := by decide +kernel
theorem dX9_wants_30 : decode cX9_wants 30 = .ok (.iload_n 1, 1) := by decide +kernel
theorem dX9_wants_31 : decode cX9_wants 31 = .ok (.iadd, 1) := by decide +kernel
theorem dX9_wants_32 : decode cX9_wants 32 = .ok (.iaload, 1) := by decide +kernel
theorem dX9_wants_33 : decode cX9_wants 33 = .ok (.imul, 1) := by decide +kernel
theorem dX9_wants_34 : decode cX9_wants 34 = .ok (.goto 12, 3) := by decide +kernel
theorem dX9_wants_37 : decode cX9_wants 37 = .ok (.aload_n 0, 1) := by decide +kernel
theorem dX9_wants_38 : decode cX9_wants 38 = .ok (.getfield 13, 3) := by decide +kernel
theorem dX9_wants_41 : decode cX9_wants 41 = .ok (.bipush 11, 2) := by decide +kernel
theorem dX9_wants_43 : decode cX9_wants 43 = .ok (.iload_n 1, 1) := by decide +kernel
theorem dX9_wants_44 : decode cX9_wants 44 = .ok (.iadd, 1) := by decide +kernel
theorem dX9_wants_45 : decode cX9_wants 45 = .ok (.iaload, 1) := by decide +kernel
theorem dX9_wants_46 : decode cX9_wants 46 = .ok (.ireturn, 1) := by decide +kernel
theorem dX9_driestBut_0 : decode cX9_driestBut 0 = .ok (.iconst (-1), 1) := by decide +kernel
theorem dX9_driestBut_1 : decode cX9_driestBut 1 = .ok (.istore_n 2, 1) := by decide +kernel
theorem dX9_driestBut_2 : decode cX9_driestBut 2 = .ok (.iconst 0, 1) := by decide +kernel
theorem dX9_driestBut_3 : decode cX9_driestBut 3 = .ok (.istore_n 3, 1) := by decide +kernel
theorem dX9_driestBut_4 : decode cX9_driestBut 4 = .ok (.iload_n 3, 1) := by decide +kernel
theorem dX9_driestBut_5 : decode cX9_driestBut 5 = .ok (.aload_n 0, 1) := by decide +kernel
theorem dX9_driestBut_6 : decode cX9_driestBut 6 = .ok (.getfield 13, 3) := by decide +kernel
theorem dX9_driestBut_9 : decode cX9_driestBut 9 = .ok (.iconst 0, 1) := by decide +kernel
theorem dX9_driestBut_10 : decode cX9_driestBut 10 = .ok (.iaload, 1) := by decide +kernel
theorem dX9_driestBut_11 : decode cX9_driestBut 11 = .ok (.if_icmp .ge 40, 3) := by decide +kernel
theorem dX9_driestBut_14 : decode cX9_driestBut 14 = .ok (.iload_n 3, 1) := by decide +kernel
theorem dX9_driestBut_15 : decode cX9_driestBut 15 = .ok (.iload_n 1, 1) := by decide +kernel
theorem dX9_driestBut_16 : decode cX9_driestBut 16 = .ok (.if_icmp .eq 27, 3) := by decide +kernel
theorem dX9_driestBut_19 : decode cX9_driestBut 19 = .ok (.iload_n 2, 1) := by decide +kernel
theorem dX9_driestBut_20 : decode cX9_driestBut 20 = .ok (.iconst (-1), 1) := by decide +kernel
theorem dX9_driestBut_21 : decode cX9_driestBut 21 = .ok (.if_icmp .eq 18, 3) := by decide +kernel
theorem dX9_driestBut_24 : decode cX9_driestBut 24 = .ok (.aload_n 0, 1) := by decide +kernel
theorem dX9_driestBut_25 : decode cX9_driestBut 25 = .ok (.getfield 19, 3) := by decide +kernel
theorem dX9_driestBut_28 : decode cX9_driestBut 28 = .ok (.iload_n 3, 1) := by decide +kernel
theorem dX9_driestBut_29 : decode cX9_driestBut 29 = .ok (.iaload, 1) := by decide +kernel
theorem dX9_driestBut_30 : decode cX9_driestBut 30 = .ok (.aload_n 0, 1) := by decide +kernel
theorem dX9_driestBut_31 : decode cX9_driestBut 31 = .ok (.getfield 19, 3) := by decide +kernel
theorem dX9_driestBut_34 : decode cX9_driestBut 34 = .ok (.iload_n 2, 1) := by decide +kernel
theorem dX9_driestBut_35 : decode cX9_driestBut 35 = .ok (.iaload, 1) := by decide +kernel
theorem dX9_driestBut_36 : decode cX9_driestBut 36 = .ok (.if_icmp .ge 7, 3) := by decide +kernel
theorem dX9_driestBut_39 : decode cX9_driestBut 39 = .ok (.iload_n 3, 1) := by decide +kernel
theorem dX9_driestBut_40 : decode cX9_driestBut 40 = .ok (.goto 4, 3) := by decide +kernel
theorem dX9_driestBut_43 : decode cX9_driestBut 43 = .ok (.iload_n 2, 1) := by decide +kernel
theorem dX9_driestBut_44 : decode cX9_driestBut 44 = .ok (.istore_n 2, 1) := by decide +kernel
theorem dX9_driestBut_45 : decode cX9_driestBut 45 = .ok (.iinc 3 1, 3) := by decide +kernel
theorem dX9_driestBut_48 : decode cX9_driestBut 48 = .ok (.goto (-44), 3) := by decide +kernel
theorem dX9_driestBut_51 : decode cX9_driestBut 51 = .ok (.iload_n 2, 1) := by decide +kernel
theorem dX9_driestBut_52 : decode cX9_driestBut 52 = .ok (.ireturn, 1) := by decide +kernel
theorem dX9_choice_0 : decode cX9_choice 0 = .ok (.aload_n 0, 1) := by decide +kernel
theorem dX9_choice_1 : decode cX9_choice 1 = .ok (.getfield 13, 3) := by decide +kernel
theorem dX9_choice_4 : decode cX9_choice 4 = .ok (.iconst 3, 1) := by decide +kernel
theorem dX9_choice_5 : decode cX9_choice 5 = .ok (.iload_n 1, 1) := by decide +kernel
theorem dX9_choice_6 : decode cX9_choice 6 = .ok (.iadd, 1) := by decide +kernel
theorem dX9_choice_7 : decode cX9_choice 7 = .ok (.iaload, 1) := by decide +kernel
theorem dX9_choice_8 : decode cX9_choice 8 = .ok (.istore_n 2, 1) := by decide +kernel
theorem dX9_choice_9 : decode cX9_choice 9 = .ok (.iload_n 2, 1) := by decide +kernel
theorem dX9_choice_10 : decode cX9_choice 10 = .ok (.iconst 2, 1) := by decide +kernel
theorem dX9_choice_11 : decode cX9_choice 11 = .ok (.if_icmp .ne 5, 3) := by decide +kernel
theorem dX9_choice_14 : decode cX9_choice 14 = .ok (.iconst (-1), 1) := by decide +kernel
theorem dX9_choice_15 : decode cX9_choice 15 = .ok (.ireturn, 1) := by decide +kernel
theorem dX9_choice_16 : decode cX9_choice 16 = .ok (.iload_n 2, 1) := by decide +kernel
theorem dX9_choice_17 : decode cX9_choice 17 = .ok (.iconst 3, 1) := by decide +kernel
theorem dX9_choice_18 : decode cX9_choice 18 = .ok (.if_icmp .ne 11, 3) := by decide +kernel
theorem dX9_choice_21 : decode cX9_choice 21 = .ok (.aload_n 0, 1) := by decide +kernel
theorem dX9_choice_22 : decode cX9_choice 22 = .ok (.iload_n 1, 1) := by decide +kernel
theorem dX9_choice_23 : decode cX9_choice 23 = .ok (.invokevirtual 111, 3) := by decide +kernel
theorem dX9_choice_26 : decode cX9_choice 26 = .ok (.goto 26, 3) := by decide +kernel
theorem dX9_choice_29 : decode cX9_choice 29 = .ok (.aload_n 0, 1) := by decide +kernel
theorem dX9_choice_30 : decode cX9_choice 30 = .ok (.getfield 19, 3) := by decide +kernel
theorem dX9_choice_33 : decode cX9_choice 33 = .ok (.iload_n 1, 1) := by decide +kernel
theorem dX9_choice_34 : decode cX9_choice 34 = .ok (.iaload, 1) := by decide +kernel
theorem dX9_choice_35 : decode cX9_choice 35 = .ok (.aload_n 0, 1) := by decide +kernel
theorem dX9_choice_36 : decode cX9_choice 36 = .ok (.iload_n 1, 1) := by decide +kernel
theorem dX9_choice_37 : decode cX9_choice 37 = .ok (.invokevirtual 114, 3) := by decide +kernel
theorem dX9_choice_40 : decode cX9_choice 40 = .ok (.if_icmp .ge 7, 3) := by decide +kernel
theorem dX9_choice_43 : decode cX9_choice 43 = .ok (.iload_n 1, 1) := by decide +kernel
theorem dX9_choice_44 : decode cX9_choice 44 = .ok (.goto 8, 3) := by decide +kernel
theorem dX9_choice_47 : decode cX9_choice 47 = .ok (.aload_n 0, 1) := by decide +kernel
theorem dX9_choice_48 : decode cX9_choice 48 = .ok (.iconst (-1), 1) := by decide +kernel
theorem dX9_choice_49 : decode cX9_choice 49 = .ok (.invokevirtual 111, 3) := by decide +kernel
theorem dX9_choice_52 : decode cX9_choice 52 = .ok (.ireturn, 1) := by decide +kernel
theorem dX9_counts_0 : decode cX9_counts 0 = .ok (.iconst 0, 1) := by decide +kernel
theorem dX9_counts_1 : decode cX9_counts 1 = .ok (.istore_n 1, 1) := by decide +kernel
theorem dX9_counts_2 : decode cX9_counts 2 = .ok (.iload_n 1, 1) := by decide +kernel
theorem dX9_counts_3 : decode cX9_counts 3 = .ok (.bipush 8, 2) := by decide +kernel
theorem dX9_counts_5 : decode cX9_counts 5 = .ok (.if_icmp .ge 16, 3) := by decide +kernel
theorem dX9_counts_8 : decode cX9_counts 8 = .ok (.aload_n 0, 1) := by decide +kernel
theorem dX9_counts_9 : decode cX9_counts 9 = .ok (.getfield 35, 3) := by decide +kernel
theorem dX9_counts_12 : decode cX9_counts 12 = .ok (.iload_n 1, 1) := by decide +kernel
theorem dX9_counts_13 : decode cX9_counts 13 = .ok (.iconst 0, 1) := by decide +kernel
theorem dX9_counts_14 : decode cX9_counts 14 = .ok (.iastore, 1) := by decide +kernel
theorem dX9_counts_15 : decode cX9_counts 15 = .ok (.iinc 1 1, 3) := by decide +kernel
theorem dX9_counts_18 : decode cX9_counts 18 = .ok (.goto (-16), 3) := by decide +kernel
theorem dX9_counts_21 : decode cX9_counts 21 = .ok (.iconst 0, 1) := by decide +kernel
theorem dX9_counts_22 : decode cX9_counts 22 = .ok (.istore_n 1, 1) := by decide +kernel
theorem dX9_counts_23 : decode cX9_counts 23 = .ok (.iload_n 1, 1) := by decide +kernel
theorem dX9_counts_24 : decode cX9_counts 24 = .ok (.aload_n 0, 1) := by decide +kernel
theorem dX9_counts_25 : decode cX9_counts 25 = .ok (.getfield 13, 3) := by decide +kernel
theorem dX9_counts_28 : decode cX9_counts 28 = .ok (.iconst 0, 1) := by decide +kernel
theorem dX9_counts_29 : decode cX9_counts 29 = .ok (.iaload, 1) := by decide +kernel
theorem dX9_counts_30 : decode cX9_counts 30 = .ok (.if_icmp .ge 79, 3) := by decide +kernel
theorem dX9_counts_33 : decode cX9_counts 33 = .ok (.aload_n 0, 1) := by decide +kernel
theorem dX9_counts_34 : decode cX9_counts 34 = .ok (.getfield 117, 3) := by decide +kernel
theorem dX9_counts_37 : decode cX9_counts 37 = .ok (.iload_n 1, 1) := by decide +kernel
theorem dX9_counts_38 : decode cX9_counts 38 = .ok (.ishr, 1) := by decide +kernel
theorem dX9_counts_39 : decode cX9_counts 39 = .ok (.iconst 1, 1) := by decide +kernel
theorem dX9_counts_40 : decode cX9_counts 40 = .ok (.iand, 1) := by decide +kernel
theorem dX9_counts_41 : decode cX9_counts 41 = .ok (.iconst 1, 1) := by decide +kernel
theorem dX9_counts_42 : decode cX9_counts 42 = .ok (.if_icmp .ne 10, 3) := by decide +kernel
theorem dX9_counts_45 : decode cX9_counts 45 = .ok (.aload_n 0, 1) := by decide +kernel
theorem dX9_counts_46 : decode cX9_counts 46 = .ok (.getfield 38, 3) := by decide +kernel
theorem dX9_counts_49 : decode cX9_counts 49 = .ok (.goto 8, 3) := by decide +kernel
theorem dX9_counts_52 : decode cX9_counts 52 = .ok (.aload_n 0, 1) := by decide +kernel
theorem dX9_counts_53 : decode cX9_counts 53 = .ok (.iload_n 1, 1) := by decide +kernel
theorem dX9_counts_54 : decode cX9_counts 54 = .ok (.invokevirtual 120, 3) := by decide +kernel
theorem dX9_counts_57 : decode cX9_counts 57 = .ok (.istore_n 2, 1) := by decide +kernel
theorem dX9_counts_58 : decode cX9_counts 58 = .ok (.iload_n 2, 1) := by decide +kernel
theorem dX9_counts_59 : decode cX9_counts 59 = .ok (.iconst (-1), 1) := by decide +kernel
theorem dX9_counts_60 : decode cX9_counts 60 = .ok (.if_icmp .eq 43, 3) := by decide +kernel
theorem dX9_counts_63 : decode cX9_counts 63 = .ok (.iload_n 2, 1) := by decide +kernel
theorem dX9_counts_64 : decode cX9_counts 64 = .ok (.aload_n 0, 1) := by decide +kernel
theorem dX9_counts_65 : decode cX9_counts 65 = .ok (.getfield 19, 3) := by decide +kernel
theorem dX9_counts_68 : decode cX9_counts 68 = .ok (.bipush 17, 2) := by decide +kernel
theorem dX9_counts_70 : decode cX9_counts 70 = .ok (.iaload, 1) := by decide +kernel
theorem dX9_counts_71 : decode cX9_counts 71 = .ok (.if_icmp .eq 32, 3) := by decide +kernel
theorem dX9_counts_74 : decode cX9_counts 74 = .ok (.aload_n 0, 1) := by decide +kernel
theorem dX9_counts_75 : decode cX9_counts 75 = .ok (.getfield 123, 3) := by decide +kernel
theorem dX9_counts_78 : decode cX9_counts 78 = .ok (.iload_n 1, 1) := by decide +kernel
theorem dX9_counts_79 : decode cX9_counts 79 = .ok (.ishr, 1) := by decide +kernel
theorem dX9_counts_80 : decode cX9_counts 80 = .ok (.iconst 1, 1) := by decide +kernel
theorem dX9_counts_81 : decode cX9_counts 81 = .ok (.iand, 1) := by decide +kernel
theorem dX9_counts_82 : decode cX9_counts 82 = .ok (.ifCond .ne 21, 3) := by decide +kernel
theorem dX9_counts_85 : decode cX9_counts 85 = .ok (.aload_n 0, 1) := by decide +kernel
theorem dX9_counts_86 : decode cX9_counts 86 = .ok (.getfield 35, 3) := by decide +kernel
theorem dX9_counts_89 : decode cX9_counts 89 = .ok (.iload_n 2, 1) := by decide +kernel
theorem dX9_counts_90 : decode cX9_counts 90 = .ok (.dup2, 1) := by decide +kernel
theorem dX9_counts_91 : decode cX9_counts 91 = .ok (.iaload, 1) := by decide +kernel
theorem dX9_counts_92 : decode cX9_counts 92 = .ok (.aload_n 0, 1) := by decide +kernel
theorem dX9_counts_93 : decode cX9_counts 93 = .ok (.getfield 19, 3) := by decide +kernel
theorem dX9_counts_96 : decode cX9_counts 96 = .ok (.bipush 8, 2) := by decide +kernel
theorem dX9_counts_98 : decode cX9_counts 98 = .ok (.iload_n 1, 1) := by decide +kernel
theorem dX9_counts_99 : decode cX9_counts 99 = .ok (.iadd, 1) := by decide +kernel
theorem dX9_counts_100 : decode cX9_counts 100 = .ok (.iaload, 1) := by decide +kernel
theorem dX9_counts_101 : decode cX9_counts 101 = .ok (.iadd, 1) := by decide +kernel
theorem dX9_counts_102 : decode cX9_counts 102 = .ok (.iastore, 1) := by decide +kernel
theorem dX9_counts_103 : decode cX9_counts 103 = .ok (.iinc 1 1, 3) := by decide +kernel
theorem dX9_counts_106 : decode cX9_counts 106 = .ok (.goto (-83), 3) := by decide +kernel
theorem dX9_counts_109 : decode cX9_counts 109 = .ok (.return_, 1) := by decide +kernel
theorem dX9_carried_0 : decode cX9_carried 0 = .ok (.aload_n 0, 1) := by decide +kernel
theorem dX9_carried_1 : decode cX9_carried 1 = .ok (.invokevirtual 126, 3) := by decide +kernel
theorem dX9_carried_4 : decode cX9_carried 4 = .ok (.iconst (-1), 1) := by decide +kernel
theorem dX9_carried_5 : decode cX9_carried 5 = .ok (.istore_n 1, 1) := by decide +kernel
theorem dX9_carried_6 : decode cX9_carried 6 = .ok (.iconst 0, 1) := by decide +kernel
theorem dX9_carried_7 : decode cX9_carried 7 = .ok (.istore_n 2, 1) := by decide +kernel
theorem dX9_carried_8 : decode cX9_carried 8 = .ok (.iconst 0, 1) := by decide +kernel
theorem dX9_carried_9 : decode cX9_carried 9 = .ok (.istore_n 3, 1) := by decide +kernel
theorem dX9_carried_10 : decode cX9_carried 10 = .ok (.iload_n 3, 1) := by decide +kernel
theorem dX9_carried_11 : decode cX9_carried 11 = .ok (.aload_n 0, 1) := by decide +kernel
theorem dX9_carried_12 : decode cX9_carried 12 = .ok (.getfield 13, 3) := by decide +kernel
theorem dX9_carried_15 : decode cX9_carried 15 = .ok (.iconst 0, 1) := by decide +kernel
theorem dX9_carried_16 : decode cX9_carried 16 = .ok (.iaload, 1) := by decide +kernel
theorem dX9_carried_17 : decode cX9_carried 17 = .ok (.if_icmp .ge 60, 3) := by decide +kernel
theorem dX9_carried_20 : decode cX9_carried 20 = .ok (.aload_n 0, 1) := by decide +kernel
theorem dX9_carried_21 : decode cX9_carried 21 = .ok (.getfield 35, 3) := by decide +kernel
theorem dX9_carried_24 : decode cX9_carried 24 = .ok (.iload_n 3, 1) := by decide +kernel
theorem dX9_carried_25 : decode cX9_carried 25 = .ok (.iaload, 1) := by decide +kernel
theorem dX9_carried_26 : decode cX9_carried 26 = .ok (.iload_n 2, 1) := by decide +kernel
theorem dX9_carried_27 : decode cX9_carried 27 = .ok (.if_icmp .le 7, 3) := by decide +kernel
theorem dX9_carried_30 : decode cX9_carried 30 = .ok (.iload_n 3, 1) := by decide +kernel
theorem dX9_carried_31 : decode cX9_carried 31 = .ok (.goto 18, 3) := by decide +kernel
theorem dX9_carried_34 : decode cX9_carried 34 = .ok (.aload_n 0, 1) := by decide +kernel
theorem dX9_carried_35 : decode cX9_carried 35 = .ok (.getfield 35, 3) := by decide +kernel
theorem dX9_carried_38 : decode cX9_carried 38 = .ok (.iload_n 3, 1) := by decide +kernel
theorem dX9_carried_39 : decode cX9_carried 39 = .ok (.iaload, 1) := by decide +kernel
theorem dX9_carried_40 : decode cX9_carried 40 = .ok (.iload_n 2, 1) := by decide +kernel
theorem dX9_carried_41 : decode cX9_carried 41 = .ok (.if_icmp .ne 7, 3) := by decide +kernel
theorem dX9_carried_44 : decode cX9_carried 44 = .ok (.iconst (-1), 1) := by decide +kernel
theorem dX9_carried_45 : decode cX9_carried 45 = .ok (.goto 4, 3) := by decide +kernel
theorem dX9_carried_48 : decode cX9_carried 48 = .ok (.iload_n 1, 1) := by decide +kernel
theorem dX9_carried_49 : decode cX9_carried 49 = .ok (.istore_n 1, 1) := by decide +kernel
theorem dX9_carried_50 : decode cX9_carried 50 = .ok (.aload_n 0, 1) := by decide +kernel
theorem dX9_carried_51 : decode cX9_carried 51 = .ok (.getfield 35, 3) := by decide +kernel
theorem dX9_carried_54 : decode cX9_carried 54 = .ok (.iload_n 3, 1) := by decide +kernel
theorem dX9_carried_55 : decode cX9_carried 55 = .ok (.iaload, 1) := by decide +kernel
theorem dX9_carried_56 : decode cX9_carried 56 = .ok (.iload_n 2, 1) := by decide +kernel
theorem dX9_carried_57 : decode cX9_carried 57 = .ok (.if_icmp .le 12, 3) := by decide +kernel
theorem dX9_carried_60 : decode cX9_carried 60 = .ok (.aload_n 0, 1) := by decide +kernel
theorem dX9_carried_61 : decode cX9_carried 61 = .ok (.getfield 35, 3) := by decide +kernel
theorem dX9_carried_64 : decode cX9_carried 64 = .ok (.iload_n 3, 1) := by decide +kernel
theorem dX9_carried_65 : decode cX9_carried 65 = .ok (.iaload, 1) := by decide +kernel
theorem dX9_carried_66 : decode cX9_carried 66 = .ok (.goto 4, 3) := by decide +kernel
theorem dX9_carried_69 : decode cX9_carried 69 = .ok (.iload_n 2, 1) := by decide +kernel
theorem dX9_carried_70 : decode cX9_carried 70 = .ok (.istore_n 2, 1) := by decide +kernel
theorem dX9_carried_71 : decode cX9_carried 71 = .ok (.iinc 3 1, 3) := by decide +kernel
theorem dX9_carried_74 : decode cX9_carried 74 = .ok (.goto (-64), 3) := by decide +kernel
theorem dX9_carried_77 : decode cX9_carried 77 = .ok (.iload_n 1, 1) := by decide +kernel
theorem dX9_carried_78 : decode cX9_carried 78 = .ok (.ireturn, 1) := by decide +kernel
theorem dX9_street_0 : decode cX9_street 0 = .ok (.aload_n 0, 1) := by decide +kernel
theorem dX9_street_1 : decode cX9_street 1 = .ok (.iload_n 1, 1) := by decide +kernel
theorem dX9_street_2 : decode cX9_street 2 = .ok (.invokevirtual 129, 3) := by decide +kernel
theorem dX9_street_5 : decode cX9_street 5 = .ok (.ifCond .ne 6, 3) := by decide +kernel
theorem dX9_street_8 : decode cX9_street 8 = .ok (.bipush (-2), 2) := by decide +kernel
theorem dX9_street_10 : decode cX9_street 10 = .ok (.ireturn, 1) := by decide +kernel
theorem dX9_street_11 : decode cX9_street 11 = .ok (.aload_n 0, 1) := by decide +kernel
theorem dX9_street_12 : decode cX9_street 12 = .ok (.invokevirtual 126, 3) := by decide +kernel
theorem dX9_street_15 : decode cX9_street 15 = .ok (.iload_n 2, 1) := by decide +kernel
theorem dX9_street_16 : decode cX9_street 16 = .ok (.tableswitch 103 0 6 #[44, 53, 63, 73, 80, 90, 96], 44) := by decide +kernel
theorem dX9_street_60 : decode cX9_street 60 = .ok (.aload_n 0, 1) := by decide +kernel
theorem dX9_street_61 : decode cX9_street 61 = .ok (.getfield 13, 3) := by decide +kernel
theorem dX9_street_64 : decode cX9_street 64 = .ok (.iconst 3, 1) := by decide +kernel
theorem dX9_street_65 : decode cX9_street 65 = .ok (.iload_n 1, 1) := by decide +kernel
theorem dX9_street_66 : decode cX9_street 66 = .ok (.iadd, 1) := by decide +kernel
theorem dX9_street_67 : decode cX9_street 67 = .ok (.iaload, 1) := by decide +kernel
theorem dX9_street_68 : decode cX9_street 68 = .ok (.ireturn, 1) := by decide +kernel
theorem dX9_street_69 : decode cX9_street 69 = .ok (.aload_n 0, 1) := by decide +kernel
theorem dX9_street_70 : decode cX9_street 70 = .ok (.getfield 13, 3) := by decide +kernel
theorem dX9_street_73 : decode cX9_street 73 = .ok (.bipush 11, 2) := by decide +kernel
theorem dX9_street_75 : decode cX9_street 75 = .ok (.iload_n 1, 1) := by decide +kernel
theorem dX9_street_76 : decode cX9_street 76 = .ok (.iadd, 1) := by decide +kernel
theorem dX9_street_77 : decode cX9_street 77 = .ok (.iaload, 1) := by decide +kernel
theorem dX9_street_78 : decode cX9_street 78 = .ok (.ireturn, 1) := by decide +kernel
theorem dX9_street_79 : decode cX9_street 79 = .ok (.aload_n 0, 1) := by decide +kernel
theorem dX9_street_80 : decode cX9_street 80 = .ok (.getfield 19, 3) := by decide +kernel
theorem dX9_street_83 : decode cX9_street 83 = .ok (.bipush 8, 2) := by decide +kernel
theorem dX9_street_85 : decode cX9_street 85 = .ok (.iload_n 1, 1) := by decide +kernel
theorem dX9_street_86 : decode cX9_street 86 = .ok (.iadd, 1) := by decide +kernel
theorem dX9_street_87 : decode cX9_street 87 = .ok (.iaload, 1) := by decide +kernel
theorem dX9_street_88 : decode cX9_street 88 = .ok (.ireturn, 1) := by decide +kernel
theorem dX9_street_89 : decode cX9_street 89 = .ok (.aload_n 0, 1) := by decide +kernel
theorem dX9_street_90 : decode cX9_street 90 = .ok (.getfield 19, 3) := by decide +kernel
theorem dX9_street_93 : decode cX9_street 93 = .ok (.iload_n 1, 1) := by decide +kernel
theorem dX9_street_94 : decode cX9_street 94 = .ok (.iaload, 1) := by decide +kernel
theorem dX9_street_95 : decode cX9_street 95 = .ok (.ireturn, 1) := by decide +kernel
theorem dX9_street_96 : decode cX9_street 96 = .ok (.aload_n 0, 1) := by decide +kernel
theorem dX9_street_97 : decode cX9_street 97 = .ok (.getfield 13, 3) := by decide +kernel
theorem dX9_street_100 : decode cX9_street 100 = .ok (.bipush 35, 2) := by decide +kernel
theorem dX9_street_102 : decode cX9_street 102 = .ok (.iload_n 1, 1) := by decide +kernel
theorem dX9_street_103 : decode cX9_street 103 = .ok (.iadd, 1) := by decide +kernel
theorem dX9_street_104 : decode cX9_street 104 = .ok (.iaload, 1) := by decide +kernel
theorem dX9_street_105 : decode cX9_street 105 = .ok (.ireturn, 1) := by decide +kernel
theorem dX9_street_106 : decode cX9_street 106 = .ok (.aload_n 0, 1) := by decide +kernel
theorem dX9_street_107 : decode cX9_street 107 = .ok (.iload_n 1, 1) := by decide +kernel
theorem dX9_street_108 : decode cX9_street 108 = .ok (.invokevirtual 120, 3) := by decide +kernel
theorem dX9_street_111 : decode cX9_street 111 = .ok (.ireturn, 1) := by decide +kernel
theorem dX9_street_112 : decode cX9_street 112 = .ok (.aload_n 0, 1) := by decide +kernel
theorem dX9_street_113 : decode cX9_street 113 = .ok (.getfield 35, 3) := by decide +kernel
theorem dX9_street_116 : decode cX9_street 116 = .ok (.iload_n 1, 1) := by decide +kernel
theorem dX9_street_117 : decode cX9_street 117 = .ok (.iaload, 1) := by decide +kernel
theorem dX9_street_118 : decode cX9_street 118 = .ok (.ireturn, 1) := by decide +kernel
theorem dX9_street_119 : decode cX9_street 119 = .ok (.bipush (-3), 2) := by decide +kernel
theorem dX9_street_121 : decode cX9_street 121 = .ok (.ireturn, 1) := by decide +kernel
theorem dX9_as_0 : decode cX9_as 0 = .ok (.aload_n 0, 1) := by decide +kernel
theorem dX9_as_1 : decode cX9_as 1 = .ok (.iload_n 1, 1) := by decide +kernel
theorem dX9_as_2 : decode cX9_as 2 = .ok (.invokevirtual 129, 3) := by decide +kernel
theorem dX9_as_5 : decode cX9_as 5 = .ok (.ifCond .ne 6, 3) := by decide +kernel
theorem dX9_as_8 : decode cX9_as 8 = .ok (.bipush (-2), 2) := by decide +kernel
theorem dX9_as_10 : decode cX9_as 10 = .ok (.ireturn, 1) := by decide +kernel
theorem dX9_as_11 : decode cX9_as 11 = .ok (.iload_n 2, 1) := by decide +kernel
theorem dX9_as_12 : decode cX9_as 12 = .ok (.iconst 0, 1) := by decide +kernel
theorem dX9_as_13 : decode cX9_as 13 = .ok (.iconst 4, 1) := by decide +kernel
theorem dX9_as_14 : decode cX9_as 14 = .ok (.invokestatic 51, 3) := by decide +kernel
theorem dX9_as_17 : decode cX9_as 17 = .ok (.ifCond .ne 6, 3) := by decide +kernel
theorem dX9_as_20 : decode cX9_as 20 = .ok (.bipush (-3), 2) := by decide +kernel
theorem dX9_as_22 : decode cX9_as 22 = .ok (.ireturn, 1) := by decide +kernel
theorem dX9_as_23 : decode cX9_as 23 = .ok (.aload_n 0, 1) := by decide +kernel
theorem dX9_as_24 : decode cX9_as 24 = .ok (.getfield 13, 3) := by decide +kernel
theorem dX9_as_27 : decode cX9_as 27 = .ok (.iconst 3, 1) := by decide +kernel
theorem dX9_as_28 : decode cX9_as 28 = .ok (.iload_n 1, 1) := by decide +kernel
theorem dX9_as_29 : decode cX9_as 29 = .ok (.iadd, 1) := by decide +kernel
theorem dX9_as_30 : decode cX9_as 30 = .ok (.iaload, 1) := by decide +kernel
theorem dX9_as_31 : decode cX9_as 31 = .ok (.istore_n 3, 1) := by decide +kernel
theorem dX9_as_32 : decode cX9_as 32 = .ok (.iload_n 2, 1) := by decide +kernel
theorem dX9_as_33 : decode cX9_as 33 = .ok (.ifCond .eq 20, 3) := by decide +kernel
theorem dX9_as_36 : decode cX9_as 36 = .ok (.iload_n 2, 1) := by decide +kernel
theorem dX9_as_37 : decode cX9_as 37 = .ok (.iload_n 3, 1) := by decide +kernel
theorem dX9_as_38 : decode cX9_as 38 = .ok (.iconst 1, 1) := by decide +kernel
theorem dX9_as_39 : decode cX9_as 39 = .ok (.iadd, 1) := by decide +kernel
theorem dX9_as_40 : decode cX9_as 40 = .ok (.if_icmp .eq 13, 3) := by decide +kernel
theorem dX9_as_43 : decode cX9_as 43 = .ok (.iload_n 2, 1) := by decide +kernel
theorem dX9_as_44 : decode cX9_as 44 = .ok (.iconst 1, 1) := by decide +kernel
theorem dX9_as_45 : decode cX9_as 45 = .ok (.if_icmp .ne 12, 3) := by decide +kernel
theorem dX9_as_48 : decode cX9_as 48 = .ok (.iload_n 3, 1) := by decide +kernel
theorem dX9_as_49 : decode cX9_as 49 = .ok (.iconst 3, 1) := by decide +kernel
theorem dX9_as_50 : decode cX9_as 50 = .ok (.if_icmp .ge 7, 3) := by decide +kernel
theorem dX9_as_53 : decode cX9_as 53 = .ok (.iconst 1, 1) := by decide +kernel
theorem dX9_as_54 : decode cX9_as 54 = .ok (.goto 4, 3) := by decide +kernel
theorem dX9_as_57 : decode cX9_as 57 = .ok (.iconst 0, 1) := by decide +kernel
theorem dX9_as_58 : decode cX9_as 58 = .ok (.istore 4, 2) := by decide +kernel
theorem dX9_as_60 : decode cX9_as 60 = .ok (.iload 4, 2) := by decide +kernel
theorem dX9_as_62 : decode cX9_as 62 = .ok (.ifCond .eq 11, 3) := by decide +kernel
theorem dX9_as_65 : decode cX9_as 65 = .ok (.aload_n 0, 1) := by decide +kernel
theorem dX9_as_66 : decode cX9_as 66 = .ok (.iload_n 1, 1) := by decide +kernel
theorem dX9_as_67 : decode cX9_as 67 = .ok (.invokevirtual 114, 3) := by decide +kernel
theorem dX9_as_70 : decode cX9_as 70 = .ok (.goto 5, 3) := by decide +kernel
theorem dX9_as_73 : decode cX9_as 73 = .ok (.bipush (-4), 2) := by decide +kernel
theorem dX9_as_75 : decode cX9_as 75 = .ok (.ireturn, 1) := by decide +kernel
theorem dX9_keeps_0 : decode cX9_keeps 0 = .ok (.aload_n 0, 1) := by decide +kernel
theorem dX9_keeps_1 : decode cX9_keeps 1 = .ok (.getfield 101, 3) := by decide +kernel
theorem dX9_keeps_4 : decode cX9_keeps 4 = .ok (.bipush 8, 2) := by decide +kernel
theorem dX9_keeps_6 : decode cX9_keeps 6 = .ok (.if_icmp .ne 42, 3) := by decide +kernel
theorem dX9_keeps_9 : decode cX9_keeps 9 = .ok (.iconst 0, 1) := by decide +kernel
theorem dX9_keeps_10 : decode cX9_keeps 10 = .ok (.istore_n 1, 1) := by decide +kernel
theorem dX9_keeps_11 : decode cX9_keeps 11 = .ok (.iload_n 1, 1) := by decide +kernel
theorem dX9_keeps_12 : decode cX9_keeps 12 = .ok (.bipush 126, 2) := by decide +kernel
theorem dX9_keeps_14 : decode cX9_keeps 14 = .ok (.if_icmp .ge 24, 3) := by decide +kernel
theorem dX9_keeps_17 : decode cX9_keeps 17 = .ok (.aload_n 0, 1) := by decide +kernel
theorem dX9_keeps_18 : decode cX9_keeps 18 = .ok (.getfield 22, 3) := by decide +kernel
theorem dX9_keeps_21 : decode cX9_keeps 21 = .ok (.iload_n 1, 1) := by decide +kernel
theorem dX9_keeps_22 : decode cX9_keeps 22 = .ok (.aload_n 0, 1) := by decide +kernel
theorem dX9_keeps_23 : decode cX9_keeps 23 = .ok (.getfield 22, 3) := by decide +kernel
theorem dX9_keeps_26 : decode cX9_keeps 26 = .ok (.iload_n 1, 1) := by decide +kernel
theorem dX9_keeps_27 : decode cX9_keeps 27 = .ok (.bipush 18, 2) := by decide +kernel
theorem dX9_keeps_29 : decode cX9_keeps 29 = .ok (.iadd, 1) := by decide +kernel
theorem dX9_keeps_30 : decode cX9_keeps 30 = .ok (.iaload, 1) := by decide +kernel
theorem dX9_keeps_31 : decode cX9_keeps 31 = .ok (.iastore, 1) := by decide +kernel
theorem dX9_keeps_32 : decode cX9_keeps 32 = .ok (.iinc 1 1, 3) := by decide +kernel
theorem dX9_keeps_35 : decode cX9_keeps 35 = .ok (.goto (-24), 3) := by decide +kernel
theorem dX9_keeps_38 : decode cX9_keeps 38 = .ok (.aload_n 0, 1) := by decide +kernel
theorem dX9_keeps_39 : decode cX9_keeps 39 = .ok (.dup, 1) := by decide +kernel
theorem dX9_keeps_40 : decode cX9_keeps 40 = .ok (.getfield 101, 3) := by decide +kernel
theorem dX9_keeps_43 : decode cX9_keeps 43 = .ok (.iconst 1, 1) := by decide +kernel
theorem dX9_keeps_44 : decode cX9_keeps 44 = .ok (.isub, 1) := by decide +kernel
theorem dX9_keeps_45 : decode cX9_keeps 45 = .ok (.putfield 101, 3) := by decide +kernel
theorem dX9_keeps_48 : decode cX9_keeps 48 = .ok (.iconst 0, 1) := by decide +kernel
theorem dX9_keeps_49 : decode cX9_keeps 49 = .ok (.istore_n 1, 1) := by decide +kernel
theorem dX9_keeps_50 : decode cX9_keeps 50 = .ok (.iload_n 1, 1) := by decide +kernel
theorem dX9_keeps_51 : decode cX9_keeps 51 = .ok (.bipush 18, 2) := by decide +kernel
theorem dX9_keeps_53 : decode cX9_keeps 53 = .ok (.if_icmp .ge 29, 3) := by decide +kernel
theorem dX9_keeps_56 : decode cX9_keeps 56 = .ok (.aload_n 0, 1) := by decide +kernel
theorem dX9_keeps_57 : decode cX9_keeps 57 = .ok (.getfield 22, 3) := by decide +kernel
theorem dX9_keeps_60 : decode cX9_keeps 60 = .ok (.bipush 18, 2) := by decide +kernel
theorem dX9_keeps_62 : decode cX9_keeps 62 = .ok (.aload_n 0, 1) := by decide +kernel
theorem dX9_keeps_63 : decode cX9_keeps 63 = .ok (.getfield 101, 3) := by decide +kernel
theorem dX9_keeps_66 : decode cX9_keeps 66 = .ok (.imul, 1) := by decide +kernel
theorem dX9_keeps_67 : decode cX9_keeps 67 = .ok (.iload_n 1, 1) := by decide +kernel
theorem dX9_keeps_68 : decode cX9_keeps 68 = .ok (.iadd, 1) := by decide +kernel
theorem dX9_keeps_69 : decode cX9_keeps 69 = .ok (.aload_n 0, 1) := by decide +kernel
theorem dX9_keeps_70 : decode cX9_keeps 70 = .ok (.getfield 19, 3) := by decide +kernel
theorem dX9_keeps_73 : decode cX9_keeps 73 = .ok (.iload_n 1, 1) := by decide +kernel
theorem dX9_keeps_74 : decode cX9_keeps 74 = .ok (.iaload, 1) := by decide +kernel
theorem dX9_keeps_75 : decode cX9_keeps 75 = .ok (.iastore, 1) := by decide +kernel
theorem dX9_keeps_76 : decode cX9_keeps 76 = .ok (.iinc 1 1, 3) := by decide +kernel
theorem dX9_keeps_79 : decode cX9_keeps 79 = .ok (.goto (-29), 3) := by decide +kernel
theorem dX9_keeps_82 : decode cX9_keeps 82 = .ok (.aload_n 0, 1) := by decide +kernel
theorem dX9_keeps_83 : decode cX9_keeps 83 = .ok (.dup, 1) := by decide +kernel
theorem dX9_keeps_84 : decode cX9_keeps 84 = .ok (.getfield 101, 3) := by decide +kernel
theorem dX9_keeps_87 : decode cX9_keeps 87 = .ok (.iconst 1, 1) := by decide +kernel
theorem dX9_keeps_88 : decode cX9_keeps 88 = .ok (.iadd, 1) := by decide +kernel
theorem dX9_keeps_89 : decode cX9_keeps 89 = .ok (.putfield 101, 3) := by decide +kernel
theorem dX9_keeps_92 : decode cX9_keeps 92 = .ok (.return_, 1) := by decide +kernel
theorem dX9_falls_0 : decode cX9_falls 0 = .ok (.iconst 0, 1) := by decide +kernel
theorem dX9_falls_1 : decode cX9_falls 1 = .ok (.istore_n 2, 1) := by decide +kernel
theorem dX9_falls_2 : decode cX9_falls 2 = .ok (.iload_n 1, 1) := by decide +kernel
theorem dX9_falls_3 : decode cX9_falls 3 = .ok (.istore_n 3, 1) := by decide +kernel
theorem dX9_falls_4 : decode cX9_falls 4 = .ok (.aload_n 0, 1) := by decide +kernel
theorem dX9_falls_5 : decode cX9_falls 5 = .ok (.getfield 13, 3) := by decide +kernel
theorem dX9_falls_8 : decode cX9_falls 8 = .ok (.iconst 2, 1) := by decide +kernel
theorem dX9_falls_9 : decode cX9_falls 9 = .ok (.iaload, 1) := by decide +kernel
theorem dX9_falls_10 : decode cX9_falls 10 = .ok (.istore 4, 2) := by decide +kernel
theorem dX9_falls_12 : decode cX9_falls 12 = .ok (.iload_n 3, 1) := by decide +kernel
theorem dX9_falls_13 : decode cX9_falls 13 = .ok (.iconst (-1), 1) := by decide +kernel
theorem dX9_falls_14 : decode cX9_falls 14 = .ok (.if_icmp .eq 91, 3) := by decide +kernel
theorem dX9_falls_17 : decode cX9_falls 17 = .ok (.iload 4, 2) := by decide +kernel
theorem dX9_falls_19 : decode cX9_falls 19 = .ok (.ifCond .le 86, 3) := by decide +kernel
theorem dX9_falls_22 : decode cX9_falls 22 = .ok (.iload_n 2, 1) := by decide +kernel
theorem dX9_falls_23 : decode cX9_falls 23 = .ok (.iload_n 3, 1) := by decide +kernel
theorem dX9_falls_24 : decode cX9_falls 24 = .ok (.ishr, 1) := by decide +kernel
theorem dX9_falls_25 : decode cX9_falls 25 = .ok (.iconst 1, 1) := by decide +kernel
theorem dX9_falls_26 : decode cX9_falls 26 = .ok (.iand, 1) := by decide +kernel
theorem dX9_falls_27 : decode cX9_falls 27 = .ok (.ifCond .ne 78, 3) := by decide +kernel
theorem dX9_falls_30 : decode cX9_falls 30 = .ok (.iload_n 2, 1) := by decide +kernel
theorem dX9_falls_31 : decode cX9_falls 31 = .ok (.iconst 1, 1) := by decide +kernel
theorem dX9_falls_32 : decode cX9_falls 32 = .ok (.iload_n 3, 1) := by decide +kernel
theorem dX9_falls_33 : decode cX9_falls 33 = .ok (.ishl, 1) := by decide +kernel
theorem dX9_falls_34 : decode cX9_falls 34 = .ok (.ior, 1) := by decide +kernel
theorem dX9_falls_35 : decode cX9_falls 35 = .ok (.istore_n 2, 1) := by decide +kernel
theorem dX9_falls_36 : decode cX9_falls 36 = .ok (.aload_n 0, 1) := by decide +kernel
theorem dX9_falls_37 : decode cX9_falls 37 = .ok (.getfield 19, 3) := by decide +kernel
theorem dX9_falls_40 : decode cX9_falls 40 = .ok (.iload_n 3, 1) := by decide +kernel
theorem dX9_falls_41 : decode cX9_falls 41 = .ok (.dup2, 1) := by decide +kernel
theorem dX9_falls_42 : decode cX9_falls 42 = .ok (.iaload, 1) := by decide +kernel
theorem dX9_falls_43 : decode cX9_falls 43 = .ok (.iload 4, 2) := by decide +kernel
theorem dX9_falls_45 : decode cX9_falls 45 = .ok (.iadd, 1) := by decide +kernel
theorem dX9_falls_46 : decode cX9_falls 46 = .ok (.iastore, 1) := by decide +kernel
theorem dX9_falls_47 : decode cX9_falls 47 = .ok (.aload_n 0, 1) := by decide +kernel
theorem dX9_falls_48 : decode cX9_falls 48 = .ok (.getfield 19, 3) := by decide +kernel
theorem dX9_falls_51 : decode cX9_falls 51 = .ok (.iload_n 3, 1) := by decide +kernel
theorem dX9_falls_52 : decode cX9_falls 52 = .ok (.iaload, 1) := by decide +kernel
theorem dX9_falls_53 : decode cX9_falls 53 = .ok (.aload_n 0, 1) := by decide +kernel
theorem dX9_falls_54 : decode cX9_falls 54 = .ok (.getfield 13, 3) := by decide +kernel
theorem dX9_falls_57 : decode cX9_falls 57 = .ok (.iconst 1, 1) := by decide +kernel
theorem dX9_falls_58 : decode cX9_falls 58 = .ok (.iaload, 1) := by decide +kernel
theorem dX9_falls_59 : decode cX9_falls 59 = .ok (.if_icmp .le 19, 3) := by decide +kernel
theorem dX9_falls_62 : decode cX9_falls 62 = .ok (.aload_n 0, 1) := by decide +kernel
theorem dX9_falls_63 : decode cX9_falls 63 = .ok (.getfield 19, 3) := by decide +kernel
theorem dX9_falls_66 : decode cX9_falls 66 = .ok (.iload_n 3, 1) := by decide +kernel
theorem dX9_falls_67 : decode cX9_falls 67 = .ok (.iaload, 1) := by decide +kernel
theorem dX9_falls_68 : decode cX9_falls 68 = .ok (.aload_n 0, 1) := by decide +kernel
theorem dX9_falls_69 : decode cX9_falls 69 = .ok (.getfield 13, 3) := by decide +kernel
theorem dX9_falls_72 : decode cX9_falls 72 = .ok (.iconst 1, 1) := by decide +kernel
theorem dX9_falls_73 : decode cX9_falls 73 = .ok (.iaload, 1) := by decide +kernel
theorem dX9_falls_74 : decode cX9_falls 74 = .ok (.isub, 1) := by decide +kernel
theorem dX9_falls_75 : decode cX9_falls 75 = .ok (.goto 4, 3) := by decide +kernel
theorem dX9_falls_78 : decode cX9_falls 78 = .ok (.iconst 0, 1) := by decide +kernel
theorem dX9_falls_79 : decode cX9_falls 79 = .ok (.istore 4, 2) := by decide +kernel
theorem dX9_falls_81 : decode cX9_falls 81 = .ok (.aload_n 0, 1) := by decide +kernel
theorem dX9_falls_82 : decode cX9_falls 82 = .ok (.getfield 19, 3) := by decide +kernel
theorem dX9_falls_85 : decode cX9_falls 85 = .ok (.iload_n 3, 1) := by decide +kernel
theorem dX9_falls_86 : decode cX9_falls 86 = .ok (.dup2, 1) := by decide +kernel
theorem dX9_falls_87 : decode cX9_falls 87 = .ok (.iaload, 1) := by decide +kernel
theorem dX9_falls_88 : decode cX9_falls 88 = .ok (.iload 4, 2) := by decide +kernel
theorem dX9_falls_90 : decode cX9_falls 90 = .ok (.isub, 1) := by decide +kernel
theorem dX9_falls_91 : decode cX9_falls 91 = .ok (.iastore, 1) := by decide +kernel
theorem dX9_falls_92 : decode cX9_falls 92 = .ok (.aload_n 0, 1) := by decide +kernel
theorem dX9_falls_93 : decode cX9_falls 93 = .ok (.getfield 13, 3) := by decide +kernel
theorem dX9_falls_96 : decode cX9_falls 96 = .ok (.bipush 35, 2) := by decide +kernel
theorem dX9_falls_98 : decode cX9_falls 98 = .ok (.iload_n 3, 1) := by decide +kernel
theorem dX9_falls_99 : decode cX9_falls 99 = .ok (.iadd, 1) := by decide +kernel
theorem dX9_falls_100 : decode cX9_falls 100 = .ok (.iaload, 1) := by decide +kernel
theorem dX9_falls_101 : decode cX9_falls 101 = .ok (.istore_n 3, 1) := by decide +kernel
theorem dX9_falls_102 : decode cX9_falls 102 = .ok (.goto (-90), 3) := by decide +kernel
theorem dX9_falls_105 : decode cX9_falls 105 = .ok (.iload_n 2, 1) := by decide +kernel
theorem dX9_falls_106 : decode cX9_falls 106 = .ok (.ireturn, 1) := by decide +kernel
theorem dX9_rains_0 : decode cX9_rains 0 = .ok (.iload_n 1, 1) := by decide +kernel
theorem dX9_rains_1 : decode cX9_rains 1 = .ok (.iconst (-1), 1) := by decide +kernel
theorem dX9_rains_2 : decode cX9_rains 2 = .ok (.if_icmp .eq 9, 3) := by decide +kernel
theorem dX9_rains_5 : decode cX9_rains 5 = .ok (.aload_n 0, 1) := by decide +kernel
theorem dX9_rains_6 : decode cX9_rains 6 = .ok (.iload_n 1, 1) := by decide +kernel
theorem dX9_rains_7 : decode cX9_rains 7 = .ok (.invokevirtual 132, 3) := by decide +kernel
theorem dX9_rains_10 : decode cX9_rains 10 = .ok (.pop, 1) := by decide +kernel
theorem dX9_rains_11 : decode cX9_rains 11 = .ok (.iconst 0, 1) := by decide +kernel
theorem dX9_rains_12 : decode cX9_rains 12 = .ok (.istore_n 2, 1) := by decide +kernel
theorem dX9_rains_13 : decode cX9_rains 13 = .ok (.iload_n 2, 1) := by decide +kernel
theorem dX9_rains_14 : decode cX9_rains 14 = .ok (.aload_n 0, 1) := by decide +kernel
theorem dX9_rains_15 : decode cX9_rains 15 = .ok (.getfield 13, 3) := by decide +kernel
theorem dX9_rains_18 : decode cX9_rains 18 = .ok (.iconst 0, 1) := by decide +kernel
theorem dX9_rains_19 : decode cX9_rains 19 = .ok (.iaload, 1) := by decide +kernel
theorem dX9_rains_20 : decode cX9_rains 20 = .ok (.if_icmp .ge 32, 3) := by decide +kernel
theorem dX9_rains_23 : decode cX9_rains 23 = .ok (.aload_n 0, 1) := by decide +kernel
theorem dX9_rains_24 : decode cX9_rains 24 = .ok (.getfield 19, 3) := by decide +kernel
theorem dX9_rains_27 : decode cX9_rains 27 = .ok (.iload_n 2, 1) := by decide +kernel
theorem dX9_rains_28 : decode cX9_rains 28 = .ok (.dup2, 1) := by decide +kernel
theorem dX9_rains_29 : decode cX9_rains 29 = .ok (.iaload, 1) := by decide +kernel
theorem dX9_rains_30 : decode cX9_rains 30 = .ok (.aload_n 0, 1) := by decide +kernel
theorem dX9_rains_31 : decode cX9_rains 31 = .ok (.getfield 19, 3) := by decide +kernel
theorem dX9_rains_34 : decode cX9_rains 34 = .ok (.iload_n 2, 1) := by decide +kernel
theorem dX9_rains_35 : decode cX9_rains 35 = .ok (.iaload, 1) := by decide +kernel
theorem dX9_rains_36 : decode cX9_rains 36 = .ok (.ifCond .le 7, 3) := by decide +kernel
theorem dX9_rains_39 : decode cX9_rains 39 = .ok (.iconst 1, 1) := by decide +kernel
theorem dX9_rains_40 : decode cX9_rains 40 = .ok (.goto 4, 3) := by decide +kernel
theorem dX9_rains_43 : decode cX9_rains 43 = .ok (.iconst 0, 1) := by decide +kernel
theorem dX9_rains_44 : decode cX9_rains 44 = .ok (.isub, 1) := by decide +kernel
theorem dX9_rains_45 : decode cX9_rains 45 = .ok (.iastore, 1) := by decide +kernel
theorem dX9_rains_46 : decode cX9_rains 46 = .ok (.iinc 2 1, 3) := by decide +kernel
theorem dX9_rains_49 : decode cX9_rains 49 = .ok (.goto (-36), 3) := by decide +kernel
theorem dX9_rains_52 : decode cX9_rains 52 = .ok (.aload_n 0, 1) := by decide +kernel
theorem dX9_rains_53 : decode cX9_rains 53 = .ok (.getfield 19, 3) := by decide +kernel
theorem dX9_rains_56 : decode cX9_rains 56 = .ok (.bipush 17, 2) := by decide +kernel
theorem dX9_rains_58 : decode cX9_rains 58 = .ok (.iload_n 1, 1) := by decide +kernel
theorem dX9_rains_59 : decode cX9_rains 59 = .ok (.iastore, 1) := by decide +kernel
theorem dX9_rains_60 : decode cX9_rains 60 = .ok (.aload_n 0, 1) := by decide +kernel
theorem dX9_rains_61 : decode cX9_rains 61 = .ok (.getfield 19, 3) := by decide +kernel
theorem dX9_rains_64 : decode cX9_rains 64 = .ok (.bipush 16, 2) := by decide +kernel
theorem dX9_rains_66 : decode cX9_rains 66 = .ok (.dup2, 1) := by decide +kernel
theorem dX9_rains_67 : decode cX9_rains 67 = .ok (.iaload, 1) := by decide +kernel
theorem dX9_rains_68 : decode cX9_rains 68 = .ok (.iconst 1, 1) := by decide +kernel
theorem dX9_rains_69 : decode cX9_rains 69 = .ok (.iadd, 1) := by decide +kernel
theorem dX9_rains_70 : decode cX9_rains 70 = .ok (.iastore, 1) := by decide +kernel
theorem dX9_rains_71 : decode cX9_rains 71 = .ok (.return_, 1) := by decide +kernel
theorem dX9_day_0 : decode cX9_day 0 = .ok (.aload_n 0, 1) := by decide +kernel
theorem dX9_day_1 : decode cX9_day 1 = .ok (.getfield 19, 3) := by decide +kernel
theorem dX9_day_4 : decode cX9_day 4 = .ok (.bipush 16, 2) := by decide +kernel
theorem dX9_day_6 : decode cX9_day 6 = .ok (.iaload, 1) := by decide +kernel
theorem dX9_day_7 : decode cX9_day 7 = .ok (.sipush 999, 3) := by decide +kernel
theorem dX9_day_10 : decode cX9_day 10 = .ok (.if_icmp .ne 6, 3) := by decide +kernel
theorem dX9_day_13 : decode cX9_day 13 = .ok (.bipush (-5), 2) := by decide +kernel
theorem dX9_day_15 : decode cX9_day 15 = .ok (.ireturn, 1) := by decide +kernel
theorem dX9_day_16 : decode cX9_day 16 = .ok (.aload_n 0, 1) := by decide +kernel
theorem dX9_day_17 : decode cX9_day 17 = .ok (.invokevirtual 135, 3) := by decide +kernel
theorem dX9_day_20 : decode cX9_day 20 = .ok (.aload_n 0, 1) := by decide +kernel
theorem dX9_day_21 : decode cX9_day 21 = .ok (.aload_n 0, 1) := by decide +kernel
theorem dX9_day_22 : decode cX9_day 22 = .ok (.invokevirtual 138, 3) := by decide +kernel
theorem dX9_day_25 : decode cX9_day 25 = .ok (.invokevirtual 141, 3) := by decide +kernel
theorem dX9_day_28 : decode cX9_day 28 = .ok (.aload_n 0, 1) := by decide +kernel
theorem dX9_day_29 : decode cX9_day 29 = .ok (.getfield 19, 3) := by decide +kernel
theorem dX9_day_32 : decode cX9_day 32 = .ok (.bipush 17, 2) := by decide +kernel
theorem dX9_day_34 : decode cX9_day 34 = .ok (.iaload, 1) := by decide +kernel
theorem dX9_day_35 : decode cX9_day 35 = .ok (.ireturn, 1) := by decide +kernel
theorem dX9_hose_0 : decode cX9_hose 0 = .ok (.aload_n 0, 1) := by decide +kernel
theorem dX9_hose_1 : decode cX9_hose 1 = .ok (.iload_n 1, 1) := by decide +kernel
theorem dX9_hose_2 : decode cX9_hose 2 = .ok (.invokevirtual 129, 3) := by decide +kernel
theorem dX9_hose_5 : decode cX9_hose 5 = .ok (.ifCond .ne 6, 3) := by decide +kernel
theorem dX9_hose_8 : decode cX9_hose 8 = .ok (.bipush (-2), 2) := by decide +kernel
theorem dX9_hose_10 : decode cX9_hose 10 = .ok (.ireturn, 1) := by decide +kernel
theorem dX9_hose_11 : decode cX9_hose 11 = .ok (.iload_n 2, 1) := by decide +kernel
theorem dX9_hose_12 : decode cX9_hose 12 = .ok (.iconst 1, 1) := by decide +kernel
theorem dX9_hose_13 : decode cX9_hose 13 = .ok (.bipush 20, 2) := by decide +kernel
theorem dX9_hose_15 : decode cX9_hose 15 = .ok (.invokestatic 51, 3) := by decide +kernel
theorem dX9_hose_18 : decode cX9_hose 18 = .ok (.ifCond .ne 6, 3) := by decide +kernel
theorem dX9_hose_21 : decode cX9_hose 21 = .ok (.bipush (-3), 2) := by decide +kernel
theorem dX9_hose_23 : decode cX9_hose 23 = .ok (.ireturn, 1) := by decide +kernel
theorem dX9_hose_24 : decode cX9_hose 24 = .ok (.aload_n 0, 1) := by decide +kernel
theorem dX9_hose_25 : decode cX9_hose 25 = .ok (.invokevirtual 135, 3) := by decide +kernel
theorem dX9_hose_28 : decode cX9_hose 28 = .ok (.aload_n 0, 1) := by decide +kernel
theorem dX9_hose_29 : decode cX9_hose 29 = .ok (.getfield 19, 3) := by decide +kernel
theorem dX9_hose_32 : decode cX9_hose 32 = .ok (.iload_n 1, 1) := by decide +kernel
theorem dX9_hose_33 : decode cX9_hose 33 = .ok (.aload_n 0, 1) := by decide +kernel
theorem dX9_hose_34 : decode cX9_hose 34 = .ok (.getfield 19, 3) := by decide +kernel
theorem dX9_hose_37 : decode cX9_hose 37 = .ok (.iload_n 1, 1) := by decide +kernel
theorem dX9_hose_38 : decode cX9_hose 38 = .ok (.iaload, 1) := by decide +kernel
theorem dX9_hose_39 : decode cX9_hose 39 = .ok (.iload_n 2, 1) := by decide +kernel
theorem dX9_hose_40 : decode cX9_hose 40 = .ok (.iadd, 1) := by decide +kernel
theorem dX9_hose_41 : decode cX9_hose 41 = .ok (.bipush 99, 2) := by decide +kernel
theorem dX9_hose_43 : decode cX9_hose 43 = .ok (.if_icmp .le 8, 3) := by decide +kernel
theorem dX9_hose_46 : decode cX9_hose 46 = .ok (.bipush 99, 2) := by decide +kernel
theorem dX9_hose_48 : decode cX9_hose 48 = .ok (.goto 11, 3) := by decide +kernel
theorem dX9_hose_51 : decode cX9_hose 51 = .ok (.aload_n 0, 1) := by decide +kernel
theorem dX9_hose_52 : decode cX9_hose 52 = .ok (.getfield 19, 3) := by decide +kernel
theorem dX9_hose_55 : decode cX9_hose 55 = .ok (.iload_n 1, 1) := by decide +kernel
theorem dX9_hose_56 : decode cX9_hose 56 = .ok (.iaload, 1) := by decide +kernel
theorem dX9_hose_57 : decode cX9_hose 57 = .ok (.iload_n 2, 1) := by decide +kernel
theorem dX9_hose_58 : decode cX9_hose 58 = .ok (.iadd, 1) := by decide +kernel
theorem dX9_hose_59 : decode cX9_hose 59 = .ok (.iastore, 1) := by decide +kernel
theorem dX9_hose_60 : decode cX9_hose 60 = .ok (.aload_n 0, 1) := by decide +kernel
theorem dX9_hose_61 : decode cX9_hose 61 = .ok (.getfield 19, 3) := by decide +kernel
theorem dX9_hose_64 : decode cX9_hose 64 = .ok (.iload_n 1, 1) := by decide +kernel
theorem dX9_hose_65 : decode cX9_hose 65 = .ok (.iaload, 1) := by decide +kernel
theorem dX9_hose_66 : decode cX9_hose 66 = .ok (.ireturn, 1) := by decide +kernel
theorem dX9_poll_0 : decode cX9_poll 0 = .ok (.aload_n 0, 1) := by decide +kernel
theorem dX9_poll_1 : decode cX9_poll 1 = .ok (.iload_n 1, 1) := by decide +kernel
theorem dX9_poll_2 : decode cX9_poll 2 = .ok (.invokevirtual 129, 3) := by decide +kernel
theorem dX9_poll_5 : decode cX9_poll 5 = .ok (.ifCond .ne 6, 3) := by decide +kernel
theorem dX9_poll_8 : decode cX9_poll 8 = .ok (.bipush (-2), 2) := by decide +kernel
theorem dX9_poll_10 : decode cX9_poll 10 = .ok (.ireturn, 1) := by decide +kernel
theorem dX9_poll_11 : decode cX9_poll 11 = .ok (.iload_n 2, 1) := by decide +kernel
theorem dX9_poll_12 : decode cX9_poll 12 = .ok (.iconst 0, 1) := by decide +kernel
theorem dX9_poll_13 : decode cX9_poll 13 = .ok (.bipush 20, 2) := by decide +kernel
theorem dX9_poll_15 : decode cX9_poll 15 = .ok (.invokestatic 51, 3) := by decide +kernel
theorem dX9_poll_18 : decode cX9_poll 18 = .ok (.ifCond .ne 6, 3) := by decide +kernel
theorem dX9_poll_21 : decode cX9_poll 21 = .ok (.bipush (-3), 2) := by decide +kernel
theorem dX9_poll_23 : decode cX9_poll 23 = .ok (.ireturn, 1) := by decide +kernel
theorem dX9_poll_24 : decode cX9_poll 24 = .ok (.aload_n 0, 1) := by decide +kernel
theorem dX9_poll_25 : decode cX9_poll 25 = .ok (.invokevirtual 135, 3) := by decide +kernel
theorem dX9_poll_28 : decode cX9_poll 28 = .ok (.aload_n 0, 1) := by decide +kernel
theorem dX9_poll_29 : decode cX9_poll 29 = .ok (.getfield 19, 3) := by decide +kernel
theorem dX9_poll_32 : decode cX9_poll 32 = .ok (.bipush 8, 2) := by decide +kernel
theorem dX9_poll_34 : decode cX9_poll 34 = .ok (.iload_n 1, 1) := by decide +kernel
theorem dX9_poll_35 : decode cX9_poll 35 = .ok (.iadd, 1) := by decide +kernel
theorem dX9_poll_36 : decode cX9_poll 36 = .ok (.iaload, 1) := by decide +kernel
theorem dX9_poll_37 : decode cX9_poll 37 = .ok (.istore_n 3, 1) := by decide +kernel
theorem dX9_poll_38 : decode cX9_poll 38 = .ok (.aload_n 0, 1) := by decide +kernel
theorem dX9_poll_39 : decode cX9_poll 39 = .ok (.getfield 19, 3) := by decide +kernel
theorem dX9_poll_42 : decode cX9_poll 42 = .ok (.bipush 8, 2) := by decide +kernel
theorem dX9_poll_44 : decode cX9_poll 44 = .ok (.iload_n 1, 1) := by decide +kernel
theorem dX9_poll_45 : decode cX9_poll 45 = .ok (.iadd, 1) := by decide +kernel
theorem dX9_poll_46 : decode cX9_poll 46 = .ok (.iload_n 2, 1) := by decide +kernel
theorem dX9_poll_47 : decode cX9_poll 47 = .ok (.iastore, 1) := by decide +kernel
theorem dX9_poll_48 : decode cX9_poll 48 = .ok (.iload_n 3, 1) := by decide +kernel
theorem dX9_poll_49 : decode cX9_poll 49 = .ok (.ireturn, 1) := by decide +kernel
theorem dX9_undo_0 : decode cX9_undo 0 = .ok (.aload_n 0, 1) := by decide +kernel
theorem dX9_undo_1 : decode cX9_undo 1 = .ok (.getfield 101, 3) := by decide +kernel
theorem dX9_undo_4 : decode cX9_undo 4 = .ok (.ifCond .ne 6, 3) := by decide +kernel
theorem dX9_undo_7 : decode cX9_undo 7 = .ok (.bipush (-4), 2) := by decide +kernel
theorem dX9_undo_9 : decode cX9_undo 9 = .ok (.ireturn, 1) := by decide +kernel
theorem dX9_undo_10 : decode cX9_undo 10 = .ok (.aload_n 0, 1) := by decide +kernel
theorem dX9_undo_11 : decode cX9_undo 11 = .ok (.dup, 1) := by decide +kernel
theorem dX9_undo_12 : decode cX9_undo 12 = .ok (.getfield 101, 3) := by decide +kernel
theorem dX9_undo_15 : decode cX9_undo 15 = .ok (.iconst 1, 1) := by decide +kernel
theorem dX9_undo_16 : decode cX9_undo 16 = .ok (.isub, 1) := by decide +kernel
theorem dX9_undo_17 : decode cX9_undo 17 = .ok (.putfield 101, 3) := by decide +kernel
theorem dX9_undo_20 : decode cX9_undo 20 = .ok (.iconst 0, 1) := by decide +kernel
theorem dX9_undo_21 : decode cX9_undo 21 = .ok (.istore_n 1, 1) := by decide +kernel
theorem dX9_undo_22 : decode cX9_undo 22 = .ok (.iload_n 1, 1) := by decide +kernel
theorem dX9_undo_23 : decode cX9_undo 23 = .ok (.bipush 18, 2) := by decide +kernel
theorem dX9_undo_25 : decode cX9_undo 25 = .ok (.if_icmp .ge 29, 3) := by decide +kernel
theorem dX9_undo_28 : decode cX9_undo 28 = .ok (.aload_n 0, 1) := by decide +kernel
theorem dX9_undo_29 : decode cX9_undo 29 = .ok (.getfield 19, 3) := by decide +kernel
theorem dX9_undo_32 : decode cX9_undo 32 = .ok (.iload_n 1, 1) := by decide +kernel
theorem dX9_undo_33 : decode cX9_undo 33 = .ok (.aload_n 0, 1) := by decide +kernel
theorem dX9_undo_34 : decode cX9_undo 34 = .ok (.getfield 22, 3) := by decide +kernel
theorem dX9_undo_37 : decode cX9_undo 37 = .ok (.bipush 18, 2) := by decide +kernel
theorem dX9_undo_39 : decode cX9_undo 39 = .ok (.aload_n 0, 1) := by decide +kernel
theorem dX9_undo_40 : decode cX9_undo 40 = .ok (.getfield 101, 3) := by decide +kernel
theorem dX9_undo_43 : decode cX9_undo 43 = .ok (.imul, 1) := by decide +kernel
theorem dX9_undo_44 : decode cX9_undo 44 = .ok (.iload_n 1, 1) := by decide +kernel
theorem dX9_undo_45 : decode cX9_undo 45 = .ok (.iadd, 1) := by decide +kernel
theorem dX9_undo_46 : decode cX9_undo 46 = .ok (.iaload, 1) := by decide +kernel
theorem dX9_undo_47 : decode cX9_undo 47 = .ok (.iastore, 1) := by decide +kernel
theorem dX9_undo_48 : decode cX9_undo 48 = .ok (.iinc 1 1, 3) := by decide +kernel
theorem dX9_undo_51 : decode cX9_undo 51 = .ok (.goto (-29), 3) := by decide +kernel
theorem dX9_undo_54 : decode cX9_undo 54 = .ok (.aload_n 0, 1) := by decide +kernel
theorem dX9_undo_55 : decode cX9_undo 55 = .ok (.getfield 101, 3) := by decide +kernel
theorem dX9_undo_58 : decode cX9_undo 58 = .ok (.ireturn, 1) := by decide +kernel
theorem dX9_keep_0 : decode cX9_keep 0 = .ok (.iload_n 1, 1) := by decide +kernel
theorem dX9_keep_1 : decode cX9_keep 1 = .ok (.iconst 0, 1) := by decide +kernel
theorem dX9_keep_2 : decode cX9_keep 2 = .ok (.iconst 1, 1) := by decide +kernel
theorem dX9_keep_3 : decode cX9_keep 3 = .ok (.invokestatic 51, 3) := by decide +kernel
theorem dX9_keep_6 : decode cX9_keep 6 = .ok (.ifCond .ne 6, 3) := by decide +kernel
theorem dX9_keep_9 : decode cX9_keep 9 = .ok (.bipush (-2), 2) := by decide +kernel
theorem dX9_keep_11 : decode cX9_keep 11 = .ok (.ireturn, 1) := by decide +kernel
theorem dX9_keep_12 : decode cX9_keep 12 = .ok (.iconst 0, 1) := by decide +kernel
theorem dX9_keep_13 : decode cX9_keep 13 = .ok (.istore_n 2, 1) := by decide +kernel
theorem dX9_keep_14 : decode cX9_keep 14 = .ok (.iload_n 2, 1) := by decide +kernel
theorem dX9_keep_15 : decode cX9_keep 15 = .ok (.bipush 18, 2) := by decide +kernel
theorem dX9_keep_17 : decode cX9_keep 17 = .ok (.if_icmp .ge 26, 3) := by decide +kernel
theorem dX9_keep_20 : decode cX9_keep 20 = .ok (.aload_n 0, 1) := by decide +kernel
theorem dX9_keep_21 : decode cX9_keep 21 = .ok (.getfield 25, 3) := by decide +kernel
theorem dX9_keep_24 : decode cX9_keep 24 = .ok (.bipush 18, 2) := by decide +kernel
theorem dX9_keep_26 : decode cX9_keep 26 = .ok (.iload_n 1, 1) := by decide +kernel
theorem dX9_keep_27 : decode cX9_keep 27 = .ok (.imul, 1) := by decide +kernel
theorem dX9_keep_28 : decode cX9_keep 28 = .ok (.iload_n 2, 1) := by decide +kernel
theorem dX9_keep_29 : decode cX9_keep 29 = .ok (.iadd, 1) := by decide +kernel
theorem dX9_keep_30 : decode cX9_keep 30 = .ok (.aload_n 0, 1) := by decide +kernel
theorem dX9_keep_31 : decode cX9_keep 31 = .ok (.getfield 19, 3) := by decide +kernel
theorem dX9_keep_34 : decode cX9_keep 34 = .ok (.iload_n 2, 1) := by decide +kernel
theorem dX9_keep_35 : decode cX9_keep 35 = .ok (.iaload, 1) := by decide +kernel
theorem dX9_keep_36 : decode cX9_keep 36 = .ok (.iastore, 1) := by decide +kernel
theorem dX9_keep_37 : decode cX9_keep 37 = .ok (.iinc 2 1, 3) := by decide +kernel
theorem dX9_keep_40 : decode cX9_keep 40 = .ok (.goto (-26), 3) := by decide +kernel
theorem dX9_keep_43 : decode cX9_keep 43 = .ok (.aload_n 0, 1) := by decide +kernel
theorem dX9_keep_44 : decode cX9_keep 44 = .ok (.getfield 28, 3) := by decide +kernel
theorem dX9_keep_47 : decode cX9_keep 47 = .ok (.iload_n 1, 1) := by decide +kernel
theorem dX9_keep_48 : decode cX9_keep 48 = .ok (.iconst 1, 1) := by decide +kernel
theorem dX9_keep_49 : decode cX9_keep 49 = .ok (.bastore, 1) := by decide +kernel
theorem dX9_keep_50 : decode cX9_keep 50 = .ok (.aload_n 0, 1) := by decide +kernel
theorem dX9_keep_51 : decode cX9_keep 51 = .ok (.getfield 19, 3) := by decide +kernel
theorem dX9_keep_54 : decode cX9_keep 54 = .ok (.bipush 16, 2) := by decide +kernel
theorem dX9_keep_56 : decode cX9_keep 56 = .ok (.iaload, 1) := by decide +kernel
theorem dX9_keep_57 : decode cX9_keep 57 = .ok (.ireturn, 1) := by decide +kernel
theorem dX9_back_0 : decode cX9_back 0 = .ok (.iload_n 1, 1) := by decide +kernel
theorem dX9_back_1 : decode cX9_back 1 = .ok (.iconst 0, 1) := by decide +kernel
theorem dX9_back_2 : decode cX9_back 2 = .ok (.iconst 1, 1) := by decide +kernel
theorem dX9_back_3 : decode cX9_back 3 = .ok (.invokestatic 51, 3) := by decide +kernel
theorem dX9_back_6 : decode cX9_back 6 = .ok (.ifCond .ne 6, 3) := by decide +kernel
theorem dX9_back_9 : decode cX9_back 9 = .ok (.bipush (-2), 2) := by decide +kernel
theorem dX9_back_11 : decode cX9_back 11 = .ok (.ireturn, 1) := by decide +kernel
theorem dX9_back_12 : decode cX9_back 12 = .ok (.aload_n 0, 1) := by decide +kernel
theorem dX9_back_13 : decode cX9_back 13 = .ok (.getfield 28, 3) := by decide +kernel
theorem dX9_back_16 : decode cX9_back 16 = .ok (.iload_n 1, 1) := by decide +kernel
theorem dX9_back_17 : decode cX9_back 17 = .ok (.baload, 1) := by decide +kernel
theorem dX9_back_18 : decode cX9_back 18 = .ok (.ifCond .ne 6, 3) := by decide +kernel
theorem dX9_back_21 : decode cX9_back 21 = .ok (.bipush (-4), 2) := by decide +kernel
theorem dX9_back_23 : decode cX9_back 23 = .ok (.ireturn, 1) := by decide +kernel
theorem dX9_back_24 : decode cX9_back 24 = .ok (.iconst 0, 1) := by decide +kernel
theorem dX9_back_25 : decode cX9_back 25 = .ok (.istore_n 2, 1) := by decide +kernel
theorem dX9_back_26 : decode cX9_back 26 = .ok (.iload_n 2, 1) := by decide +kernel
theorem dX9_back_27 : decode cX9_back 27 = .ok (.bipush 18, 2) := by decide +kernel
theorem dX9_back_29 : decode cX9_back 29 = .ok (.if_icmp .ge 26, 3) := by decide +kernel
theorem dX9_back_32 : decode cX9_back 32 = .ok (.aload_n 0, 1) := by decide +kernel
theorem dX9_back_33 : decode cX9_back 33 = .ok (.getfield 19, 3) := by decide +kernel
theorem dX9_back_36 : decode cX9_back 36 = .ok (.iload_n 2, 1) := by decide +kernel
theorem dX9_back_37 : decode cX9_back 37 = .ok (.aload_n 0, 1) := by decide +kernel
theorem dX9_back_38 : decode cX9_back 38 = .ok (.getfield 25, 3) := by decide +kernel
theorem dX9_back_41 : decode cX9_back 41 = .ok (.bipush 18, 2) := by decide +kernel
theorem dX9_back_43 : decode cX9_back 43 = .ok (.iload_n 1, 1) := by decide +kernel
theorem dX9_back_44 : decode cX9_back 44 = .ok (.imul, 1) := by decide +kernel
theorem dX9_back_45 : decode cX9_back 45 = .ok (.iload_n 2, 1) := by decide +kernel
theorem dX9_back_46 : decode cX9_back 46 = .ok (.iadd, 1) := by decide +kernel
theorem dX9_back_47 : decode cX9_back 47 = .ok (.iaload, 1) := by decide +kernel
theorem dX9_back_48 : decode cX9_back 48 = .ok (.iastore, 1) := by decide +kernel
theorem dX9_back_49 : decode cX9_back 49 = .ok (.iinc 2 1, 3) := by decide +kernel
theorem dX9_back_52 : decode cX9_back 52 = .ok (.goto (-26), 3) := by decide +kernel
theorem dX9_back_55 : decode cX9_back 55 = .ok (.aload_n 0, 1) := by decide +kernel
theorem dX9_back_56 : decode cX9_back 56 = .ok (.iconst 0, 1) := by decide +kernel
theorem dX9_back_57 : decode cX9_back 57 = .ok (.putfield 101, 3) := by decide +kernel
theorem dX9_back_60 : decode cX9_back 60 = .ok (.aload_n 0, 1) := by decide +kernel
theorem dX9_back_61 : decode cX9_back 61 = .ok (.getfield 19, 3) := by decide +kernel
theorem dX9_back_64 : decode cX9_back 64 = .ok (.bipush 16, 2) := by decide +kernel
theorem dX9_back_66 : decode cX9_back 66 = .ok (.iaload, 1) := by decide +kernel
theorem dX9_back_67 : decode cX9_back 67 = .ok (.ireturn, 1) := by decide +kernel
end
section
theorem dX9_holds_0 : decode cX9_holds 0 = .ok (.iconst 0, 1) := by decide +kernel
theorem dX9_holds_1 : decode cX9_holds 1 = .ok (.istore_n 1, 1) := by decide +kernel
theorem dX9_holds_2 : decode cX9_holds 2 = .ok (.iload_n 1, 1) := by decide +kernel
theorem dX9_holds_3 : decode cX9_holds 3 = .ok (.bipush 18, 2) := by decide +kernel
theorem dX9_holds_5 : decode cX9_holds 5 = .ok (.if_icmp .ge 21, 3) := by decide +kernel
theorem dX9_holds_8 : decode cX9_holds 8 = .ok (.aload_n 0, 1) := by decide +kernel
theorem dX9_holds_9 : decode cX9_holds 9 = .ok (.getfield 42, 3) := by decide +kernel
theorem dX9_holds_12 : decode cX9_holds 12 = .ok (.iload_n 1, 1) := by decide +kernel
theorem dX9_holds_13 : decode cX9_holds 13 = .ok (.aload_n 0, 1) := by decide +kernel
theorem dX9_holds_14 : decode cX9_holds 14 = .ok (.getfield 19, 3) := by decide +kernel
theorem dX9_holds_17 : decode cX9_holds 17 = .ok (.iload_n 1, 1) := by decide +kernel
theorem dX9_holds_18 : decode cX9_holds 18 = .ok (.iaload, 1) := by decide +kernel
theorem dX9_holds_19 : decode cX9_holds 19 = .ok (.iastore, 1) := by decide +kernel
theorem dX9_holds_20 : decode cX9_holds 20 = .ok (.iinc 1 1, 3) := by decide +kernel
theorem dX9_holds_23 : decode cX9_holds 23 = .ok (.goto (-21), 3) := by decide +kernel
theorem dX9_holds_26 : decode cX9_holds 26 = .ok (.return_, 1) := by decide +kernel
theorem dX9_lets_0 : decode cX9_lets 0 = .ok (.iconst 0, 1) := by decide +kernel
theorem dX9_lets_1 : decode cX9_lets 1 = .ok (.istore_n 1, 1) := by decide +kernel
theorem dX9_lets_2 : decode cX9_lets 2 = .ok (.iload_n 1, 1) := by decide +kernel
theorem dX9_lets_3 : decode cX9_lets 3 = .ok (.bipush 18, 2) := by decide +kernel
theorem dX9_lets_5 : decode cX9_lets 5 = .ok (.if_icmp .ge 21, 3) := by decide +kernel
theorem dX9_lets_8 : decode cX9_lets 8 = .ok (.aload_n 0, 1) := by decide +kernel
theorem dX9_lets_9 : decode cX9_lets 9 = .ok (.getfield 19, 3) := by decide +kernel
theorem dX9_lets_12 : decode cX9_lets 12 = .ok (.iload_n 1, 1) := by decide +kernel
theorem dX9_lets_13 : decode cX9_lets 13 = .ok (.aload_n 0, 1) := by decide +kernel
theorem dX9_lets_14 : decode cX9_lets 14 = .ok (.getfield 42, 3) := by decide +kernel
theorem dX9_lets_17 : decode cX9_lets 17 = .ok (.iload_n 1, 1) := by decide +kernel
theorem dX9_lets_18 : decode cX9_lets 18 = .ok (.iaload, 1) := by decide +kernel
theorem dX9_lets_19 : decode cX9_lets 19 = .ok (.iastore, 1) := by decide +kernel
theorem dX9_lets_20 : decode cX9_lets 20 = .ok (.iinc 1 1, 3) := by decide +kernel
theorem dX9_lets_23 : decode cX9_lets 23 = .ok (.goto (-21), 3) := by decide +kernel
theorem dX9_lets_26 : decode cX9_lets 26 = .ok (.return_, 1) := by decide +kernel
theorem dX9_passes_0 : decode cX9_passes 0 = .ok (.iconst 0, 1) := by decide +kernel
theorem dX9_passes_1 : decode cX9_passes 1 = .ok (.istore_n 2, 1) := by decide +kernel
theorem dX9_passes_2 : decode cX9_passes 2 = .ok (.iload_n 2, 1) := by decide +kernel
theorem dX9_passes_3 : decode cX9_passes 3 = .ok (.iload_n 1, 1) := by decide +kernel
theorem dX9_passes_4 : decode cX9_passes 4 = .ok (.if_icmp .ge 17, 3) := by decide +kernel
theorem dX9_passes_7 : decode cX9_passes 7 = .ok (.aload_n 0, 1) := by decide +kernel
theorem dX9_passes_8 : decode cX9_passes 8 = .ok (.aload_n 0, 1) := by decide +kernel
theorem dX9_passes_9 : decode cX9_passes 9 = .ok (.invokevirtual 138, 3) := by decide +kernel
theorem dX9_passes_12 : decode cX9_passes 12 = .ok (.invokevirtual 141, 3) := by decide +kernel
theorem dX9_passes_15 : decode cX9_passes 15 = .ok (.iinc 2 1, 3) := by decide +kernel
theorem dX9_passes_18 : decode cX9_passes 18 = .ok (.goto (-16), 3) := by decide +kernel
theorem dX9_passes_21 : decode cX9_passes 21 = .ok (.return_, 1) := by decide +kernel
theorem dX9_where_0 : decode cX9_where 0 = .ok (.iload_n 1, 1) := by decide +kernel
theorem dX9_where_1 : decode cX9_where 1 = .ok (.iconst 1, 1) := by decide +kernel
theorem dX9_where_2 : decode cX9_where 2 = .ok (.bipush 30, 2) := by decide +kernel
theorem dX9_where_4 : decode cX9_where 4 = .ok (.invokestatic 51, 3) := by decide +kernel
theorem dX9_where_7 : decode cX9_where 7 = .ok (.ifCond .ne 6, 3) := by decide +kernel
theorem dX9_where_10 : decode cX9_where 10 = .ok (.bipush (-3), 2) := by decide +kernel
theorem dX9_where_12 : decode cX9_where 12 = .ok (.ireturn, 1) := by decide +kernel
theorem dX9_where_13 : decode cX9_where 13 = .ok (.aload_n 0, 1) := by decide +kernel
theorem dX9_where_14 : decode cX9_where 14 = .ok (.invokevirtual 145, 3) := by decide +kernel
theorem dX9_where_17 : decode cX9_where 17 = .ok (.aload_n 0, 1) := by decide +kernel
theorem dX9_where_18 : decode cX9_where 18 = .ok (.iload_n 1, 1) := by decide +kernel
theorem dX9_where_19 : decode cX9_where 19 = .ok (.invokevirtual 148, 3) := by decide +kernel
theorem dX9_where_22 : decode cX9_where 22 = .ok (.aload_n 0, 1) := by decide +kernel
theorem dX9_where_23 : decode cX9_where 23 = .ok (.getfield 19, 3) := by decide +kernel
theorem dX9_where_26 : decode cX9_where 26 = .ok (.bipush 17, 2) := by decide +kernel
theorem dX9_where_28 : decode cX9_where 28 = .ok (.iaload, 1) := by decide +kernel
theorem dX9_where_29 : decode cX9_where 29 = .ok (.istore_n 2, 1) := by decide +kernel
theorem dX9_where_30 : decode cX9_where 30 = .ok (.aload_n 0, 1) := by decide +kernel
theorem dX9_where_31 : decode cX9_where 31 = .ok (.invokevirtual 151, 3) := by decide +kernel
theorem dX9_where_34 : decode cX9_where 34 = .ok (.iload_n 2, 1) := by decide +kernel
theorem dX9_where_35 : decode cX9_where 35 = .ok (.ireturn, 1) := by decide +kernel
theorem dX9_wet_0 : decode cX9_wet 0 = .ok (.aload_n 0, 1) := by decide +kernel
theorem dX9_wet_1 : decode cX9_wet 1 = .ok (.iload_n 1, 1) := by decide +kernel
theorem dX9_wet_2 : decode cX9_wet 2 = .ok (.invokevirtual 129, 3) := by decide +kernel
theorem dX9_wet_5 : decode cX9_wet 5 = .ok (.ifCond .ne 6, 3) := by decide +kernel
theorem dX9_wet_8 : decode cX9_wet 8 = .ok (.bipush (-2), 2) := by decide +kernel
theorem dX9_wet_10 : decode cX9_wet 10 = .ok (.ireturn, 1) := by decide +kernel
theorem dX9_wet_11 : decode cX9_wet 11 = .ok (.iload_n 2, 1) := by decide +kernel
theorem dX9_wet_12 : decode cX9_wet 12 = .ok (.iconst 0, 1) := by decide +kernel
theorem dX9_wet_13 : decode cX9_wet 13 = .ok (.bipush 30, 2) := by decide +kernel
theorem dX9_wet_15 : decode cX9_wet 15 = .ok (.invokestatic 51, 3) := by decide +kernel
theorem dX9_wet_18 : decode cX9_wet 18 = .ok (.ifCond .ne 6, 3) := by decide +kernel
theorem dX9_wet_21 : decode cX9_wet 21 = .ok (.bipush (-3), 2) := by decide +kernel
theorem dX9_wet_23 : decode cX9_wet 23 = .ok (.ireturn, 1) := by decide +kernel
theorem dX9_wet_24 : decode cX9_wet 24 = .ok (.aload_n 0, 1) := by decide +kernel
theorem dX9_wet_25 : decode cX9_wet 25 = .ok (.invokevirtual 145, 3) := by decide +kernel
theorem dX9_wet_28 : decode cX9_wet 28 = .ok (.aload_n 0, 1) := by decide +kernel
theorem dX9_wet_29 : decode cX9_wet 29 = .ok (.iload_n 2, 1) := by decide +kernel
theorem dX9_wet_30 : decode cX9_wet 30 = .ok (.invokevirtual 148, 3) := by decide +kernel
theorem dX9_wet_33 : decode cX9_wet 33 = .ok (.aload_n 0, 1) := by decide +kernel
theorem dX9_wet_34 : decode cX9_wet 34 = .ok (.getfield 19, 3) := by decide +kernel
theorem dX9_wet_37 : decode cX9_wet 37 = .ok (.iload_n 1, 1) := by decide +kernel
theorem dX9_wet_38 : decode cX9_wet 38 = .ok (.iaload, 1) := by decide +kernel
theorem dX9_wet_39 : decode cX9_wet 39 = .ok (.istore_n 3, 1) := by decide +kernel
theorem dX9_wet_40 : decode cX9_wet 40 = .ok (.aload_n 0, 1) := by decide +kernel
theorem dX9_wet_41 : decode cX9_wet 41 = .ok (.invokevirtual 151, 3) := by decide +kernel
theorem dX9_wet_44 : decode cX9_wet 44 = .ok (.iload_n 3, 1) := by decide +kernel
theorem dX9_wet_45 : decode cX9_wet 45 = .ok (.ireturn, 1) := by decide +kernel
theorem dX9_ones_0 : decode cX9_ones 0 = .ok (.iconst 0, 1) := by decide +kernel
theorem dX9_ones_1 : decode cX9_ones 1 = .ok (.istore_n 1, 1) := by decide +kernel
theorem dX9_ones_2 : decode cX9_ones 2 = .ok (.iconst 0, 1) := by decide +kernel
theorem dX9_ones_3 : decode cX9_ones 3 = .ok (.istore_n 2, 1) := by decide +kernel
theorem dX9_ones_4 : decode cX9_ones 4 = .ok (.iload_n 2, 1) := by decide +kernel
theorem dX9_ones_5 : decode cX9_ones 5 = .ok (.bipush 8, 2) := by decide +kernel
theorem dX9_ones_7 : decode cX9_ones 7 = .ok (.if_icmp .ge 17, 3) := by decide +kernel
theorem dX9_ones_10 : decode cX9_ones 10 = .ok (.iload_n 1, 1) := by decide +kernel
theorem dX9_ones_11 : decode cX9_ones 11 = .ok (.iload_n 0, 1) := by decide +kernel
theorem dX9_ones_12 : decode cX9_ones 12 = .ok (.iload_n 2, 1) := by decide +kernel
theorem dX9_ones_13 : decode cX9_ones 13 = .ok (.ishr, 1) := by decide +kernel
theorem dX9_ones_14 : decode cX9_ones 14 = .ok (.iconst 1, 1) := by decide +kernel
theorem dX9_ones_15 : decode cX9_ones 15 = .ok (.iand, 1) := by decide +kernel
theorem dX9_ones_16 : decode cX9_ones 16 = .ok (.iadd, 1) := by decide +kernel
theorem dX9_ones_17 : decode cX9_ones 17 = .ok (.istore_n 1, 1) := by decide +kernel
theorem dX9_ones_18 : decode cX9_ones 18 = .ok (.iinc 2 1, 3) := by decide +kernel
theorem dX9_ones_21 : decode cX9_ones 21 = .ok (.goto (-17), 3) := by decide +kernel
theorem dX9_ones_24 : decode cX9_ones 24 = .ok (.iload_n 1, 1) := by decide +kernel
theorem dX9_ones_25 : decode cX9_ones 25 = .ok (.ireturn, 1) := by decide +kernel
theorem dX9_carry_0 : decode cX9_carry 0 = .ok (.aload_n 0, 1) := by decide +kernel
theorem dX9_carry_1 : decode cX9_carry 1 = .ok (.iload_n 1, 1) := by decide +kernel
theorem dX9_carry_2 : decode cX9_carry 2 = .ok (.invokevirtual 129, 3) := by decide +kernel
theorem dX9_carry_5 : decode cX9_carry 5 = .ok (.ifCond .ne 6, 3) := by decide +kernel
theorem dX9_carry_8 : decode cX9_carry 8 = .ok (.bipush (-2), 2) := by decide +kernel
theorem dX9_carry_10 : decode cX9_carry 10 = .ok (.ireturn, 1) := by decide +kernel
theorem dX9_carry_11 : decode cX9_carry 11 = .ok (.iconst 0, 1) := by decide +kernel
theorem dX9_carry_12 : decode cX9_carry 12 = .ok (.istore_n 2, 1) := by decide +kernel
theorem dX9_carry_13 : decode cX9_carry 13 = .ok (.iconst 0, 1) := by decide +kernel
theorem dX9_carry_14 : decode cX9_carry 14 = .ok (.istore_n 3, 1) := by decide +kernel
theorem dX9_carry_15 : decode cX9_carry 15 = .ok (.iload_n 3, 1) := by decide +kernel
theorem dX9_carry_16 : decode cX9_carry 16 = .ok (.aload_n 0, 1) := by decide +kernel
theorem dX9_carry_17 : decode cX9_carry 17 = .ok (.getfield 13, 3) := by decide +kernel
theorem dX9_carry_20 : decode cX9_carry 20 = .ok (.iconst 0, 1) := by decide +kernel
theorem dX9_carry_21 : decode cX9_carry 21 = .ok (.iaload, 1) := by decide +kernel
theorem dX9_carry_22 : decode cX9_carry 22 = .ok (.if_icmp .ge 36, 3) := by decide +kernel
theorem dX9_carry_25 : decode cX9_carry 25 = .ok (.iload_n 2, 1) := by decide +kernel
theorem dX9_carry_26 : decode cX9_carry 26 = .ok (.iload_n 3, 1) := by decide +kernel
theorem dX9_carry_27 : decode cX9_carry 27 = .ok (.iload_n 1, 1) := by decide +kernel
theorem dX9_carry_28 : decode cX9_carry 28 = .ok (.if_icmp .eq 21, 3) := by decide +kernel
theorem dX9_carry_31 : decode cX9_carry 31 = .ok (.aload_n 0, 1) := by decide +kernel
theorem dX9_carry_32 : decode cX9_carry 32 = .ok (.getfield 13, 3) := by decide +kernel
theorem dX9_carry_35 : decode cX9_carry 35 = .ok (.iconst 3, 1) := by decide +kernel
theorem dX9_carry_36 : decode cX9_carry 36 = .ok (.iload_n 3, 1) := by decide +kernel
theorem dX9_carry_37 : decode cX9_carry 37 = .ok (.iadd, 1) := by decide +kernel
theorem dX9_carry_38 : decode cX9_carry 38 = .ok (.iaload, 1) := by decide +kernel
theorem dX9_carry_39 : decode cX9_carry 39 = .ok (.iconst 2, 1) := by decide +kernel
theorem dX9_carry_40 : decode cX9_carry 40 = .ok (.if_icmp .eq 9, 3) := by decide +kernel
theorem dX9_carry_43 : decode cX9_carry 43 = .ok (.iconst 1, 1) := by decide +kernel
theorem dX9_carry_44 : decode cX9_carry 44 = .ok (.iload_n 3, 1) := by decide +kernel
theorem dX9_carry_45 : decode cX9_carry 45 = .ok (.ishl, 1) := by decide +kernel
theorem dX9_carry_46 : decode cX9_carry 46 = .ok (.goto 4, 3) := by decide +kernel
theorem dX9_carry_49 : decode cX9_carry 49 = .ok (.iconst 0, 1) := by decide +kernel
theorem dX9_carry_50 : decode cX9_carry 50 = .ok (.ior, 1) := by decide +kernel
theorem dX9_carry_51 : decode cX9_carry 51 = .ok (.istore_n 2, 1) := by decide +kernel
theorem dX9_carry_52 : decode cX9_carry 52 = .ok (.iinc 3 1, 3) := by decide +kernel
theorem dX9_carry_55 : decode cX9_carry 55 = .ok (.goto (-40), 3) := by decide +kernel
theorem dX9_carry_58 : decode cX9_carry 58 = .ok (.iconst (-1), 1) := by decide +kernel
theorem dX9_carry_59 : decode cX9_carry 59 = .ok (.istore_n 3, 1) := by decide +kernel
theorem dX9_carry_60 : decode cX9_carry 60 = .ok (.aload_n 0, 1) := by decide +kernel
theorem dX9_carry_61 : decode cX9_carry 61 = .ok (.iload_n 1, 1) := by decide +kernel
theorem dX9_carry_62 : decode cX9_carry 62 = .ok (.putfield 38, 3) := by decide +kernel
theorem dX9_carry_65 : decode cX9_carry 65 = .ok (.iconst 0, 1) := by decide +kernel
theorem dX9_carry_66 : decode cX9_carry 66 = .ok (.istore 4, 2) := by decide +kernel
theorem dX9_carry_68 : decode cX9_carry 68 = .ok (.iload 4, 2) := by decide +kernel
theorem dX9_carry_70 : decode cX9_carry 70 = .ok (.iload_n 2, 1) := by decide +kernel
theorem dX9_carry_71 : decode cX9_carry 71 = .ok (.if_icmp .gt 56, 3) := by decide +kernel
theorem dX9_carry_74 : decode cX9_carry 74 = .ok (.iload 4, 2) := by decide +kernel
theorem dX9_carry_76 : decode cX9_carry 76 = .ok (.iload_n 2, 1) := by decide +kernel
theorem dX9_carry_77 : decode cX9_carry 77 = .ok (.iconst (-1), 1) := by decide +kernel
theorem dX9_carry_78 : decode cX9_carry 78 = .ok (.ixor, 1) := by decide +kernel
theorem dX9_carry_79 : decode cX9_carry 79 = .ok (.iand, 1) := by decide +kernel
theorem dX9_carry_80 : decode cX9_carry 80 = .ok (.ifCond .ne 41, 3) := by decide +kernel
theorem dX9_carry_83 : decode cX9_carry 83 = .ok (.iload_n 3, 1) := by decide +kernel
theorem dX9_carry_84 : decode cX9_carry 84 = .ok (.iconst (-1), 1) := by decide +kernel
theorem dX9_carry_85 : decode cX9_carry 85 = .ok (.if_icmp .eq 15, 3) := by decide +kernel
theorem dX9_carry_88 : decode cX9_carry 88 = .ok (.iload 4, 2) := by decide +kernel
theorem dX9_carry_90 : decode cX9_carry 90 = .ok (.invokestatic 154, 3) := by decide +kernel
theorem dX9_carry_93 : decode cX9_carry 93 = .ok (.iload_n 3, 1) := by decide +kernel
theorem dX9_carry_94 : decode cX9_carry 94 = .ok (.invokestatic 154, 3) := by decide +kernel
theorem dX9_carry_97 : decode cX9_carry 97 = .ok (.if_icmp .ge 24, 3) := by decide +kernel
theorem dX9_carry_100 : decode cX9_carry 100 = .ok (.aload_n 0, 1) := by decide +kernel
theorem dX9_carry_101 : decode cX9_carry 101 = .ok (.iload 4, 2) := by decide +kernel
theorem dX9_carry_103 : decode cX9_carry 103 = .ok (.putfield 117, 3) := by decide +kernel
theorem dX9_carry_106 : decode cX9_carry 106 = .ok (.aload_n 0, 1) := by decide +kernel
theorem dX9_carry_107 : decode cX9_carry 107 = .ok (.invokevirtual 138, 3) := by decide +kernel
theorem dX9_carry_110 : decode cX9_carry 110 = .ok (.iload_n 1, 1) := by decide +kernel
theorem dX9_carry_111 : decode cX9_carry 111 = .ok (.if_icmp .ne 8, 3) := by decide +kernel
theorem dX9_carry_114 : decode cX9_carry 114 = .ok (.iload 4, 2) := by decide +kernel
theorem dX9_carry_116 : decode cX9_carry 116 = .ok (.goto 4, 3) := by decide +kernel
theorem dX9_carry_119 : decode cX9_carry 119 = .ok (.iload_n 3, 1) := by decide +kernel
theorem dX9_carry_120 : decode cX9_carry 120 = .ok (.istore_n 3, 1) := by decide +kernel
theorem dX9_carry_121 : decode cX9_carry 121 = .ok (.iinc 4 1, 3) := by decide +kernel
theorem dX9_carry_124 : decode cX9_carry 124 = .ok (.goto (-56), 3) := by decide +kernel
theorem dX9_carry_127 : decode cX9_carry 127 = .ok (.aload_n 0, 1) := by decide +kernel
theorem dX9_carry_128 : decode cX9_carry 128 = .ok (.iconst 0, 1) := by decide +kernel
theorem dX9_carry_129 : decode cX9_carry 129 = .ok (.putfield 117, 3) := by decide +kernel
theorem dX9_carry_132 : decode cX9_carry 132 = .ok (.aload_n 0, 1) := by decide +kernel
theorem dX9_carry_133 : decode cX9_carry 133 = .ok (.iconst (-1), 1) := by decide +kernel
theorem dX9_carry_134 : decode cX9_carry 134 = .ok (.putfield 38, 3) := by decide +kernel
theorem dX9_carry_137 : decode cX9_carry 137 = .ok (.iload_n 3, 1) := by decide +kernel
theorem dX9_carry_138 : decode cX9_carry 138 = .ok (.ireturn, 1) := by decide +kernel
theorem dX9_reach_0 : decode cX9_reach 0 = .ok (.aload_n 0, 1) := by decide +kernel
theorem dX9_reach_1 : decode cX9_reach 1 = .ok (.iload_n 1, 1) := by decide +kernel
theorem dX9_reach_2 : decode cX9_reach 2 = .ok (.invokevirtual 129, 3) := by decide +kernel
theorem dX9_reach_5 : decode cX9_reach 5 = .ok (.ifCond .ne 6, 3) := by decide +kernel
theorem dX9_reach_8 : decode cX9_reach 8 = .ok (.bipush (-2), 2) := by decide +kernel
theorem dX9_reach_10 : decode cX9_reach 10 = .ok (.ireturn, 1) := by decide +kernel
theorem dX9_reach_11 : decode cX9_reach 11 = .ok (.aload_n 0, 1) := by decide +kernel
theorem dX9_reach_12 : decode cX9_reach 12 = .ok (.invokevirtual 145, 3) := by decide +kernel
theorem dX9_reach_15 : decode cX9_reach 15 = .ok (.iconst 0, 1) := by decide +kernel
theorem dX9_reach_16 : decode cX9_reach 16 = .ok (.istore_n 2, 1) := by decide +kernel
theorem dX9_reach_17 : decode cX9_reach 17 = .ok (.iconst 0, 1) := by decide +kernel
theorem dX9_reach_18 : decode cX9_reach 18 = .ok (.istore_n 3, 1) := by decide +kernel
theorem dX9_reach_19 : decode cX9_reach 19 = .ok (.iload_n 3, 1) := by decide +kernel
theorem dX9_reach_20 : decode cX9_reach 20 = .ok (.aload_n 0, 1) := by decide +kernel
theorem dX9_reach_21 : decode cX9_reach 21 = .ok (.getfield 13, 3) := by decide +kernel
theorem dX9_reach_24 : decode cX9_reach 24 = .ok (.iconst 0, 1) := by decide +kernel
theorem dX9_reach_25 : decode cX9_reach 25 = .ok (.iaload, 1) := by decide +kernel
theorem dX9_reach_26 : decode cX9_reach 26 = .ok (.if_icmp .ge 27, 3) := by decide +kernel
theorem dX9_reach_29 : decode cX9_reach 29 = .ok (.iload_n 2, 1) := by decide +kernel
theorem dX9_reach_30 : decode cX9_reach 30 = .ok (.aload_n 0, 1) := by decide +kernel
theorem dX9_reach_31 : decode cX9_reach 31 = .ok (.iload_n 3, 1) := by decide +kernel
theorem dX9_reach_32 : decode cX9_reach 32 = .ok (.invokevirtual 132, 3) := by decide +kernel
theorem dX9_reach_35 : decode cX9_reach 35 = .ok (.iload_n 1, 1) := by decide +kernel
theorem dX9_reach_36 : decode cX9_reach 36 = .ok (.ishr, 1) := by decide +kernel
theorem dX9_reach_37 : decode cX9_reach 37 = .ok (.iconst 1, 1) := by decide +kernel
theorem dX9_reach_38 : decode cX9_reach 38 = .ok (.iand, 1) := by decide +kernel
theorem dX9_reach_39 : decode cX9_reach 39 = .ok (.iload_n 3, 1) := by decide +kernel
theorem dX9_reach_40 : decode cX9_reach 40 = .ok (.ishl, 1) := by decide +kernel
theorem dX9_reach_41 : decode cX9_reach 41 = .ok (.ior, 1) := by decide +kernel
theorem dX9_reach_42 : decode cX9_reach 42 = .ok (.istore_n 2, 1) := by decide +kernel
theorem dX9_reach_43 : decode cX9_reach 43 = .ok (.aload_n 0, 1) := by decide +kernel
theorem dX9_reach_44 : decode cX9_reach 44 = .ok (.invokevirtual 151, 3) := by decide +kernel
theorem dX9_reach_47 : decode cX9_reach 47 = .ok (.iinc 3 1, 3) := by decide +kernel
theorem dX9_reach_50 : decode cX9_reach 50 = .ok (.goto (-31), 3) := by decide +kernel
theorem dX9_reach_53 : decode cX9_reach 53 = .ok (.iload_n 2, 1) := by decide +kernel
theorem dX9_reach_54 : decode cX9_reach 54 = .ok (.ireturn, 1) := by decide +kernel
theorem dX9_sated_0 : decode cX9_sated 0 = .ok (.iconst 0, 1) := by decide +kernel
theorem dX9_sated_1 : decode cX9_sated 1 = .ok (.istore_n 1, 1) := by decide +kernel
theorem dX9_sated_2 : decode cX9_sated 2 = .ok (.iconst 0, 1) := by decide +kernel
theorem dX9_sated_3 : decode cX9_sated 3 = .ok (.istore_n 2, 1) := by decide +kernel
theorem dX9_sated_4 : decode cX9_sated 4 = .ok (.iload_n 2, 1) := by decide +kernel
theorem dX9_sated_5 : decode cX9_sated 5 = .ok (.aload_n 0, 1) := by decide +kernel
theorem dX9_sated_6 : decode cX9_sated 6 = .ok (.getfield 13, 3) := by decide +kernel
theorem dX9_sated_9 : decode cX9_sated 9 = .ok (.iconst 0, 1) := by decide +kernel
theorem dX9_sated_10 : decode cX9_sated 10 = .ok (.iaload, 1) := by decide +kernel
theorem dX9_sated_11 : decode cX9_sated 11 = .ok (.if_icmp .ge 33, 3) := by decide +kernel
theorem dX9_sated_14 : decode cX9_sated 14 = .ok (.iload_n 1, 1) := by decide +kernel
theorem dX9_sated_15 : decode cX9_sated 15 = .ok (.aload_n 0, 1) := by decide +kernel
theorem dX9_sated_16 : decode cX9_sated 16 = .ok (.getfield 19, 3) := by decide +kernel
theorem dX9_sated_19 : decode cX9_sated 19 = .ok (.iload_n 2, 1) := by decide +kernel
theorem dX9_sated_20 : decode cX9_sated 20 = .ok (.iaload, 1) := by decide +kernel
theorem dX9_sated_21 : decode cX9_sated 21 = .ok (.aload_n 0, 1) := by decide +kernel
theorem dX9_sated_22 : decode cX9_sated 22 = .ok (.iload_n 2, 1) := by decide +kernel
theorem dX9_sated_23 : decode cX9_sated 23 = .ok (.invokevirtual 114, 3) := by decide +kernel
theorem dX9_sated_26 : decode cX9_sated 26 = .ok (.if_icmp .lt 9, 3) := by decide +kernel
theorem dX9_sated_29 : decode cX9_sated 29 = .ok (.iconst 1, 1) := by decide +kernel
theorem dX9_sated_30 : decode cX9_sated 30 = .ok (.iload_n 2, 1) := by decide +kernel
theorem dX9_sated_31 : decode cX9_sated 31 = .ok (.ishl, 1) := by decide +kernel
theorem dX9_sated_32 : decode cX9_sated 32 = .ok (.goto 4, 3) := by decide +kernel
theorem dX9_sated_35 : decode cX9_sated 35 = .ok (.iconst 0, 1) := by decide +kernel
theorem dX9_sated_36 : decode cX9_sated 36 = .ok (.ior, 1) := by decide +kernel
theorem dX9_sated_37 : decode cX9_sated 37 = .ok (.istore_n 1, 1) := by decide +kernel
theorem dX9_sated_38 : decode cX9_sated 38 = .ok (.iinc 2 1, 3) := by decide +kernel
theorem dX9_sated_41 : decode cX9_sated 41 = .ok (.goto (-37), 3) := by decide +kernel
theorem dX9_sated_44 : decode cX9_sated 44 = .ok (.iload_n 1, 1) := by decide +kernel
theorem dX9_sated_45 : decode cX9_sated 45 = .ok (.ireturn, 1) := by decide +kernel
theorem dX9_month_0 : decode cX9_month 0 = .ok (.iload_n 1, 1) := by decide +kernel
theorem dX9_month_1 : decode cX9_month 1 = .ok (.iconst 1, 1) := by decide +kernel
theorem dX9_month_2 : decode cX9_month 2 = .ok (.iconst 4, 1) := by decide +kernel
theorem dX9_month_3 : decode cX9_month 3 = .ok (.invokestatic 51, 3) := by decide +kernel
theorem dX9_month_6 : decode cX9_month 6 = .ok (.ifCond .eq 12, 3) := by decide +kernel
theorem dX9_month_9 : decode cX9_month 9 = .ok (.iload_n 2, 1) := by decide +kernel
theorem dX9_month_10 : decode cX9_month 10 = .ok (.iconst (-1), 1) := by decide +kernel
theorem dX9_month_11 : decode cX9_month 11 = .ok (.iconst 3, 1) := by decide +kernel
theorem dX9_month_12 : decode cX9_month 12 = .ok (.invokestatic 51, 3) := by decide +kernel
theorem dX9_month_15 : decode cX9_month 15 = .ok (.ifCond .ne 6, 3) := by decide +kernel
theorem dX9_month_18 : decode cX9_month 18 = .ok (.bipush (-3), 2) := by decide +kernel
theorem dX9_month_20 : decode cX9_month 20 = .ok (.ireturn, 1) := by decide +kernel
theorem dX9_month_21 : decode cX9_month 21 = .ok (.aload_n 0, 1) := by decide +kernel
theorem dX9_month_22 : decode cX9_month 22 = .ok (.getfield 13, 3) := by decide +kernel
theorem dX9_month_25 : decode cX9_month 25 = .ok (.iconst 0, 1) := by decide +kernel
theorem dX9_month_26 : decode cX9_month 26 = .ok (.iaload, 1) := by decide +kernel
theorem dX9_month_27 : decode cX9_month 27 = .ok (.ifCond .ne 5, 3) := by decide +kernel
theorem dX9_month_30 : decode cX9_month 30 = .ok (.iconst (-1), 1) := by decide +kernel
theorem dX9_month_31 : decode cX9_month 31 = .ok (.ireturn, 1) := by decide +kernel
theorem dX9_month_32 : decode cX9_month 32 = .ok (.aload_n 0, 1) := by decide +kernel
theorem dX9_month_33 : decode cX9_month 33 = .ok (.invokevirtual 145, 3) := by decide +kernel
theorem dX9_month_36 : decode cX9_month 36 = .ok (.iconst 1, 1) := by decide +kernel
theorem dX9_month_37 : decode cX9_month 37 = .ok (.istore_n 3, 1) := by decide +kernel
theorem dX9_month_38 : decode cX9_month 38 = .ok (.iconst 0, 1) := by decide +kernel
theorem dX9_month_39 : decode cX9_month 39 = .ok (.istore 4, 2) := by decide +kernel
theorem dX9_month_41 : decode cX9_month 41 = .ok (.iload 4, 2) := by decide +kernel
theorem dX9_month_43 : decode cX9_month 43 = .ok (.iload_n 1, 1) := by decide +kernel
theorem dX9_month_44 : decode cX9_month 44 = .ok (.if_icmp .ge 18, 3) := by decide +kernel
theorem dX9_month_47 : decode cX9_month 47 = .ok (.iload_n 3, 1) := by decide +kernel
theorem dX9_month_48 : decode cX9_month 48 = .ok (.aload_n 0, 1) := by decide +kernel
theorem dX9_month_49 : decode cX9_month 49 = .ok (.getfield 13, 3) := by decide +kernel
theorem dX9_month_52 : decode cX9_month 52 = .ok (.iconst 0, 1) := by decide +kernel
theorem dX9_month_53 : decode cX9_month 53 = .ok (.iaload, 1) := by decide +kernel
theorem dX9_month_54 : decode cX9_month 54 = .ok (.imul, 1) := by decide +kernel
theorem dX9_month_55 : decode cX9_month 55 = .ok (.istore_n 3, 1) := by decide +kernel
theorem dX9_month_56 : decode cX9_month 56 = .ok (.iinc 4 1, 3) := by decide +kernel
theorem dX9_month_59 : decode cX9_month 59 = .ok (.goto (-18), 3) := by decide +kernel
theorem dX9_month_62 : decode cX9_month 62 = .ok (.iconst (-1), 1) := by decide +kernel
theorem dX9_month_63 : decode cX9_month 63 = .ok (.istore 4, 2) := by decide +kernel
theorem dX9_month_65 : decode cX9_month 65 = .ok (.iconst 0, 1) := by decide +kernel
theorem dX9_month_66 : decode cX9_month 66 = .ok (.istore 5, 2) := by decide +kernel
theorem dX9_month_68 : decode cX9_month 68 = .ok (.iconst 0, 1) := by decide +kernel
theorem dX9_month_69 : decode cX9_month 69 = .ok (.istore 6, 2) := by decide +kernel
theorem dX9_month_71 : decode cX9_month 71 = .ok (.iload 6, 2) := by decide +kernel
theorem dX9_month_73 : decode cX9_month 73 = .ok (.iload_n 3, 1) := by decide +kernel
theorem dX9_month_74 : decode cX9_month 74 = .ok (.if_icmp .ge 99, 3) := by decide +kernel
theorem dX9_month_77 : decode cX9_month 77 = .ok (.iload_n 3, 1) := by decide +kernel
theorem dX9_month_78 : decode cX9_month 78 = .ok (.istore 7, 2) := by decide +kernel
theorem dX9_month_80 : decode cX9_month 80 = .ok (.iconst 0, 1) := by decide +kernel
theorem dX9_month_81 : decode cX9_month 81 = .ok (.istore 8, 2) := by decide +kernel
theorem dX9_month_83 : decode cX9_month 83 = .ok (.iload 8, 2) := by decide +kernel
theorem dX9_month_85 : decode cX9_month 85 = .ok (.iload_n 1, 1) := by decide +kernel
theorem dX9_month_86 : decode cX9_month 86 = .ok (.if_icmp .ge 36, 3) := by decide +kernel
theorem dX9_month_89 : decode cX9_month 89 = .ok (.iload 7, 2) := by decide +kernel
theorem dX9_month_91 : decode cX9_month 91 = .ok (.aload_n 0, 1) := by decide +kernel
theorem dX9_month_92 : decode cX9_month 92 = .ok (.getfield 13, 3) := by decide +kernel
theorem dX9_month_95 : decode cX9_month 95 = .ok (.iconst 0, 1) := by decide +kernel
theorem dX9_month_96 : decode cX9_month 96 = .ok (.iaload, 1) := by decide +kernel
theorem dX9_month_97 : decode cX9_month 97 = .ok (.idiv, 1) := by decide +kernel
theorem dX9_month_98 : decode cX9_month 98 = .ok (.istore 7, 2) := by decide +kernel
theorem dX9_month_100 : decode cX9_month 100 = .ok (.aload_n 0, 1) := by decide +kernel
theorem dX9_month_101 : decode cX9_month 101 = .ok (.iload 6, 2) := by decide +kernel
theorem dX9_month_103 : decode cX9_month 103 = .ok (.iload 7, 2) := by decide +kernel
theorem dX9_month_105 : decode cX9_month 105 = .ok (.idiv, 1) := by decide +kernel
theorem dX9_month_106 : decode cX9_month 106 = .ok (.aload_n 0, 1) := by decide +kernel
theorem dX9_month_107 : decode cX9_month 107 = .ok (.getfield 13, 3) := by decide +kernel
theorem dX9_month_110 : decode cX9_month 110 = .ok (.iconst 0, 1) := by decide +kernel
theorem dX9_month_111 : decode cX9_month 111 = .ok (.iaload, 1) := by decide +kernel
theorem dX9_month_112 : decode cX9_month 112 = .ok (.irem, 1) := by decide +kernel
theorem dX9_month_113 : decode cX9_month 113 = .ok (.invokevirtual 141, 3) := by decide +kernel
theorem dX9_month_116 : decode cX9_month 116 = .ok (.iinc 8 1, 3) := by decide +kernel
theorem dX9_month_119 : decode cX9_month 119 = .ok (.goto (-36), 3) := by decide +kernel
theorem dX9_month_122 : decode cX9_month 122 = .ok (.aload_n 0, 1) := by decide +kernel
theorem dX9_month_123 : decode cX9_month 123 = .ok (.invokevirtual 157, 3) := by decide +kernel
theorem dX9_month_126 : decode cX9_month 126 = .ok (.invokestatic 154, 3) := by decide +kernel
theorem dX9_month_129 : decode cX9_month 129 = .ok (.istore 8, 2) := by decide +kernel
theorem dX9_month_131 : decode cX9_month 131 = .ok (.iload 8, 2) := by decide +kernel
theorem dX9_month_133 : decode cX9_month 133 = .ok (.iload 4, 2) := by decide +kernel
theorem dX9_month_135 : decode cX9_month 135 = .ok (.if_icmp .le 8, 3) := by decide +kernel
theorem dX9_month_138 : decode cX9_month 138 = .ok (.iload 6, 2) := by decide +kernel
theorem dX9_month_140 : decode cX9_month 140 = .ok (.goto 5, 3) := by decide +kernel
theorem dX9_month_143 : decode cX9_month 143 = .ok (.iload 5, 2) := by decide +kernel
theorem dX9_month_145 : decode cX9_month 145 = .ok (.istore 5, 2) := by decide +kernel
theorem dX9_month_147 : decode cX9_month 147 = .ok (.iload 8, 2) := by decide +kernel
theorem dX9_month_149 : decode cX9_month 149 = .ok (.iload 4, 2) := by decide +kernel
theorem dX9_month_151 : decode cX9_month 151 = .ok (.if_icmp .le 8, 3) := by decide +kernel
theorem dX9_month_154 : decode cX9_month 154 = .ok (.iload 8, 2) := by decide +kernel
theorem dX9_month_156 : decode cX9_month 156 = .ok (.goto 5, 3) := by decide +kernel
theorem dX9_month_159 : decode cX9_month 159 = .ok (.iload 4, 2) := by decide +kernel
theorem dX9_month_161 : decode cX9_month 161 = .ok (.istore 4, 2) := by decide +kernel
theorem dX9_month_163 : decode cX9_month 163 = .ok (.aload_n 0, 1) := by decide +kernel
theorem dX9_month_164 : decode cX9_month 164 = .ok (.invokevirtual 151, 3) := by decide +kernel
theorem dX9_month_167 : decode cX9_month 167 = .ok (.iinc 6 1, 3) := by decide +kernel
theorem dX9_month_170 : decode cX9_month 170 = .ok (.goto (-99), 3) := by decide +kernel
theorem dX9_month_173 : decode cX9_month 173 = .ok (.iload 5, 2) := by decide +kernel
theorem dX9_month_175 : decode cX9_month 175 = .ok (.istore 6, 2) := by decide +kernel
theorem dX9_month_177 : decode cX9_month 177 = .ok (.iload_n 1, 1) := by decide +kernel
theorem dX9_month_178 : decode cX9_month 178 = .ok (.iconst 1, 1) := by decide +kernel
theorem dX9_month_179 : decode cX9_month 179 = .ok (.isub, 1) := by decide +kernel
theorem dX9_month_180 : decode cX9_month 180 = .ok (.istore 7, 2) := by decide +kernel
theorem dX9_month_182 : decode cX9_month 182 = .ok (.iload 7, 2) := by decide +kernel
theorem dX9_month_184 : decode cX9_month 184 = .ok (.iload_n 2, 1) := by decide +kernel
theorem dX9_month_185 : decode cX9_month 185 = .ok (.if_icmp .le 20, 3) := by decide +kernel
theorem dX9_month_188 : decode cX9_month 188 = .ok (.iload 6, 2) := by decide +kernel
theorem dX9_month_190 : decode cX9_month 190 = .ok (.aload_n 0, 1) := by decide +kernel
theorem dX9_month_191 : decode cX9_month 191 = .ok (.getfield 13, 3) := by decide +kernel
theorem dX9_month_194 : decode cX9_month 194 = .ok (.iconst 0, 1) := by decide +kernel
theorem dX9_month_195 : decode cX9_month 195 = .ok (.iaload, 1) := by decide +kernel
theorem dX9_month_196 : decode cX9_month 196 = .ok (.idiv, 1) := by decide +kernel
theorem dX9_month_197 : decode cX9_month 197 = .ok (.istore 6, 2) := by decide +kernel
theorem dX9_month_199 : decode cX9_month 199 = .ok (.iinc 7 (-1), 3) := by decide +kernel
theorem dX9_month_202 : decode cX9_month 202 = .ok (.goto (-20), 3) := by decide +kernel
theorem dX9_month_205 : decode cX9_month 205 = .ok (.iload_n 2, 1) := by decide +kernel
theorem dX9_month_206 : decode cX9_month 206 = .ok (.iconst (-1), 1) := by decide +kernel
theorem dX9_month_207 : decode cX9_month 207 = .ok (.if_icmp .ne 8, 3) := by decide +kernel
theorem dX9_month_210 : decode cX9_month 210 = .ok (.iload 4, 2) := by decide +kernel
theorem dX9_month_212 : decode cX9_month 212 = .ok (.goto 21, 3) := by decide +kernel
theorem dX9_month_215 : decode cX9_month 215 = .ok (.iload_n 2, 1) := by decide +kernel
theorem dX9_month_216 : decode cX9_month 216 = .ok (.iload_n 1, 1) := by decide +kernel
theorem dX9_month_217 : decode cX9_month 217 = .ok (.if_icmp .lt 7, 3) := by decide +kernel
theorem dX9_month_220 : decode cX9_month 220 = .ok (.iconst (-1), 1) := by decide +kernel
theorem dX9_month_221 : decode cX9_month 221 = .ok (.goto 12, 3) := by decide +kernel
theorem dX9_month_224 : decode cX9_month 224 = .ok (.iload 6, 2) := by decide +kernel
theorem dX9_month_226 : decode cX9_month 226 = .ok (.aload_n 0, 1) := by decide +kernel
theorem dX9_month_227 : decode cX9_month 227 = .ok (.getfield 13, 3) := by decide +kernel
theorem dX9_month_230 : decode cX9_month 230 = .ok (.iconst 0, 1) := by decide +kernel
theorem dX9_month_231 : decode cX9_month 231 = .ok (.iaload, 1) := by decide +kernel
theorem dX9_month_232 : decode cX9_month 232 = .ok (.irem, 1) := by decide +kernel
theorem dX9_month_233 : decode cX9_month 233 = .ok (.ireturn, 1) := by decide +kernel
theorem dX9_seen_0 : decode cX9_seen 0 = .ok (.iload_n 1, 1) := by decide +kernel
theorem dX9_seen_1 : decode cX9_seen 1 = .ok (.iconst (-1), 1) := by decide +kernel
theorem dX9_seen_2 : decode cX9_seen 2 = .ok (.if_icmp .eq 14, 3) := by decide +kernel
theorem dX9_seen_5 : decode cX9_seen 5 = .ok (.aload_n 0, 1) := by decide +kernel
theorem dX9_seen_6 : decode cX9_seen 6 = .ok (.iload_n 1, 1) := by decide +kernel
theorem dX9_seen_7 : decode cX9_seen 7 = .ok (.invokevirtual 129, 3) := by decide +kernel
theorem dX9_seen_10 : decode cX9_seen 10 = .ok (.ifCond .ne 6, 3) := by decide +kernel
theorem dX9_seen_13 : decode cX9_seen 13 = .ok (.bipush (-2), 2) := by decide +kernel
theorem dX9_seen_15 : decode cX9_seen 15 = .ok (.ireturn, 1) := by decide +kernel
theorem dX9_seen_16 : decode cX9_seen 16 = .ok (.iload_n 2, 1) := by decide +kernel
theorem dX9_seen_17 : decode cX9_seen 17 = .ok (.iconst 1, 1) := by decide +kernel
theorem dX9_seen_18 : decode cX9_seen 18 = .ok (.bipush 20, 2) := by decide +kernel
theorem dX9_seen_20 : decode cX9_seen 20 = .ok (.invokestatic 51, 3) := by decide +kernel
theorem dX9_seen_23 : decode cX9_seen 23 = .ok (.ifCond .ne 6, 3) := by decide +kernel
theorem dX9_seen_26 : decode cX9_seen 26 = .ok (.bipush (-3), 2) := by decide +kernel
theorem dX9_seen_28 : decode cX9_seen 28 = .ok (.ireturn, 1) := by decide +kernel
theorem dX9_seen_29 : decode cX9_seen 29 = .ok (.aload_n 0, 1) := by decide +kernel
theorem dX9_seen_30 : decode cX9_seen 30 = .ok (.getfield 104, 3) := by decide +kernel
theorem dX9_seen_33 : decode cX9_seen 33 = .ok (.bipush 6, 2) := by decide +kernel
theorem dX9_seen_35 : decode cX9_seen 35 = .ok (.if_icmp .ne 6, 3) := by decide +kernel
theorem dX9_seen_38 : decode cX9_seen 38 = .ok (.bipush (-5), 2) := by decide +kernel
theorem dX9_seen_40 : decode cX9_seen 40 = .ok (.ireturn, 1) := by decide +kernel
theorem dX9_seen_41 : decode cX9_seen 41 = .ok (.aload_n 0, 1) := by decide +kernel
theorem dX9_seen_42 : decode cX9_seen 42 = .ok (.getfield 32, 3) := by decide +kernel
theorem dX9_seen_45 : decode cX9_seen 45 = .ok (.aload_n 0, 1) := by decide +kernel
theorem dX9_seen_46 : decode cX9_seen 46 = .ok (.getfield 104, 3) := by decide +kernel
theorem dX9_seen_49 : decode cX9_seen 49 = .ok (.bipush 10, 2) := by decide +kernel
theorem dX9_seen_51 : decode cX9_seen 51 = .ok (.iload_n 2, 1) := by decide +kernel
theorem dX9_seen_52 : decode cX9_seen 52 = .ok (.imul, 1) := by decide +kernel
theorem dX9_seen_53 : decode cX9_seen 53 = .ok (.iload_n 1, 1) := by decide +kernel
theorem dX9_seen_54 : decode cX9_seen 54 = .ok (.iadd, 1) := by decide +kernel
theorem dX9_seen_55 : decode cX9_seen 55 = .ok (.iconst 1, 1) := by decide +kernel
theorem dX9_seen_56 : decode cX9_seen 56 = .ok (.iadd, 1) := by decide +kernel
theorem dX9_seen_57 : decode cX9_seen 57 = .ok (.iastore, 1) := by decide +kernel
theorem dX9_seen_58 : decode cX9_seen 58 = .ok (.aload_n 0, 1) := by decide +kernel
theorem dX9_seen_59 : decode cX9_seen 59 = .ok (.dup, 1) := by decide +kernel
theorem dX9_seen_60 : decode cX9_seen 60 = .ok (.getfield 104, 3) := by decide +kernel
theorem dX9_seen_63 : decode cX9_seen 63 = .ok (.iconst 1, 1) := by decide +kernel
theorem dX9_seen_64 : decode cX9_seen 64 = .ok (.iadd, 1) := by decide +kernel
theorem dX9_seen_65 : decode cX9_seen 65 = .ok (.putfield 104, 3) := by decide +kernel
theorem dX9_seen_68 : decode cX9_seen 68 = .ok (.aload_n 0, 1) := by decide +kernel
theorem dX9_seen_69 : decode cX9_seen 69 = .ok (.getfield 104, 3) := by decide +kernel
theorem dX9_seen_72 : decode cX9_seen 72 = .ok (.ireturn, 1) := by decide +kernel
theorem dX9_forget_0 : decode cX9_forget 0 = .ok (.aload_n 0, 1) := by decide +kernel
theorem dX9_forget_1 : decode cX9_forget 1 = .ok (.getfield 104, 3) := by decide +kernel
theorem dX9_forget_4 : decode cX9_forget 4 = .ok (.istore_n 1, 1) := by decide +kernel
theorem dX9_forget_5 : decode cX9_forget 5 = .ok (.aload_n 0, 1) := by decide +kernel
theorem dX9_forget_6 : decode cX9_forget 6 = .ok (.iconst 0, 1) := by decide +kernel
theorem dX9_forget_7 : decode cX9_forget 7 = .ok (.putfield 104, 3) := by decide +kernel
theorem dX9_forget_10 : decode cX9_forget 10 = .ok (.iload_n 1, 1) := by decide +kernel
theorem dX9_forget_11 : decode cX9_forget 11 = .ok (.ireturn, 1) := by decide +kernel
theorem dX9_isSo_0 : decode cX9_isSo 0 = .ok (.iconst 1, 1) := by decide +kernel
theorem dX9_isSo_1 : decode cX9_isSo 1 = .ok (.istore_n 1, 1) := by decide +kernel
theorem dX9_isSo_2 : decode cX9_isSo 2 = .ok (.iconst 1, 1) := by decide +kernel
theorem dX9_isSo_3 : decode cX9_isSo 3 = .ok (.istore_n 2, 1) := by decide +kernel
theorem dX9_isSo_4 : decode cX9_isSo 4 = .ok (.iload_n 2, 1) := by decide +kernel
theorem dX9_isSo_5 : decode cX9_isSo 5 = .ok (.bipush 20, 2) := by decide +kernel
theorem dX9_isSo_7 : decode cX9_isSo 7 = .ok (.if_icmp .gt 74, 3) := by decide +kernel
theorem dX9_isSo_10 : decode cX9_isSo 10 = .ok (.aload_n 0, 1) := by decide +kernel
theorem dX9_isSo_11 : decode cX9_isSo 11 = .ok (.iconst 1, 1) := by decide +kernel
theorem dX9_isSo_12 : decode cX9_isSo 12 = .ok (.invokevirtual 148, 3) := by decide +kernel
theorem dX9_isSo_15 : decode cX9_isSo 15 = .ok (.iconst 0, 1) := by decide +kernel
theorem dX9_isSo_16 : decode cX9_isSo 16 = .ok (.istore_n 3, 1) := by decide +kernel
theorem dX9_isSo_17 : decode cX9_isSo 17 = .ok (.iload_n 3, 1) := by decide +kernel
theorem dX9_isSo_18 : decode cX9_isSo 18 = .ok (.aload_n 0, 1) := by decide +kernel
theorem dX9_isSo_19 : decode cX9_isSo 19 = .ok (.getfield 104, 3) := by decide +kernel
theorem dX9_isSo_22 : decode cX9_isSo 22 = .ok (.if_icmp .ge 53, 3) := by decide +kernel
theorem dX9_isSo_25 : decode cX9_isSo 25 = .ok (.iload_n 1, 1) := by decide +kernel
theorem dX9_isSo_26 : decode cX9_isSo 26 = .ok (.ifCond .eq 41, 3) := by decide +kernel
theorem dX9_isSo_29 : decode cX9_isSo 29 = .ok (.aload_n 0, 1) := by decide +kernel
theorem dX9_isSo_30 : decode cX9_isSo 30 = .ok (.getfield 32, 3) := by decide +kernel
theorem dX9_isSo_33 : decode cX9_isSo 33 = .ok (.iload_n 3, 1) := by decide +kernel
theorem dX9_isSo_34 : decode cX9_isSo 34 = .ok (.iaload, 1) := by decide +kernel
theorem dX9_isSo_35 : decode cX9_isSo 35 = .ok (.bipush 10, 2) := by decide +kernel
theorem dX9_isSo_37 : decode cX9_isSo 37 = .ok (.idiv, 1) := by decide +kernel
theorem dX9_isSo_38 : decode cX9_isSo 38 = .ok (.iload_n 2, 1) := by decide +kernel
theorem dX9_isSo_39 : decode cX9_isSo 39 = .ok (.if_icmp .ne 24, 3) := by decide +kernel
theorem dX9_isSo_42 : decode cX9_isSo 42 = .ok (.aload_n 0, 1) := by decide +kernel
theorem dX9_isSo_43 : decode cX9_isSo 43 = .ok (.getfield 32, 3) := by decide +kernel
theorem dX9_isSo_46 : decode cX9_isSo 46 = .ok (.iload_n 3, 1) := by decide +kernel
theorem dX9_isSo_47 : decode cX9_isSo 47 = .ok (.iaload, 1) := by decide +kernel
theorem dX9_isSo_48 : decode cX9_isSo 48 = .ok (.bipush 10, 2) := by decide +kernel
theorem dX9_isSo_50 : decode cX9_isSo 50 = .ok (.irem, 1) := by decide +kernel
theorem dX9_isSo_51 : decode cX9_isSo 51 = .ok (.iconst 1, 1) := by decide +kernel
theorem dX9_isSo_52 : decode cX9_isSo 52 = .ok (.isub, 1) := by decide +kernel
theorem dX9_isSo_53 : decode cX9_isSo 53 = .ok (.aload_n 0, 1) := by decide +kernel
theorem dX9_isSo_54 : decode cX9_isSo 54 = .ok (.getfield 19, 3) := by decide +kernel
theorem dX9_isSo_57 : decode cX9_isSo 57 = .ok (.bipush 17, 2) := by decide +kernel
theorem dX9_isSo_59 : decode cX9_isSo 59 = .ok (.iaload, 1) := by decide +kernel
theorem dX9_isSo_60 : decode cX9_isSo 60 = .ok (.if_icmp .ne 7, 3) := by decide +kernel
theorem dX9_isSo_63 : decode cX9_isSo 63 = .ok (.iconst 1, 1) := by decide +kernel
theorem dX9_isSo_64 : decode cX9_isSo 64 = .ok (.goto 4, 3) := by decide +kernel
theorem dX9_isSo_67 : decode cX9_isSo 67 = .ok (.iconst 0, 1) := by decide +kernel
theorem dX9_isSo_68 : decode cX9_isSo 68 = .ok (.istore_n 1, 1) := by decide +kernel
theorem dX9_isSo_69 : decode cX9_isSo 69 = .ok (.iinc 3 1, 3) := by decide +kernel
theorem dX9_isSo_72 : decode cX9_isSo 72 = .ok (.goto (-55), 3) := by decide +kernel
theorem dX9_isSo_75 : decode cX9_isSo 75 = .ok (.iinc 2 1, 3) := by decide +kernel
theorem dX9_isSo_78 : decode cX9_isSo 78 = .ok (.goto (-74), 3) := by decide +kernel
theorem dX9_isSo_81 : decode cX9_isSo 81 = .ok (.aload_n 0, 1) := by decide +kernel
theorem dX9_isSo_82 : decode cX9_isSo 82 = .ok (.invokevirtual 151, 3) := by decide +kernel
theorem dX9_isSo_85 : decode cX9_isSo 85 = .ok (.iload_n 1, 1) := by decide +kernel
theorem dX9_isSo_86 : decode cX9_isSo 86 = .ok (.ireturn, 1) := by decide +kernel
theorem dX9_polls_0 : decode cX9_polls 0 = .ok (.aload_n 0, 1) := by decide +kernel
theorem dX9_polls_1 : decode cX9_polls 1 = .ok (.iload_n 1, 1) := by decide +kernel
theorem dX9_polls_2 : decode cX9_polls 2 = .ok (.invokevirtual 129, 3) := by decide +kernel
theorem dX9_polls_5 : decode cX9_polls 5 = .ok (.ifCond .ne 6, 3) := by decide +kernel
theorem dX9_polls_8 : decode cX9_polls 8 = .ok (.bipush (-2), 2) := by decide +kernel
theorem dX9_polls_10 : decode cX9_polls 10 = .ok (.ireturn, 1) := by decide +kernel
theorem dX9_polls_11 : decode cX9_polls 11 = .ok (.aload_n 0, 1) := by decide +kernel
theorem dX9_polls_12 : decode cX9_polls 12 = .ok (.invokevirtual 145, 3) := by decide +kernel
theorem dX9_polls_15 : decode cX9_polls 15 = .ok (.iconst 0, 1) := by decide +kernel
theorem dX9_polls_16 : decode cX9_polls 16 = .ok (.istore_n 2, 1) := by decide +kernel
theorem dX9_polls_17 : decode cX9_polls 17 = .ok (.iconst 0, 1) := by decide +kernel
theorem dX9_polls_18 : decode cX9_polls 18 = .ok (.istore_n 3, 1) := by decide +kernel
theorem dX9_polls_19 : decode cX9_polls 19 = .ok (.iload_n 3, 1) := by decide +kernel
theorem dX9_polls_20 : decode cX9_polls 20 = .ok (.bipush 20, 2) := by decide +kernel
theorem dX9_polls_22 : decode cX9_polls 22 = .ok (.if_icmp .gt 36, 3) := by decide +kernel
theorem dX9_polls_25 : decode cX9_polls 25 = .ok (.aload_n 0, 1) := by decide +kernel
theorem dX9_polls_26 : decode cX9_polls 26 = .ok (.getfield 19, 3) := by decide +kernel
theorem dX9_polls_29 : decode cX9_polls 29 = .ok (.bipush 8, 2) := by decide +kernel
theorem dX9_polls_31 : decode cX9_polls 31 = .ok (.iload_n 1, 1) := by decide +kernel
theorem dX9_polls_32 : decode cX9_polls 32 = .ok (.iadd, 1) := by decide +kernel
theorem dX9_polls_33 : decode cX9_polls 33 = .ok (.iload_n 3, 1) := by decide +kernel
theorem dX9_polls_34 : decode cX9_polls 34 = .ok (.iastore, 1) := by decide +kernel
theorem dX9_polls_35 : decode cX9_polls 35 = .ok (.iload_n 2, 1) := by decide +kernel
theorem dX9_polls_36 : decode cX9_polls 36 = .ok (.aload_n 0, 1) := by decide +kernel
theorem dX9_polls_37 : decode cX9_polls 37 = .ok (.invokevirtual 160, 3) := by decide +kernel
theorem dX9_polls_40 : decode cX9_polls 40 = .ok (.ifCond .eq 9, 3) := by decide +kernel
theorem dX9_polls_43 : decode cX9_polls 43 = .ok (.iconst 1, 1) := by decide +kernel
theorem dX9_polls_44 : decode cX9_polls 44 = .ok (.iload_n 3, 1) := by decide +kernel
theorem dX9_polls_45 : decode cX9_polls 45 = .ok (.ishl, 1) := by decide +kernel
theorem dX9_polls_46 : decode cX9_polls 46 = .ok (.goto 4, 3) := by decide +kernel
theorem dX9_polls_49 : decode cX9_polls 49 = .ok (.iconst 0, 1) := by decide +kernel
theorem dX9_polls_50 : decode cX9_polls 50 = .ok (.ior, 1) := by decide +kernel
theorem dX9_polls_51 : decode cX9_polls 51 = .ok (.istore_n 2, 1) := by decide +kernel
theorem dX9_polls_52 : decode cX9_polls 52 = .ok (.iinc 3 1, 3) := by decide +kernel
theorem dX9_polls_55 : decode cX9_polls 55 = .ok (.goto (-36), 3) := by decide +kernel
theorem dX9_polls_58 : decode cX9_polls 58 = .ok (.iload_n 2, 1) := by decide +kernel
theorem dX9_polls_59 : decode cX9_polls 59 = .ok (.ireturn, 1) := by decide +kernel
theorem dX9_chance_0 : decode cX9_chance 0 = .ok (.iload_n 1, 1) := by decide +kernel
theorem dX9_chance_1 : decode cX9_chance 1 = .ok (.iconst (-1), 1) := by decide +kernel
theorem dX9_chance_2 : decode cX9_chance 2 = .ok (.if_icmp .eq 14, 3) := by decide +kernel
theorem dX9_chance_5 : decode cX9_chance 5 = .ok (.aload_n 0, 1) := by decide +kernel
theorem dX9_chance_6 : decode cX9_chance 6 = .ok (.iload_n 1, 1) := by decide +kernel
theorem dX9_chance_7 : decode cX9_chance 7 = .ok (.invokevirtual 129, 3) := by decide +kernel
theorem dX9_chance_10 : decode cX9_chance 10 = .ok (.ifCond .ne 6, 3) := by decide +kernel
theorem dX9_chance_13 : decode cX9_chance 13 = .ok (.bipush (-2), 2) := by decide +kernel
theorem dX9_chance_15 : decode cX9_chance 15 = .ok (.ireturn, 1) := by decide +kernel
theorem dX9_chance_16 : decode cX9_chance 16 = .ok (.iload_n 2, 1) := by decide +kernel
theorem dX9_chance_17 : decode cX9_chance 17 = .ok (.iconst 0, 1) := by decide +kernel
theorem dX9_chance_18 : decode cX9_chance 18 = .ok (.bipush 10, 2) := by decide +kernel
theorem dX9_chance_20 : decode cX9_chance 20 = .ok (.invokestatic 51, 3) := by decide +kernel
theorem dX9_chance_23 : decode cX9_chance 23 = .ok (.ifCond .eq 12, 3) := by decide +kernel
theorem dX9_chance_26 : decode cX9_chance 26 = .ok (.iload_n 3, 1) := by decide +kernel
theorem dX9_chance_27 : decode cX9_chance 27 = .ok (.iconst 0, 1) := by decide +kernel
theorem dX9_chance_28 : decode cX9_chance 28 = .ok (.iconst 1, 1) := by decide +kernel
theorem dX9_chance_29 : decode cX9_chance 29 = .ok (.invokestatic 51, 3) := by decide +kernel
theorem dX9_chance_32 : decode cX9_chance 32 = .ok (.ifCond .ne 6, 3) := by decide +kernel
theorem dX9_chance_35 : decode cX9_chance 35 = .ok (.bipush (-3), 2) := by decide +kernel
theorem dX9_chance_37 : decode cX9_chance 37 = .ok (.ireturn, 1) := by decide +kernel
theorem dX9_chance_38 : decode cX9_chance 38 = .ok (.iconst 0, 1) := by decide +kernel
theorem dX9_chance_39 : decode cX9_chance 39 = .ok (.istore 4, 2) := by decide +kernel
theorem dX9_chance_41 : decode cX9_chance 41 = .ok (.iconst 1, 1) := by decide +kernel
theorem dX9_chance_42 : decode cX9_chance 42 = .ok (.istore 5, 2) := by decide +kernel
theorem dX9_chance_44 : decode cX9_chance 44 = .ok (.iconst 0, 1) := by decide +kernel
theorem dX9_chance_45 : decode cX9_chance 45 = .ok (.istore 6, 2) := by decide +kernel
theorem dX9_chance_47 : decode cX9_chance 47 = .ok (.iload 6, 2) := by decide +kernel
theorem dX9_chance_49 : decode cX9_chance 49 = .ok (.aload_n 0, 1) := by decide +kernel
theorem dX9_chance_50 : decode cX9_chance 50 = .ok (.getfield 13, 3) := by decide +kernel
theorem dX9_chance_53 : decode cX9_chance 53 = .ok (.iconst 0, 1) := by decide +kernel
theorem dX9_chance_54 : decode cX9_chance 54 = .ok (.iaload, 1) := by decide +kernel
theorem dX9_chance_55 : decode cX9_chance 55 = .ok (.if_icmp .ge 16, 3) := by decide +kernel
theorem dX9_chance_58 : decode cX9_chance 58 = .ok (.iload 5, 2) := by decide +kernel
theorem dX9_chance_60 : decode cX9_chance 60 = .ok (.bipush 10, 2) := by decide +kernel
theorem dX9_chance_62 : decode cX9_chance 62 = .ok (.imul, 1) := by decide +kernel
theorem dX9_chance_63 : decode cX9_chance 63 = .ok (.istore 5, 2) := by decide +kernel
theorem dX9_chance_65 : decode cX9_chance 65 = .ok (.iinc 6 1, 3) := by decide +kernel
theorem dX9_chance_68 : decode cX9_chance 68 = .ok (.goto (-21), 3) := by decide +kernel
theorem dX9_chance_71 : decode cX9_chance 71 = .ok (.iconst 0, 1) := by decide +kernel
theorem dX9_chance_72 : decode cX9_chance 72 = .ok (.istore 6, 2) := by decide +kernel
theorem dX9_chance_74 : decode cX9_chance 74 = .ok (.iload 6, 2) := by decide +kernel
theorem dX9_chance_76 : decode cX9_chance 76 = .ok (.iconst 1, 1) := by decide +kernel
theorem dX9_chance_77 : decode cX9_chance 77 = .ok (.aload_n 0, 1) := by decide +kernel
theorem dX9_chance_78 : decode cX9_chance 78 = .ok (.getfield 13, 3) := by decide +kernel
theorem dX9_chance_81 : decode cX9_chance 81 = .ok (.iconst 0, 1) := by decide +kernel
theorem dX9_chance_82 : decode cX9_chance 82 = .ok (.iaload, 1) := by decide +kernel
theorem dX9_chance_83 : decode cX9_chance 83 = .ok (.ishl, 1) := by decide +kernel
theorem dX9_chance_84 : decode cX9_chance 84 = .ok (.if_icmp .ge 81, 3) := by decide +kernel
theorem dX9_chance_87 : decode cX9_chance 87 = .ok (.iconst 1, 1) := by decide +kernel
theorem dX9_chance_88 : decode cX9_chance 88 = .ok (.istore 7, 2) := by decide +kernel
theorem dX9_chance_90 : decode cX9_chance 90 = .ok (.iconst 0, 1) := by decide +kernel
theorem dX9_chance_91 : decode cX9_chance 91 = .ok (.istore 8, 2) := by decide +kernel
theorem dX9_chance_93 : decode cX9_chance 93 = .ok (.iload 8, 2) := by decide +kernel
theorem dX9_chance_95 : decode cX9_chance 95 = .ok (.aload_n 0, 1) := by decide +kernel
theorem dX9_chance_96 : decode cX9_chance 96 = .ok (.getfield 13, 3) := by decide +kernel
theorem dX9_chance_99 : decode cX9_chance 99 = .ok (.iconst 0, 1) := by decide +kernel
theorem dX9_chance_100 : decode cX9_chance 100 = .ok (.iaload, 1) := by decide +kernel
theorem dX9_chance_101 : decode cX9_chance 101 = .ok (.if_icmp .ge 33, 3) := by decide +kernel
theorem dX9_chance_104 : decode cX9_chance 104 = .ok (.iload 7, 2) := by decide +kernel
theorem dX9_chance_106 : decode cX9_chance 106 = .ok (.iload 6, 2) := by decide +kernel
theorem dX9_chance_108 : decode cX9_chance 108 = .ok (.iload 8, 2) := by decide +kernel
theorem dX9_chance_110 : decode cX9_chance 110 = .ok (.ishr, 1) := by decide +kernel
theorem dX9_chance_111 : decode cX9_chance 111 = .ok (.iconst 1, 1) := by decide +kernel
theorem dX9_chance_112 : decode cX9_chance 112 = .ok (.iand, 1) := by decide +kernel
theorem dX9_chance_113 : decode cX9_chance 113 = .ok (.iconst 1, 1) := by decide +kernel
theorem dX9_chance_114 : decode cX9_chance 114 = .ok (.if_icmp .ne 7, 3) := by decide +kernel
theorem dX9_chance_117 : decode cX9_chance 117 = .ok (.iload_n 2, 1) := by decide +kernel
theorem dX9_chance_118 : decode cX9_chance 118 = .ok (.goto 7, 3) := by decide +kernel
theorem dX9_chance_121 : decode cX9_chance 121 = .ok (.bipush 10, 2) := by decide +kernel
theorem dX9_chance_123 : decode cX9_chance 123 = .ok (.iload_n 2, 1) := by decide +kernel
theorem dX9_chance_124 : decode cX9_chance 124 = .ok (.isub, 1) := by decide +kernel
theorem dX9_chance_125 : decode cX9_chance 125 = .ok (.imul, 1) := by decide +kernel
theorem dX9_chance_126 : decode cX9_chance 126 = .ok (.istore 7, 2) := by decide +kernel
theorem dX9_chance_128 : decode cX9_chance 128 = .ok (.iinc 8 1, 3) := by decide +kernel
theorem dX9_chance_131 : decode cX9_chance 131 = .ok (.goto (-38), 3) := by decide +kernel
theorem dX9_chance_134 : decode cX9_chance 134 = .ok (.aload_n 0, 1) := by decide +kernel
theorem dX9_chance_135 : decode cX9_chance 135 = .ok (.iload 6, 2) := by decide +kernel
theorem dX9_chance_137 : decode cX9_chance 137 = .ok (.putfield 123, 3) := by decide +kernel
theorem dX9_chance_140 : decode cX9_chance 140 = .ok (.iload 4, 2) := by decide +kernel
theorem dX9_chance_142 : decode cX9_chance 142 = .ok (.aload_n 0, 1) := by decide +kernel
theorem dX9_chance_143 : decode cX9_chance 143 = .ok (.invokevirtual 138, 3) := by decide +kernel
theorem dX9_chance_146 : decode cX9_chance 146 = .ok (.iload_n 1, 1) := by decide +kernel
theorem dX9_chance_147 : decode cX9_chance 147 = .ok (.if_icmp .ne 8, 3) := by decide +kernel
theorem dX9_chance_150 : decode cX9_chance 150 = .ok (.iload 7, 2) := by decide +kernel
theorem dX9_chance_152 : decode cX9_chance 152 = .ok (.goto 4, 3) := by decide +kernel
theorem dX9_chance_155 : decode cX9_chance 155 = .ok (.iconst 0, 1) := by decide +kernel
theorem dX9_chance_156 : decode cX9_chance 156 = .ok (.iadd, 1) := by decide +kernel
theorem dX9_chance_157 : decode cX9_chance 157 = .ok (.istore 4, 2) := by decide +kernel
theorem dX9_chance_159 : decode cX9_chance 159 = .ok (.iinc 6 1, 3) := by decide +kernel
theorem dX9_chance_162 : decode cX9_chance 162 = .ok (.goto (-88), 3) := by decide +kernel
theorem dX9_chance_165 : decode cX9_chance 165 = .ok (.aload_n 0, 1) := by decide +kernel
theorem dX9_chance_166 : decode cX9_chance 166 = .ok (.iconst 0, 1) := by decide +kernel
theorem dX9_chance_167 : decode cX9_chance 167 = .ok (.putfield 123, 3) := by decide +kernel
theorem dX9_chance_170 : decode cX9_chance 170 = .ok (.iload 4, 2) := by decide +kernel
theorem dX9_chance_172 : decode cX9_chance 172 = .ok (.istore 6, 2) := by decide +kernel
theorem dX9_chance_174 : decode cX9_chance 174 = .ok (.iload 5, 2) := by decide +kernel
theorem dX9_chance_176 : decode cX9_chance 176 = .ok (.istore 7, 2) := by decide +kernel
theorem dX9_chance_178 : decode cX9_chance 178 = .ok (.iload 7, 2) := by decide +kernel
theorem dX9_chance_180 : decode cX9_chance 180 = .ok (.ifCond .le 21, 3) := by decide +kernel
theorem dX9_chance_183 : decode cX9_chance 183 = .ok (.iload 6, 2) := by decide +kernel
theorem dX9_chance_185 : decode cX9_chance 185 = .ok (.iload 7, 2) := by decide +kernel
theorem dX9_chance_187 : decode cX9_chance 187 = .ok (.irem, 1) := by decide +kernel
theorem dX9_chance_188 : decode cX9_chance 188 = .ok (.istore 8, 2) := by decide +kernel
theorem dX9_chance_190 : decode cX9_chance 190 = .ok (.iload 7, 2) := by decide +kernel
theorem dX9_chance_192 : decode cX9_chance 192 = .ok (.istore 6, 2) := by decide +kernel
theorem dX9_chance_194 : decode cX9_chance 194 = .ok (.iload 8, 2) := by decide +kernel
theorem dX9_chance_196 : decode cX9_chance 196 = .ok (.istore 7, 2) := by decide +kernel
theorem dX9_chance_198 : decode cX9_chance 198 = .ok (.goto (-20), 3) := by decide +kernel
theorem dX9_chance_201 : decode cX9_chance 201 = .ok (.iload_n 3, 1) := by decide +kernel
theorem dX9_chance_202 : decode cX9_chance 202 = .ok (.ifCond .ne 11, 3) := by decide +kernel
theorem dX9_chance_205 : decode cX9_chance 205 = .ok (.iload 4, 2) := by decide +kernel
theorem dX9_chance_207 : decode cX9_chance 207 = .ok (.iload 6, 2) := by decide +kernel
theorem dX9_chance_209 : decode cX9_chance 209 = .ok (.idiv, 1) := by decide +kernel
theorem dX9_chance_210 : decode cX9_chance 210 = .ok (.goto 8, 3) := by decide +kernel
theorem dX9_chance_213 : decode cX9_chance 213 = .ok (.iload 5, 2) := by decide +kernel
theorem dX9_chance_215 : decode cX9_chance 215 = .ok (.iload 6, 2) := by decide +kernel
theorem dX9_chance_217 : decode cX9_chance 217 = .ok (.idiv, 1) := by decide +kernel
theorem dX9_chance_218 : decode cX9_chance 218 = .ok (.ireturn, 1) := by decide +kernel
theorem dX9_count_0 : decode cX9_count 0 = .ok (.iconst 0, 1) := by decide +kernel
theorem dX9_count_1 : decode cX9_count 1 = .ok (.istore_n 2, 1) := by decide +kernel
theorem dX9_count_2 : decode cX9_count 2 = .ok (.iconst 0, 1) := by decide +kernel
theorem dX9_count_3 : decode cX9_count 3 = .ok (.istore_n 3, 1) := by decide +kernel
theorem dX9_count_4 : decode cX9_count 4 = .ok (.iload_n 3, 1) := by decide +kernel
theorem dX9_count_5 : decode cX9_count 5 = .ok (.aload_n 0, 1) := by decide +kernel
theorem dX9_count_6 : decode cX9_count 6 = .ok (.getfield 13, 3) := by decide +kernel
theorem dX9_count_9 : decode cX9_count 9 = .ok (.iconst 0, 1) := by decide +kernel
theorem dX9_count_10 : decode cX9_count 10 = .ok (.iaload, 1) := by decide +kernel
theorem dX9_count_11 : decode cX9_count 11 = .ok (.if_icmp .ge 18, 3) := by decide +kernel
theorem dX9_count_14 : decode cX9_count 14 = .ok (.iload_n 2, 1) := by decide +kernel
theorem dX9_count_15 : decode cX9_count 15 = .ok (.aload_n 0, 1) := by decide +kernel
theorem dX9_count_16 : decode cX9_count 16 = .ok (.getfield 19, 3) := by decide +kernel
theorem dX9_count_19 : decode cX9_count 19 = .ok (.iload_n 3, 1) := by decide +kernel
theorem dX9_count_20 : decode cX9_count 20 = .ok (.iaload, 1) := by decide +kernel
theorem dX9_count_21 : decode cX9_count 21 = .ok (.iadd, 1) := by decide +kernel
theorem dX9_count_22 : decode cX9_count 22 = .ok (.istore_n 2, 1) := by decide +kernel
theorem dX9_count_23 : decode cX9_count 23 = .ok (.iinc 3 1, 3) := by decide +kernel
theorem dX9_count_26 : decode cX9_count 26 = .ok (.goto (-22), 3) := by decide +kernel
theorem dX9_count_29 : decode cX9_count 29 = .ok (.iload_n 1, 1) := by decide +kernel
theorem dX9_count_30 : decode cX9_count 30 = .ok (.tableswitch 113 0 9 #[54, 61, 69, 76, 83, 85, 90, 98, 103, 108], 54) := by decide +kernel
theorem dX9_count_84 : decode cX9_count 84 = .ok (.aload_n 0, 1) := by decide +kernel
theorem dX9_count_85 : decode cX9_count 85 = .ok (.getfield 13, 3) := by decide +kernel
theorem dX9_count_88 : decode cX9_count 88 = .ok (.iconst 0, 1) := by decide +kernel
theorem dX9_count_89 : decode cX9_count 89 = .ok (.iaload, 1) := by decide +kernel
theorem dX9_count_90 : decode cX9_count 90 = .ok (.ireturn, 1) := by decide +kernel
theorem dX9_count_91 : decode cX9_count 91 = .ok (.aload_n 0, 1) := by decide +kernel
theorem dX9_count_92 : decode cX9_count 92 = .ok (.getfield 19, 3) := by decide +kernel
theorem dX9_count_95 : decode cX9_count 95 = .ok (.bipush 16, 2) := by decide +kernel
theorem dX9_count_97 : decode cX9_count 97 = .ok (.iaload, 1) := by decide +kernel
theorem dX9_count_98 : decode cX9_count 98 = .ok (.ireturn, 1) := by decide +kernel
theorem dX9_count_99 : decode cX9_count 99 = .ok (.aload_n 0, 1) := by decide +kernel
theorem dX9_count_100 : decode cX9_count 100 = .ok (.getfield 13, 3) := by decide +kernel
theorem dX9_count_103 : decode cX9_count 103 = .ok (.iconst 1, 1) := by decide +kernel
theorem dX9_count_104 : decode cX9_count 104 = .ok (.iaload, 1) := by decide +kernel
theorem dX9_count_105 : decode cX9_count 105 = .ok (.ireturn, 1) := by decide +kernel
theorem dX9_count_106 : decode cX9_count 106 = .ok (.aload_n 0, 1) := by decide +kernel
theorem dX9_count_107 : decode cX9_count 107 = .ok (.getfield 13, 3) := by decide +kernel
theorem dX9_count_110 : decode cX9_count 110 = .ok (.iconst 2, 1) := by decide +kernel
theorem dX9_count_111 : decode cX9_count 111 = .ok (.iaload, 1) := by decide +kernel
theorem dX9_count_112 : decode cX9_count 112 = .ok (.ireturn, 1) := by decide +kernel
theorem dX9_count_113 : decode cX9_count 113 = .ok (.iload_n 2, 1) := by decide +kernel
theorem dX9_count_114 : decode cX9_count 114 = .ok (.ireturn, 1) := by decide +kernel
theorem dX9_count_115 : decode cX9_count 115 = .ok (.aload_n 0, 1) := by decide +kernel
theorem dX9_count_116 : decode cX9_count 116 = .ok (.invokevirtual 157, 3) := by decide +kernel
theorem dX9_count_119 : decode cX9_count 119 = .ok (.ireturn, 1) := by decide +kernel
theorem dX9_count_120 : decode cX9_count 120 = .ok (.aload_n 0, 1) := by decide +kernel
theorem dX9_count_121 : decode cX9_count 121 = .ok (.getfield 19, 3) := by decide +kernel
theorem dX9_count_124 : decode cX9_count 124 = .ok (.bipush 17, 2) := by decide +kernel
theorem dX9_count_126 : decode cX9_count 126 = .ok (.iaload, 1) := by decide +kernel
theorem dX9_count_127 : decode cX9_count 127 = .ok (.ireturn, 1) := by decide +kernel
theorem dX9_count_128 : decode cX9_count 128 = .ok (.aload_n 0, 1) := by decide +kernel
theorem dX9_count_129 : decode cX9_count 129 = .ok (.getfield 104, 3) := by decide +kernel
theorem dX9_count_132 : decode cX9_count 132 = .ok (.ireturn, 1) := by decide +kernel
theorem dX9_count_133 : decode cX9_count 133 = .ok (.aload_n 0, 1) := by decide +kernel
theorem dX9_count_134 : decode cX9_count 134 = .ok (.getfield 101, 3) := by decide +kernel
theorem dX9_count_137 : decode cX9_count 137 = .ok (.ireturn, 1) := by decide +kernel
theorem dX9_count_138 : decode cX9_count 138 = .ok (.aload_n 0, 1) := by decide +kernel
theorem dX9_count_139 : decode cX9_count 139 = .ok (.getfield 55, 3) := by decide +kernel
theorem dX9_count_142 : decode cX9_count 142 = .ok (.ireturn, 1) := by decide +kernel
theorem dX9_count_143 : decode cX9_count 143 = .ok (.bipush (-3), 2) := by decide +kernel
theorem dX9_count_145 : decode cX9_count 145 = .ok (.ireturn, 1) := by decide +kernel
theorem dJ6_bitCount_0f7a4_0 : decode cJ6_bitCount_0f7a4 0 = .ok (.iload_n 0, 1) := by decide +kernel
theorem dJ6_bitCount_0f7a4_1 : decode cJ6_bitCount_0f7a4 1 = .ok (.iload_n 0, 1) := by decide +kernel
theorem dJ6_bitCount_0f7a4_2 : decode cJ6_bitCount_0f7a4 2 = .ok (.iconst 1, 1) := by decide +kernel
theorem dJ6_bitCount_0f7a4_3 : decode cJ6_bitCount_0f7a4 3 = .ok (.iushr, 1) := by decide +kernel
theorem dJ6_bitCount_0f7a4_4 : decode cJ6_bitCount_0f7a4 4 = .ok (.ldc_w 265, 3) := by decide +kernel
theorem dJ6_bitCount_0f7a4_7 : decode cJ6_bitCount_0f7a4 7 = .ok (.iand, 1) := by decide +kernel
theorem dJ6_bitCount_0f7a4_8 : decode cJ6_bitCount_0f7a4 8 = .ok (.isub, 1) := by decide +kernel
theorem dJ6_bitCount_0f7a4_9 : decode cJ6_bitCount_0f7a4 9 = .ok (.istore_n 0, 1) := by decide +kernel
theorem dJ6_bitCount_0f7a4_10 : decode cJ6_bitCount_0f7a4 10 = .ok (.iload_n 0, 1) := by decide +kernel
theorem dJ6_bitCount_0f7a4_11 : decode cJ6_bitCount_0f7a4 11 = .ok (.ldc_w 266, 3) := by decide +kernel
theorem dJ6_bitCount_0f7a4_14 : decode cJ6_bitCount_0f7a4 14 = .ok (.iand, 1) := by decide +kernel
theorem dJ6_bitCount_0f7a4_15 : decode cJ6_bitCount_0f7a4 15 = .ok (.iload_n 0, 1) := by decide +kernel
theorem dJ6_bitCount_0f7a4_16 : decode cJ6_bitCount_0f7a4 16 = .ok (.iconst 2, 1) := by decide +kernel
theorem dJ6_bitCount_0f7a4_17 : decode cJ6_bitCount_0f7a4 17 = .ok (.iushr, 1) := by decide +kernel
theorem dJ6_bitCount_0f7a4_18 : decode cJ6_bitCount_0f7a4 18 = .ok (.ldc_w 266, 3) := by decide +kernel
theorem dJ6_bitCount_0f7a4_21 : decode cJ6_bitCount_0f7a4 21 = .ok (.iand, 1) := by decide +kernel
theorem dJ6_bitCount_0f7a4_22 : decode cJ6_bitCount_0f7a4 22 = .ok (.iadd, 1) := by decide +kernel
theorem dJ6_bitCount_0f7a4_23 : decode cJ6_bitCount_0f7a4 23 = .ok (.istore_n 0, 1) := by decide +kernel
theorem dJ6_bitCount_0f7a4_24 : decode cJ6_bitCount_0f7a4 24 = .ok (.iload_n 0, 1) := by decide +kernel
theorem dJ6_bitCount_0f7a4_25 : decode cJ6_bitCount_0f7a4 25 = .ok (.iload_n 0, 1) := by decide +kernel
theorem dJ6_bitCount_0f7a4_26 : decode cJ6_bitCount_0f7a4 26 = .ok (.iconst 4, 1) := by decide +kernel
theorem dJ6_bitCount_0f7a4_27 : decode cJ6_bitCount_0f7a4 27 = .ok (.iushr, 1) := by decide +kernel
theorem dJ6_bitCount_0f7a4_28 : decode cJ6_bitCount_0f7a4 28 = .ok (.iadd, 1) := by decide +kernel
theorem dJ6_bitCount_0f7a4_29 : decode cJ6_bitCount_0f7a4 29 = .ok (.ldc_w 267, 3) := by decide +kernel
theorem dJ6_bitCount_0f7a4_32 : decode cJ6_bitCount_0f7a4 32 = .ok (.iand, 1) := by decide +kernel
theorem dJ6_bitCount_0f7a4_33 : decode cJ6_bitCount_0f7a4 33 = .ok (.istore_n 0, 1) := by decide +kernel
theorem dJ6_bitCount_0f7a4_34 : decode cJ6_bitCount_0f7a4 34 = .ok (.iload_n 0, 1) := by decide +kernel
theorem dJ6_bitCount_0f7a4_35 : decode cJ6_bitCount_0f7a4 35 = .ok (.iload_n 0, 1) := by decide +kernel
theorem dJ6_bitCount_0f7a4_36 : decode cJ6_bitCount_0f7a4 36 = .ok (.bipush 8, 2) := by decide +kernel
theorem dJ6_bitCount_0f7a4_38 : decode cJ6_bitCount_0f7a4 38 = .ok (.iushr, 1) := by decide +kernel
theorem dJ6_bitCount_0f7a4_39 : decode cJ6_bitCount_0f7a4 39 = .ok (.iadd, 1) := by decide +kernel
theorem dJ6_bitCount_0f7a4_40 : decode cJ6_bitCount_0f7a4 40 = .ok (.istore_n 0, 1) := by decide +kernel
theorem dJ6_bitCount_0f7a4_41 : decode cJ6_bitCount_0f7a4 41 = .ok (.iload_n 0, 1) := by decide +kernel
theorem dJ6_bitCount_0f7a4_42 : decode cJ6_bitCount_0f7a4 42 = .ok (.iload_n 0, 1) := by decide +kernel
theorem dJ6_bitCount_0f7a4_43 : decode cJ6_bitCount_0f7a4 43 = .ok (.bipush 16, 2) := by decide +kernel
theorem dJ6_bitCount_0f7a4_45 : decode cJ6_bitCount_0f7a4 45 = .ok (.iushr, 1) := by decide +kernel
theorem dJ6_bitCount_0f7a4_46 : decode cJ6_bitCount_0f7a4 46 = .ok (.iadd, 1) := by decide +kernel
theorem dJ6_bitCount_0f7a4_47 : decode cJ6_bitCount_0f7a4 47 = .ok (.istore_n 0, 1) := by decide +kernel
theorem dJ6_bitCount_0f7a4_48 : decode cJ6_bitCount_0f7a4 48 = .ok (.iload_n 0, 1) := by decide +kernel
theorem dJ6_bitCount_0f7a4_49 : decode cJ6_bitCount_0f7a4 49 = .ok (.bipush 63, 2) := by decide +kernel
theorem dJ6_bitCount_0f7a4_51 : decode cJ6_bitCount_0f7a4 51 = .ok (.iand, 1) := by decide +kernel
theorem dJ6_bitCount_0f7a4_52 : decode cJ6_bitCount_0f7a4 52 = .ok (.ireturn, 1) := by decide +kernel
theorem dJ9_max_7cf53_0 : decode cJ9_max_7cf53 0 = .ok (.iload_n 0, 1) := by decide +kernel
theorem dJ9_max_7cf53_1 : decode cJ9_max_7cf53 1 = .ok (.iload_n 1, 1) := by decide +kernel
theorem dJ9_max_7cf53_2 : decode cJ9_max_7cf53 2 = .ok (.if_icmp .lt 7, 3) := by decide +kernel
theorem dJ9_max_7cf53_5 : decode cJ9_max_7cf53 5 = .ok (.iload_n 0, 1) := by decide +kernel
theorem dJ9_max_7cf53_6 : decode cJ9_max_7cf53 6 = .ok (.goto 4, 3) := by decide +kernel
theorem dJ9_max_7cf53_9 : decode cJ9_max_7cf53 9 = .ok (.iload_n 1, 1) := by decide +kernel
theorem dJ9_max_7cf53_10 : decode cJ9_max_7cf53 10 = .ok (.ireturn, 1) := by decide +kernel
theorem dJ9_min_7cf53_0 : decode cJ9_min_7cf53 0 = .ok (.iload_n 0, 1) := by decide +kernel
theorem dJ9_min_7cf53_1 : decode cJ9_min_7cf53 1 = .ok (.iload_n 1, 1) := by decide +kernel
theorem dJ9_min_7cf53_2 : decode cJ9_min_7cf53 2 = .ok (.if_icmp .gt 7, 3) := by decide +kernel
theorem dJ9_min_7cf53_5 : decode cJ9_min_7cf53 5 = .ok (.iload_n 0, 1) := by decide +kernel
theorem dJ9_min_7cf53_6 : decode cJ9_min_7cf53 6 = .ok (.goto 4, 3) := by decide +kernel
theorem dJ9_min_7cf53_9 : decode cJ9_min_7cf53 9 = .ok (.iload_n 1, 1) := by decide +kernel
theorem dJ9_min_7cf53_10 : decode cJ9_min_7cf53 10 = .ok (.ireturn, 1) := by decide +kernel
theorem dJ0_length_8abf5_0 : decode cJ0_length_8abf5 0 = .ok (.aload_n 0, 1) := by decide +kernel
theorem dJ0_length_8abf5_1 : decode cJ0_length_8abf5 1 = .ok (.getfield 9, 3) := by decide +kernel
theorem dJ0_length_8abf5_4 : decode cJ0_length_8abf5 4 = .ok (.arraylength, 1) := by decide +kernel
theorem dJ0_length_8abf5_5 : decode cJ0_length_8abf5 5 = .ok (.aload_n 0, 1) := by decide +kernel
theorem dJ0_length_8abf5_6 : decode cJ0_length_8abf5 6 = .ok (.invokevirtual 335, 3) := by decide +kernel
theorem dJ0_length_8abf5_9 : decode cJ0_length_8abf5 9 = .ok (.ishr, 1) := by decide +kernel
theorem dJ0_length_8abf5_10 : decode cJ0_length_8abf5 10 = .ok (.ireturn, 1) := by decide +kernel
theorem dJ0_charAt_5068e_0 : decode cJ0_charAt_5068e 0 = .ok (.aload_n 0, 1) := by decide +kernel
theorem dJ0_charAt_5068e_1 : decode cJ0_charAt_5068e 1 = .ok (.invokevirtual 492, 3) := by decide +kernel
theorem dJ0_charAt_5068e_4 : decode cJ0_charAt_5068e 4 = .ok (.ifCond .eq 12, 3) := by decide +kernel
theorem dJ0_charAt_5068e_7 : decode cJ0_charAt_5068e 7 = .ok (.aload_n 0, 1) := by decide +kernel
theorem dJ0_charAt_5068e_8 : decode cJ0_charAt_5068e 8 = .ok (.getfield 9, 3) := by decide +kernel
theorem dJ0_charAt_5068e_11 : decode cJ0_charAt_5068e 11 = .ok (.iload_n 1, 1) := by decide +kernel
theorem dJ0_charAt_5068e_12 : decode cJ0_charAt_5068e 12 = .ok (.invokestatic 495, 3) := by decide +kernel
theorem dJ0_charAt_5068e_15 : decode cJ0_charAt_5068e 15 = .ok (.ireturn, 1) := by decide +kernel
theorem dJ0_charAt_5068e_16 : decode cJ0_charAt_5068e 16 = .ok (.aload_n 0, 1) := by decide +kernel
theorem dJ0_charAt_5068e_17 : decode cJ0_charAt_5068e 17 = .ok (.getfield 9, 3) := by decide +kernel
theorem dJ0_charAt_5068e_20 : decode cJ0_charAt_5068e 20 = .ok (.iload_n 1, 1) := by decide +kernel
theorem dJ0_charAt_5068e_21 : decode cJ0_charAt_5068e 21 = .ok (.invokestatic 498, 3) := by decide +kernel
theorem dJ0_charAt_5068e_24 : decode cJ0_charAt_5068e 24 = .ok (.ireturn, 1) := by decide +kernel
theorem dJ0_coder_7d493_0 : decode cJ0_coder_7d493 0 = .ok (.getstatic 38, 3) := by decide +kernel
theorem dJ0_coder_7d493_3 : decode cJ0_coder_7d493 3 = .ok (.ifCond .eq 10, 3) := by decide +kernel
theorem dJ0_coder_7d493_6 : decode cJ0_coder_7d493 6 = .ok (.aload_n 0, 1) := by decide +kernel
theorem dJ0_coder_7d493_7 : decode cJ0_coder_7d493 7 = .ok (.getfield 15, 3) := by decide +kernel
theorem dJ0_coder_7d493_10 : decode cJ0_coder_7d493 10 = .ok (.goto 4, 3) := by decide +kernel
theorem dJ0_coder_7d493_13 : decode cJ0_coder_7d493 13 = .ok (.iconst 1, 1) := by decide +kernel
theorem dJ0_coder_7d493_14 : decode cJ0_coder_7d493 14 = .ok (.ireturn, 1) := by decide +kernel
theorem dJ0_isLatin1_aae02_0 : decode cJ0_isLatin1_aae02 0 = .ok (.getstatic 38, 3) := by decide +kernel
theorem dJ0_isLatin1_aae02_3 : decode cJ0_isLatin1_aae02 3 = .ok (.ifCond .eq 14, 3) := by decide +kernel
theorem dJ0_isLatin1_aae02_6 : decode cJ0_isLatin1_aae02 6 = .ok (.aload_n 0, 1) := by decide +kernel
theorem dJ0_isLatin1_aae02_7 : decode cJ0_isLatin1_aae02 7 = .ok (.getfield 15, 3) := by decide +kernel
theorem dJ0_isLatin1_aae02_10 : decode cJ0_isLatin1_aae02 10 = .ok (.ifCond .ne 7, 3) := by decide +kernel
theorem dJ0_isLatin1_aae02_13 : decode cJ0_isLatin1_aae02 13 = .ok (.iconst 1, 1) := by decide +kernel
theorem dJ0_isLatin1_aae02_14 : decode cJ0_isLatin1_aae02 14 = .ok (.goto 4, 3) := by decide +kernel
theorem dJ0_isLatin1_aae02_17 : decode cJ0_isLatin1_aae02 17 = .ok (.iconst 0, 1) := by decide +kernel
theorem dJ0_isLatin1_aae02_18 : decode cJ0_isLatin1_aae02 18 = .ok (.ireturn, 1) := by decide +kernel
theorem dJ0_checkIndex_df160_0 : decode cJ0_checkIndex_df160 0 = .ok (.iload_n 0, 1) := by decide +kernel
theorem dJ0_checkIndex_df160_1 : decode cJ0_checkIndex_df160 1 = .ok (.iload_n 1, 1) := by decide +kernel
theorem dJ0_checkIndex_df160_2 : decode cJ0_checkIndex_df160 2 = .ok (.getstatic 1053, 3) := by decide +kernel
theorem dJ0_checkIndex_df160_5 : decode cJ0_checkIndex_df160 5 = .ok (.invokestatic 1059, 3) := by decide +kernel
theorem dJ0_checkIndex_df160_8 : decode cJ0_checkIndex_df160 8 = .ok (.pop, 1) := by decide +kernel
theorem dJ0_checkIndex_df160_9 : decode cJ0_checkIndex_df160 9 = .ok (.return_, 1) := by decide +kernel
theorem dJ1_charAt_3b067_0 : decode cJ1_charAt_3b067 0 = .ok (.iload_n 1, 1) := by decide +kernel
theorem dJ1_charAt_3b067_1 : decode cJ1_charAt_3b067 1 = .ok (.aload_n 0, 1) := by decide +kernel
theorem dJ1_charAt_3b067_2 : decode cJ1_charAt_3b067 2 = .ok (.arraylength, 1) := by decide +kernel
theorem dJ1_charAt_3b067_3 : decode cJ1_charAt_3b067 3 = .ok (.invokestatic 9, 3) := by decide +kernel
theorem dJ1_charAt_3b067_6 : decode cJ1_charAt_3b067 6 = .ok (.aload_n 0, 1) := by decide +kernel
theorem dJ1_charAt_3b067_7 : decode cJ1_charAt_3b067 7 = .ok (.iload_n 1, 1) := by decide +kernel
theorem dJ1_charAt_3b067_8 : decode cJ1_charAt_3b067 8 = .ok (.baload, 1) := by decide +kernel
theorem dJ1_charAt_3b067_9 : decode cJ1_charAt_3b067 9 = .ok (.sipush 255, 3) := by decide +kernel
theorem dJ1_charAt_3b067_12 : decode cJ1_charAt_3b067 12 = .ok (.iand, 1) := by decide +kernel
theorem dJ1_charAt_3b067_13 : decode cJ1_charAt_3b067 13 = .ok (.i2c, 1) := by decide +kernel
theorem dJ1_charAt_3b067_14 : decode cJ1_charAt_3b067 14 = .ok (.ireturn, 1) := by decide +kernel
theorem dJ2_getChar_3b067_0 : decode cJ2_getChar_3b067 0 = .ok (.getstatic 44, 3) := by decide +kernel
theorem dJ2_getChar_3b067_3 : decode cJ2_getChar_3b067 3 = .ok (.ifCond .ne 25, 3) := by decide +kernel
theorem dJ2_getChar_3b067_6 : decode cJ2_getChar_3b067 6 = .ok (.iload_n 1, 1) := by decide +kernel
theorem dJ2_getChar_3b067_7 : decode cJ2_getChar_3b067 7 = .ok (.ifCond .lt 11, 3) := by decide +kernel
theorem dJ2_getChar_3b067_10 : decode cJ2_getChar_3b067 10 = .ok (.iload_n 1, 1) := by decide +kernel
theorem dJ2_getChar_3b067_11 : decode cJ2_getChar_3b067 11 = .ok (.aload_n 0, 1) := by decide +kernel
theorem dJ2_getChar_3b067_12 : decode cJ2_getChar_3b067 12 = .ok (.invokestatic 48, 3) := by decide +kernel
theorem dJ2_getChar_3b067_15 : decode cJ2_getChar_3b067 15 = .ok (.if_icmp .lt 13, 3) := by decide +kernel
theorem dJ2_getChar_3b067_18 : decode cJ2_getChar_3b067 18 = .ok (.new 52, 3) := by decide +kernel
theorem dJ2_getChar_3b067_21 : decode cJ2_getChar_3b067 21 = .ok (.dup, 1) := by decide +kernel
theorem dJ2_getChar_3b067_22 : decode cJ2_getChar_3b067 22 = .ok (.ldc 54, 2) := by decide +kernel
theorem dJ2_getChar_3b067_24 : decode cJ2_getChar_3b067 24 = .ok (.invokespecial 56, 3) := by decide +kernel
theorem dJ2_getChar_3b067_27 : decode cJ2_getChar_3b067 27 = .ok (.athrow, 1) := by decide +kernel
theorem dJ2_getChar_3b067_28 : decode cJ2_getChar_3b067 28 = .ok (.iload_n 1, 1) := by decide +kernel
theorem dJ2_getChar_3b067_29 : decode cJ2_getChar_3b067 29 = .ok (.iconst 1, 1) := by decide +kernel
theorem dJ2_getChar_3b067_30 : decode cJ2_getChar_3b067 30 = .ok (.ishl, 1) := by decide +kernel
theorem dJ2_getChar_3b067_31 : decode cJ2_getChar_3b067 31 = .ok (.istore_n 1, 1) := by decide +kernel
theorem dJ2_getChar_3b067_32 : decode cJ2_getChar_3b067 32 = .ok (.aload_n 0, 1) := by decide +kernel
theorem dJ2_getChar_3b067_33 : decode cJ2_getChar_3b067 33 = .ok (.iload_n 1, 1) := by decide +kernel
theorem dJ2_getChar_3b067_34 : decode cJ2_getChar_3b067 34 = .ok (.iinc 1 1, 3) := by decide +kernel
theorem dJ2_getChar_3b067_37 : decode cJ2_getChar_3b067 37 = .ok (.baload, 1) := by decide +kernel
theorem dJ2_getChar_3b067_38 : decode cJ2_getChar_3b067 38 = .ok (.sipush 255, 3) := by decide +kernel
theorem dJ2_getChar_3b067_41 : decode cJ2_getChar_3b067 41 = .ok (.iand, 1) := by decide +kernel
theorem dJ2_getChar_3b067_42 : decode cJ2_getChar_3b067 42 = .ok (.getstatic 59, 3) := by decide +kernel
theorem dJ2_getChar_3b067_45 : decode cJ2_getChar_3b067 45 = .ok (.ishl, 1) := by decide +kernel
theorem dJ2_getChar_3b067_46 : decode cJ2_getChar_3b067 46 = .ok (.aload_n 0, 1) := by decide +kernel
theorem dJ2_getChar_3b067_47 : decode cJ2_getChar_3b067 47 = .ok (.iload_n 1, 1) := by decide +kernel
theorem dJ2_getChar_3b067_48 : decode cJ2_getChar_3b067 48 = .ok (.baload, 1) := by decide +kernel
theorem dJ2_getChar_3b067_49 : decode cJ2_getChar_3b067 49 = .ok (.sipush 255, 3) := by decide +kernel
theorem dJ2_getChar_3b067_52 : decode cJ2_getChar_3b067 52 = .ok (.iand, 1) := by decide +kernel
theorem dJ2_getChar_3b067_53 : decode cJ2_getChar_3b067 53 = .ok (.getstatic 63, 3) := by decide +kernel
theorem dJ2_getChar_3b067_56 : decode cJ2_getChar_3b067 56 = .ok (.ishl, 1) := by decide +kernel
theorem dJ2_getChar_3b067_57 : decode cJ2_getChar_3b067 57 = .ok (.ior, 1) := by decide +kernel
theorem dJ2_getChar_3b067_58 : decode cJ2_getChar_3b067 58 = .ok (.i2c, 1) := by decide +kernel
theorem dJ2_getChar_3b067_59 : decode cJ2_getChar_3b067 59 = .ok (.ireturn, 1) := by decide +kernel
theorem dJ2_length_9d52b_0 : decode cJ2_length_9d52b 0 = .ok (.aload_n 0, 1) := by decide +kernel
theorem dJ2_length_9d52b_1 : decode cJ2_length_9d52b 1 = .ok (.arraylength, 1) := by decide +kernel
theorem dJ2_length_9d52b_2 : decode cJ2_length_9d52b 2 = .ok (.iconst 1, 1) := by decide +kernel
theorem dJ2_length_9d52b_3 : decode cJ2_length_9d52b 3 = .ok (.ishr, 1) := by decide +kernel
theorem dJ2_length_9d52b_4 : decode cJ2_length_9d52b 4 = .ok (.ireturn, 1) := by decide +kernel
theorem dJ2_charAt_3b067_0 : decode cJ2_charAt_3b067 0 = .ok (.iload_n 1, 1) := by decide +kernel
theorem dJ2_charAt_3b067_1 : decode cJ2_charAt_3b067 1 = .ok (.aload_n 0, 1) := by decide +kernel
theorem dJ2_charAt_3b067_2 : decode cJ2_charAt_3b067 2 = .ok (.invokestatic 67, 3) := by decide +kernel
theorem dJ2_charAt_3b067_5 : decode cJ2_charAt_3b067 5 = .ok (.aload_n 0, 1) := by decide +kernel
theorem dJ2_charAt_3b067_6 : decode cJ2_charAt_3b067 6 = .ok (.iload_n 1, 1) := by decide +kernel
theorem dJ2_charAt_3b067_7 : decode cJ2_charAt_3b067 7 = .ok (.invokestatic 71, 3) := by decide +kernel
theorem dJ2_charAt_3b067_10 : decode cJ2_charAt_3b067 10 = .ok (.ireturn, 1) := by decide +kernel
theorem dJ2_checkIndex_2214a_0 : decode cJ2_checkIndex_2214a 0 = .ok (.iload_n 0, 1) := by decide +kernel
theorem dJ2_checkIndex_2214a_1 : decode cJ2_checkIndex_2214a 1 = .ok (.aload_n 1, 1) := by decide +kernel
theorem dJ2_checkIndex_2214a_2 : decode cJ2_checkIndex_2214a 2 = .ok (.invokestatic 48, 3) := by decide +kernel
theorem dJ2_checkIndex_2214a_5 : decode cJ2_checkIndex_2214a 5 = .ok (.invokestatic 414, 3) := by decide +kernel
theorem dJ2_checkIndex_2214a_8 : decode cJ2_checkIndex_2214a 8 = .ok (.return_, 1) := by decide +kernel
theorem dJ3_checkIndex_8e157_0 : decode cJ3_checkIndex_8e157 0 = .ok (.iload_n 0, 1) := by decide +kernel
theorem dJ3_checkIndex_8e157_1 : decode cJ3_checkIndex_8e157 1 = .ok (.ifCond .lt 8, 3) := by decide +kernel
theorem dJ3_checkIndex_8e157_4 : decode cJ3_checkIndex_8e157 4 = .ok (.iload_n 0, 1) := by decide +kernel
theorem dJ3_checkIndex_8e157_5 : decode cJ3_checkIndex_8e157 5 = .ok (.iload_n 1, 1) := by decide +kernel
theorem dJ3_checkIndex_8e157_6 : decode cJ3_checkIndex_8e157 6 = .ok (.if_icmp .lt 10, 3) := by decide +kernel
theorem dJ3_checkIndex_8e157_9 : decode cJ3_checkIndex_8e157 9 = .ok (.aload_n 2, 1) := by decide +kernel
theorem dJ3_checkIndex_8e157_10 : decode cJ3_checkIndex_8e157 10 = .ok (.iload_n 0, 1) := by decide +kernel
theorem dJ3_checkIndex_8e157_11 : decode cJ3_checkIndex_8e157 11 = .ok (.iload_n 1, 1) := by decide +kernel
theorem dJ3_checkIndex_8e157_12 : decode cJ3_checkIndex_8e157 12 = .ok (.invokestatic 95, 3) := by decide +kernel
theorem dJ3_checkIndex_8e157_15 : decode cJ3_checkIndex_8e157 15 = .ok (.athrow, 1) := by decide +kernel
theorem dJ3_checkIndex_8e157_16 : decode cJ3_checkIndex_8e157 16 = .ok (.iload_n 0, 1) := by decide +kernel
theorem dJ3_checkIndex_8e157_17 : decode cJ3_checkIndex_8e157 17 = .ok (.ireturn, 1) := by decide +kernel
theorem dL_law_0 : decode cL_law 0 = .ok (.new 7, 3) := by decide +kernel
theorem dL_law_3 : decode cL_law 3 = .ok (.dup, 1) := by decide +kernel
theorem dL_law_4 : decode cL_law 4 = .ok (.invokespecial 9, 3) := by decide +kernel
theorem dL_law_7 : decode cL_law 7 = .ok (.astore_n 1, 1) := by decide +kernel
theorem dL_law_8 : decode cL_law 8 = .ok (.new 10, 3) := by decide +kernel
theorem dL_law_11 : decode cL_law 11 = .ok (.dup, 1) := by decide +kernel
theorem dL_law_12 : decode cL_law 12 = .ok (.invokespecial 12, 3) := by decide +kernel
theorem dL_law_15 : decode cL_law 15 = .ok (.astore_n 2, 1) := by decide +kernel
theorem dL_law_16 : decode cL_law 16 = .ok (.iconst 0, 1) := by decide +kernel
theorem dL_law_17 : decode cL_law 17 = .ok (.istore_n 3, 1) := by decide +kernel
theorem dL_law_18 : decode cL_law 18 = .ok (.iload_n 3, 1) := by decide +kernel
theorem dL_law_19 : decode cL_law 19 = .ok (.aload_n 0, 1) := by decide +kernel
theorem dL_law_20 : decode cL_law 20 = .ok (.arraylength, 1) := by decide +kernel
theorem dL_law_21 : decode cL_law 21 = .ok (.iconst 4, 1) := by decide +kernel
theorem dL_law_22 : decode cL_law 22 = .ok (.isub, 1) := by decide +kernel
theorem dL_law_23 : decode cL_law 23 = .ok (.if_icmp .gt 655, 3) := by decide +kernel
theorem dL_law_26 : decode cL_law 26 = .ok (.aload_n 0, 1) := by decide +kernel
theorem dL_law_27 : decode cL_law 27 = .ok (.iload_n 3, 1) := by decide +kernel
theorem dL_law_28 : decode cL_law 28 = .ok (.iaload, 1) := by decide +kernel
theorem dL_law_29 : decode cL_law 29 = .ok (.bipush 31, 2) := by decide +kernel
theorem dL_law_31 : decode cL_law 31 = .ok (.iand, 1) := by decide +kernel
theorem dL_law_32 : decode cL_law 32 = .ok (.tableswitch 640 0 21 #[104, 127, 140, 153, 166, 199, 232, 245, 278, 311, 324, 347, 370, 393, 426, 449, 472, 505, 538, 551, 574, 617], 104) := by decide +kernel
theorem dL_law_136 : decode cL_law 136 = .ok (.aload_n 1, 1) := by decide +kernel
theorem dL_law_137 : decode cL_law 137 = .ok (.aload_n 0, 1) := by decide +kernel
theorem dL_law_138 : decode cL_law 138 = .ok (.iload_n 3, 1) := by decide +kernel
theorem dL_law_139 : decode cL_law 139 = .ok (.iconst 1, 1) := by decide +kernel
theorem dL_law_140 : decode cL_law 140 = .ok (.iadd, 1) := by decide +kernel
theorem dL_law_141 : decode cL_law 141 = .ok (.iaload, 1) := by decide +kernel
theorem dL_law_142 : decode cL_law 142 = .ok (.invokevirtual 13, 3) := by decide +kernel
theorem dL_law_145 : decode cL_law 145 = .ok (.aload_n 2, 1) := by decide +kernel
theorem dL_law_146 : decode cL_law 146 = .ok (.aload_n 0, 1) := by decide +kernel
theorem dL_law_147 : decode cL_law 147 = .ok (.iload_n 3, 1) := by decide +kernel
theorem dL_law_148 : decode cL_law 148 = .ok (.iconst 1, 1) := by decide +kernel
theorem dL_law_149 : decode cL_law 149 = .ok (.iadd, 1) := by decide +kernel
theorem dL_law_150 : decode cL_law 150 = .ok (.iaload, 1) := by decide +kernel
theorem dL_law_151 : decode cL_law 151 = .ok (.invokevirtual 17, 3) := by decide +kernel
theorem dL_law_154 : decode cL_law 154 = .ok (.if_icmp .eq 518, 3) := by decide +kernel
theorem dL_law_157 : decode cL_law 157 = .ok (.iconst 0, 1) := by decide +kernel
theorem dL_law_158 : decode cL_law 158 = .ok (.ireturn, 1) := by decide +kernel
theorem dL_law_159 : decode cL_law 159 = .ok (.aload_n 1, 1) := by decide +kernel
theorem dL_law_160 : decode cL_law 160 = .ok (.invokevirtual 18, 3) := by decide +kernel
theorem dL_law_163 : decode cL_law 163 = .ok (.aload_n 2, 1) := by decide +kernel
theorem dL_law_164 : decode cL_law 164 = .ok (.invokevirtual 22, 3) := by decide +kernel
theorem dL_law_167 : decode cL_law 167 = .ok (.if_icmp .eq 505, 3) := by decide +kernel
theorem dL_law_170 : decode cL_law 170 = .ok (.iconst 0, 1) := by decide +kernel
theorem dL_law_171 : decode cL_law 171 = .ok (.ireturn, 1) := by decide +kernel
theorem dL_law_172 : decode cL_law 172 = .ok (.aload_n 1, 1) := by decide +kernel
theorem dL_law_173 : decode cL_law 173 = .ok (.invokevirtual 23, 3) := by decide +kernel
theorem dL_law_176 : decode cL_law 176 = .ok (.aload_n 2, 1) := by decide +kernel
theorem dL_law_177 : decode cL_law 177 = .ok (.invokevirtual 26, 3) := by decide +kernel
theorem dL_law_180 : decode cL_law 180 = .ok (.if_icmp .eq 492, 3) := by decide +kernel
theorem dL_law_183 : decode cL_law 183 = .ok (.iconst 0, 1) := by decide +kernel
theorem dL_law_184 : decode cL_law 184 = .ok (.ireturn, 1) := by decide +kernel
theorem dL_law_185 : decode cL_law 185 = .ok (.aload_n 1, 1) := by decide +kernel
theorem dL_law_186 : decode cL_law 186 = .ok (.invokevirtual 27, 3) := by decide +kernel
theorem dL_law_189 : decode cL_law 189 = .ok (.aload_n 2, 1) := by decide +kernel
theorem dL_law_190 : decode cL_law 190 = .ok (.invokevirtual 30, 3) := by decide +kernel
theorem dL_law_193 : decode cL_law 193 = .ok (.if_icmp .eq 479, 3) := by decide +kernel
theorem dL_law_196 : decode cL_law 196 = .ok (.iconst 0, 1) := by decide +kernel
theorem dL_law_197 : decode cL_law 197 = .ok (.ireturn, 1) := by decide +kernel
theorem dL_law_198 : decode cL_law 198 = .ok (.aload_n 1, 1) := by decide +kernel
theorem dL_law_199 : decode cL_law 199 = .ok (.aload_n 0, 1) := by decide +kernel
theorem dL_law_200 : decode cL_law 200 = .ok (.iload_n 3, 1) := by decide +kernel
theorem dL_law_201 : decode cL_law 201 = .ok (.iconst 1, 1) := by decide +kernel
theorem dL_law_202 : decode cL_law 202 = .ok (.iadd, 1) := by decide +kernel
theorem dL_law_203 : decode cL_law 203 = .ok (.iaload, 1) := by decide +kernel
theorem dL_law_204 : decode cL_law 204 = .ok (.aload_n 0, 1) := by decide +kernel
theorem dL_law_205 : decode cL_law 205 = .ok (.iload_n 3, 1) := by decide +kernel
theorem dL_law_206 : decode cL_law 206 = .ok (.iconst 2, 1) := by decide +kernel
theorem dL_law_207 : decode cL_law 207 = .ok (.iadd, 1) := by decide +kernel
theorem dL_law_208 : decode cL_law 208 = .ok (.iaload, 1) := by decide +kernel
theorem dL_law_209 : decode cL_law 209 = .ok (.invokevirtual 31, 3) := by decide +kernel
theorem dL_law_212 : decode cL_law 212 = .ok (.aload_n 2, 1) := by decide +kernel
theorem dL_law_213 : decode cL_law 213 = .ok (.aload_n 0, 1) := by decide +kernel
theorem dL_law_214 : decode cL_law 214 = .ok (.iload_n 3, 1) := by decide +kernel
theorem dL_law_215 : decode cL_law 215 = .ok (.iconst 1, 1) := by decide +kernel
theorem dL_law_216 : decode cL_law 216 = .ok (.iadd, 1) := by decide +kernel
theorem dL_law_217 : decode cL_law 217 = .ok (.iaload, 1) := by decide +kernel
theorem dL_law_218 : decode cL_law 218 = .ok (.aload_n 0, 1) := by decide +kernel
theorem dL_law_219 : decode cL_law 219 = .ok (.iload_n 3, 1) := by decide +kernel
theorem dL_law_220 : decode cL_law 220 = .ok (.iconst 2, 1) := by decide +kernel
theorem dL_law_221 : decode cL_law 221 = .ok (.iadd, 1) := by decide +kernel
theorem dL_law_222 : decode cL_law 222 = .ok (.iaload, 1) := by decide +kernel
theorem dL_law_223 : decode cL_law 223 = .ok (.invokevirtual 35, 3) := by decide +kernel
theorem dL_law_226 : decode cL_law 226 = .ok (.if_icmp .eq 446, 3) := by decide +kernel
theorem dL_law_229 : decode cL_law 229 = .ok (.iconst 0, 1) := by decide +kernel
theorem dL_law_230 : decode cL_law 230 = .ok (.ireturn, 1) := by decide +kernel
theorem dL_law_231 : decode cL_law 231 = .ok (.aload_n 1, 1) := by decide +kernel
theorem dL_law_232 : decode cL_law 232 = .ok (.aload_n 0, 1) := by decide +kernel
theorem dL_law_233 : decode cL_law 233 = .ok (.iload_n 3, 1) := by decide +kernel
theorem dL_law_234 : decode cL_law 234 = .ok (.iconst 1, 1) := by decide +kernel
theorem dL_law_235 : decode cL_law 235 = .ok (.iadd, 1) := by decide +kernel
theorem dL_law_236 : decode cL_law 236 = .ok (.iaload, 1) := by decide +kernel
theorem dL_law_237 : decode cL_law 237 = .ok (.aload_n 0, 1) := by decide +kernel
theorem dL_law_238 : decode cL_law 238 = .ok (.iload_n 3, 1) := by decide +kernel
theorem dL_law_239 : decode cL_law 239 = .ok (.iconst 2, 1) := by decide +kernel
theorem dL_law_240 : decode cL_law 240 = .ok (.iadd, 1) := by decide +kernel
theorem dL_law_241 : decode cL_law 241 = .ok (.iaload, 1) := by decide +kernel
theorem dL_law_242 : decode cL_law 242 = .ok (.invokevirtual 36, 3) := by decide +kernel
theorem dL_law_245 : decode cL_law 245 = .ok (.aload_n 2, 1) := by decide +kernel
theorem dL_law_246 : decode cL_law 246 = .ok (.aload_n 0, 1) := by decide +kernel
theorem dL_law_247 : decode cL_law 247 = .ok (.iload_n 3, 1) := by decide +kernel
theorem dL_law_248 : decode cL_law 248 = .ok (.iconst 1, 1) := by decide +kernel
theorem dL_law_249 : decode cL_law 249 = .ok (.iadd, 1) := by decide +kernel
theorem dL_law_250 : decode cL_law 250 = .ok (.iaload, 1) := by decide +kernel
theorem dL_law_251 : decode cL_law 251 = .ok (.aload_n 0, 1) := by decide +kernel
theorem dL_law_252 : decode cL_law 252 = .ok (.iload_n 3, 1) := by decide +kernel
theorem dL_law_253 : decode cL_law 253 = .ok (.iconst 2, 1) := by decide +kernel
theorem dL_law_254 : decode cL_law 254 = .ok (.iadd, 1) := by decide +kernel
theorem dL_law_255 : decode cL_law 255 = .ok (.iaload, 1) := by decide +kernel
theorem dL_law_256 : decode cL_law 256 = .ok (.invokevirtual 39, 3) := by decide +kernel
theorem dL_law_259 : decode cL_law 259 = .ok (.if_icmp .eq 413, 3) := by decide +kernel
theorem dL_law_262 : decode cL_law 262 = .ok (.iconst 0, 1) := by decide +kernel
theorem dL_law_263 : decode cL_law 263 = .ok (.ireturn, 1) := by decide +kernel
theorem dL_law_264 : decode cL_law 264 = .ok (.aload_n 1, 1) := by decide +kernel
theorem dL_law_265 : decode cL_law 265 = .ok (.invokevirtual 40, 3) := by decide +kernel
theorem dL_law_268 : decode cL_law 268 = .ok (.aload_n 2, 1) := by decide +kernel
theorem dL_law_269 : decode cL_law 269 = .ok (.invokevirtual 43, 3) := by decide +kernel
theorem dL_law_272 : decode cL_law 272 = .ok (.if_icmp .eq 400, 3) := by decide +kernel
theorem dL_law_275 : decode cL_law 275 = .ok (.iconst 0, 1) := by decide +kernel
theorem dL_law_276 : decode cL_law 276 = .ok (.ireturn, 1) := by decide +kernel
theorem dL_law_277 : decode cL_law 277 = .ok (.aload_n 1, 1) := by decide +kernel
theorem dL_law_278 : decode cL_law 278 = .ok (.aload_n 0, 1) := by decide +kernel
theorem dL_law_279 : decode cL_law 279 = .ok (.iload_n 3, 1) := by decide +kernel
theorem dL_law_280 : decode cL_law 280 = .ok (.iconst 1, 1) := by decide +kernel
theorem dL_law_281 : decode cL_law 281 = .ok (.iadd, 1) := by decide +kernel
theorem dL_law_282 : decode cL_law 282 = .ok (.iaload, 1) := by decide +kernel
theorem dL_law_283 : decode cL_law 283 = .ok (.aload_n 0, 1) := by decide +kernel
theorem dL_law_284 : decode cL_law 284 = .ok (.iload_n 3, 1) := by decide +kernel
theorem dL_law_285 : decode cL_law 285 = .ok (.iconst 2, 1) := by decide +kernel
theorem dL_law_286 : decode cL_law 286 = .ok (.iadd, 1) := by decide +kernel
theorem dL_law_287 : decode cL_law 287 = .ok (.iaload, 1) := by decide +kernel
theorem dL_law_288 : decode cL_law 288 = .ok (.invokevirtual 44, 3) := by decide +kernel
theorem dL_law_291 : decode cL_law 291 = .ok (.aload_n 2, 1) := by decide +kernel
theorem dL_law_292 : decode cL_law 292 = .ok (.aload_n 0, 1) := by decide +kernel
theorem dL_law_293 : decode cL_law 293 = .ok (.iload_n 3, 1) := by decide +kernel
theorem dL_law_294 : decode cL_law 294 = .ok (.iconst 1, 1) := by decide +kernel
theorem dL_law_295 : decode cL_law 295 = .ok (.iadd, 1) := by decide +kernel
theorem dL_law_296 : decode cL_law 296 = .ok (.iaload, 1) := by decide +kernel
theorem dL_law_297 : decode cL_law 297 = .ok (.aload_n 0, 1) := by decide +kernel
theorem dL_law_298 : decode cL_law 298 = .ok (.iload_n 3, 1) := by decide +kernel
theorem dL_law_299 : decode cL_law 299 = .ok (.iconst 2, 1) := by decide +kernel
theorem dL_law_300 : decode cL_law 300 = .ok (.iadd, 1) := by decide +kernel
theorem dL_law_301 : decode cL_law 301 = .ok (.iaload, 1) := by decide +kernel
theorem dL_law_302 : decode cL_law 302 = .ok (.invokevirtual 47, 3) := by decide +kernel
theorem dL_law_305 : decode cL_law 305 = .ok (.if_icmp .eq 367, 3) := by decide +kernel
theorem dL_law_308 : decode cL_law 308 = .ok (.iconst 0, 1) := by decide +kernel
theorem dL_law_309 : decode cL_law 309 = .ok (.ireturn, 1) := by decide +kernel
theorem dL_law_310 : decode cL_law 310 = .ok (.aload_n 1, 1) := by decide +kernel
theorem dL_law_311 : decode cL_law 311 = .ok (.aload_n 0, 1) := by decide +kernel
theorem dL_law_312 : decode cL_law 312 = .ok (.iload_n 3, 1) := by decide +kernel
theorem dL_law_313 : decode cL_law 313 = .ok (.iconst 1, 1) := by decide +kernel
theorem dL_law_314 : decode cL_law 314 = .ok (.iadd, 1) := by decide +kernel
theorem dL_law_315 : decode cL_law 315 = .ok (.iaload, 1) := by decide +kernel
theorem dL_law_316 : decode cL_law 316 = .ok (.aload_n 0, 1) := by decide +kernel
theorem dL_law_317 : decode cL_law 317 = .ok (.iload_n 3, 1) := by decide +kernel
theorem dL_law_318 : decode cL_law 318 = .ok (.iconst 2, 1) := by decide +kernel
theorem dL_law_319 : decode cL_law 319 = .ok (.iadd, 1) := by decide +kernel
theorem dL_law_320 : decode cL_law 320 = .ok (.iaload, 1) := by decide +kernel
theorem dL_law_321 : decode cL_law 321 = .ok (.invokevirtual 48, 3) := by decide +kernel
theorem dL_law_324 : decode cL_law 324 = .ok (.aload_n 2, 1) := by decide +kernel
theorem dL_law_325 : decode cL_law 325 = .ok (.aload_n 0, 1) := by decide +kernel
theorem dL_law_326 : decode cL_law 326 = .ok (.iload_n 3, 1) := by decide +kernel
theorem dL_law_327 : decode cL_law 327 = .ok (.iconst 1, 1) := by decide +kernel
theorem dL_law_328 : decode cL_law 328 = .ok (.iadd, 1) := by decide +kernel
theorem dL_law_329 : decode cL_law 329 = .ok (.iaload, 1) := by decide +kernel
theorem dL_law_330 : decode cL_law 330 = .ok (.aload_n 0, 1) := by decide +kernel
theorem dL_law_331 : decode cL_law 331 = .ok (.iload_n 3, 1) := by decide +kernel
theorem dL_law_332 : decode cL_law 332 = .ok (.iconst 2, 1) := by decide +kernel
theorem dL_law_333 : decode cL_law 333 = .ok (.iadd, 1) := by decide +kernel
theorem dL_law_334 : decode cL_law 334 = .ok (.iaload, 1) := by decide +kernel
theorem dL_law_335 : decode cL_law 335 = .ok (.invokevirtual 51, 3) := by decide +kernel
theorem dL_law_338 : decode cL_law 338 = .ok (.if_icmp .eq 334, 3) := by decide +kernel
theorem dL_law_341 : decode cL_law 341 = .ok (.iconst 0, 1) := by decide +kernel
theorem dL_law_342 : decode cL_law 342 = .ok (.ireturn, 1) := by decide +kernel
theorem dL_law_343 : decode cL_law 343 = .ok (.aload_n 1, 1) := by decide +kernel
theorem dL_law_344 : decode cL_law 344 = .ok (.invokevirtual 52, 3) := by decide +kernel
theorem dL_law_347 : decode cL_law 347 = .ok (.aload_n 2, 1) := by decide +kernel
theorem dL_law_348 : decode cL_law 348 = .ok (.invokevirtual 55, 3) := by decide +kernel
theorem dL_law_351 : decode cL_law 351 = .ok (.if_icmp .eq 321, 3) := by decide +kernel
theorem dL_law_354 : decode cL_law 354 = .ok (.iconst 0, 1) := by decide +kernel
theorem dL_law_355 : decode cL_law 355 = .ok (.ireturn, 1) := by decide +kernel
theorem dL_law_356 : decode cL_law 356 = .ok (.aload_n 1, 1) := by decide +kernel
theorem dL_law_357 : decode cL_law 357 = .ok (.aload_n 0, 1) := by decide +kernel
theorem dL_law_358 : decode cL_law 358 = .ok (.iload_n 3, 1) := by decide +kernel
theorem dL_law_359 : decode cL_law 359 = .ok (.iconst 1, 1) := by decide +kernel
theorem dL_law_360 : decode cL_law 360 = .ok (.iadd, 1) := by decide +kernel
theorem dL_law_361 : decode cL_law 361 = .ok (.iaload, 1) := by decide +kernel
theorem dL_law_362 : decode cL_law 362 = .ok (.invokevirtual 56, 3) := by decide +kernel
theorem dL_law_365 : decode cL_law 365 = .ok (.aload_n 2, 1) := by decide +kernel
theorem dL_law_366 : decode cL_law 366 = .ok (.aload_n 0, 1) := by decide +kernel
theorem dL_law_367 : decode cL_law 367 = .ok (.iload_n 3, 1) := by decide +kernel
theorem dL_law_368 : decode cL_law 368 = .ok (.iconst 1, 1) := by decide +kernel
theorem dL_law_369 : decode cL_law 369 = .ok (.iadd, 1) := by decide +kernel
theorem dL_law_370 : decode cL_law 370 = .ok (.iaload, 1) := by decide +kernel
theorem dL_law_371 : decode cL_law 371 = .ok (.invokevirtual 59, 3) := by decide +kernel
theorem dL_law_374 : decode cL_law 374 = .ok (.if_icmp .eq 298, 3) := by decide +kernel
theorem dL_law_377 : decode cL_law 377 = .ok (.iconst 0, 1) := by decide +kernel
theorem dL_law_378 : decode cL_law 378 = .ok (.ireturn, 1) := by decide +kernel
theorem dL_law_379 : decode cL_law 379 = .ok (.aload_n 1, 1) := by decide +kernel
theorem dL_law_380 : decode cL_law 380 = .ok (.aload_n 0, 1) := by decide +kernel
theorem dL_law_381 : decode cL_law 381 = .ok (.iload_n 3, 1) := by decide +kernel
theorem dL_law_382 : decode cL_law 382 = .ok (.iconst 1, 1) := by decide +kernel
theorem dL_law_383 : decode cL_law 383 = .ok (.iadd, 1) := by decide +kernel
theorem dL_law_384 : decode cL_law 384 = .ok (.iaload, 1) := by decide +kernel
theorem dL_law_385 : decode cL_law 385 = .ok (.invokevirtual 60, 3) := by decide +kernel
theorem dL_law_388 : decode cL_law 388 = .ok (.aload_n 2, 1) := by decide +kernel
theorem dL_law_389 : decode cL_law 389 = .ok (.aload_n 0, 1) := by decide +kernel
theorem dL_law_390 : decode cL_law 390 = .ok (.iload_n 3, 1) := by decide +kernel
theorem dL_law_391 : decode cL_law 391 = .ok (.iconst 1, 1) := by decide +kernel
theorem dL_law_392 : decode cL_law 392 = .ok (.iadd, 1) := by decide +kernel
theorem dL_law_393 : decode cL_law 393 = .ok (.iaload, 1) := by decide +kernel
theorem dL_law_394 : decode cL_law 394 = .ok (.invokevirtual 63, 3) := by decide +kernel
theorem dL_law_397 : decode cL_law 397 = .ok (.if_icmp .eq 275, 3) := by decide +kernel
theorem dL_law_400 : decode cL_law 400 = .ok (.iconst 0, 1) := by decide +kernel
theorem dL_law_401 : decode cL_law 401 = .ok (.ireturn, 1) := by decide +kernel
theorem dL_law_402 : decode cL_law 402 = .ok (.aload_n 1, 1) := by decide +kernel
theorem dL_law_403 : decode cL_law 403 = .ok (.aload_n 0, 1) := by decide +kernel
theorem dL_law_404 : decode cL_law 404 = .ok (.iload_n 3, 1) := by decide +kernel
theorem dL_law_405 : decode cL_law 405 = .ok (.iconst 1, 1) := by decide +kernel
theorem dL_law_406 : decode cL_law 406 = .ok (.iadd, 1) := by decide +kernel
theorem dL_law_407 : decode cL_law 407 = .ok (.iaload, 1) := by decide +kernel
theorem dL_law_408 : decode cL_law 408 = .ok (.invokevirtual 64, 3) := by decide +kernel
theorem dL_law_411 : decode cL_law 411 = .ok (.aload_n 2, 1) := by decide +kernel
theorem dL_law_412 : decode cL_law 412 = .ok (.aload_n 0, 1) := by decide +kernel
theorem dL_law_413 : decode cL_law 413 = .ok (.iload_n 3, 1) := by decide +kernel
theorem dL_law_414 : decode cL_law 414 = .ok (.iconst 1, 1) := by decide +kernel
theorem dL_law_415 : decode cL_law 415 = .ok (.iadd, 1) := by decide +kernel
theorem dL_law_416 : decode cL_law 416 = .ok (.iaload, 1) := by decide +kernel
theorem dL_law_417 : decode cL_law 417 = .ok (.invokevirtual 67, 3) := by decide +kernel
theorem dL_law_420 : decode cL_law 420 = .ok (.if_icmp .eq 252, 3) := by decide +kernel
theorem dL_law_423 : decode cL_law 423 = .ok (.iconst 0, 1) := by decide +kernel
theorem dL_law_424 : decode cL_law 424 = .ok (.ireturn, 1) := by decide +kernel
theorem dL_law_425 : decode cL_law 425 = .ok (.aload_n 1, 1) := by decide +kernel
theorem dL_law_426 : decode cL_law 426 = .ok (.aload_n 0, 1) := by decide +kernel
theorem dL_law_427 : decode cL_law 427 = .ok (.iload_n 3, 1) := by decide +kernel
theorem dL_law_428 : decode cL_law 428 = .ok (.iconst 1, 1) := by decide +kernel
theorem dL_law_429 : decode cL_law 429 = .ok (.iadd, 1) := by decide +kernel
theorem dL_law_430 : decode cL_law 430 = .ok (.iaload, 1) := by decide +kernel
theorem dL_law_431 : decode cL_law 431 = .ok (.aload_n 0, 1) := by decide +kernel
theorem dL_law_432 : decode cL_law 432 = .ok (.iload_n 3, 1) := by decide +kernel
theorem dL_law_433 : decode cL_law 433 = .ok (.iconst 2, 1) := by decide +kernel
theorem dL_law_434 : decode cL_law 434 = .ok (.iadd, 1) := by decide +kernel
theorem dL_law_435 : decode cL_law 435 = .ok (.iaload, 1) := by decide +kernel
theorem dL_law_436 : decode cL_law 436 = .ok (.invokevirtual 68, 3) := by decide +kernel
theorem dL_law_439 : decode cL_law 439 = .ok (.aload_n 2, 1) := by decide +kernel
theorem dL_law_440 : decode cL_law 440 = .ok (.aload_n 0, 1) := by decide +kernel
theorem dL_law_441 : decode cL_law 441 = .ok (.iload_n 3, 1) := by decide +kernel
theorem dL_law_442 : decode cL_law 442 = .ok (.iconst 1, 1) := by decide +kernel
theorem dL_law_443 : decode cL_law 443 = .ok (.iadd, 1) := by decide +kernel
theorem dL_law_444 : decode cL_law 444 = .ok (.iaload, 1) := by decide +kernel
theorem dL_law_445 : decode cL_law 445 = .ok (.aload_n 0, 1) := by decide +kernel
theorem dL_law_446 : decode cL_law 446 = .ok (.iload_n 3, 1) := by decide +kernel
theorem dL_law_447 : decode cL_law 447 = .ok (.iconst 2, 1) := by decide +kernel
theorem dL_law_448 : decode cL_law 448 = .ok (.iadd, 1) := by decide +kernel
theorem dL_law_449 : decode cL_law 449 = .ok (.iaload, 1) := by decide +kernel
theorem dL_law_450 : decode cL_law 450 = .ok (.invokevirtual 71, 3) := by decide +kernel
theorem dL_law_453 : decode cL_law 453 = .ok (.if_icmp .eq 219, 3) := by decide +kernel
theorem dL_law_456 : decode cL_law 456 = .ok (.iconst 0, 1) := by decide +kernel
theorem dL_law_457 : decode cL_law 457 = .ok (.ireturn, 1) := by decide +kernel
theorem dL_law_458 : decode cL_law 458 = .ok (.aload_n 1, 1) := by decide +kernel
theorem dL_law_459 : decode cL_law 459 = .ok (.aload_n 0, 1) := by decide +kernel
theorem dL_law_460 : decode cL_law 460 = .ok (.iload_n 3, 1) := by decide +kernel
theorem dL_law_461 : decode cL_law 461 = .ok (.iconst 1, 1) := by decide +kernel
theorem dL_law_462 : decode cL_law 462 = .ok (.iadd, 1) := by decide +kernel
theorem dL_law_463 : decode cL_law 463 = .ok (.iaload, 1) := by decide +kernel
theorem dL_law_464 : decode cL_law 464 = .ok (.invokevirtual 72, 3) := by decide +kernel
theorem dL_law_467 : decode cL_law 467 = .ok (.aload_n 2, 1) := by decide +kernel
theorem dL_law_468 : decode cL_law 468 = .ok (.aload_n 0, 1) := by decide +kernel
theorem dL_law_469 : decode cL_law 469 = .ok (.iload_n 3, 1) := by decide +kernel
theorem dL_law_470 : decode cL_law 470 = .ok (.iconst 1, 1) := by decide +kernel
theorem dL_law_471 : decode cL_law 471 = .ok (.iadd, 1) := by decide +kernel
theorem dL_law_472 : decode cL_law 472 = .ok (.iaload, 1) := by decide +kernel
theorem dL_law_473 : decode cL_law 473 = .ok (.invokevirtual 75, 3) := by decide +kernel
theorem dL_law_476 : decode cL_law 476 = .ok (.if_icmp .eq 196, 3) := by decide +kernel
theorem dL_law_479 : decode cL_law 479 = .ok (.iconst 0, 1) := by decide +kernel
theorem dL_law_480 : decode cL_law 480 = .ok (.ireturn, 1) := by decide +kernel
theorem dL_law_481 : decode cL_law 481 = .ok (.aload_n 1, 1) := by decide +kernel
theorem dL_law_482 : decode cL_law 482 = .ok (.aload_n 0, 1) := by decide +kernel
theorem dL_law_483 : decode cL_law 483 = .ok (.iload_n 3, 1) := by decide +kernel
theorem dL_law_484 : decode cL_law 484 = .ok (.iconst 1, 1) := by decide +kernel
theorem dL_law_485 : decode cL_law 485 = .ok (.iadd, 1) := by decide +kernel
theorem dL_law_486 : decode cL_law 486 = .ok (.iaload, 1) := by decide +kernel
theorem dL_law_487 : decode cL_law 487 = .ok (.invokevirtual 76, 3) := by decide +kernel
theorem dL_law_490 : decode cL_law 490 = .ok (.aload_n 2, 1) := by decide +kernel
theorem dL_law_491 : decode cL_law 491 = .ok (.aload_n 0, 1) := by decide +kernel
theorem dL_law_492 : decode cL_law 492 = .ok (.iload_n 3, 1) := by decide +kernel
theorem dL_law_493 : decode cL_law 493 = .ok (.iconst 1, 1) := by decide +kernel
theorem dL_law_494 : decode cL_law 494 = .ok (.iadd, 1) := by decide +kernel
theorem dL_law_495 : decode cL_law 495 = .ok (.iaload, 1) := by decide +kernel
theorem dL_law_496 : decode cL_law 496 = .ok (.invokevirtual 79, 3) := by decide +kernel
theorem dL_law_499 : decode cL_law 499 = .ok (.if_icmp .eq 173, 3) := by decide +kernel
theorem dL_law_502 : decode cL_law 502 = .ok (.iconst 0, 1) := by decide +kernel
theorem dL_law_503 : decode cL_law 503 = .ok (.ireturn, 1) := by decide +kernel
theorem dL_law_504 : decode cL_law 504 = .ok (.aload_n 1, 1) := by decide +kernel
theorem dL_law_505 : decode cL_law 505 = .ok (.aload_n 0, 1) := by decide +kernel
theorem dL_law_506 : decode cL_law 506 = .ok (.iload_n 3, 1) := by decide +kernel
theorem dL_law_507 : decode cL_law 507 = .ok (.iconst 1, 1) := by decide +kernel
theorem dL_law_508 : decode cL_law 508 = .ok (.iadd, 1) := by decide +kernel
theorem dL_law_509 : decode cL_law 509 = .ok (.iaload, 1) := by decide +kernel
theorem dL_law_510 : decode cL_law 510 = .ok (.aload_n 0, 1) := by decide +kernel
theorem dL_law_511 : decode cL_law 511 = .ok (.iload_n 3, 1) := by decide +kernel
theorem dL_law_512 : decode cL_law 512 = .ok (.iconst 2, 1) := by decide +kernel
theorem dL_law_513 : decode cL_law 513 = .ok (.iadd, 1) := by decide +kernel
theorem dL_law_514 : decode cL_law 514 = .ok (.iaload, 1) := by decide +kernel
theorem dL_law_515 : decode cL_law 515 = .ok (.invokevirtual 80, 3) := by decide +kernel
theorem dL_law_518 : decode cL_law 518 = .ok (.aload_n 2, 1) := by decide +kernel
theorem dL_law_519 : decode cL_law 519 = .ok (.aload_n 0, 1) := by decide +kernel
theorem dL_law_520 : decode cL_law 520 = .ok (.iload_n 3, 1) := by decide +kernel
theorem dL_law_521 : decode cL_law 521 = .ok (.iconst 1, 1) := by decide +kernel
theorem dL_law_522 : decode cL_law 522 = .ok (.iadd, 1) := by decide +kernel
theorem dL_law_523 : decode cL_law 523 = .ok (.iaload, 1) := by decide +kernel
theorem dL_law_524 : decode cL_law 524 = .ok (.aload_n 0, 1) := by decide +kernel
theorem dL_law_525 : decode cL_law 525 = .ok (.iload_n 3, 1) := by decide +kernel
theorem dL_law_526 : decode cL_law 526 = .ok (.iconst 2, 1) := by decide +kernel
theorem dL_law_527 : decode cL_law 527 = .ok (.iadd, 1) := by decide +kernel
theorem dL_law_528 : decode cL_law 528 = .ok (.iaload, 1) := by decide +kernel
theorem dL_law_529 : decode cL_law 529 = .ok (.invokevirtual 83, 3) := by decide +kernel
theorem dL_law_532 : decode cL_law 532 = .ok (.if_icmp .eq 140, 3) := by decide +kernel
theorem dL_law_535 : decode cL_law 535 = .ok (.iconst 0, 1) := by decide +kernel
theorem dL_law_536 : decode cL_law 536 = .ok (.ireturn, 1) := by decide +kernel
theorem dL_law_537 : decode cL_law 537 = .ok (.aload_n 1, 1) := by decide +kernel
theorem dL_law_538 : decode cL_law 538 = .ok (.aload_n 0, 1) := by decide +kernel
theorem dL_law_539 : decode cL_law 539 = .ok (.iload_n 3, 1) := by decide +kernel
theorem dL_law_540 : decode cL_law 540 = .ok (.iconst 1, 1) := by decide +kernel
theorem dL_law_541 : decode cL_law 541 = .ok (.iadd, 1) := by decide +kernel
theorem dL_law_542 : decode cL_law 542 = .ok (.iaload, 1) := by decide +kernel
theorem dL_law_543 : decode cL_law 543 = .ok (.aload_n 0, 1) := by decide +kernel
theorem dL_law_544 : decode cL_law 544 = .ok (.iload_n 3, 1) := by decide +kernel
theorem dL_law_545 : decode cL_law 545 = .ok (.iconst 2, 1) := by decide +kernel
theorem dL_law_546 : decode cL_law 546 = .ok (.iadd, 1) := by decide +kernel
theorem dL_law_547 : decode cL_law 547 = .ok (.iaload, 1) := by decide +kernel
theorem dL_law_548 : decode cL_law 548 = .ok (.invokevirtual 84, 3) := by decide +kernel
theorem dL_law_551 : decode cL_law 551 = .ok (.aload_n 2, 1) := by decide +kernel
theorem dL_law_552 : decode cL_law 552 = .ok (.aload_n 0, 1) := by decide +kernel
theorem dL_law_553 : decode cL_law 553 = .ok (.iload_n 3, 1) := by decide +kernel
theorem dL_law_554 : decode cL_law 554 = .ok (.iconst 1, 1) := by decide +kernel
theorem dL_law_555 : decode cL_law 555 = .ok (.iadd, 1) := by decide +kernel
theorem dL_law_556 : decode cL_law 556 = .ok (.iaload, 1) := by decide +kernel
theorem dL_law_557 : decode cL_law 557 = .ok (.aload_n 0, 1) := by decide +kernel
theorem dL_law_558 : decode cL_law 558 = .ok (.iload_n 3, 1) := by decide +kernel
theorem dL_law_559 : decode cL_law 559 = .ok (.iconst 2, 1) := by decide +kernel
theorem dL_law_560 : decode cL_law 560 = .ok (.iadd, 1) := by decide +kernel
theorem dL_law_561 : decode cL_law 561 = .ok (.iaload, 1) := by decide +kernel
theorem dL_law_562 : decode cL_law 562 = .ok (.invokevirtual 87, 3) := by decide +kernel
theorem dL_law_565 : decode cL_law 565 = .ok (.if_icmp .eq 107, 3) := by decide +kernel
theorem dL_law_568 : decode cL_law 568 = .ok (.iconst 0, 1) := by decide +kernel
theorem dL_law_569 : decode cL_law 569 = .ok (.ireturn, 1) := by decide +kernel
theorem dL_law_570 : decode cL_law 570 = .ok (.aload_n 1, 1) := by decide +kernel
theorem dL_law_571 : decode cL_law 571 = .ok (.invokevirtual 88, 3) := by decide +kernel
theorem dL_law_574 : decode cL_law 574 = .ok (.aload_n 2, 1) := by decide +kernel
theorem dL_law_575 : decode cL_law 575 = .ok (.invokevirtual 91, 3) := by decide +kernel
theorem dL_law_578 : decode cL_law 578 = .ok (.if_icmp .eq 94, 3) := by decide +kernel
theorem dL_law_581 : decode cL_law 581 = .ok (.iconst 0, 1) := by decide +kernel
theorem dL_law_582 : decode cL_law 582 = .ok (.ireturn, 1) := by decide +kernel
theorem dL_law_583 : decode cL_law 583 = .ok (.aload_n 1, 1) := by decide +kernel
theorem dL_law_584 : decode cL_law 584 = .ok (.aload_n 0, 1) := by decide +kernel
theorem dL_law_585 : decode cL_law 585 = .ok (.iload_n 3, 1) := by decide +kernel
theorem dL_law_586 : decode cL_law 586 = .ok (.iconst 1, 1) := by decide +kernel
theorem dL_law_587 : decode cL_law 587 = .ok (.iadd, 1) := by decide +kernel
theorem dL_law_588 : decode cL_law 588 = .ok (.iaload, 1) := by decide +kernel
theorem dL_law_589 : decode cL_law 589 = .ok (.invokevirtual 92, 3) := by decide +kernel
theorem dL_law_592 : decode cL_law 592 = .ok (.aload_n 2, 1) := by decide +kernel
theorem dL_law_593 : decode cL_law 593 = .ok (.aload_n 0, 1) := by decide +kernel
theorem dL_law_594 : decode cL_law 594 = .ok (.iload_n 3, 1) := by decide +kernel
theorem dL_law_595 : decode cL_law 595 = .ok (.iconst 1, 1) := by decide +kernel
theorem dL_law_596 : decode cL_law 596 = .ok (.iadd, 1) := by decide +kernel
theorem dL_law_597 : decode cL_law 597 = .ok (.iaload, 1) := by decide +kernel
theorem dL_law_598 : decode cL_law 598 = .ok (.invokevirtual 95, 3) := by decide +kernel
theorem dL_law_601 : decode cL_law 601 = .ok (.if_icmp .eq 71, 3) := by decide +kernel
theorem dL_law_604 : decode cL_law 604 = .ok (.iconst 0, 1) := by decide +kernel
theorem dL_law_605 : decode cL_law 605 = .ok (.ireturn, 1) := by decide +kernel
theorem dL_law_606 : decode cL_law 606 = .ok (.aload_n 1, 1) := by decide +kernel
theorem dL_law_607 : decode cL_law 607 = .ok (.aload_n 0, 1) := by decide +kernel
theorem dL_law_608 : decode cL_law 608 = .ok (.iload_n 3, 1) := by decide +kernel
theorem dL_law_609 : decode cL_law 609 = .ok (.iconst 1, 1) := by decide +kernel
theorem dL_law_610 : decode cL_law 610 = .ok (.iadd, 1) := by decide +kernel
theorem dL_law_611 : decode cL_law 611 = .ok (.iaload, 1) := by decide +kernel
theorem dL_law_612 : decode cL_law 612 = .ok (.aload_n 0, 1) := by decide +kernel
theorem dL_law_613 : decode cL_law 613 = .ok (.iload_n 3, 1) := by decide +kernel
theorem dL_law_614 : decode cL_law 614 = .ok (.iconst 2, 1) := by decide +kernel
theorem dL_law_615 : decode cL_law 615 = .ok (.iadd, 1) := by decide +kernel
theorem dL_law_616 : decode cL_law 616 = .ok (.iaload, 1) := by decide +kernel
theorem dL_law_617 : decode cL_law 617 = .ok (.aload_n 0, 1) := by decide +kernel
theorem dL_law_618 : decode cL_law 618 = .ok (.iload_n 3, 1) := by decide +kernel
theorem dL_law_619 : decode cL_law 619 = .ok (.iconst 3, 1) := by decide +kernel
theorem dL_law_620 : decode cL_law 620 = .ok (.iadd, 1) := by decide +kernel
theorem dL_law_621 : decode cL_law 621 = .ok (.iaload, 1) := by decide +kernel
theorem dL_law_622 : decode cL_law 622 = .ok (.invokevirtual 96, 3) := by decide +kernel
theorem dL_law_625 : decode cL_law 625 = .ok (.aload_n 2, 1) := by decide +kernel
theorem dL_law_626 : decode cL_law 626 = .ok (.aload_n 0, 1) := by decide +kernel
theorem dL_law_627 : decode cL_law 627 = .ok (.iload_n 3, 1) := by decide +kernel
theorem dL_law_628 : decode cL_law 628 = .ok (.iconst 1, 1) := by decide +kernel
theorem dL_law_629 : decode cL_law 629 = .ok (.iadd, 1) := by decide +kernel
theorem dL_law_630 : decode cL_law 630 = .ok (.iaload, 1) := by decide +kernel
theorem dL_law_631 : decode cL_law 631 = .ok (.aload_n 0, 1) := by decide +kernel
theorem dL_law_632 : decode cL_law 632 = .ok (.iload_n 3, 1) := by decide +kernel
theorem dL_law_633 : decode cL_law 633 = .ok (.iconst 2, 1) := by decide +kernel
theorem dL_law_634 : decode cL_law 634 = .ok (.iadd, 1) := by decide +kernel
theorem dL_law_635 : decode cL_law 635 = .ok (.iaload, 1) := by decide +kernel
theorem dL_law_636 : decode cL_law 636 = .ok (.aload_n 0, 1) := by decide +kernel
theorem dL_law_637 : decode cL_law 637 = .ok (.iload_n 3, 1) := by decide +kernel
theorem dL_law_638 : decode cL_law 638 = .ok (.iconst 3, 1) := by decide +kernel
theorem dL_law_639 : decode cL_law 639 = .ok (.iadd, 1) := by decide +kernel
theorem dL_law_640 : decode cL_law 640 = .ok (.iaload, 1) := by decide +kernel
theorem dL_law_641 : decode cL_law 641 = .ok (.invokevirtual 100, 3) := by decide +kernel
theorem dL_law_644 : decode cL_law 644 = .ok (.if_icmp .eq 28, 3) := by decide +kernel
theorem dL_law_647 : decode cL_law 647 = .ok (.iconst 0, 1) := by decide +kernel
theorem dL_law_648 : decode cL_law 648 = .ok (.ireturn, 1) := by decide +kernel
theorem dL_law_649 : decode cL_law 649 = .ok (.aload_n 1, 1) := by decide +kernel
theorem dL_law_650 : decode cL_law 650 = .ok (.aload_n 0, 1) := by decide +kernel
theorem dL_law_651 : decode cL_law 651 = .ok (.iload_n 3, 1) := by decide +kernel
theorem dL_law_652 : decode cL_law 652 = .ok (.iconst 1, 1) := by decide +kernel
theorem dL_law_653 : decode cL_law 653 = .ok (.iadd, 1) := by decide +kernel
theorem dL_law_654 : decode cL_law 654 = .ok (.iaload, 1) := by decide +kernel
theorem dL_law_655 : decode cL_law 655 = .ok (.invokevirtual 101, 3) := by decide +kernel
theorem dL_law_658 : decode cL_law 658 = .ok (.aload_n 2, 1) := by decide +kernel
theorem dL_law_659 : decode cL_law 659 = .ok (.aload_n 0, 1) := by decide +kernel
theorem dL_law_660 : decode cL_law 660 = .ok (.iload_n 3, 1) := by decide +kernel
theorem dL_law_661 : decode cL_law 661 = .ok (.iconst 1, 1) := by decide +kernel
theorem dL_law_662 : decode cL_law 662 = .ok (.iadd, 1) := by decide +kernel
theorem dL_law_663 : decode cL_law 663 = .ok (.iaload, 1) := by decide +kernel
theorem dL_law_664 : decode cL_law 664 = .ok (.invokevirtual 104, 3) := by decide +kernel
theorem dL_law_667 : decode cL_law 667 = .ok (.if_icmp .eq 5, 3) := by decide +kernel
theorem dL_law_670 : decode cL_law 670 = .ok (.iconst 0, 1) := by decide +kernel
theorem dL_law_671 : decode cL_law 671 = .ok (.ireturn, 1) := by decide +kernel
theorem dL_law_672 : decode cL_law 672 = .ok (.iinc 3 4, 3) := by decide +kernel
theorem dL_law_675 : decode cL_law 675 = .ok (.goto (-657), 3) := by decide +kernel
theorem dL_law_678 : decode cL_law 678 = .ok (.iconst 1, 1) := by decide +kernel
theorem dL_law_679 : decode cL_law 679 = .ok (.ireturn, 1) := by decide +kernel
end
section
/-! ===== A small logic over the machine: Ex (from this pc, with these values, Q comes at the return), ExM (a method's contract) ===== -/
def xNw : Cond → Bool
  | .fieldLinkNest _ _ _ _ _ _ => true
  | .methodLinkNest _ _ _ _ => true
  | _ => false
def xT : List Cond := lw_tbl.filter goodWord
def xN : List Cond := tables_1.filter xNw
abbrev xY : Type := MethodName × ByteArray × Nat × Option FieldType
abbrev xB : Type := Nat × Nat
abbrev xE : Type := xY × Nat × xB × Option (Nat × (Nat → Int32))
abbrev xA : Type := (Nat × vp_A) ⊕ (Nat × List Value)
abbrev xM : Type := (Nat → xA) × Nat × Nat
def xv (ad : Nat → Nat) : Value → Value
  | .ref i => .ref (ad i)
  | v => v
theorem xv_cat (ad : Nat → Nat) (v : Value) : (xv ad v).category = v.category := by cases v <;> rfl
theorem xv_null (ad : Nat → Nat) (v : Value) (h : v ≠ .null) : xv ad v ≠ .null := by cases v <;> simp_all [xv]
def xe (ad : Nat → Nat) (dA : Nat → ClassId) : xA → va_E
  | .inl (t, n, .inl f) => .inl (dA t, n, .inl f)
  | .inl (t, n, .inr (.inr (.inr (.inr g)))) => .inl (dA t, n, .inr (.inr (.inr (.inr (fun j => (g j).map ad)))))
  | .inl (t, n, r) => .inl (dA t, n, r)
  | .inr (c, fs) => .inr (c, fs.map (xv ad))
def xtys (dA : Nat → ClassId) : List (ClassId × FieldType) := [(dA 0, .int), (dA 1, .char), (dA 2, .boolean), (dA 3, .object RX1)]
def xsi : List Nat := [57, 66, 71, 79, 90, 92, 94, 96]
def xst : List String := ["town", "slope", "cap", "inches", "garden", "orchard", "alley", "laundry"]
def xbyt : List (List Int32) := [[116, 111, 119, 110], [115, 108, 111, 112, 101], [99, 97, 112], [105, 110, 99, 104, 101, 115], [103, 97, 114, 100, 101, 110], [111, 114, 99, 104, 97, 114, 100], [97, 108, 108, 101, 121], [108, 97, 117, 110, 100, 114, 121]]
def xlen : List Nat := [4, 5, 3, 6, 6, 7, 5, 7]
def xFm : String := "Ljava/util/function/BiFunction;"
/-- what holds of the machine's tables and of the old cells -/
def xG (D : va_G) (dA : Nat → ClassId) (ad : Nat → Nat) (h0 : Nat) (U : State) (H : Heap) : Prop :=
  va_K D vwCl (xtys dA) U ∧ (∀ w ∈ xN, va_Nw w U) ∧ vk_S 8 xlen xbyt (fun i => ad (1000001 + i)) (fun i => ad (1000101 + i)) (fun q => h0 ≤ q) U H ∧
  (∀ i, i < 8 → vk_R RX7 (xsi.getD i 0) (xst.getD i "") (ad (1000001 + i)) U) ∧ va_Z "java/lang/String" "COMPACT_STRINGS" "Z" (.int 1) (fun q => h0 ≤ q) U H ∧
  (∃ v, va_Z "jdk/internal/util/Preconditions" "SIOOBE_FORMATTER" xFm v (fun q => h0 ≤ q) U H ∧ (v = .null ∨ v = .ref (ad 1000200))) ∧ va_AO RX1 U
theorem xN_tab {w : Cond} (h : w ∈ xN) : w.onTables = true := by
  have h1 := (List.mem_filter.mp h).2
  cases w <;> first | rfl | (exact absurd h1 (by simp [xNw]))
theorem xG_same {D : va_G} {dA : Nat → ClassId} {ad : Nat → Nat} {h0 : Nat} {u U : State} {H : Heap} (hv : u.vm = U.vm) (h : xG D dA ad h0 u H) : xG D dA ad h0 U H := by
  obtain ⟨h1, h2, h3, h4, h5, ⟨v, h6, h7⟩, h8⟩ := h
  have ha : u.vm.Alike U.vm := by rw [hv]; exact Vm.Alike.refl _
  exact ⟨h1.moved ha, fun w hw => (h2 w hw).same (xN_tab hw) hv, h3.moved ha, fun i hi => (h4 i hi).same hv.symm, h5.moved ha, ⟨v, h6.moved ha, h7⟩, h8.moved ha⟩
theorem xG_warm {D : va_G} {dA : Nat → ClassId} {ad : Nat → Nat} {h0 : Nat} {s U : State} {H H1 : Heap} (hW : s.WarmedH U.vm) (hq : ∀ a : Nat, a < h0 → H1[a]? = H[a]?) (h : xG D dA ad h0 s H) : xG D dA ad h0 U H1 := by
  obtain ⟨h1, h2, h3, h4, h5, ⟨v, h6, h7⟩, h8⟩ := h
  have ha := hW.alike
  have hq' : ∀ a : Nat, a < H.size → ¬ (h0 ≤ a) → H1[a]? = H[a]? := fun a _ h => hq a (Nat.lt_of_not_le h)
  refine ⟨h1.moved ha, fun w hw => ?_, (h3.moved ha).kept hq', fun i hi => (h4 i hi).warm hW, (h5.moved ha).kept hq', ⟨v, (h6.moved ha).kept hq', h7⟩, h8.moved ha⟩
  have hz := h2 w hw
  have hf := (List.mem_filter.mp hw).2
  cases w <;> first | exact hz.warmF hW | exact hz.warmM hW | exact absurd hf (by simp [xNw])
/-- the fixed things of a body -/
def xC (E : xE) (p : Program) (l : Launch) (e : Env) (R : Room) (s : State) (m : MethodId) (args : Array Value) (below : List Frame) (meth : Method) (c : Code) (D : va_G) (dA : Nat → ClassId) (ad : Nat → Nat) (h0 nb wb : Nat) : Prop :=
  p.tables.exec = Jvm.exec ∧ c.code = E.1.2.1 ∧ c.maxLocals = E.1.2.2.1 ∧ s.vm.findClass E.1.1.cls = some m.cls ∧ (∀ w ∈ xT, w.before args s = true) ∧ meth.sig.returnType = E.1.2.2.2 ∧ (E.1.1.name = "<init>" → meth.name = "<init>") ∧
  E.2.1 ≤ R.frames ∧ 64 * E.2.1 ≤ R.locals ∧ E.2.2.1.1 ≤ R.cells + nb ∧ E.2.2.1.2 ≤ R.slots + wb ∧ (∀ i, i < 1000000 → ad i = h0 + i) ∧ s.heap.size = h0 + nb ∧ xG D dA ad h0 s s.heap ∧
  (∀ Z, E.2.2.2 = some Z → va_X (ad 1000000) Z.1 Z.2 s s.heap ∧ ad 1000000 < h0)
/-- the heap holds the picture M -/
def xI (D : va_G) (dA : Nat → ClassId) (ad : Nat → Nat) (h0 nb wb : Nat) (s : State) (M : xM) (H : Heap) (locs : List Loc) : Prop :=
  (∀ i, i < M.2.1 → va_at D vwCl (ad i, xe ad dA (M.1 i)) H) ∧ H.size = h0 + M.2.1 ∧ (∀ q : Nat, q < h0 → H[q]? = s.heap[q]?) ∧ (∀ l ∈ locs, h0 ≤ l.base) ∧ nb ≤ M.2.1 ∧ wb ≤ M.2.2 ∧ M.2.1 ≤ 1000000
/-- the variables of a frame -/
def xL (ad : Nat → Nat) (L : List Value) (ls : Array Slot) (nL : Nat) : Prop := ls.size = nL ∧ lv_wf ls ∧ ∀ (i : Nat) (v : Value), L[i]? = some v → v ≠ Value.null → ls[i]? = some (Slot.val (xv ad v))
/-- a return stands at this pc -/
def xR (Y : xY) (pc : Nat) (v : Option Value) : Prop := match v with
  | none => decode Y.2.1 pc = .ok (.return_, 1) ∧ Y.2.2.2 = none
  | some (.int x) => decode Y.2.1 pc = .ok (.ireturn, 1) ∧ ∃ ty, Y.2.2.2 = some ty ∧ narrow ty (.int x) = .int x
  | some (.long _) => decode Y.2.1 pc = .ok (.lreturn, 1) ∧ Y.2.2.2 = some .long
  | _ => False
def Ex (E : xE) (pc : Nat) (L S : List Value) (M : xM) (Q : Option Value → xM → Prop) : Prop :=
  ∀ (p : Program) (l : Launch) (e : Env) (R : Room) (s : State) (m : MethodId) (args : Array Value) (below : List Frame) (meth : Method) (c : Code) (D : va_G) (dA : Nat → ClassId) (ad : Nat → Nat) (h0 nb wb : Nat) (Qf : State → Prop),
    xC E p l e R s m args below meth c D dA ad h0 nb wb →
    (∀ pc' ls' v M' H' locs', xR E.1 pc' v → Q v M' → xI D dA ad h0 nb wb s M' H' locs' → W p l e R s m args below meth c H' locs' (M'.2.1 - nb) (M'.2.2 - wb) Qf (F0 m pc' ls' (v.map (xv ad)).toList)) →
    ∀ (H : Heap) (locs : List Loc) (ls : Array Slot), xI D dA ad h0 nb wb s M H locs → xL ad L ls E.1.2.2.1 → W p l e R s m args below meth c H locs (M.2.1 - nb) (M.2.2 - wb) Qf (F0 m pc ls (S.map (xv ad)))
section XR
variable {E : xE} {pc : Nat} {L S : List Value} {M : xM} {Q Q' : Option Value → xM → Prop}
theorem Ex.mono (h : Ex E pc L S M Q') (hq : ∀ v M', Q' v M' → Q v M') : Ex E pc L S M Q :=
  fun p l e R s m args below meth c D dA ad h0 nb wb Qf C K => h p l e R s m args below meth c D dA ad h0 nb wb Qf C (fun pc' ls' v M' H' locs' a b c => K pc' ls' v M' H' locs' a (hq v M' b) c)
theorem x_iconst {n : Int} {v : Int32} (hd : decode E.1.2.1 pc = .ok (.iconst n, 1)) (hv : Int32.ofInt n = v) (k : Ex E (pc + 1) L (.int v :: S) M Q) : Ex E pc L S M Q := by
  intro p l e R s m args below meth c D dA ad h0 nb wb Qf cX K H locs ls I hl
  obtain ⟨hx, hb, hml, hown, hts, hret, hini, hfr, hlo, hce, hsl, had, hh0, hG, hZ⟩ := id cX
  exact lv_iconst hx hb hd hv (k p l e R s m args below meth c D dA ad h0 nb wb Qf cX K H locs ls I hl)
theorem x_bipush {n : Int} {v : Int32} (hd : decode E.1.2.1 pc = .ok (.bipush n, 2)) (hv : (Int8.ofInt n).toInt32 = v) (k : Ex E (pc + 2) L (.int v :: S) M Q) : Ex E pc L S M Q := by
  intro p l e R s m args below meth c D dA ad h0 nb wb Qf cX K H locs ls I hl
  obtain ⟨hx, hb, hml, hown, hts, hret, hini, hfr, hlo, hce, hsl, had, hh0, hG, hZ⟩ := id cX
  exact lv_bipush hx hb hd hv (k p l e R s m args below meth c D dA ad h0 nb wb Qf cX K H locs ls I hl)
theorem x_sipush {n : Int} {v : Int32} (hd : decode E.1.2.1 pc = .ok (.sipush n, 3)) (hv : (Int16.ofInt n).toInt32 = v) (k : Ex E (pc + 3) L (.int v :: S) M Q) : Ex E pc L S M Q := by
  intro p l e R s m args below meth c D dA ad h0 nb wb Qf cX K H locs ls I hl
  obtain ⟨hx, hb, hml, hown, hts, hret, hini, hfr, hlo, hce, hsl, had, hh0, hG, hZ⟩ := id cX
  exact lv_sipush hx hb hd hv (k p l e R s m args below meth c D dA ad h0 nb wb Qf cX K H locs ls I hl)
theorem x_lconst {n : Fin 2} {v : Int64} (hd : decode E.1.2.1 pc = .ok (.lconst n, 1)) (hv : Int64.ofNat (n : Nat) = v) (k : Ex E (pc + 1) L (.long v :: S) M Q) : Ex E pc L S M Q := by
  intro p l e R s m args below meth c D dA ad h0 nb wb Qf cX K H locs ls I hl
  obtain ⟨hx, hb, hml, hown, hts, hret, hini, hfr, hlo, hce, hsl, had, hh0, hG, hZ⟩ := id cX
  exact lv_lconst hx hb hd hv (k p l e R s m args below meth c D dA ad h0 nb wb Qf cX K H locs ls I hl)
theorem x_ldcw {index : Nat} {v : Int32} (hd : decode E.1.2.1 pc = .ok (.ldc_w index, 3)) (hw : Cond.constant E.1.1.cls index v ∈ xT) (k : Ex E (pc + 3) L (.int v :: S) M Q) : Ex E pc L S M Q := by
  intro p l e R s m args below meth c D dA ad h0 nb wb Qf cX K H locs ls I hl
  obtain ⟨hx, hb, hml, hown, hts, hret, hini, hfr, hlo, hce, hsl, had, hh0, hG, hZ⟩ := id cX
  exact lv_ldcw hx hb hown (hts _ hw) hd (k p l e R s m args below meth c D dA ad h0 nb wb Qf cX K H locs ls I hl)
theorem x_iload_n {i : Fin 4} {x : Int32} (hd : decode E.1.2.1 pc = .ok (.iload_n i, 1)) (hv : L[(i : Nat)]? = some (.int x)) (k : Ex E (pc + 1) L (.int x :: S) M Q) : Ex E pc L S M Q := by
  intro p l e R s m args below meth c D dA ad h0 nb wb Qf cX K H locs ls I hl
  obtain ⟨hx, hb, hml, hown, hts, hret, hini, hfr, hlo, hce, hsl, had, hh0, hG, hZ⟩ := id cX
  exact lv_iload_n (x := x) hx hb hd rfl (hl.2.2 _ _ hv (fun h => by cases h)) (k p l e R s m args below meth c D dA ad h0 nb wb Qf cX K H locs ls I hl)
theorem x_iload {i : Nat} {x : Int32} (hd : decode E.1.2.1 pc = .ok (.iload i, 2)) (hv : L[i]? = some (.int x)) (k : Ex E (pc + 2) L (.int x :: S) M Q) : Ex E pc L S M Q := by
  intro p l e R s m args below meth c D dA ad h0 nb wb Qf cX K H locs ls I hl
  obtain ⟨hx, hb, hml, hown, hts, hret, hini, hfr, hlo, hce, hsl, had, hh0, hG, hZ⟩ := id cX
  exact lv_iload (x := x) hx hb hd (hl.2.2 _ _ hv (fun h => by cases h)) (k p l e R s m args below meth c D dA ad h0 nb wb Qf cX K H locs ls I hl)
theorem x_lload_n {i : Fin 4} {x : Int64} (hd : decode E.1.2.1 pc = .ok (.lload_n i, 1)) (hv : L[(i : Nat)]? = some (.long x)) (k : Ex E (pc + 1) L (.long x :: S) M Q) : Ex E pc L S M Q := by
  intro p l e R s m args below meth c D dA ad h0 nb wb Qf cX K H locs ls I hl
  obtain ⟨hx, hb, hml, hown, hts, hret, hini, hfr, hlo, hce, hsl, had, hh0, hG, hZ⟩ := id cX
  exact lv_lload_n (x := x) hx hb hd rfl (hl.2.2 _ _ hv (fun h => by cases h)) (k p l e R s m args below meth c D dA ad h0 nb wb Qf cX K H locs ls I hl)
theorem x_lload {i : Nat} {x : Int64} (hd : decode E.1.2.1 pc = .ok (.lload i, 2)) (hv : L[i]? = some (.long x)) (k : Ex E (pc + 2) L (.long x :: S) M Q) : Ex E pc L S M Q := by
  intro p l e R s m args below meth c D dA ad h0 nb wb Qf cX K H locs ls I hl
  obtain ⟨hx, hb, hml, hown, hts, hret, hini, hfr, hlo, hce, hsl, had, hh0, hG, hZ⟩ := id cX
  exact lv_lload (x := x) hx hb hd (hl.2.2 _ _ hv (fun h => by cases h)) (k p l e R s m args below meth c D dA ad h0 nb wb Qf cX K H locs ls I hl)
theorem x_aload_n {i : Fin 4} {x : Nat} (hd : decode E.1.2.1 pc = .ok (.aload_n i, 1)) (hv : L[(i : Nat)]? = some (.ref x)) (k : Ex E (pc + 1) L (.ref x :: S) M Q) : Ex E pc L S M Q := by
  intro p l e R s m args below meth c D dA ad h0 nb wb Qf cX K H locs ls I hl
  obtain ⟨hx, hb, hml, hown, hts, hret, hini, hfr, hlo, hce, hsl, had, hh0, hG, hZ⟩ := id cX
  exact lv_aload_n (x := ad x) hx hb hd rfl (hl.2.2 _ _ hv (fun h => by cases h)) (k p l e R s m args below meth c D dA ad h0 nb wb Qf cX K H locs ls I hl)
theorem x_aload {i : Nat} {x : Nat} (hd : decode E.1.2.1 pc = .ok (.aload i, 2)) (hv : L[i]? = some (.ref x)) (k : Ex E (pc + 2) L (.ref x :: S) M Q) : Ex E pc L S M Q := by
  intro p l e R s m args below meth c D dA ad h0 nb wb Qf cX K H locs ls I hl
  obtain ⟨hx, hb, hml, hown, hts, hret, hini, hfr, hlo, hce, hsl, had, hh0, hG, hZ⟩ := id cX
  exact lv_aload (x := ad x) hx hb hd (hl.2.2 _ _ hv (fun h => by cases h)) (k p l e R s m args below meth c D dA ad h0 nb wb Qf cX K H locs ls I hl)
theorem x_iadd {x y : Int32} (hd : decode E.1.2.1 pc = .ok (.iadd, 1)) (k : Ex E (pc + 1) L (.int (x + y) :: S) M Q) : Ex E pc L (.int y :: .int x :: S) M Q := by
  intro p l e R s m args below meth c D dA ad h0 nb wb Qf cX K H locs ls I hl
  obtain ⟨hx, hb, hml, hown, hts, hret, hini, hfr, hlo, hce, hsl, had, hh0, hG, hZ⟩ := id cX
  exact lv_iadd hx hb hd (k p l e R s m args below meth c D dA ad h0 nb wb Qf cX K H locs ls I hl)
theorem x_isub {x y : Int32} (hd : decode E.1.2.1 pc = .ok (.isub, 1)) (k : Ex E (pc + 1) L (.int (x - y) :: S) M Q) : Ex E pc L (.int y :: .int x :: S) M Q := by
  intro p l e R s m args below meth c D dA ad h0 nb wb Qf cX K H locs ls I hl
  obtain ⟨hx, hb, hml, hown, hts, hret, hini, hfr, hlo, hce, hsl, had, hh0, hG, hZ⟩ := id cX
  exact lv_isub hx hb hd (k p l e R s m args below meth c D dA ad h0 nb wb Qf cX K H locs ls I hl)
theorem x_imul {x y : Int32} (hd : decode E.1.2.1 pc = .ok (.imul, 1)) (k : Ex E (pc + 1) L (.int (x * y) :: S) M Q) : Ex E pc L (.int y :: .int x :: S) M Q := by
  intro p l e R s m args below meth c D dA ad h0 nb wb Qf cX K H locs ls I hl
  obtain ⟨hx, hb, hml, hown, hts, hret, hini, hfr, hlo, hce, hsl, had, hh0, hG, hZ⟩ := id cX
  exact lv_imul hx hb hd (k p l e R s m args below meth c D dA ad h0 nb wb Qf cX K H locs ls I hl)
theorem x_iand {x y : Int32} (hd : decode E.1.2.1 pc = .ok (.iand, 1)) (k : Ex E (pc + 1) L (.int (x &&& y) :: S) M Q) : Ex E pc L (.int y :: .int x :: S) M Q := by
  intro p l e R s m args below meth c D dA ad h0 nb wb Qf cX K H locs ls I hl
  obtain ⟨hx, hb, hml, hown, hts, hret, hini, hfr, hlo, hce, hsl, had, hh0, hG, hZ⟩ := id cX
  exact lv_iand hx hb hd (k p l e R s m args below meth c D dA ad h0 nb wb Qf cX K H locs ls I hl)
theorem x_ior {x y : Int32} (hd : decode E.1.2.1 pc = .ok (.ior, 1)) (k : Ex E (pc + 1) L (.int (x ||| y) :: S) M Q) : Ex E pc L (.int y :: .int x :: S) M Q := by
  intro p l e R s m args below meth c D dA ad h0 nb wb Qf cX K H locs ls I hl
  obtain ⟨hx, hb, hml, hown, hts, hret, hini, hfr, hlo, hce, hsl, had, hh0, hG, hZ⟩ := id cX
  exact lv_ior hx hb hd (k p l e R s m args below meth c D dA ad h0 nb wb Qf cX K H locs ls I hl)
theorem x_ixor {x y : Int32} (hd : decode E.1.2.1 pc = .ok (.ixor, 1)) (k : Ex E (pc + 1) L (.int (x ^^^ y) :: S) M Q) : Ex E pc L (.int y :: .int x :: S) M Q := by
  intro p l e R s m args below meth c D dA ad h0 nb wb Qf cX K H locs ls I hl
  obtain ⟨hx, hb, hml, hown, hts, hret, hini, hfr, hlo, hce, hsl, had, hh0, hG, hZ⟩ := id cX
  exact lv_ixor hx hb hd (k p l e R s m args below meth c D dA ad h0 nb wb Qf cX K H locs ls I hl)
theorem x_ishl {x y : Int32} (hd : decode E.1.2.1 pc = .ok (.ishl, 1)) (k : Ex E (pc + 1) L (.int (x <<< (y &&& 31)) :: S) M Q) : Ex E pc L (.int y :: .int x :: S) M Q := by
  intro p l e R s m args below meth c D dA ad h0 nb wb Qf cX K H locs ls I hl
  obtain ⟨hx, hb, hml, hown, hts, hret, hini, hfr, hlo, hce, hsl, had, hh0, hG, hZ⟩ := id cX
  exact lv_ishl hx hb hd (k p l e R s m args below meth c D dA ad h0 nb wb Qf cX K H locs ls I hl)
theorem x_ishr {x y : Int32} (hd : decode E.1.2.1 pc = .ok (.ishr, 1)) (k : Ex E (pc + 1) L (.int (x >>> (y &&& 31)) :: S) M Q) : Ex E pc L (.int y :: .int x :: S) M Q := by
  intro p l e R s m args below meth c D dA ad h0 nb wb Qf cX K H locs ls I hl
  obtain ⟨hx, hb, hml, hown, hts, hret, hini, hfr, hlo, hce, hsl, had, hh0, hG, hZ⟩ := id cX
  exact lv_ishr hx hb hd (k p l e R s m args below meth c D dA ad h0 nb wb Qf cX K H locs ls I hl)
theorem x_iushr {x y v : Int32} (hd : decode E.1.2.1 pc = .ok (.iushr, 1)) (hv : (x.toUInt32 >>> (y.toUInt32 &&& Int32.toUInt32 31)).toInt32 = v) (k : Ex E (pc + 1) L (.int v :: S) M Q) : Ex E pc L (.int y :: .int x :: S) M Q := by
  intro p l e R s m args below meth c D dA ad h0 nb wb Qf cX K H locs ls I hl
  obtain ⟨hx, hb, hml, hown, hts, hret, hini, hfr, hlo, hce, hsl, had, hh0, hG, hZ⟩ := id cX
  exact lv_iushr hx hb hd hv (k p l e R s m args below meth c D dA ad h0 nb wb Qf cX K H locs ls I hl)
theorem x_idiv {x y : Int32} (hd : decode E.1.2.1 pc = .ok (.idiv, 1)) (hn : ¬ y = 0) (k : Ex E (pc + 1) L (.int (x / y) :: S) M Q) : Ex E pc L (.int y :: .int x :: S) M Q := by
  intro p l e R s m args below meth c D dA ad h0 nb wb Qf cX K H locs ls I hl
  obtain ⟨hx, hb, hml, hown, hts, hret, hini, hfr, hlo, hce, hsl, had, hh0, hG, hZ⟩ := id cX
  exact lv_idiv hx hb hd hn (k p l e R s m args below meth c D dA ad h0 nb wb Qf cX K H locs ls I hl)
theorem x_irem {x y : Int32} (hd : decode E.1.2.1 pc = .ok (.irem, 1)) (hn : ¬ y = 0) (k : Ex E (pc + 1) L (.int (x - x / y * y) :: S) M Q) : Ex E pc L (.int y :: .int x :: S) M Q := by
  intro p l e R s m args below meth c D dA ad h0 nb wb Qf cX K H locs ls I hl
  obtain ⟨hx, hb, hml, hown, hts, hret, hini, hfr, hlo, hce, hsl, had, hh0, hG, hZ⟩ := id cX
  exact lv_irem hx hb hd hn (k p l e R s m args below meth c D dA ad h0 nb wb Qf cX K H locs ls I hl)
theorem x_ladd {x y : Int64} (hd : decode E.1.2.1 pc = .ok (.ladd, 1)) (k : Ex E (pc + 1) L (.long (x + y) :: S) M Q) : Ex E pc L (.long y :: .long x :: S) M Q := by
  intro p l e R s m args below meth c D dA ad h0 nb wb Qf cX K H locs ls I hl
  obtain ⟨hx, hb, hml, hown, hts, hret, hini, hfr, hlo, hce, hsl, had, hh0, hG, hZ⟩ := id cX
  exact lv_ladd hx hb hd (k p l e R s m args below meth c D dA ad h0 nb wb Qf cX K H locs ls I hl)
theorem x_lmul {x y : Int64} (hd : decode E.1.2.1 pc = .ok (.lmul, 1)) (k : Ex E (pc + 1) L (.long (x * y) :: S) M Q) : Ex E pc L (.long y :: .long x :: S) M Q := by
  intro p l e R s m args below meth c D dA ad h0 nb wb Qf cX K H locs ls I hl
  obtain ⟨hx, hb, hml, hown, hts, hret, hini, hfr, hlo, hce, hsl, had, hh0, hG, hZ⟩ := id cX
  exact lv_lmul hx hb hd (k p l e R s m args below meth c D dA ad h0 nb wb Qf cX K H locs ls I hl)
theorem x_ldiv {x y : Int64} (hd : decode E.1.2.1 pc = .ok (.ldiv, 1)) (hn : ¬ y = 0) (k : Ex E (pc + 1) L (.long (x / y) :: S) M Q) : Ex E pc L (.long y :: .long x :: S) M Q := by
  intro p l e R s m args below meth c D dA ad h0 nb wb Qf cX K H locs ls I hl
  obtain ⟨hx, hb, hml, hown, hts, hret, hini, hfr, hlo, hce, hsl, had, hh0, hG, hZ⟩ := id cX
  exact lv_ldiv hx hb hd hn (k p l e R s m args below meth c D dA ad h0 nb wb Qf cX K H locs ls I hl)
theorem x_lrem {x y : Int64} (hd : decode E.1.2.1 pc = .ok (.lrem, 1)) (hn : ¬ y = 0) (k : Ex E (pc + 1) L (.long (x - x / y * y) :: S) M Q) : Ex E pc L (.long y :: .long x :: S) M Q := by
  intro p l e R s m args below meth c D dA ad h0 nb wb Qf cX K H locs ls I hl
  obtain ⟨hx, hb, hml, hown, hts, hret, hini, hfr, hlo, hce, hsl, had, hh0, hG, hZ⟩ := id cX
  exact lv_lrem hx hb hd hn (k p l e R s m args below meth c D dA ad h0 nb wb Qf cX K H locs ls I hl)
theorem x_lcmp {x y : Int64} (hd : decode E.1.2.1 pc = .ok (.lcmp, 1)) (k : Ex E (pc + 1) L (.int (lg_cmp x y) :: S) M Q) : Ex E pc L (.long y :: .long x :: S) M Q := by
  intro p l e R s m args below meth c D dA ad h0 nb wb Qf cX K H locs ls I hl
  obtain ⟨hx, hb, hml, hown, hts, hret, hini, hfr, hlo, hce, hsl, had, hh0, hG, hZ⟩ := id cX
  exact W.lcmp hx hb hd (k p l e R s m args below meth c D dA ad h0 nb wb Qf cX K H locs ls I hl)
theorem x_i2l {x : Int32} (hd : decode E.1.2.1 pc = .ok (.i2l, 1)) (k : Ex E (pc + 1) L (.long (x.toInt64) :: S) M Q) : Ex E pc L (.int x :: S) M Q := by
  intro p l e R s m args below meth c D dA ad h0 nb wb Qf cX K H locs ls I hl
  obtain ⟨hx, hb, hml, hown, hts, hret, hini, hfr, hlo, hce, hsl, had, hh0, hG, hZ⟩ := id cX
  exact lv_i2l hx hb hd rfl (k p l e R s m args below meth c D dA ad h0 nb wb Qf cX K H locs ls I hl)
theorem x_l2i {x : Int64} (hd : decode E.1.2.1 pc = .ok (.l2i, 1)) (k : Ex E (pc + 1) L (.int (x.toInt32) :: S) M Q) : Ex E pc L (.long x :: S) M Q := by
  intro p l e R s m args below meth c D dA ad h0 nb wb Qf cX K H locs ls I hl
  obtain ⟨hx, hb, hml, hown, hts, hret, hini, hfr, hlo, hce, hsl, had, hh0, hG, hZ⟩ := id cX
  exact lv_l2i hx hb hd rfl (k p l e R s m args below meth c D dA ad h0 nb wb Qf cX K H locs ls I hl)
theorem x_i2c {x : Int32} (hd : decode E.1.2.1 pc = .ok (.i2c, 1)) (k : Ex E (pc + 1) L (.int ((x.toUInt32 % 65536).toInt32) :: S) M Q) : Ex E pc L (.int x :: S) M Q := by
  intro p l e R s m args below meth c D dA ad h0 nb wb Qf cX K H locs ls I hl
  obtain ⟨hx, hb, hml, hown, hts, hret, hini, hfr, hlo, hce, hsl, had, hh0, hG, hZ⟩ := id cX
  exact lv_i2c hx hb hd rfl (k p l e R s m args below meth c D dA ad h0 nb wb Qf cX K H locs ls I hl)
theorem x_dup {v : Value} (hd : decode E.1.2.1 pc = .ok (.dup, 1)) (hc : v.category = 1) (k : Ex E (pc + 1) L (v :: v :: S) M Q) : Ex E pc L (v :: S) M Q := by
  intro p l e R s m args below meth c D dA ad h0 nb wb Qf cX K H locs ls I hl
  obtain ⟨hx, hb, hml, hown, hts, hret, hini, hfr, hlo, hce, hsl, had, hh0, hG, hZ⟩ := id cX
  exact lv_dup hx hb hd (by rw [xv_cat]; exact hc) (k p l e R s m args below meth c D dA ad h0 nb wb Qf cX K H locs ls I hl)
theorem x_pop {v : Value} (hd : decode E.1.2.1 pc = .ok (.pop, 1)) (hc : v.category = 1) (k : Ex E (pc + 1) L S M Q) : Ex E pc L (v :: S) M Q := by
  intro p l e R s m args below meth c D dA ad h0 nb wb Qf cX K H locs ls I hl
  obtain ⟨hx, hb, hml, hown, hts, hret, hini, hfr, hlo, hce, hsl, had, hh0, hG, hZ⟩ := id cX
  exact lv_pop hx hb hd (by rw [xv_cat]; exact hc) (k p l e R s m args below meth c D dA ad h0 nb wb Qf cX K H locs ls I hl)
theorem x_dup2 {v w : Value} (hd : decode E.1.2.1 pc = .ok (.dup2, 1)) (hc : v.category = 1) (hw : w.category = 1) (k : Ex E (pc + 1) L (v :: w :: v :: w :: S) M Q) : Ex E pc L (v :: w :: S) M Q := by
  intro p l e R s m args below meth c D dA ad h0 nb wb Qf cX K H locs ls I hl
  obtain ⟨hx, hb, hml, hown, hts, hret, hini, hfr, hlo, hce, hsl, had, hh0, hG, hZ⟩ := id cX
  exact lv_dup2_11 hx hb hd (by rw [xv_cat]; exact hc) (by rw [xv_cat]; exact hw) (k p l e R s m args below meth c D dA ad h0 nb wb Qf cX K H locs ls I hl)
theorem x_if_eq {x : Int32} {off : Int} {tgt : Nat} (hd : decode E.1.2.1 pc = .ok (.ifCond .eq off, 3)) (ht : (pc : Int) + off = (tgt : Int)) (kt : x = 0 → Ex E tgt L S M Q) (kf : ¬ x = 0 → Ex E (pc + 3) L S M Q) : Ex E pc L (.int x :: S) M Q := by
  intro p l e R s m args below meth c D dA ad h0 nb wb Qf cX K H locs ls I hl
  obtain ⟨hx, hb, hml, hown, hts, hret, hini, hfr, hlo, hce, hsl, had, hh0, hG, hZ⟩ := id cX
  exact lv_if_eq hx hb hd ht (fun h => kt h p l e R s m args below meth c D dA ad h0 nb wb Qf cX K H locs ls I hl) (fun h => kf h p l e R s m args below meth c D dA ad h0 nb wb Qf cX K H locs ls I hl)
theorem x_icmp_eq {x y : Int32} {off : Int} {tgt : Nat} (hd : decode E.1.2.1 pc = .ok (.if_icmp .eq off, 3)) (ht : (pc : Int) + off = (tgt : Int)) (kt : x = y → Ex E tgt L S M Q) (kf : ¬ x = y → Ex E (pc + 3) L S M Q) : Ex E pc L (.int y :: .int x :: S) M Q := by
  intro p l e R s m args below meth c D dA ad h0 nb wb Qf cX K H locs ls I hl
  obtain ⟨hx, hb, hml, hown, hts, hret, hini, hfr, hlo, hce, hsl, had, hh0, hG, hZ⟩ := id cX
  exact lv_icmp_eq hx hb hd ht (fun h => kt h p l e R s m args below meth c D dA ad h0 nb wb Qf cX K H locs ls I hl) (fun h => kf h p l e R s m args below meth c D dA ad h0 nb wb Qf cX K H locs ls I hl)
theorem x_if_ne {x : Int32} {off : Int} {tgt : Nat} (hd : decode E.1.2.1 pc = .ok (.ifCond .ne off, 3)) (ht : (pc : Int) + off = (tgt : Int)) (kt : ¬ x = 0 → Ex E tgt L S M Q) (kf : x = 0 → Ex E (pc + 3) L S M Q) : Ex E pc L (.int x :: S) M Q := by
  intro p l e R s m args below meth c D dA ad h0 nb wb Qf cX K H locs ls I hl
  obtain ⟨hx, hb, hml, hown, hts, hret, hini, hfr, hlo, hce, hsl, had, hh0, hG, hZ⟩ := id cX
  exact lv_if_ne hx hb hd ht (fun h => kt h p l e R s m args below meth c D dA ad h0 nb wb Qf cX K H locs ls I hl) (fun h => kf h p l e R s m args below meth c D dA ad h0 nb wb Qf cX K H locs ls I hl)
theorem x_icmp_ne {x y : Int32} {off : Int} {tgt : Nat} (hd : decode E.1.2.1 pc = .ok (.if_icmp .ne off, 3)) (ht : (pc : Int) + off = (tgt : Int)) (kt : ¬ x = y → Ex E tgt L S M Q) (kf : x = y → Ex E (pc + 3) L S M Q) : Ex E pc L (.int y :: .int x :: S) M Q := by
  intro p l e R s m args below meth c D dA ad h0 nb wb Qf cX K H locs ls I hl
  obtain ⟨hx, hb, hml, hown, hts, hret, hini, hfr, hlo, hce, hsl, had, hh0, hG, hZ⟩ := id cX
  exact lv_icmp_ne hx hb hd ht (fun h => kt h p l e R s m args below meth c D dA ad h0 nb wb Qf cX K H locs ls I hl) (fun h => kf h p l e R s m args below meth c D dA ad h0 nb wb Qf cX K H locs ls I hl)
theorem x_if_lt {x : Int32} {off : Int} {tgt : Nat} (hd : decode E.1.2.1 pc = .ok (.ifCond .lt off, 3)) (ht : (pc : Int) + off = (tgt : Int)) (kt : x < 0 → Ex E tgt L S M Q) (kf : ¬ x < 0 → Ex E (pc + 3) L S M Q) : Ex E pc L (.int x :: S) M Q := by
  intro p l e R s m args below meth c D dA ad h0 nb wb Qf cX K H locs ls I hl
  obtain ⟨hx, hb, hml, hown, hts, hret, hini, hfr, hlo, hce, hsl, had, hh0, hG, hZ⟩ := id cX
  exact lv_if_lt hx hb hd ht (fun h => kt h p l e R s m args below meth c D dA ad h0 nb wb Qf cX K H locs ls I hl) (fun h => kf h p l e R s m args below meth c D dA ad h0 nb wb Qf cX K H locs ls I hl)
theorem x_icmp_lt {x y : Int32} {off : Int} {tgt : Nat} (hd : decode E.1.2.1 pc = .ok (.if_icmp .lt off, 3)) (ht : (pc : Int) + off = (tgt : Int)) (kt : x < y → Ex E tgt L S M Q) (kf : ¬ x < y → Ex E (pc + 3) L S M Q) : Ex E pc L (.int y :: .int x :: S) M Q := by
  intro p l e R s m args below meth c D dA ad h0 nb wb Qf cX K H locs ls I hl
  obtain ⟨hx, hb, hml, hown, hts, hret, hini, hfr, hlo, hce, hsl, had, hh0, hG, hZ⟩ := id cX
  exact lv_icmp_lt hx hb hd ht (fun h => kt h p l e R s m args below meth c D dA ad h0 nb wb Qf cX K H locs ls I hl) (fun h => kf h p l e R s m args below meth c D dA ad h0 nb wb Qf cX K H locs ls I hl)
theorem x_if_ge {x : Int32} {off : Int} {tgt : Nat} (hd : decode E.1.2.1 pc = .ok (.ifCond .ge off, 3)) (ht : (pc : Int) + off = (tgt : Int)) (kt : 0 ≤ x → Ex E tgt L S M Q) (kf : ¬ 0 ≤ x → Ex E (pc + 3) L S M Q) : Ex E pc L (.int x :: S) M Q := by
  intro p l e R s m args below meth c D dA ad h0 nb wb Qf cX K H locs ls I hl
  obtain ⟨hx, hb, hml, hown, hts, hret, hini, hfr, hlo, hce, hsl, had, hh0, hG, hZ⟩ := id cX
  exact lv_if_ge hx hb hd ht (fun h => kt h p l e R s m args below meth c D dA ad h0 nb wb Qf cX K H locs ls I hl) (fun h => kf h p l e R s m args below meth c D dA ad h0 nb wb Qf cX K H locs ls I hl)
theorem x_icmp_ge {x y : Int32} {off : Int} {tgt : Nat} (hd : decode E.1.2.1 pc = .ok (.if_icmp .ge off, 3)) (ht : (pc : Int) + off = (tgt : Int)) (kt : y ≤ x → Ex E tgt L S M Q) (kf : ¬ y ≤ x → Ex E (pc + 3) L S M Q) : Ex E pc L (.int y :: .int x :: S) M Q := by
  intro p l e R s m args below meth c D dA ad h0 nb wb Qf cX K H locs ls I hl
  obtain ⟨hx, hb, hml, hown, hts, hret, hini, hfr, hlo, hce, hsl, had, hh0, hG, hZ⟩ := id cX
  exact lv_icmp_ge hx hb hd ht (fun h => kt h p l e R s m args below meth c D dA ad h0 nb wb Qf cX K H locs ls I hl) (fun h => kf h p l e R s m args below meth c D dA ad h0 nb wb Qf cX K H locs ls I hl)
theorem x_if_gt {x : Int32} {off : Int} {tgt : Nat} (hd : decode E.1.2.1 pc = .ok (.ifCond .gt off, 3)) (ht : (pc : Int) + off = (tgt : Int)) (kt : 0 < x → Ex E tgt L S M Q) (kf : ¬ 0 < x → Ex E (pc + 3) L S M Q) : Ex E pc L (.int x :: S) M Q := by
  intro p l e R s m args below meth c D dA ad h0 nb wb Qf cX K H locs ls I hl
  obtain ⟨hx, hb, hml, hown, hts, hret, hini, hfr, hlo, hce, hsl, had, hh0, hG, hZ⟩ := id cX
  exact lv_if_gt hx hb hd ht (fun h => kt h p l e R s m args below meth c D dA ad h0 nb wb Qf cX K H locs ls I hl) (fun h => kf h p l e R s m args below meth c D dA ad h0 nb wb Qf cX K H locs ls I hl)
theorem x_icmp_gt {x y : Int32} {off : Int} {tgt : Nat} (hd : decode E.1.2.1 pc = .ok (.if_icmp .gt off, 3)) (ht : (pc : Int) + off = (tgt : Int)) (kt : y < x → Ex E tgt L S M Q) (kf : ¬ y < x → Ex E (pc + 3) L S M Q) : Ex E pc L (.int y :: .int x :: S) M Q := by
  intro p l e R s m args below meth c D dA ad h0 nb wb Qf cX K H locs ls I hl
  obtain ⟨hx, hb, hml, hown, hts, hret, hini, hfr, hlo, hce, hsl, had, hh0, hG, hZ⟩ := id cX
  exact lv_icmp_gt hx hb hd ht (fun h => kt h p l e R s m args below meth c D dA ad h0 nb wb Qf cX K H locs ls I hl) (fun h => kf h p l e R s m args below meth c D dA ad h0 nb wb Qf cX K H locs ls I hl)
theorem x_if_le {x : Int32} {off : Int} {tgt : Nat} (hd : decode E.1.2.1 pc = .ok (.ifCond .le off, 3)) (ht : (pc : Int) + off = (tgt : Int)) (kt : x ≤ 0 → Ex E tgt L S M Q) (kf : ¬ x ≤ 0 → Ex E (pc + 3) L S M Q) : Ex E pc L (.int x :: S) M Q := by
  intro p l e R s m args below meth c D dA ad h0 nb wb Qf cX K H locs ls I hl
  obtain ⟨hx, hb, hml, hown, hts, hret, hini, hfr, hlo, hce, hsl, had, hh0, hG, hZ⟩ := id cX
  exact lv_if_le hx hb hd ht (fun h => kt h p l e R s m args below meth c D dA ad h0 nb wb Qf cX K H locs ls I hl) (fun h => kf h p l e R s m args below meth c D dA ad h0 nb wb Qf cX K H locs ls I hl)
theorem x_icmp_le {x y : Int32} {off : Int} {tgt : Nat} (hd : decode E.1.2.1 pc = .ok (.if_icmp .le off, 3)) (ht : (pc : Int) + off = (tgt : Int)) (kt : x ≤ y → Ex E tgt L S M Q) (kf : ¬ x ≤ y → Ex E (pc + 3) L S M Q) : Ex E pc L (.int y :: .int x :: S) M Q := by
  intro p l e R s m args below meth c D dA ad h0 nb wb Qf cX K H locs ls I hl
  obtain ⟨hx, hb, hml, hown, hts, hret, hini, hfr, hlo, hce, hsl, had, hh0, hG, hZ⟩ := id cX
  exact lv_icmp_le hx hb hd ht (fun h => kt h p l e R s m args below meth c D dA ad h0 nb wb Qf cX K H locs ls I hl) (fun h => kf h p l e R s m args below meth c D dA ad h0 nb wb Qf cX K H locs ls I hl)
theorem x_goto {off : Int} {tgt : Nat} (hd : decode E.1.2.1 pc = .ok (.goto off, 3)) (ht : (pc : Int) + off = (tgt : Int)) (k : Ex E tgt L S M Q) : Ex E pc L S M Q := by
  intro p l e R s m args below meth c D dA ad h0 nb wb Qf cX K H locs ls I hl
  obtain ⟨hx, hb, hml, hown, hts, hret, hini, hfr, hlo, hce, hsl, had, hh0, hG, hZ⟩ := id cX
  exact lv_goto hx hb hd ht (k p l e R s m args below meth c D dA ad h0 nb wb Qf cX K H locs ls I hl)
theorem x_tabOut {dflt lo hi : Int} {offs : Array Int} {len : Nat} {x : Int32} {tgt : Nat} (hd : decode E.1.2.1 pc = .ok (.tableswitch dflt lo hi offs, len)) (h : x.toInt < lo ∨ hi < x.toInt) (ht : (pc : Int) + dflt = (tgt : Int)) (k : Ex E tgt L S M Q) : Ex E pc L (.int x :: S) M Q := by
  intro p l e R s m args below meth c D dA ad h0 nb wb Qf cX K H locs ls I hl
  obtain ⟨hx, hb, hml, hown, hts, hret, hini, hfr, hlo, hce, hsl, had, hh0, hG, hZ⟩ := id cX
  exact lv_tableOut hx hb hd h ht (k p l e R s m args below meth c D dA ad h0 nb wb Qf cX K H locs ls I hl)
theorem x_tabIn {dflt lo hi : Int} {offs : Array Int} {len : Nat} {x : Int32} {off : Int} {tgt : Nat} (hd : decode E.1.2.1 pc = .ok (.tableswitch dflt lo hi offs, len)) (h1 : ¬ x.toInt < lo) (h2 : ¬ hi < x.toInt) (ho : offs[(x.toInt - lo).toNat]? = some off) (ht : (pc : Int) + off = (tgt : Int)) (k : Ex E tgt L S M Q) : Ex E pc L (.int x :: S) M Q := by
  intro p l e R s m args below meth c D dA ad h0 nb wb Qf cX K H locs ls I hl
  obtain ⟨hx, hb, hml, hown, hts, hret, hini, hfr, hlo, hce, hsl, had, hh0, hG, hZ⟩ := id cX
  exact lv_tableIn hx hb hd h1 h2 ho ht (k p l e R s m args below meth c D dA ad h0 nb wb Qf cX K H locs ls I hl)
end XR
end
section
/-! ===== Ex: variables that are written, cells, arrays, new cells ===== -/
def xu (h : Nat → xA) (a : Nat) (c : xA) : Nat → xA := fun i => if i = a then c else h i
theorem xu_s (h : Nat → xA) (a : Nat) (c : xA) : xu h a c a = c := if_pos rfl
theorem xu_n (h : Nat → xA) {a i : Nat} (c : xA) (q : i ≠ a) : xu h a c i = h i := if_neg q
def xok (i : Nat) (L : List Value) : Bool := match i with
  | 0 => true
  | k + 1 => match L[k]? with
    | some v => v.category != 2
    | none => true
def xnn : Value → Bool
  | .null => false
  | _ => true
def xlv (ad : Nat → Nat) (L : List Value) : List (Nat × Value) := (List.range L.length).filterMap (fun j => match L[j]? with
  | some v => if xnn v = true then some (j, xv ad v) else none
  | none => none)
theorem xnn_iff {v : Value} : xnn v = true ↔ v ≠ Value.null := by cases v <;> simp [xnn]
theorem xlv_mem {ad : Nat → Nat} {L : List Value} {j : Nat} {w : Value} : (j, w) ∈ xlv ad L ↔ ∃ v, L[j]? = some v ∧ v ≠ Value.null ∧ w = xv ad v := by
  unfold xlv
  rw [List.mem_filterMap]
  constructor
  · rintro ⟨k, -, hk⟩
    cases hL : L[k]? with
    | none => rw [hL] at hk; cases hk
    | some v =>
      rw [hL] at hk
      dsimp only at hk
      by_cases hv : xnn v = true
      · rw [if_pos hv] at hk
        cases hk
        exact ⟨v, hL, xnn_iff.mp hv, rfl⟩
      · rw [if_neg hv] at hk
        cases hk
  · rintro ⟨v, hL, hv, rfl⟩
    refine ⟨j, List.mem_range.mpr (List.getElem?_eq_some_iff.mp hL).1, ?_⟩
    rw [hL]
    dsimp only
    rw [if_pos (xnn_iff.mpr hv)]
theorem xL_has {ad : Nat → Nat} {L : List Value} {ls : Array Slot} {nL : Nat} (h : xL ad L ls nL) : lv_has ls nL (xlv ad L) := by
  refine ⟨h.1, h.2.1, fun q hq => ?_⟩
  obtain ⟨v, h1, h2, h3⟩ := xlv_mem.mp (show (q.1, q.2) ∈ xlv ad L from hq)
  rw [h3]
  exact h.2.2 _ _ h1 h2
theorem xok_ne {i j : Nat} {L : List Value} {u : Value} (h : xok i L = true) (hj : L[j]? = some u) (hi : j + 1 = i) : u.category ≠ 2 := by
  subst hi
  simpa [xok, hj] using h
theorem xL_set1 {ad : Nat → Nat} {L : List Value} {ls : Array Slot} {nL i : Nat} {v : Value} (ho : xok i L = true) (h : lv_has ls nL ((i, xv ad v) :: (xlv ad L).filter (fun q => !(q.1 == i) && !(q.1 + 1 == i && q.2.category == 2)))) : xL ad (L.set i v) ls nL := by
  refine ⟨h.1, h.2.1, fun j u hj hu => ?_⟩
  by_cases e : i = j
  · subst e
    rw [List.getElem?_set_self' ] at hj
    cases hL : L[i]? with
    | none => rw [hL] at hj; cases hj
    | some w =>
      rw [hL] at hj
      cases hj
      exact h.2.2 (i, xv ad v) List.mem_cons_self
  · rw [List.getElem?_set_ne e] at hj
    refine h.2.2 (j, xv ad u) (List.mem_cons_of_mem _ (List.mem_filter.mpr ⟨xlv_mem.mpr ⟨u, hj, hu, rfl⟩, ?_⟩))
    have h2 : j + 1 = i → u.category ≠ 2 := fun q => xok_ne ho hj q
    have h3 : ¬ j = i := fun q => e q.symm
    have h4 : ¬ (j + 1 = i ∧ (xv ad u).category = 2) := fun q => h2 q.1 (by rw [← xv_cat ad u]; exact q.2)
    simpa [h3] using (Classical.em (j + 1 = i)).elim (fun q => Or.inr (fun z => h4 ⟨q, z⟩)) Or.inl
theorem xL_set2 {ad : Nat → Nat} {L : List Value} {ls : Array Slot} {nL i : Nat} {v : Value} (ho : xok i L = true) (h : lv_has ls nL ((i, xv ad v) :: (xlv ad L).filter (fun q => !(q.1 == i) && (!(q.1 == i + 1) && !(q.1 + 1 == i && q.2.category == 2))))) : xL ad ((L.set i v).set (i + 1) Value.null) ls nL := by
  refine ⟨h.1, h.2.1, fun j u hj hu => ?_⟩
  by_cases e1 : i + 1 = j
  · subst e1
    rw [List.getElem?_set_self'] at hj
    cases hL : (L.set i v)[i + 1]? with
    | none => rw [hL] at hj; cases hj
    | some w => rw [hL] at hj; cases hj; exact absurd rfl hu
  rw [List.getElem?_set_ne e1] at hj
  by_cases e : i = j
  · subst e
    rw [List.getElem?_set_self' ] at hj
    cases hL : L[i]? with
    | none => rw [hL] at hj; cases hj
    | some w =>
      rw [hL] at hj
      cases hj
      exact h.2.2 (i, xv ad v) List.mem_cons_self
  · rw [List.getElem?_set_ne e] at hj
    refine h.2.2 (j, xv ad u) (List.mem_cons_of_mem _ (List.mem_filter.mpr ⟨xlv_mem.mpr ⟨u, hj, hu, rfl⟩, ?_⟩))
    have h2 : j + 1 = i → u.category ≠ 2 := fun q => xok_ne ho hj q
    have h3 : ¬ j = i := fun q => e q.symm
    have h5 : ¬ j = i + 1 := fun q => e1 q.symm
    have h4 : ¬ (j + 1 = i ∧ (xv ad u).category = 2) := fun q => h2 q.1 (by rw [← xv_cat ad u]; exact q.2)
    simpa [h3, h5] using (Classical.em (j + 1 = i)).elim (fun q => Or.inr (fun z => h4 ⟨q, z⟩)) Or.inl
section XS
variable {E : xE} {pc : Nat} {L S : List Value} {M : xM} {Q Q' : Option Value → xM → Prop}
theorem x_istore_n {i : Fin 4} {x : Int32} (hd : decode E.1.2.1 pc = .ok (.istore_n i, 1)) (hn : (i : Nat) < E.1.2.2.1) (ho : xok i L = true) (k : Ex E (pc + 1) (L.set i (.int x)) S M Q) : Ex E pc L (.int x :: S) M Q := by
  intro p l e R s m args below meth c D dA ad h0 nb wb Qf cX K H locs ls I hl
  obtain ⟨hx, hb, hml, hown, hts, hret, hini, hfr, hlo, hce, hsl, had, hh0, hG, hZ⟩ := id cX
  exact lv_istore_n (x := x) hx hb hd rfl (xL_has hl) hn rfl (fun ls' h' => k p l e R s m args below meth c D dA ad h0 nb wb Qf cX K H locs ls' I (xL_set1 (v := .int x) ho h'))
theorem x_istore {i : Nat} {x : Int32} (hd : decode E.1.2.1 pc = .ok (.istore i, 2)) (hn : i < E.1.2.2.1) (ho : xok i L = true) (k : Ex E (pc + 2) (L.set i (.int x)) S M Q) : Ex E pc L (.int x :: S) M Q := by
  intro p l e R s m args below meth c D dA ad h0 nb wb Qf cX K H locs ls I hl
  obtain ⟨hx, hb, hml, hown, hts, hret, hini, hfr, hlo, hce, hsl, had, hh0, hG, hZ⟩ := id cX
  exact lv_istore (x := x) hx hb hd (xL_has hl) hn rfl (fun ls' h' => k p l e R s m args below meth c D dA ad h0 nb wb Qf cX K H locs ls' I (xL_set1 (v := .int x) ho h'))
theorem x_astore_n {i : Fin 4} {x : Nat} (hd : decode E.1.2.1 pc = .ok (.astore_n i, 1)) (hn : (i : Nat) < E.1.2.2.1) (ho : xok i L = true) (k : Ex E (pc + 1) (L.set i (.ref x)) S M Q) : Ex E pc L (.ref x :: S) M Q := by
  intro p l e R s m args below meth c D dA ad h0 nb wb Qf cX K H locs ls I hl
  obtain ⟨hx, hb, hml, hown, hts, hret, hini, hfr, hlo, hce, hsl, had, hh0, hG, hZ⟩ := id cX
  exact lv_astore_n (x := ad x) hx hb hd rfl (xL_has hl) hn rfl (fun ls' h' => k p l e R s m args below meth c D dA ad h0 nb wb Qf cX K H locs ls' I (xL_set1 (v := .ref x) ho h'))
theorem x_astore {i : Nat} {x : Nat} (hd : decode E.1.2.1 pc = .ok (.astore i, 2)) (hn : i < E.1.2.2.1) (ho : xok i L = true) (k : Ex E (pc + 2) (L.set i (.ref x)) S M Q) : Ex E pc L (.ref x :: S) M Q := by
  intro p l e R s m args below meth c D dA ad h0 nb wb Qf cX K H locs ls I hl
  obtain ⟨hx, hb, hml, hown, hts, hret, hini, hfr, hlo, hce, hsl, had, hh0, hG, hZ⟩ := id cX
  exact lv_astore (x := ad x) hx hb hd (xL_has hl) hn rfl (fun ls' h' => k p l e R s m args below meth c D dA ad h0 nb wb Qf cX K H locs ls' I (xL_set1 (v := .ref x) ho h'))
theorem x_lstore_n {i : Fin 4} {x : Int64} (hd : decode E.1.2.1 pc = .ok (.lstore_n i, 1)) (hn : (i : Nat) + 1 < E.1.2.2.1) (ho : xok i L = true) (k : Ex E (pc + 1) ((L.set i (.long x)).set (i + 1) Value.null) S M Q) : Ex E pc L (.long x :: S) M Q := by
  intro p l e R s m args below meth c D dA ad h0 nb wb Qf cX K H locs ls I hl
  obtain ⟨hx, hb, hml, hown, hts, hret, hini, hfr, hlo, hce, hsl, had, hh0, hG, hZ⟩ := id cX
  exact lv_lstore_n (x := x) hx hb hd rfl (xL_has hl) hn rfl (fun ls' h' => k p l e R s m args below meth c D dA ad h0 nb wb Qf cX K H locs ls' I (xL_set2 (v := .long x) ho h'))
theorem x_lstore {i : Nat} {x : Int64} (hd : decode E.1.2.1 pc = .ok (.lstore i, 2)) (hn : i + 1 < E.1.2.2.1) (ho : xok i L = true) (k : Ex E (pc + 2) ((L.set i (.long x)).set (i + 1) Value.null) S M Q) : Ex E pc L (.long x :: S) M Q := by
  intro p l e R s m args below meth c D dA ad h0 nb wb Qf cX K H locs ls I hl
  obtain ⟨hx, hb, hml, hown, hts, hret, hini, hfr, hlo, hce, hsl, had, hh0, hG, hZ⟩ := id cX
  exact lv_lstore (x := x) hx hb hd (xL_has hl) hn rfl (fun ls' h' => k p l e R s m args below meth c D dA ad h0 nb wb Qf cX K H locs ls' I (xL_set2 (v := .long x) ho h'))
theorem x_iinc {i : Nat} {n : Int} {x : Int32} (hd : decode E.1.2.1 pc = .ok (.iinc i n, 3)) (hv : L[i]? = some (.int x)) (hn : i < E.1.2.2.1) (ho : xok i L = true) (k : Ex E (pc + 3) (L.set i (.int (x + Int32.ofInt n))) S M Q) : Ex E pc L S M Q := by
  intro p l e R s m args below meth c D dA ad h0 nb wb Qf cX K H locs ls I hl
  obtain ⟨hx, hb, hml, hown, hts, hret, hini, hfr, hlo, hce, hsl, had, hh0, hG, hZ⟩ := id cX
  obtain ⟨j, hj⟩ := List.getElem?_of_mem (xlv_mem.mpr ⟨_, hv, (fun h => by cases h), rfl⟩ : (i, xv ad (.int x)) ∈ xlv ad L)
  exact lv_iinc (x := x) hx hb hd (xL_has hl) hj rfl hn rfl (fun ls' h' => k p l e R s m args below meth c D dA ad h0 nb wb Qf cX K H locs ls' I (xL_set1 (v := .int (x + Int32.ofInt n)) ho h'))
/-- a cell's contents are changed -/
theorem xI_put {D : va_G} {dA : Nat → ClassId} {ad : Nat → Nat} {h0 nb wb : Nat} {s : State} {M : xM} {H H1 : Heap} {locs locs1 : List Loc} (had : ∀ i, i < 1000000 → ad i = h0 + i) (I : xI D dA ad h0 nb wb s M H locs) {a : Nat} (ha : a < M.2.1) {c : xA} (e : va_at D vwCl (ad a, xe ad dA c) H1) (z : H1.size = H.size) (oq : ∀ q : Nat, q ≠ ad a → H1[q]? = H[q]?) (hl : ∀ l ∈ locs1, l.base = ad a) : xI D dA ad h0 nb wb s (xu M.1 a c, M.2) H1 (locs ++ locs1) := by
  obtain ⟨h1, h2, h3, h4, h5, h6, h7⟩ := I
  have hb : ad a = h0 + a := had a (by omega)
  refine ⟨fun i hi => ?_, by rw [z]; exact h2, fun q hq => by rw [oq q (by omega)]; exact h3 q hq, fun l hm => ?_, h5, h6, h7⟩
  · by_cases e1 : i = a
    · subst e1
      dsimp only
      rw [xu_s]
      exact e
    · dsimp only
      rw [xu_n _ _ e1]
      refine (h1 i hi).kept (oq _ ?_)
      dsimp only at hi
      show ad i ≠ ad a
      rw [had i (by omega), hb]
      omega
  · rcases List.mem_append.mp hm with h | h
    · exact h4 l h
    · rw [hl l h, hb]; omega
/-- a cell more -/
theorem xI_new {D : va_G} {dA : Nat → ClassId} {ad : Nat → Nat} {h0 nb wb : Nat} {s : State} {M : xM} {H H1 : Heap} {locs : List Loc} (had : ∀ i, i < 1000000 → ad i = h0 + i) (I : xI D dA ad h0 nb wb s M H locs) (hn : M.2.1 < 1000000) {c : xA} {k : Nat} (e : va_at D vwCl (ad M.2.1, xe ad dA c) H1) (z : H1.size = H.size + 1) (oq : ∀ q : Nat, q < H.size → H1[q]? = H[q]?) : xI D dA ad h0 nb wb s (xu M.1 M.2.1 c, M.2.1 + 1, M.2.2 + k) H1 locs := by
  obtain ⟨h1, h2, h3, h4, h5, h6, h7⟩ := I
  refine ⟨fun i hi => ?_, by rw [z, h2]; rfl, fun q hq => by rw [oq q (by omega)]; exact h3 q hq, h4, by dsimp only; omega, by dsimp only; omega, by dsimp only; omega⟩
  dsimp only at hi ⊢
  by_cases e1 : i = M.2.1
  · subst e1
    rw [xu_s]
    exact e
  · rw [xu_n _ _ e1]
    refine (h1 i (by omega)).kept (oq _ ?_)
    show ad i < H.size
    rw [had i (by omega), h2]
    omega
theorem xP_one {D : va_G} {H : Heap} {q : Nat × va_E} (h : va_at D vwCl q H) : va_P D vwCl [q] H := by
  intro k r hr
  match k, hr with
  | 0, hr => cases hr; exact h
/-- getfield -/
theorem x_get {a ci k index N : Nat} {fs : List Value} {v : Value} {C : String} {T : u_T} (hd : decode E.1.2.1 pc = .ok (.getfield index, 3)) (hlink : Cond.fieldLink E.1.1.cls index (T k).1 (T k).2.1 (T k).2.2.1 ∈ xT) (hin : ∀ w ∈ u_ws C T N, w ∈ xT) (hc : vwCl[ci]? = some (C, T, N)) (hk : k < N) (ha : a < M.2.1) (hM : M.1 a = .inr (ci, fs)) (hv : fs[k]? = some v) (kk : Ex E (pc + 3) L (v :: S) M Q) : Ex E pc L (.ref a :: S) M Q := by
  intro p l e R s m args below meth c D dA ad h0 nb wb Qf cX K H locs ls I hl
  obtain ⟨hx, hb, hml, hown, hts, hret, hini, hfr, hlo, hce, hsl, had, hh0, hG, hZ⟩ := id cX
  have hP := xP_one (I.1 a ha)
  rw [hM] at hP
  exact va_get (C := C) (T := T) (N := N) (ref := (T k).1) hx hb hts hin hown hG.1 hP 0 rfl hc k hk (hts _ hlink) (fun _ h => h) (v := xv ad v) (by rw [List.getElem?_map, hv]; rfl) hd (kk p l e R s m args below meth c D dA ad h0 nb wb Qf cX K H locs ls I hl)
theorem x_getN {a ci k index N : Nat} {fs : List Value} {v : Value} {C host : String} {T : u_T} (hd : decode E.1.2.1 pc = .ok (.getfield index, 3)) (hlink : Cond.fieldLinkNest E.1.1.cls index (T k).1 (T k).2.1 (T k).2.2.1 host ∈ xN) (hin : ∀ w ∈ u_ws C T N, w ∈ xT) (hc : vwCl[ci]? = some (C, T, N)) (hk : k < N) (ha : a < M.2.1) (hM : M.1 a = .inr (ci, fs)) (hv : fs[k]? = some v) (kk : Ex E (pc + 3) L (v :: S) M Q) : Ex E pc L (.ref a :: S) M Q := by
  intro p l e R s m args below meth c D dA ad h0 nb wb Qf cX K H locs ls I hl
  obtain ⟨hx, hb, hml, hown, hts, hret, hini, hfr, hlo, hce, hsl, had, hh0, hG, hZ⟩ := id cX
  have hP := xP_one (I.1 a ha)
  rw [hM] at hP
  exact va_getN (C := C) (T := T) (N := N) (ref := (T k).1) hx hb hts hin hown hG.1 hP 0 rfl hc k hk ((hG.2.1 _ hlink).use (xN_tab hlink)) (fun _ h => h) (v := xv ad v) (by rw [List.getElem?_map, hv]; rfl) hd (kk p l e R s m args below meth c D dA ad h0 nb wb Qf cX K H locs ls I hl)
def xlk (own : String) (index : Nat) (r n d : String) : Prop := Cond.fieldLink own index r n d ∈ xT ∨ ∃ host, Cond.fieldLinkNest own index r n d host ∈ xN
end XS
end
section
/-! ===== Ex: fields and arrays written, new cells, the JDK's copies, max and min ===== -/
theorem xv_narrow {ad : Nat → Nat} {ty : FieldType} {v : Value} (h : narrow ty v = v) : narrow ty (xv ad v) = xv ad v := by
  cases v <;> first | exact h | (cases ty <;> rfl)
theorem xv_fits {ad : Nat → Nat} {ty : FieldType} {v : Value} (h : fits ty v = true) : fits ty (xv ad v) = true := by
  cases v <;> first | exact h | (cases ty <;> first | exact h | rfl)
theorem xcat_sum {ad : Nat → Nat} {S : List Value} (h : S.length ≤ 4) : ((S.map (xv ad)).map fun v => v.category).sum ≤ 8 := by
  have h2 : ∀ (T : List Value), ((T.map (xv ad)).map fun v => v.category).sum ≤ 2 * T.length := by
    intro T
    induction T with
    | nil => exact Nat.le_refl _
    | cons v T ih =>
      have hv : (xv ad v).category ≤ 2 := by rw [xv_cat]; cases v <;> simp [Value.category]
      simp only [List.map_cons, List.sum_cons, List.length_cons]
      omega
  have h3 := h2 S
  omega
section XP
variable {E : xE} {pc : Nat} {L S : List Value} {M : xM} {Q Q' : Option Value → xM → Prop}
theorem xw_link {D : va_G} {dA : Nat → ClassId} {ad : Nat → Nat} {h0 : Nat} {U : State} {H : Heap} {A : Array Value} {w : Cond} (h : xG D dA ad h0 U H) (hw : w ∈ xN) : w.before A U = true := (h.2.1 _ hw).use (xN_tab hw)
/-- putfield -/
theorem x_put {a ci k index N : Nat} {fs : List Value} {v : Value} {C : String} {T : u_T} {ty0 : Nat → FieldType} (hd : decode E.1.2.1 pc = .ok (.putfield index, 3)) (hlink : Cond.fieldLink E.1.1.cls index (T k).1 (T k).2.1 (T k).2.2.1 ∈ xT) (hin : ∀ w ∈ u_ws C T N, w ∈ xT) (hty : ∀ k, k < N → parseFieldDescriptor (T k).2.2.1 = some (ty0 k)) (hnm : ∀ a, a < N → ∀ b, b < N → a ≠ b → (T a).2.1 ≠ (T b).2.1) (hc : vwCl[ci]? = some (C, T, N)) (hk : k < N) (hfin : (T k).2.2.2 = false) (ha : a < M.2.1) (hM : M.1 a = .inr (ci, fs)) (hn : narrow (ty0 k) v = v) (hfit : fits (ty0 k) v = true) (hl0 : k < fs.length) (kk : Ex E (pc + 3) L S (xu M.1 a (.inr (ci, fs.set k v)), M.2) Q) : Ex E pc L (v :: .ref a :: S) M Q := by
  intro p l e R s m args below meth c D dA ad h0 nb wb Qf cX K H locs ls I hl
  obtain ⟨hx, hb, hml, hown, hts, hret, hini, hfr, hlo, hce, hsl, had, hh0, hG, hZ⟩ := id cX
  have hap := va_apart (own := E.1.1.cls) hts hin ty0 hty hnm hG.1 hc
  have hP := I.1 a ha
  rw [hM] at hP
  obtain ⟨r, h1, cell, q1, q2, q3, q4⟩ := hP
  have hr : r = (C, T, N) := Option.some.inj (h1.symm.trans hc)
  subst hr
  obtain ⟨hSl, hfc, kC, hkC, hkind⟩ := hG.1.1 ci _ hc
  obtain ⟨cf, kf, fi, f, hi, hsl'⟩ := hSl k hk
  have hlay := hts _ (hin _ (u_in_lay hk))
  unfold u_lay at hlay
  rw [if_neg (by rw [hfin]; decide)] at hlay
  have hst := (u_facts hfc hkC (u_lays hts hin hk) hi).1
  have h6 := u_store hfc hkC hkind hlay hi (hty k hk) (xv_narrow (ad := ad) hn) (xv_fits (ad := ad) hfit)
  refine W.putK hx hb (f := f) ⟨hown, hts _ hlink, ⟨_, _, _, hi⟩, hst⟩ (by rw [q2]; exact h6) q1 q3 (by rw [hsl']; exact k2_hasslot (q4 k hk)) rfl rfl hd fun H' e1 e2 e3 => ?_
  rw [hsl'] at e1 ⊢
  refine kk p l e R s m args below meth c D dA ad h0 nb wb Qf cX K H' _ ls (xI_put had I ha ?_ e2 e3 (fun l h => by rw [List.mem_singleton.mp h])) hl
  exact ⟨_, hc, t_OB.to (V := updV (vp_V (fs.map (xv ad))) k (xv ad v)) ⟨_, e1, q2, q3, t_set q4 hap hk (xv ad v)⟩ (fun j _ => by rw [List.map_set]; exact vp_updV_set (by rw [List.length_map]; exact hl0) (xv ad v) j)⟩
theorem x_putN {a ci k index N : Nat} {fs : List Value} {v : Value} {C host : String} {T : u_T} {ty0 : Nat → FieldType} (hd : decode E.1.2.1 pc = .ok (.putfield index, 3)) (hlink : Cond.fieldLinkNest E.1.1.cls index (T k).1 (T k).2.1 (T k).2.2.1 host ∈ xN) (hin : ∀ w ∈ u_ws C T N, w ∈ xT) (hty : ∀ k, k < N → parseFieldDescriptor (T k).2.2.1 = some (ty0 k)) (hnm : ∀ a, a < N → ∀ b, b < N → a ≠ b → (T a).2.1 ≠ (T b).2.1) (hc : vwCl[ci]? = some (C, T, N)) (hk : k < N) (hfin : (T k).2.2.2 = false) (ha : a < M.2.1) (hM : M.1 a = .inr (ci, fs)) (hn : narrow (ty0 k) v = v) (hfit : fits (ty0 k) v = true) (hl0 : k < fs.length) (kk : Ex E (pc + 3) L S (xu M.1 a (.inr (ci, fs.set k v)), M.2) Q) : Ex E pc L (v :: .ref a :: S) M Q := by
  intro p l e R s m args below meth c D dA ad h0 nb wb Qf cX K H locs ls I hl
  obtain ⟨hx, hb, hml, hown, hts, hret, hini, hfr, hlo, hce, hsl, had, hh0, hG, hZ⟩ := id cX
  have hap := va_apart (own := E.1.1.cls) hts hin ty0 hty hnm hG.1 hc
  have hP := I.1 a ha
  rw [hM] at hP
  obtain ⟨r, h1, cell, q1, q2, q3, q4⟩ := hP
  have hr : r = (C, T, N) := Option.some.inj (h1.symm.trans hc)
  subst hr
  obtain ⟨hSl, hfc, kC, hkC, hkind⟩ := hG.1.1 ci _ hc
  obtain ⟨cf, kf, fi, f, hi, hsl'⟩ := hSl k hk
  have hlay := hts _ (hin _ (u_in_lay hk))
  unfold u_lay at hlay
  rw [if_neg (by rw [hfin]; decide)] at hlay
  have hst := (u_facts hfc hkC (u_lays hts hin hk) hi).1
  have h6 := u_store hfc hkC hkind hlay hi (hty k hk) (xv_narrow (ad := ad) hn) (xv_fits (ad := ad) hfit)
  refine va_WputK hx hb (f := f) hown (xw_link hG hlink) hi hst (by rw [q2]; exact h6) q1 q3 (by rw [hsl']; exact k2_hasslot (q4 k hk)) rfl rfl hd fun H' e1 e2 e3 => ?_
  rw [hsl'] at e1 ⊢
  refine kk p l e R s m args below meth c D dA ad h0 nb wb Qf cX K H' _ ls (xI_put had I ha ?_ e2 e3 (fun l h => by rw [List.mem_singleton.mp h])) hl
  exact ⟨_, hc, t_OB.to (V := updV (vp_V (fs.map (xv ad))) k (xv ad v)) ⟨_, e1, q2, q3, t_set q4 hap hk (xv ad v)⟩ (fun j _ => by rw [List.map_set]; exact vp_updV_set (by rw [List.length_map]; exact hl0) (xv ad v) j)⟩
/-- putfield of a final field, in a constructor -/
theorem x_putF {a ci k index N : Nat} {fs : List Value} {v : Value} {C : String} {T : u_T} {ty0 : Nat → FieldType} (hd : decode E.1.2.1 pc = .ok (.putfield index, 3)) (hlink : Cond.fieldLink E.1.1.cls index (T k).1 (T k).2.1 (T k).2.2.1 ∈ xT) (hin : ∀ w ∈ u_ws C T N, w ∈ xT) (hty : ∀ k, k < N → parseFieldDescriptor (T k).2.2.1 = some (ty0 k)) (hnm : ∀ a, a < N → ∀ b, b < N → a ≠ b → (T a).2.1 ≠ (T b).2.1) (hc : vwCl[ci]? = some (C, T, N)) (hk : k < N) (hfin : (T k).2.2.2 = true) (hI : E.1.1.name = "<init>") (hdecl : (T k).1 = E.1.1.cls) (ha : a < M.2.1) (hM : M.1 a = .inr (ci, fs)) (hn : narrow (ty0 k) v = v) (hfit : fits (ty0 k) v = true) (hl0 : k < fs.length) (kk : Ex E (pc + 3) L S (xu M.1 a (.inr (ci, fs.set k v)), M.2) Q) : Ex E pc L (v :: .ref a :: S) M Q := by
  intro p l e R s m args below meth c D dA ad h0 nb wb Qf cX K H locs ls I hl
  obtain ⟨hx, hb, hml, hown, hts, hret, hini, hfr, hlo, hce, hsl, had, hh0, hG, hZ⟩ := id cX
  have hap := va_apart (own := E.1.1.cls) hts hin ty0 hty hnm hG.1 hc
  have hP := I.1 a ha
  rw [hM] at hP
  obtain ⟨r, h1, cell, q1, q2, q3, q4⟩ := hP
  have hr : r = (C, T, N) := Option.some.inj (h1.symm.trans hc)
  subst hr
  obtain ⟨hSl, hfc, kC, hkC, hkind⟩ := hG.1.1 ci _ hc
  obtain ⟨cf, kf, fi, f, hi, hsl'⟩ := hSl k hk
  have hlay := hts _ (hin _ (u_in_lay hk))
  unfold u_lay at hlay
  rw [if_pos hfin] at hlay
  have hst := (u_facts hfc hkC (u_lays hts hin hk) hi).1
  have hcf : m.cls = cf := by
    obtain ⟨_, _, c', _, _, _, -, -, hf', -, -, -, hown2, -⟩ := Cond.laysFinal_spec hlay
    have e1 : c' = cf := by have := hi.symm.trans hf'; simp at this; exact this.1.symm
    rw [hdecl] at hown2
    rw [← e1]; exact Option.some.inj (hown.symm.trans hown2)
  have h6 := u_fits hfc hkC hkind (Or.inr hlay) hi (hty k hk) (xv_narrow (ad := ad) hn) (xv_fits (ad := ad) hfit)
  refine W.putFinK hx hb hown (hts _ hlink) hi hst hcf (hini hI) (by rw [q2]; exact h6) q1 q3 (by rw [hsl']; exact k2_hasslot (q4 k hk)) rfl rfl hd fun H' e1 e2 e3 => ?_
  rw [hsl'] at e1 ⊢
  refine kk p l e R s m args below meth c D dA ad h0 nb wb Qf cX K H' _ ls (xI_put had I ha ?_ e2 e3 (fun l h => by rw [List.mem_singleton.mp h])) hl
  exact ⟨_, hc, t_OB.to (V := updV (vp_V (fs.map (xv ad))) k (xv ad v)) ⟨_, e1, q2, q3, t_set q4 hap hk (xv ad v)⟩ (fun j _ => by rw [List.map_set]; exact vp_updV_set (by rw [List.length_map]; exact hl0) (xv ad v) j)⟩
/-- arraylength -/
theorem x_alen {a t n : Nat} {f : Nat → Int32} (hd : decode E.1.2.1 pc = .ok (.arraylength, 1)) (ha : a < M.2.1) (hM : M.1 a = .inl (t, n, .inl f)) (ht : t < 3) (kk : Ex E (pc + 1) L (.int (nI n) :: S) M Q) : Ex E pc L (.ref a :: S) M Q := by
  intro p l e R s m args below meth c D dA ad h0 nb wb Qf cX K H locs ls I hl
  obtain ⟨hx, hb, hml, hown, hts, hret, hini, hfr, hlo, hce, hsl, had, hh0, hG, hZ⟩ := id cX
  have hP := xP_one (I.1 a ha)
  rw [hM] at hP
  have key : ∀ (ty : FieldType) (t0 : Nat), (xtys dA)[t0]? = some (dA t, ty) → W p l e R s m args below meth c H locs (M.2.1 - nb) (M.2.2 - wb) Qf (F0 m pc ls ((Value.ref a :: S).map (xv ad))) := fun ty t0 h => va_alen hx hb hG.1 hP 0 t0 rfl h rfl hd (kk p l e R s m args below meth c D dA ad h0 nb wb Qf cX K H locs ls I hl)
  match t, ht with
  | 0, _ => exact key .int 0 rfl
  | 1, _ => exact key .char 1 rfl
  | 2, _ => exact key .boolean 2 rfl
theorem x_iald {a n : Nat} {f : Nat → Int32} {i : Int32} (hd : decode E.1.2.1 pc = .ok (.iaload, 1)) (ha : a < M.2.1) (hM : M.1 a = .inl (0, n, .inl f)) (hi : vp_in i n) (kk : Ex E (pc + 1) L (.int (f i.toNatClampNeg) :: S) M Q) : Ex E pc L (.int i :: .ref a :: S) M Q := by
  intro p l e R s m args below meth c D dA ad h0 nb wb Qf cX K H locs ls I hl
  obtain ⟨hx, hb, hml, hown, hts, hret, hini, hfr, hlo, hce, hsl, had, hh0, hG, hZ⟩ := id cX
  have hP := xP_one (I.1 a ha)
  rw [hM] at hP
  exact va_iald hx hb hG.1 hP 0 0 rfl rfl hi hd (kk p l e R s m args below meth c D dA ad h0 nb wb Qf cX K H locs ls I hl)
theorem x_cald {a n : Nat} {f : Nat → Int32} {i : Int32} (hd : decode E.1.2.1 pc = .ok (.caload, 1)) (ha : a < M.2.1) (hM : M.1 a = .inl (1, n, .inl f)) (hi : vp_in i n) (kk : Ex E (pc + 1) L (.int (f i.toNatClampNeg) :: S) M Q) : Ex E pc L (.int i :: .ref a :: S) M Q := by
  intro p l e R s m args below meth c D dA ad h0 nb wb Qf cX K H locs ls I hl
  obtain ⟨hx, hb, hml, hown, hts, hret, hini, hfr, hlo, hce, hsl, had, hh0, hG, hZ⟩ := id cX
  have hP := xP_one (I.1 a ha)
  rw [hM] at hP
  exact va_cald hx hb hG.1 hP 0 1 rfl rfl hi hd (kk p l e R s m args below meth c D dA ad h0 nb wb Qf cX K H locs ls I hl)
theorem x_zald {a n : Nat} {f : Nat → Int32} {i : Int32} (hd : decode E.1.2.1 pc = .ok (.baload, 1)) (ha : a < M.2.1) (hM : M.1 a = .inl (2, n, .inl f)) (hi : vp_in i n) (kk : Ex E (pc + 1) L (.int (f i.toNatClampNeg) :: S) M Q) : Ex E pc L (.int i :: .ref a :: S) M Q := by
  intro p l e R s m args below meth c D dA ad h0 nb wb Qf cX K H locs ls I hl
  obtain ⟨hx, hb, hml, hown, hts, hret, hini, hfr, hlo, hce, hsl, had, hh0, hG, hZ⟩ := id cX
  have hP := xP_one (I.1 a ha)
  rw [hM] at hP
  exact va_zald hx hb hG.1 hP 0 2 rfl rfl hi hd (kk p l e R s m args below meth c D dA ad h0 nb wb Qf cX K H locs ls I hl)
theorem x_aald {a n b : Nat} {g : Nat → Option Nat} {i : Int32} (hd : decode E.1.2.1 pc = .ok (.aaload, 1)) (ha : a < M.2.1) (hM : M.1 a = .inl (3, n, .inr (.inr (.inr (.inr g))))) (hi : vp_in i n) (hg : g i.toNatClampNeg = some b) (kk : Ex E (pc + 1) L (.ref b :: S) M Q) : Ex E pc L (.int i :: .ref a :: S) M Q := by
  intro p l e R s m args below meth c D dA ad h0 nb wb Qf cX K H locs ls I hl
  obtain ⟨hx, hb, hml, hown, hts, hret, hini, hfr, hlo, hce, hsl, had, hh0, hG, hZ⟩ := id cX
  have hP := xP_one (I.1 a ha)
  rw [hM] at hP
  refine va_aldq hx hb hG.1 hP 0 3 rfl rfl hi hd ?_
  rw [hg]
  exact kk p l e R s m args below meth c D dA ad h0 nb wb Qf cX K H locs ls I hl
theorem x_iast {a n : Nat} {f : Nat → Int32} {i x : Int32} (hd : decode E.1.2.1 pc = .ok (.iastore, 1)) (ha : a < M.2.1) (hM : M.1 a = .inl (0, n, .inl f)) (hi : vp_in i n) (kk : Ex E (pc + 1) L S (xu M.1 a (.inl (0, n, .inl (upd f i.toNatClampNeg x))), M.2) Q) : Ex E pc L (.int x :: .int i :: .ref a :: S) M Q := by
  intro p l e R s m args below meth c D dA ad h0 nb wb Qf cX K H locs ls I hl
  obtain ⟨hx, hb, hml, hown, hts, hret, hini, hfr, hlo, hce, hsl, had, hh0, hG, hZ⟩ := id cX
  have hP := I.1 a ha
  rw [hM] at hP
  refine W.iast hx hb hP ((hG.1.2 0 _ rfl).1 n (fun j => .int (f j))) (fun q => by cases q) (by show ¬ (i < 0 ∨ (arrV _ _ _).slots.size ≤ _); rw [arrV_size]; exact hi) rfl rfl hd fun H1 e1 z oq => ?_
  refine kk p l e R s m args below meth c D dA ad h0 nb wb Qf cX K H1 _ ls (xI_put had I ha ?_ z oq (fun l h => by rw [List.mem_singleton.mp h])) hl
  show H1[ad a]? = some (vp_cell _ _)
  rw [e1]
  rw [vp_cell_i, vp_cell_i, arrV_store]
  congr 2
  funext q
  by_cases hq : q = i.toNatClampNeg
  · subst hq
    simp [updV, upd, vp_nar]
    try rfl
  · simp [updV, upd, hq]
theorem x_cast {a n : Nat} {f : Nat → Int32} {i x : Int32} (hd : decode E.1.2.1 pc = .ok (.castore, 1)) (ha : a < M.2.1) (hM : M.1 a = .inl (1, n, .inl f)) (hi : vp_in i n) (kk : Ex E (pc + 1) L S (xu M.1 a (.inl (1, n, .inl (upd f i.toNatClampNeg (vp_nar .char x)))), M.2) Q) : Ex E pc L (.int x :: .int i :: .ref a :: S) M Q := by
  intro p l e R s m args below meth c D dA ad h0 nb wb Qf cX K H locs ls I hl
  obtain ⟨hx, hb, hml, hown, hts, hret, hini, hfr, hlo, hce, hsl, had, hh0, hG, hZ⟩ := id cX
  have hP := I.1 a ha
  rw [hM] at hP
  refine W.cast hx hb hP ((hG.1.2 1 _ rfl).1 n (fun j => .int (f j))) (fun q => by cases q) (by show ¬ (i < 0 ∨ (arrV _ _ _).slots.size ≤ _); rw [arrV_size]; exact hi) rfl rfl hd fun H1 e1 z oq => ?_
  refine kk p l e R s m args below meth c D dA ad h0 nb wb Qf cX K H1 _ ls (xI_put had I ha ?_ z oq (fun l h => by rw [List.mem_singleton.mp h])) hl
  show H1[ad a]? = some (vp_cell _ _)
  rw [e1]
  rw [vp_cell_i, vp_cell_i, arrV_store]
  congr 2
  funext q
  by_cases hq : q = i.toNatClampNeg
  · subst hq
    simp [updV, upd, vp_nar]
    try rfl
  · simp [updV, upd, hq]
theorem x_zast {a n : Nat} {f : Nat → Int32} {i x : Int32} (hd : decode E.1.2.1 pc = .ok (.bastore, 1)) (ha : a < M.2.1) (hM : M.1 a = .inl (2, n, .inl f)) (hi : vp_in i n) (kk : Ex E (pc + 1) L S (xu M.1 a (.inl (2, n, .inl (upd f i.toNatClampNeg (vp_nar .boolean x)))), M.2) Q) : Ex E pc L (.int x :: .int i :: .ref a :: S) M Q := by
  intro p l e R s m args below meth c D dA ad h0 nb wb Qf cX K H locs ls I hl
  obtain ⟨hx, hb, hml, hown, hts, hret, hini, hfr, hlo, hce, hsl, had, hh0, hG, hZ⟩ := id cX
  have hP := I.1 a ha
  rw [hM] at hP
  refine W.zast hx hb hP ((hG.1.2 2 _ rfl).1 n (fun j => .int (f j))) (fun q => by cases q) (by show ¬ (i < 0 ∨ (arrV _ _ _).slots.size ≤ _); rw [arrV_size]; exact hi) rfl rfl hd fun H1 e1 z oq => ?_
  refine kk p l e R s m args below meth c D dA ad h0 nb wb Qf cX K H1 _ ls (xI_put had I ha ?_ z oq (fun l h => by rw [List.mem_singleton.mp h])) hl
  show H1[ad a]? = some (vp_cell _ _)
  rw [e1]
  rw [vp_cell_i, vp_cell_i, arrV_store]
  congr 2
  funext q
  by_cases hq : q = i.toNatClampNeg
  · subst hq
    simp [updV, upd, vp_nar]
    try rfl
  · simp [updV, upd, hq]
theorem x_aast {a n b ci N : Nat} {fs : List Value} {T : u_T} {g : Nat → Option Nat} {i : Int32} (hd : decode E.1.2.1 pc = .ok (.aastore, 1)) (ha : a < M.2.1) (hM : M.1 a = .inl (3, n, .inr (.inr (.inr (.inr g))))) (hi : vp_in i n) (hb9 : b < M.2.1) (hMb : M.1 b = .inr (ci, fs)) (hc : vwCl[ci]? = some (RX1, T, N)) (kk : Ex E (pc + 1) L S (xu M.1 a (.inl (3, n, .inr (.inr (.inr (.inr (va_up g i.toNatClampNeg (some b))))))), M.2) Q) : Ex E pc L (.ref b :: .int i :: .ref a :: S) M Q := by
  intro p l e R s m args below meth c D dA ad h0 nb wb Qf cX K H locs ls I hl
  obtain ⟨hx, hb, hml, hown, hts, hret, hini, hfr, hlo, hce, hsl, had, hh0, hG, hZ⟩ := id cX
  have hP := I.1 a ha
  rw [hM] at hP
  have hv := I.1 b hb9
  rw [hMb] at hv
  obtain ⟨r', hr', cellV, g1, g2, g3, -⟩ := hv
  have hcls := (hG.1.1 ci _ hc).2
  obtain ⟨kA, comp, k1, k2, k3, -⟩ := (hG.1.2 3 _ rfl).2
  have hcomp : comp = D.1 ci := Option.some.inj (k3.symm.trans hcls.1)
  subst hcomp
  obtain ⟨kC, hkC, -⟩ := hcls.2
  have h0' : ¬ i < 0 := fun h => hi (Or.inl h)
  have hlt : i.toNatClampNeg < n := Nat.lt_of_not_le (fun h => hi (Or.inr h))
  refine W.aast hx hb hP (fun q h => by cases h) (fun h => by cases h) k1 k2 rfl hkC ⟨h0', by show _ < (arrV _ _ _).slots.size; rw [arrV_size]; exact hlt⟩ g1 (fun q h => by rw [g3] at h; cases h) (by rw [g2]; exact hkC) (by rw [g2]; exact va_assign hcls) rfl rfl hd fun H1 e1 z oq => ?_
  refine kk p l e R s m args below meth c D dA ad h0 nb wb Qf cX K H1 _ ls (xI_put had I ha ?_ z oq (fun l h => by rw [List.mem_singleton.mp h])) hl
  show H1[ad a]? = some (vp_cell _ _)
  rw [e1]
  rw [vp_cell_q, vp_cell_q, arrV_store]
  congr 2
  funext q
  by_cases hq : q = i.toNatClampNeg
  · subst hq
    simp [updV, va_up, va_rf]
  · simp [updV, va_up, hq]
/-- new cells -/
theorem x_new {ci index N : Nat} {fs : List Value} {C : String} {T : u_T} {ty : Nat → FieldType} (hd : decode E.1.2.1 pc = .ok (.new index, 3)) (hcl : Cond.classLink E.1.1.cls index C ∈ xT) (hins : Cond.instantiable C N ∈ xT) (hii : Cond.initialized C ∈ xT) (hin : ∀ w ∈ u_ws C T N, w ∈ xT) (hty : ∀ k, k < N → parseFieldDescriptor (T k).2.2.1 = some (ty k)) (hc : vwCl[ci]? = some (C, T, N)) (hfs : ∀ ad : Nat → Nat, ∀ j, j < N → defaultValue (ty j) = vp_V (fs.map (xv ad)) j) (hB : M.2.1 + 1 ≤ E.2.2.1.1 ∧ M.2.2 + N ≤ E.2.2.1.2) (hn : M.2.1 < 1000000) (kk : Ex E (pc + 3) L (.ref M.2.1 :: S) (xu M.1 M.2.1 (.inr (ci, fs)), M.2.1 + 1, M.2.2 + N) Q) : Ex E pc L S M Q := by
  intro p l e R s m args below meth c D dA ad h0 nb wb Qf cX K H locs ls I hl
  obtain ⟨hx, hb, hml, hown, hts, hret, hini, hfr, hlo, hce, hsl, had, hh0, hG, hZ⟩ := id cX
  obtain ⟨i1, i2, i3, i4, i5, i6, i7⟩ := id I
  have hKn := hG.1.1 ci _ hc
  refine W.newcK hx hb hown (hts _ hcl) (hts _ hins) (hts _ hii) rfl hd (by omega) (by omega) hKn.2.1 i2 fun H1 kC hkC e1 z1 o1 => ?_
  have k := kk p l e R s m args below meth c D dA ad h0 nb wb Qf cX K H1 locs ls (xI_new had I hn (c := .inr (ci, fs)) (k := N) ?_ (by rw [z1, i2]) (fun q hq => o1 q (by rw [← i2]; exact hq))) hl
  · refine W.cs (by dsimp only; omega) (by dsimp only; omega) (W.eq ?_ k)
    show F0 m (pc + 3) ls (.ref (h0 + M.2.1) :: S.map (xv ad)) = F0 m (pc + 3) ls (.ref (ad M.2.1) :: S.map (xv ad))
    rw [had _ hn]
  · refine ⟨_, hc, ?_⟩
    rw [show ad M.2.1 = h0 + M.2.1 from had _ hn]
    exact (u_born ty hts hin hKn hkC e1 hty).to (hfs ad)
def xat : ArrayType → Nat
  | .int => 0
  | .char => 1
  | _ => 2
theorem x_newa {aty : ArrayType} {t N : Nat} {n : Int32} (hd : decode E.1.2.1 pc = .ok (.newarray aty, 2)) (ht : t = 0 ∧ aty = .int ∨ t = 1 ∧ aty = .char ∨ t = 2 ∧ aty = .boolean) (hw : Cond.arrayClass (newarray.typeOf aty) ∈ xT) (h0n : ¬ n < 0) (hN : n.toNatClampNeg = N) (hby : N ≤ 1000000) (hB : M.2.1 + 1 ≤ E.2.2.1.1 ∧ M.2.2 + N ≤ E.2.2.1.2) (hn : M.2.1 < 1000000) (kk : Ex E (pc + 2) L (.ref M.2.1 :: S) (xu M.1 M.2.1 (.inl (t, N, .inl (fun _ => 0))), M.2.1 + 1, M.2.2 + N) Q) : Ex E pc L (.int n :: S) M Q := by
  intro p l e R s m args below meth c D dA ad h0 nb wb Qf cX K H locs ls I hl
  obtain ⟨hx, hb, hml, hown, hts, hret, hini, hfr, hlo, hce, hsl, had, hh0, hG, hZ⟩ := id cX
  obtain ⟨i1, i2, i3, i4, i5, i6, i7⟩ := id I
  refine va_newaK hx hb (hts _ hw) rfl hd rfl h0n hN (by rcases ht with ⟨-, rfl⟩ | ⟨-, rfl⟩ | ⟨-, rfl⟩ <;> simp [newarray.typeOf, componentBytes] <;> omega) (by omega) (by omega) i2 fun H1 cA e1 z1 o1 hAr hNm => ?_
  have hcA : cA = dA t := by
    rcases ht with ⟨rfl, rfl⟩ | ⟨rfl, rfl⟩ | ⟨rfl, rfl⟩
    · exact Option.some.inj (hNm.symm.trans (hG.1.2 0 _ rfl).2)
    · exact Option.some.inj (hNm.symm.trans (hG.1.2 1 _ rfl).2)
    · exact Option.some.inj (hNm.symm.trans (hG.1.2 2 _ rfl).2)
  have k := kk p l e R s m args below meth c D dA ad h0 nb wb Qf cX K H1 locs ls (xI_new had I hn (c := .inl (t, N, .inl (fun _ => 0))) (k := N) ?_ (by rw [z1, i2]) (fun q hq => o1 q (by rw [← i2]; exact hq))) hl
  · refine W.cs (by dsimp only; omega) (by dsimp only; omega) (W.eq ?_ k)
    show F0 m (pc + 2) ls (.ref (h0 + M.2.1) :: S.map (xv ad)) = F0 m (pc + 2) ls (.ref (ad M.2.1) :: S.map (xv ad))
    rw [had _ hn]
  · show H1[ad M.2.1]? = some (vp_cell (dA t) (N, .inl (fun _ => 0)))
    rw [show ad M.2.1 = h0 + M.2.1 from had _ hn, e1, hcA]
    rcases ht with ⟨rfl, rfl⟩ | ⟨rfl, rfl⟩ | ⟨rfl, rfl⟩ <;> rfl
theorem x_anew {index N : Nat} {n : Int32} (hd : decode E.1.2.1 pc = .ok (.anewarray index, 3)) (hcl : Cond.classLink E.1.1.cls index RX1 ∈ xT) (h0n : ¬ n < 0) (hN : n.toNatClampNeg = N) (hby : N ≤ 1000000) (hB : M.2.1 + 1 ≤ E.2.2.1.1 ∧ M.2.2 + N ≤ E.2.2.1.2) (hn : M.2.1 < 1000000) (kk : Ex E (pc + 3) L (.ref M.2.1 :: S) (xu M.1 M.2.1 (.inl (3, N, .inr (.inr (.inr (.inr (fun _ => none)))))), M.2.1 + 1, M.2.2 + N) Q) : Ex E pc L (.int n :: S) M Q := by
  intro p l e R s m args below meth c D dA ad h0 nb wb Qf cX K H locs ls I hl
  obtain ⟨hx, hb, hml, hown, hts, hret, hini, hfr, hlo, hce, hsl, had, hh0, hG, hZ⟩ := id cX
  obtain ⟨i1, i2, i3, i4, i5, i6, i7⟩ := id I
  subst hN
  refine W.anew hx hb hown (hts _ hcl) (va_AO.use hG.2.2.2.2.2.2) rfl hd rfl h0n (by omega) (by omega) (by omega) fun cA kA comp f1 f2 f3 f4 => ?_
  generalize hH1 : H.push ({ cls := cA, slots := Array.replicate n.toNatClampNeg .null, vm := .none } : Cell) = H1
  have z1 : H1.size = H.size + 1 := by rw [← hH1, Array.size_push]
  have e1 : H1[H.size]? = some (arrV cA n.toNatClampNeg (fun _ => .null)) := by rw [← hH1, Array.getElem?_push_size, ← arrV_new]
  have o1 : ∀ q : Nat, q < H.size → H1[q]? = H[q]? := fun q hq => by rw [← hH1, Array.getElem?_push, if_neg (Nat.ne_of_lt hq)]
  have hcA : cA = dA 3 := by
    obtain ⟨_, _, -, -, -, k4⟩ := (hG.1.2 3 _ rfl).2
    exact Option.some.inj (f1.symm.trans k4)
  have k := kk p l e R s m args below meth c D dA ad h0 nb wb Qf cX K H1 locs ls (xI_new had I hn (c := .inl (3, n.toNatClampNeg, .inr (.inr (.inr (.inr (fun _ => none)))))) (k := n.toNatClampNeg) ?_ z1 o1) hl
  · refine W.cs (by dsimp only; omega) (by dsimp only; omega) (W.eq ?_ k)
    show F0 m (pc + 3) ls (.ref H.size :: S.map (xv ad)) = F0 m (pc + 3) ls (.ref (ad M.2.1) :: S.map (xv ad))
    rw [had _ hn, i2]
  · show H1[ad M.2.1]? = some (vp_cell (dA 3) _)
    rw [show ad M.2.1 = H.size by rw [had _ hn, i2], e1, hcA]
    rfl
theorem x_obj {a index : Nat} (hd : decode E.1.2.1 pc = .ok (.invokespecial index, 3)) (hl1 : Cond.methodLink E.1.1.cls index Lib.objectInit ∈ xT) (h2 : Cond.instanceMethod Lib.objectInit ∈ xT) (h3 : Cond.code Lib.objectInit ⟨#[0xb1]⟩ 1 none ∈ xT) (hS : S.length ≤ 4) (hdp : 1 ≤ E.2.1) (kk : Ex E (pc + 3) L S M Q) : Ex E pc L (.ref a :: S) M Q := by
  intro p l e R s m args below meth c D dA ad h0 nb wb Qf cX K H locs ls I hl
  obtain ⟨hx, hb, hml, hown, hts, hret, hini, hfr, hlo, hce, hsl, had, hh0, hG, hZ⟩ := id cX
  refine W.objInit hx hb hown (hts _ hl1) (hts _ h2) (hts _ h3) rfl (by rw [hml]; exact hl.1) rfl hd (by omega) ?_ (kk p l e R s m args below meth c D dA ad h0 nb wb Qf cX K H locs ls I hl)
  have h9 : ((S.map (xv ad)).map fun v => v.category).sum ≤ 8 := xcat_sum hS
  show 2 * 0 + _ + 12 ≤ _
  omega
end XP
end
section
/-! ===== Ex: the JDK's natives, statics, texts, the script; contracts and calls ===== -/
section XJ
variable {E : xE} {pc : Nat} {L S : List Value} {M : xM} {Q Q' : Option Value → xM → Prop}
/-- System.arraycopy of ints, from 0 to 0 -/
theorem x_copy {a0 a n0 n1 index : Nat} {f g : Nat → Int32} {n : Int32} (hd : decode E.1.2.1 pc = .ok (.invokestatic index, 3)) (hw : Cond.methodLink E.1.1.cls index arraycopyName ∈ xT) (hnat : Cond.native arraycopyName ∈ xT) (hstat : Cond.static arraycopyName ∈ xT) (hii : Cond.initialized "java/lang/System" ∈ xT) (ha0 : a0 < M.2.1) (hM0 : M.1 a0 = .inl (0, n0, .inl f)) (ha : a < M.2.1) (hM : M.1 a = .inl (0, n1, .inl g)) (h3 : ¬ n < 0) (h4 : n.toNatClampNeg ≤ n0) (h5 : n.toNatClampNeg ≤ n1) (hS : S.length ≤ 4) (hdp : 1 ≤ E.2.1) (kk : Ex E (pc + 3) L S (xu M.1 a (.inl (0, n1, .inl (va_cpy f g 0 0 n.toNatClampNeg))), M.2) Q) : Ex E pc L (.int n :: .int 0 :: .ref a :: .int 0 :: .ref a0 :: S) M Q := by
  intro p l e R s m args below meth c D dA ad h0 nb wb Qf cX K H locs ls I hl
  obtain ⟨hx, hb, hml, hown, hts, hret, hini, hfr, hlo, hce, hsl, had, hh0, hG, hZ⟩ := id cX
  have nn : ∀ z : Int32, ¬ z < 0 → z.toInt = (z.toNatClampNeg : Int) := by
    intro z hz
    have hz0 : (0 : Int) ≤ z.toInt := by
      have := Int32.not_lt.mp hz
      simpa using Int32.le_iff_toInt_le.mp this
    show z.toInt = ((z.toInt.toNat : Nat) : Int)
    omega
  have e00 : (0 : Int32).toNatClampNeg = 0 := by decide
  have h1 : ¬ (0 : Int32) < 0 := by decide
  have hS9 := xcat_sum (ad := ad) hS
  have hwd : nativeFrameWords "java/lang/System" "arraycopy" 5 + 11 ≤ 56 := by decide +kernel
  have hP0 := I.1 a0 ha0
  rw [hM0] at hP0
  have hP1 := I.1 a ha
  rw [hM] at hP1
  intro T hT X
  have hc0 : H[ad a0]? = some (vp_cell (dA 0) (n0, .inl f)) := hP0
  have hc1 : H[ad a]? = some (vp_cell (dA 0) (n1, .inl g)) := hP1
  obtain ⟨-, k0, hk0, cm0, hkk0⟩ := (hG.1.2 0 _ rfl).1 n0 (fun j => .int (f j))
  obtain ⟨-, k1, hk1, cm1, hkk1⟩ := (hG.1.2 0 _ rfl).1 n1 (fun j => .int (g j))
  obtain ⟨vm', X', step⟩ := X.arraycopy hx hown (hts _ hw) (hts _ hnat) (hts _ hstat) (hts _ hii) (src := ad a0) (dst := ad a) (cs := vp_cell (dA 0) (n0, .inl f)) (cd := vp_cell (dA 0) (n1, .inl g)) (srcPos := 0) (destPos := 0) (n := n) (by rw [hT]; exact hc0) (by rw [hT]; exact hc1)
    (fun _ h => by cases h) (fun _ h => by cases h) (fun h => by cases h) (fun h => by cases h) hk0 hk1 hkk0 hkk1 (by simp) h1 h1 h3
    (by rw [nn 0 h1, nn n h3, e00]; show ¬ _ > ((arrV (dA 0) n0 (fun j => .int (f j))).slots.size : Int); rw [arrV_size]; omega)
    (by rw [nn 0 h1, nn n h3, e00]; show ¬ _ > ((arrV (dA 0) n1 (fun j => .int (g j))).slots.size : Int); rw [arrV_size]; omega)
    (fun vm₁ _ i hi => by
      have e : (vp_cell (dA 0) (n0, .inl f)).slots.getD ((0 : Int32).toNatClampNeg + i) .null = .int (f (0 + i)) := by
        rw [e00]
        show (arrV (dA 0) n0 (fun j => .int (f j))).slots.getD _ _ = _
        rw [Array.getD_eq_getD_getElem?, arrV_read _ _ (by omega)]
        rfl
      refine ⟨?_, ?_⟩
      · rw [e]
        rfl
      · rw [e]
        exact trivial)
    (g := F0 m pc ls (.int n :: .int 0 :: .ref (ad a) :: .int 0 :: .ref (ad a0) :: S.map (xv ad))) rfl (by rw [hml]; exact hl.1) (rest := S.map (xv ad)) rfl (by rw [hb]; exact hd) (by omega) (by show 2 * 0 + _ + _ ≤ _; omega)
  have e1 : copied (vp_cell (dA 0) (n0, .inl f)) (vp_cell (dA 0) (n1, .inl g)) 0 0 n = vp_cell (dA 0) (n1, .inl (va_cpy f g 0 0 n.toNatClampNeg)) := va_copied (fun z => .int z) (dA 0) (dA 0) f g (sp := 0) (dp := 0) (n := n.toNatClampNeg) (by omega)
  rw [e1] at X' step
  have hl9 : ad a < H.size := (Array.getElem?_eq_some_iff.mp hc1).1
  have hheap : ((T.setVm vm').setCell (ad a) (vp_cell (dA 0) (n1, .inl (va_cpy f g 0 0 n.toNatClampNeg)))).heap = H.setIfInBounds (ad a) (vp_cell (dA 0) (n1, .inl (va_cpy f g 0 0 n.toNatClampNeg))) := by rw [← hT]; rfl
  have oq : ∀ q : Nat, q ≠ ad a → (H.setIfInBounds (ad a) (vp_cell (dA 0) (n1, .inl (va_cpy f g 0 0 n.toNatClampNeg))))[q]? = H[q]? := fun q hq => by simp [Array.getElem?_setIfInBounds, Ne.symm hq]
  obtain ⟨t, a1, b1⟩ := kk p l e R s m args below meth c D dA ad h0 nb wb Qf cX K _ _ ls (xI_put had I ha (H1 := H.setIfInBounds (ad a) (vp_cell (dA 0) (n1, .inl (va_cpy f g 0 0 n.toNatClampNeg)))) (show (H.setIfInBounds (ad a) _)[ad a]? = some _ by simp [Array.getElem?_setIfInBounds, hl9]) (by simp) oq (fun l h => by
      obtain ⟨z, -, hz⟩ := List.mem_map.mp h
      rw [← hz])) hl _ hheap X'
  exact ⟨t, step t a1, b1⟩
theorem x_max {index : Nat} {x y : Int32} (hd : decode E.1.2.1 pc = .ok (.invokestatic index, 3)) (hw : Cond.methodLink E.1.1.cls index Lib.Math.max.name ∈ xT) (h1 : Cond.static Lib.Math.max.name ∈ xT) (h2 : Cond.initialized "java/lang/Math" ∈ xT) (h3 : Cond.code Lib.Math.max.name Lib.Math.max.code 2 (some .int) ∈ xT) (hS : S.length ≤ 4) (hdp : 1 ≤ E.2.1) (hB : M.2.1 ≤ E.2.2.1.1 ∧ M.2.2 ≤ E.2.2.1.2) (kk : Ex E (pc + 3) L (.int (if x < y then y else x) :: S) M Q) : Ex E pc L (.int y :: .int x :: S) M Q := by
  intro p l e R s m args below meth c D dA ad h0 nb wb Qf cX K H locs ls I hl
  obtain ⟨hx, hb, hml, hown, hts, hret, hini, hfr, hlo, hce, hsl, had, hh0, hG, hZ⟩ := id cX
  have hS9 := xcat_sum (ad := ad) hS
  exact va_mmax hx hb (by rw [hml]; exact hl.1.symm) hown (hts _ hw) (hts _ h1) (hts _ h2) (hts _ h3) (by omega) (by omega) (by omega) (by omega) hd (kk p l e R s m args below meth c D dA ad h0 nb wb Qf cX K H locs ls I hl)
theorem x_min {index : Nat} {x y : Int32} (hd : decode E.1.2.1 pc = .ok (.invokestatic index, 3)) (hw : Cond.methodLink E.1.1.cls index Lib.Math.min.name ∈ xT) (h1 : Cond.static Lib.Math.min.name ∈ xT) (h2 : Cond.initialized "java/lang/Math" ∈ xT) (h3 : Cond.code Lib.Math.min.name Lib.Math.min.code 2 (some .int) ∈ xT) (hS : S.length ≤ 4) (hdp : 1 ≤ E.2.1) (hB : M.2.1 ≤ E.2.2.1.1 ∧ M.2.2 ≤ E.2.2.1.2) (kk : Ex E (pc + 3) L (.int (if y < x then y else x) :: S) M Q) : Ex E pc L (.int y :: .int x :: S) M Q := by
  intro p l e R s m args below meth c D dA ad h0 nb wb Qf cX K H locs ls I hl
  obtain ⟨hx, hb, hml, hown, hts, hret, hini, hfr, hlo, hce, hsl, had, hh0, hG, hZ⟩ := id cX
  have hS9 := xcat_sum (ad := ad) hS
  exact va_mmin hx hb (by rw [hml]; exact hl.1.symm) hown (hts _ hw) (hts _ h1) (hts _ h2) (hts _ h3) (by omega) (by omega) (by omega) (by omega) hd (kk p l e R s m args below meth c D dA ad h0 nb wb Qf cX K H locs ls I hl)
theorem xS_of {D : va_G} {dA : Nat → ClassId} {ad : Nat → Nat} {h0 nb wb : Nat} {s : State} {M : xM} {H : Heap} {locs : List Loc} (hh0 : s.heap.size = h0 + nb) (I : xI D dA ad h0 nb wb s M H locs) : va_S (fun q => h0 ≤ q) s.heap H locs := ⟨by have h1 := I.2.1; have h2 := I.2.2.2.2.1; omega, fun q _ h => I.2.2.1 q (Nat.lt_of_not_le h), I.2.2.2.1⟩
/-- the texts: a constant, its bytes, their number, a byte; the two statics -/
theorem x_ldcs {i index : Nat} (hd : decode E.1.2.1 pc = .ok (.ldc index, 2)) (ho : E.1.1.cls = RX7) (hi : i < 8) (hx9 : xsi.getD i 0 = index) (kk : Ex E (pc + 2) L (.ref (1000001 + i) :: S) M Q) : Ex E pc L S M Q := by
  intro p l e R s m args below meth c D dA ad h0 nb wb Qf cX K H locs ls I hl
  obtain ⟨hx, hb, hml, hown, hts, hret, hini, hfr, hlo, hce, hsl, had, hh0, hG, hZ⟩ := id cX
  have h := hG.2.2.2.1 i hi
  rw [hx9] at h
  rw [ho] at hown
  exact va_ldcS hx hb hown h hd (kk p l e R s m args below meth c D dA ad h0 nb wb Qf cX K H locs ls I hl)
theorem x_strval {i index : Nat} (hd : decode E.1.2.1 pc = .ok (.getfield index, 3)) (hw : Cond.fieldLink E.1.1.cls index "java/lang/String" "value" "[B" ∈ xT) (hi : i < 8) (kk : Ex E (pc + 3) L (.ref (1000101 + i) :: S) M Q) : Ex E pc L (.ref (1000001 + i) :: S) M Q := by
  intro p l e R s m args below meth c D dA ad h0 nb wb Qf cX K H locs ls I hl
  obtain ⟨hx, hb, hml, hown, hts, hret, hini, hfr, hlo, hce, hsl, had, hh0, hG, hZ⟩ := id cX
  obtain ⟨cf, k, i', f, cell, h1, h2, h3, h4, h5, h6⟩ := (hG.2.2.1.1 i hi).2.2.1
  exact W.getf hx hb hown (hts _ hw) h1 h2 (by rw [I.2.2.1 _ (Nat.lt_of_not_le h6)]; exact h3) h4 (v := .ref (ad (1000101 + i))) h5 rfl rfl hd (kk p l e R s m args below meth c D dA ad h0 nb wb Qf cX K H locs ls I hl)
theorem x_strcod {i index : Nat} (hd : decode E.1.2.1 pc = .ok (.getfield index, 3)) (hw : Cond.fieldLink E.1.1.cls index "java/lang/String" "coder" "B" ∈ xT) (hi : i < 8) (kk : Ex E (pc + 3) L (.int 0 :: S) M Q) : Ex E pc L (.ref (1000001 + i) :: S) M Q := by
  intro p l e R s m args below meth c D dA ad h0 nb wb Qf cX K H locs ls I hl
  obtain ⟨hx, hb, hml, hown, hts, hret, hini, hfr, hlo, hce, hsl, had, hh0, hG, hZ⟩ := id cX
  obtain ⟨cf, k, i', f, cell, h1, h2, h3, h4, h5, h6⟩ := (hG.2.2.1.1 i hi).2.1
  exact W.getf hx hb hown (hts _ hw) h1 h2 (by rw [I.2.2.1 _ (Nat.lt_of_not_le h6)]; exact h3) h4 (v := .int 0) h5 rfl rfl hd (kk p l e R s m args below meth c D dA ad h0 nb wb Qf cX K H locs ls I hl)
theorem xT_kept {D : va_G} {dA : Nat → ClassId} {ad : Nat → Nat} {h0 nb wb : Nat} {s : State} {M : xM} {H : Heap} {locs : List Loc} (I : xI D dA ad h0 nb wb s M H locs) {ty : FieldType} {t N : Nat} {f : Nat → Value} (h : va_T ty t N f (fun q => h0 ≤ q) s s.heap) : va_T ty t N f (fun q => h0 ≤ q) s H := by
  obtain ⟨cell, h1, h2, h3, h4, h5, h6, h7⟩ := h
  exact ⟨cell, by rw [I.2.2.1 _ (Nat.lt_of_not_le h7)]; exact h1, h2, h3, h4, h5, h6, h7⟩
theorem x_bytlen {i : Nat} (hd : decode E.1.2.1 pc = .ok (.arraylength, 1)) (hi : i < 8) (kk : Ex E (pc + 1) L (.int (nI (xlen.getD i 0)) :: S) M Q) : Ex E pc L (.ref (1000101 + i) :: S) M Q := by
  intro p l e R s m args below meth c D dA ad h0 nb wb Qf cX K H locs ls I hl
  obtain ⟨hx, hb, hml, hown, hts, hret, hini, hfr, hlo, hce, hsl, had, hh0, hG, hZ⟩ := id cX
  obtain ⟨cell, h1, h2, h3, h4, h5, h6, h7⟩ := xT_kept I (hG.2.2.1.1 i hi).2.2.2
  exact W.alen hx hb h1 h2 (by exact h5) rfl rfl hd (kk p l e R s m args below meth c D dA ad h0 nb wb Qf cX K H locs ls I hl)
theorem x_byt {i : Nat} {j : Int32} (hd : decode E.1.2.1 pc = .ok (.baload, 1)) (hi : i < 8) (hj : vp_in j (xlen.getD i 0)) (kk : Ex E (pc + 1) L (.int ((xbyt.getD i []).getD j.toNatClampNeg 0) :: S) M Q) : Ex E pc L (.int j :: .ref (1000101 + i) :: S) M Q := by
  intro p l e R s m args below meth c D dA ad h0 nb wb Qf cX K H locs ls I hl
  obtain ⟨hx, hb, hml, hown, hts, hret, hini, hfr, hlo, hce, hsl, had, hh0, hG, hZ⟩ := id cX
  obtain ⟨cell, h1, h2, h3, h4, h5, h6, h7⟩ := xT_kept I (hG.2.2.1.1 i hi).2.2.2
  have hlt : j.toNatClampNeg < xlen.getD i 0 := Nat.not_le.mp fun q => hj (Or.inr q)
  have hin' : ¬ (j < 0 ∨ cell.slots.size ≤ j.toNatClampNeg) := by
    intro q
    rcases q with q | q
    · exact hj (Or.inl q)
    · omega
  exact W.bald (v := .int ((xbyt.getD i []).getD j.toNatClampNeg 0)) hx hb h1 h2 h3 hin' (h6 _ hlt) rfl rfl hd (kk p l e R s m args below meth c D dA ad h0 nb wb Qf cX K H locs ls I hl)
theorem x_getcs {index : Nat} (hd : decode E.1.2.1 pc = .ok (.getstatic index, 3)) (hw : Cond.fieldLink E.1.1.cls index "java/lang/String" "COMPACT_STRINGS" "Z" ∈ xT) (kk : Ex E (pc + 3) L (.int 1 :: S) M Q) : Ex E pc L S M Q := by
  intro p l e R s m args below meth c D dA ad h0 nb wb Qf cX K H locs ls I hl
  obtain ⟨hx, hb, hml, hown, hts, hret, hini, hfr, hlo, hce, hsl, had, hh0, hG, hZ⟩ := id cX
  exact va_gets hx hb hG.2.2.2.2.1 (xS_of hh0 I) hown (hts _ hw) (fun _ h => h) hd (kk p l e R s m args below meth c D dA ad h0 nb wb Qf cX K H locs ls I hl)
theorem x_getfm {index : Nat} (hd : decode E.1.2.1 pc = .ok (.getstatic index, 3)) (hw : Cond.fieldLink E.1.1.cls index "jdk/internal/util/Preconditions" "SIOOBE_FORMATTER" xFm ∈ xT) (k1 : Ex E (pc + 3) L (.null :: S) M Q) (k2 : Ex E (pc + 3) L (.ref 1000200 :: S) M Q) : Ex E pc L S M Q := by
  intro p l e R s m args below meth c D dA ad h0 nb wb Qf cX K H locs ls I hl
  obtain ⟨hx, hb, hml, hown, hts, hret, hini, hfr, hlo, hce, hsl, had, hh0, hG, hZ⟩ := id cX
  obtain ⟨v, h6, h7⟩ := hG.2.2.2.2.2.1
  rcases h7 with rfl | rfl
  · exact va_gets hx hb h6 (xS_of hh0 I) hown (hts _ hw) (fun _ h => h) hd (k1 p l e R s m args below meth c D dA ad h0 nb wb Qf cX K H locs ls I hl)
  · exact va_gets hx hb h6 (xS_of hh0 I) hown (hts _ hw) (fun _ h => h) hd (k2 p l e R s m args below meth c D dA ad h0 nb wb Qf cX K H locs ls I hl)
/-- the script -/
theorem x_slen {Z : Nat × (Nat → Int32)} (hd : decode E.1.2.1 pc = .ok (.arraylength, 1)) (hz : E.2.2.2 = some Z) (kk : Ex E (pc + 1) L (.int (nI Z.1) :: S) M Q) : Ex E pc L (.ref 1000000 :: S) M Q := by
  intro p l e R s m args below meth c D dA ad h0 nb wb Qf cX K H locs ls I hl
  obtain ⟨hx, hb, hml, hown, hts, hret, hini, hfr, hlo, hce, hsl, had, hh0, hG, hZ⟩ := id cX
  obtain ⟨hX, hlt⟩ := hZ Z hz
  exact va_slen hx hb hX (by omega) (Nat.not_le.mpr hlt) (xS_of hh0 I) hd (kk p l e R s m args below meth c D dA ad h0 nb wb Qf cX K H locs ls I hl)
theorem x_sld {Z : Nat × (Nat → Int32)} {i : Int32} (hd : decode E.1.2.1 pc = .ok (.iaload, 1)) (hz : E.2.2.2 = some Z) (hi : vp_in i Z.1) (kk : Ex E (pc + 1) L (.int (Z.2 i.toNatClampNeg) :: S) M Q) : Ex E pc L (.int i :: .ref 1000000 :: S) M Q := by
  intro p l e R s m args below meth c D dA ad h0 nb wb Qf cX K H locs ls I hl
  obtain ⟨hx, hb, hml, hown, hts, hret, hini, hfr, hlo, hce, hsl, had, hh0, hG, hZ⟩ := id cX
  obtain ⟨hX, hlt⟩ := hZ Z hz
  exact va_sld hx hb hX (by omega) (Nat.not_le.mpr hlt) (xS_of hh0 I) hi hd (kk p l e R s m args below meth c D dA ad h0 nb wb Qf cX K H locs ls I hl)
/-- returns -/
theorem x_ret (hd : decode E.1.2.1 pc = .ok (.return_, 1)) (hr : E.1.2.2.2 = none) (hq : Q none M) : Ex E pc L [] M Q := by
  intro p l e R s m args below meth c D dA ad h0 nb wb Qf cX K H locs ls I hl
  obtain ⟨hx, hb, hml, hown, hts, hret, hini, hfr, hlo, hce, hsl, had, hh0, hG, hZ⟩ := id cX
  exact K pc ls none M H locs ⟨hd, hr⟩ hq I
theorem x_iret {x : Int32} {ty : FieldType} (hd : decode E.1.2.1 pc = .ok (.ireturn, 1)) (hr : E.1.2.2.2 = some ty) (hn : narrow ty (.int x) = .int x) (hq : Q (some (.int x)) M) : Ex E pc L [.int x] M Q := by
  intro p l e R s m args below meth c D dA ad h0 nb wb Qf cX K H locs ls I hl
  obtain ⟨hx, hb, hml, hown, hts, hret, hini, hfr, hlo, hce, hsl, had, hh0, hG, hZ⟩ := id cX
  exact K pc ls (some (.int x)) M H locs ⟨hd, ty, hr, hn⟩ hq I
theorem x_lret {x : Int64} (hd : decode E.1.2.1 pc = .ok (.lreturn, 1)) (hr : E.1.2.2.2 = some .long) (hq : Q (some (.long x)) M) : Ex E pc L [.long x] M Q := by
  intro p l e R s m args below meth c D dA ad h0 nb wb Qf cX K H locs ls I hl
  obtain ⟨hx, hb, hml, hown, hts, hret, hini, hfr, hlo, hce, hsl, had, hh0, hG, hZ⟩ := id cX
  exact K pc ls (some (.long x)) M H locs ⟨hd, hr⟩ hq I
end XJ
/-! ===== contracts ===== -/
def xws (Y : xY) : List Cond := Cond.code Y.1 Y.2.1 Y.2.2.1 Y.2.2.2 :: xT
def xPc (D : va_G) (dA : Nat → ClassId) (ad : Nat → Nat) (h0 : Nat) (M : xM) (As : List Value) : Array Value → State → Prop := va_Pc (As.map (xv ad)) (fun U => (∀ i, i < M.2.1 → va_at D vwCl (ad i, xe ad dA (M.1 i)) U.heap) ∧ U.heap.size = h0 + M.2.1 ∧ xG D dA ad h0 U U.heap)
def xQc (D : va_G) (dA : Nat → ClassId) (ad : Nat → Nat) (h0 : Nat) (Q : Option Value → xM → Prop) : Array Value → State → Outcome → State → Prop := fun _ st o t => ∃ (v : Option Value) (M' : xM), o = .returned (v.map (xv ad)) ∧ Q v M' ∧ (∀ i, i < M'.2.1 → va_at D vwCl (ad i, xe ad dA (M'.1 i)) t.heap) ∧ t.heap.size = h0 + M'.2.1 ∧ M'.2.1 ≤ 1000000 ∧ ∀ q : Nat, q < h0 → t.heap[q]? = st.heap[q]?
def ExM (d : Nat) (Y : xY) (As : List Value) (M : xM) (B : xB) (Q : Option Value → xM → Prop) : Prop :=
  ∀ (l : Launch) (D : va_G) (dA : Nat → ClassId) (ad : Nat → Nat) (h0 : Nat), (∀ i, i < 1000000 → ad i = h0 + i) →
    Met l Y.1 (xws Y) ({ frames := d, cells := B.1 - M.2.1, slots := B.2 - M.2.2, locals := 64 * d }) (xPc D dA ad h0 M As) (xQc D dA ad h0 Q) (B.1 - M.2.1) (B.2 - M.2.2) (fun q => h0 ≤ q)
def xargs : List Value → List Value
  | [] => []
  | v :: vs => if v.category = 2 then v :: Value.null :: xargs vs else v :: xargs vs
def xpad (n : Nat) (As : List Value) : List Value := xargs As ++ List.replicate (n - (xargs As).length) Value.null
theorem lv_args_mem {ad : Nat → Nat} : ∀ (As : List Value) (i0 j : Nat) (v : Value), (xargs As)[j]? = some v → v ≠ Value.null → (i0 + j, xv ad v) ∈ lv_args i0 (As.map (xv ad)) := by
  intro As
  induction As with
  | nil => intro i0 j v h; cases h
  | cons a As ih =>
    intro i0 j v h hv
    have e : lv_args i0 ((a :: As).map (xv ad)) = (i0, xv ad a) :: lv_args (if a.category = 2 then i0 + 2 else i0 + 1) (As.map (xv ad)) := by
      show (i0, xv ad a) :: lv_args (if (xv ad a).category = 2 then i0 + 2 else i0 + 1) (As.map (xv ad)) = _
      rw [xv_cat]
    rw [e]
    by_cases hc : a.category = 2
    · rw [if_pos hc]
      rw [show xargs (a :: As) = a :: Value.null :: xargs As by rw [xargs, if_pos hc]] at h
      match j, h with
      | 0, h => cases h; exact List.mem_cons_self
      | 1, h => cases h; exact absurd rfl hv
      | j + 2, h =>
        have := ih (i0 + 2) j v h hv
        rw [show i0 + (j + 2) = i0 + 2 + j by omega]
        exact List.mem_cons_of_mem _ this
    · rw [if_neg hc]
      rw [show xargs (a :: As) = a :: xargs As by rw [xargs, if_neg hc]] at h
      match j, h with
      | 0, h => cases h; exact List.mem_cons_self
      | j + 1, h =>
        have := ih (i0 + 1) j v h hv
        rw [show i0 + (j + 1) = i0 + 1 + j by omega]
        exact List.mem_cons_of_mem _ this
theorem xL_args {ad : Nat → Nat} {As : List Value} {n : Nat} {ls : Array Slot} (h : lv_has ls n (lv_args 0 (As.map (xv ad)))) : xL ad (xpad n As) ls n := by
  refine ⟨h.1, h.2.1, fun j v hj hv => ?_⟩
  unfold xpad at hj
  by_cases hl : j < (xargs As).length
  · rw [List.getElem?_append_left hl] at hj
    have := lv_args_mem (ad := ad) As 0 j v hj hv
    rw [Nat.zero_add] at this
    exact h.2.2 _ this
  · rw [List.getElem?_append_right (by omega)] at hj
    rw [List.getElem?_replicate] at hj
    split at hj
    · cases hj; exact absurd rfl hv
    · cases hj
theorem xlg_len {ad : Nat → Nat} : ∀ As : List Value, (lg_sl (As.map (xv ad))).length = (xargs As).length := by
  intro As
  induction As with
  | nil => rfl
  | cons a As ih =>
    show ((if (xv ad a).category = 2 then [Slot.val (xv ad a), Slot.second] else [Slot.val (xv ad a)]) ++ lg_sl (As.map (xv ad))).length = _
    rw [xv_cat, List.length_append, ih, xargs]
    by_cases hc : a.category = 2
    · rw [if_pos hc, if_pos hc]; simp; omega
    · rw [if_neg hc, if_neg hc]; simp; omega
theorem ExM_of {d : Nat} {Y : xY} {As : List Value} {M : xM} {B : xB} {Q : Option Value → xM → Prop} (hy : plainName Y.1.cls = true) (hlen : (xargs As).length ≤ Y.2.2.1) (hn : M.2.1 ≤ 1000000) (hQ : ∀ v M', Q v M' → M'.2.1 ≤ B.1 ∧ M'.2.2 ≤ B.2) (k : Ex (Y, d, B, none) 0 (xpad Y.2.2.1 As) [] M Q) : ExM d Y As M B Q := by
  intro l D dA ad h0 had
  refine Met.ofW (cc := Y.2.1) (maxL := Y.2.2.1) (ret := Y.2.2.2) hy rfl ?_
  intro p e s m args below meth c s₁ Bd hml hv
  obtain ⟨rfl, hat, hsz, hG⟩ := hv
  have hts := atoms_spec (ws := xws Y) Bd.pre
  have hown : s.vm.findClass Y.1.cls = some m.cls := findClass_of_methodNamed Bd.named
  have hin : Y.1.name = "<init>" → meth.name = "<init>" := fun h => by rw [← h]; exact (name_of_methodNamed Bd.named Bd.method).1
  have hl0 := lv_entry (As.map (xv ad)) (n := Y.2.2.1) (by rw [xlg_len]; exact hlen)
  rw [lg_entry_eq]
  generalize (lg_sl (As.map (xv ad)) ++ List.replicate (Y.2.2.1 - (lg_sl (As.map (xv ad))).length) Slot.unset).toArray = ls at hl0 ⊢
  have hr := Bd.returns
  have K := k p l e (headSpec (xws Y) { frames := d, cells := B.1 - M.2.1, slots := B.2 - M.2.2, locals := 64 * d }).room s m (As.map (xv ad)).toArray below meth c D dA ad h0 M.2.1 M.2.2 (MQ below (xQc D dA ad h0 Q) (As.map (xv ad)).toArray s (B.1 - M.2.1) (B.2 - M.2.2) (fun q => h0 ≤ q))
    ⟨Bd.exec, Bd.bytes, hml, hown, fun w hw => hts w (List.mem_cons_of_mem _ hw), hr, hin, Nat.le_refl _, Nat.le_refl _, by show B.1 ≤ B.1 - M.2.1 + M.2.1; omega, by show B.2 ≤ B.2 - M.2.2 + M.2.2; omega, had, hsz, hG, fun Z hz => by cases hz⟩
    (fun pc' ls' v M' H' locs' h1 h2 h3 => by
      obtain ⟨i1, i2, i3, i4, i5, i6, i7⟩ := h3
      have hq : ∀ t : State, t.heap = H' → s.WarmedH t.vm → xQc D dA ad h0 Q (As.map (xv ad)).toArray s (.returned (v.map (xv ad))) t := fun t ht hW => ⟨v, M', rfl, h2, by rw [ht]; exact i1, by rw [ht]; exact i2, i7, by rw [ht]; exact i3⟩
      obtain ⟨b1, b2⟩ := hQ v M' h2
      have hlocks := Bd.notSynchronized
      refine W.widen (k := B.1 - M.2.1) (n := B.2 - M.2.2) (by omega) (by omega) ?_
      cases v with
      | none => exact W.vret Bd.exec Bd.bytes (hr.trans h1.2) hq i4 h1.1
      | some v =>
        cases v with
        | int x => 
          obtain ⟨hd, ty, hty, hnr⟩ := h1
          exact W.zret Bd.exec Bd.bytes (hr.trans hty) hnr hq i4 hd
        | long x => exact W.lret Bd.exec Bd.bytes (hr.trans h1.2) hq i4 h1.1
        | _ => exact h1.elim)
    s.heap [] ls ⟨hat, hsz, fun _ _ => rfl, fun _ h => (by cases h), Nat.le_refl _, Nat.le_refl _, hn⟩ (xL_args hl0)
  refine W.cs (by omega) (by omega) K
end
section
/-! ===== Ex: calls ===== -/
def xMd (y : MethodName) (n : Nat) : Prop := y.cls ≠ "java/lang/invoke/MethodHandle" ∧ y.cls ≠ "java/lang/invoke/VarHandle" ∧ (parseMethodDescriptor y.desc).map (fun d => d.parameters.length) = some n
def xMw (Y : xY) (n : Nat) : Prop := Cond.code Y.1 Y.2.1 Y.2.2.1 Y.2.2.2 ∈ xT ∧ Cond.initialized Y.1.cls ∈ xT ∧ xMd Y.1 n
theorem xgood {w : Cond} (h : w ∈ xT) : w ∈ xT ∧ ((w.onTables && w.keeps) = true ∨ ∃ ty, w = .arrayClass ty) := ⟨h, good_of_word (List.mem_filter.mp h).2⟩
theorem xws_good {Y : xY} {n : Nat} (h : xMw Y n) : GoodIn xT (xws Y) := fun w hw => (List.mem_cons.mp hw).elim (fun e => by rw [e]; exact xgood h.1) xgood
theorem xPc_blind {D : va_G} {dA : Nat → ClassId} {ad : Nat → Nat} {h0 : Nat} {M : xM} {As : List Value} : FrameBlind (xPc D dA ad h0 M As) := fun a U g mk h => ⟨h.1, h.2.1, h.2.2.1, xG_same (u := U) (U := U.calling g mk a) rfl h.2.2.2⟩
section XC
variable {E : xE} {pc : Nat} {L S : List Value} {M : xM} {Q : Option Value → xM → Prop}
theorem xrun {p : Program} {l : Launch} {e : Env} {R : Room} {s : State} {m : MethodId} {args : Array Value} {below : List Frame} {meth : Method} {c : Code} {H : Heap} {locs : List Loc} {cells slots mc ms : Nat} {Qf : State → Prop} {ls : Array Slot} {st0 rest : List Value} {a : Array Value} {D : va_G} {dA : Nat → ClassId} {ad : Nat → Nat} {h0 nb wb : Nat} {Q' : Option Value → xM → Prop} {M1 : xM}
    (I : xI D dA ad h0 nb wb s M1 H locs) (hr : va_Run p l e R s m args below meth c H locs cells slots mc ms (F0 m pc ls st0) rest (xQc D dA ad h0 Q' a) (fun q => h0 ≤ q)) (hn : ∀ v M', Q' v M' → nb ≤ M'.2.1 ∧ wb ≤ M'.2.2)
    (kk : ∀ (v : Option Value) (M' : xM) (H1 : Heap) (locs1 : List Loc), Q' v M' → xI D dA ad h0 nb wb s M' H1 locs1 → W p l e R s m args below meth c H1 locs1 (cells + mc) (slots + ms) Qf (F0 m (pc + 3) ls ((v.map (xv ad)).toList ++ rest))) : W p l e R s m args below meth c H locs cells slots Qf (F0 m pc ls st0) := by
  intro T hT X
  obtain ⟨v, st₀, t, T', L, h0', X', hL, e1, e2, ⟨v', M', hv, hq, hat, hz, hm, hk⟩, st⟩ := hr T hT X
  obtain rfl : v = v'.map (xv ad) := by cases hv; rfl
  obtain ⟨b1, b2⟩ := hn _ _ hq
  obtain ⟨t2, a1, c1⟩ := kk v' M' T'.heap (locs ++ L) hq ⟨fun i hi => by rw [e1]; exact hat i hi, by rw [e1]; exact hz, fun q h => by rw [e1, hk q h, h0']; exact I.2.2.1 q h, fun q hq => by
      rcases List.mem_append.mp hq with h | h
      · exact I.2.2.2.1 q h
      · exact hL q h, b1, b2, hm⟩ T' rfl X'
  exact ⟨t2, st t2 a1, c1⟩
theorem xpre {D : va_G} {dA : Nat → ClassId} {ad : Nat → Nat} {h0 nb wb : Nat} {s : State} {M : xM} {H : Heap} {locs : List Loc} {As : List Value} (hG : xG D dA ad h0 s s.heap) (I : xI D dA ad h0 nb wb s M H locs) : ∀ U : State, U.heap = H → s.WarmedH U.vm → xPc D dA ad h0 M As (As.map (xv ad)).toArray U :=
  fun U hU hW => ⟨rfl, fun i hi => by rw [hU]; exact I.1 i hi, by rw [hU]; exact I.2.1, xG_warm hW (fun a ha => by rw [hU]; exact I.2.2.1 a ha) hG⟩
theorem xstk {ad : Nat → Nat} {As rest : List Value} : ((As.reverse ++ rest).map (xv ad)) = (As.map (xv ad)).reverse ++ rest.map (xv ad) := by
  rw [List.map_append, List.map_reverse]
/-- how a method is linked here -/
def xlm (own : String) (index : Nat) (y : MethodName) : Prop := Cond.methodLink own index y ∈ xT ∨ ∃ host, Cond.methodLinkNest own index y host ∈ xN
def xBk (E : xE) (M : xM) (d : Nat) (Y : xY) (B : xB) (Q' : Option Value → xM → Prop) : Prop := d + 1 ≤ E.2.1 ∧ 8 + (Y.2.2.1 + 11) + 64 * d ≤ 64 * E.2.1 ∧ M.2.1 ≤ B.1 ∧ M.2.2 ≤ B.2 ∧ B.1 ≤ E.2.2.1.1 ∧ B.2 ≤ E.2.2.1.2 ∧ ∀ v M', Q' v M' → M'.2.1 = B.1 ∧ M'.2.2 = B.2
theorem x_callV {index ci n b d N : Nat} {Y : xY} {As fs : List Value} {T : u_T} {B : xB} {Q' : Option Value → xM → Prop} (hd : decode E.1.2.1 pc = .ok (.invokevirtual index, 3)) (hM : ExM d Y (.ref b :: As) M B Q') (hw : xMw Y n) (hlk : xlm E.1.1.cls index Y.1) (hin : Cond.instanceMethod Y.1 ∈ xT) (hse : Cond.selects Y.1.cls Y.1 Y.1 ∈ xT) (hn : As.length = n) (hrec : b < M.2.1 ∧ M.1 b = .inr (ci, fs) ∧ vwCl[ci]? = some (Y.1.cls, T, N)) (hS : S.length ≤ 4) (hB : xBk E M d Y B Q') (kk : ∀ v M', Q' v M' → Ex E (pc + 3) L (v.toList ++ S) M' Q) : Ex E pc L (As.reverse ++ .ref b :: S) M Q := by
  intro p l e R s m args below meth c D dA ad h0 nb wb Qf cX K H locs ls I hl
  obtain ⟨hx, hb, hml, hown, hts, hret, hini, hfr, hlo, hce, hsl, had, hh0, hG, hZ⟩ := id cX
  obtain ⟨b1, b2, b3, b4, b5, b6, b7⟩ := hB
  obtain ⟨i1, i2, i3, i4, i5, i6, i7⟩ := id I
  obtain ⟨r1, r2, r3⟩ := hrec
  have hP := I.1 b r1
  rw [r2] at hP
  obtain ⟨r, g1, cell, q1, q2, q3, q4⟩ := hP
  have hcell : ∃ cellB : Cell, H[ad b]? = some cellB ∧ cellB.vm.isStatics = false ∧ s.vm.findClass Y.1.cls = some cellB.cls := ⟨cell, q1, by rw [q3]; rfl, by rw [q2]; exact (hG.1.1 ci _ r3).2.1⟩
  have hpre : PreV s H Y.1.cls (ad b) (xPc D dA ad h0 M (.ref b :: As)) (As.map (xv ad)) := ⟨xPc_blind, hcell, xpre (As := .ref b :: As) hG I⟩
  have hMe := hM l D dA ad h0 had
  have hR : d + 1 ≤ R.frames ∧ 8 + (Y.2.2.1 + 11) + 64 * d ≤ R.locals := ⟨by omega, by omega⟩
  have hf : M.2.1 - nb + (B.1 - M.2.1) ≤ R.cells ∧ M.2.2 - wb + (B.2 - M.2.2) ≤ R.slots := ⟨by omega, by omega⟩
  have hcat : 2 * (F0 m pc ls ((As.map (xv ad)).reverse ++ .ref (ad b) :: S.map (xv ad))).monitorRoom + ((S.map (xv ad)).map fun v => v.category).sum ≤ 8 := by
    have := xcat_sum (ad := ad) hS
    show 2 * 0 + _ ≤ _
    omega
  refine W.eq (g2 := F0 m pc ls ((As.map (xv ad)).reverse ++ .ref (ad b) :: S.map (xv ad))) (by rw [xstk]; rfl) ?_
  have go : va_Run p l e R s m args below meth c H locs (M.2.1 - nb) (M.2.2 - wb) (B.1 - M.2.1) (B.2 - M.2.2) (F0 m pc ls ((As.map (xv ad)).reverse ++ .ref (ad b) :: S.map (xv ad))) (S.map (xv ad)) (xQc D dA ad h0 Q' (Value.ref (ad b) :: As.map (xv ad)).toArray) (fun q => h0 ≤ q) := by
    have ok : ∀ w ∈ xT, w.before args s = true := hts
    rcases hlk with hlk | ⟨host, hlk⟩
    · exact va_runV (S := ⟨hx, hb, hml, hown, hts⟩) hMe ⟨callB_of n hts (xws_good hw) rfl rfl rfl (hts _ hw.2.1) (hts _ hlk) hw.2.2 hR, hts _ hin, hts _ hse⟩ hpre rfl (by rw [List.length_map]; exact hn) hl.1 rfl hcat hd hf
    · exact va_runVN (S := ⟨hx, hb, hml, hown, hts⟩) hMe ⟨va_cnB n hts (xws_good hw) rfl rfl rfl (hG.2.1 _ hlk) (hts _ hw.2.1) hw.2.2 hR, hts _ hin, hts _ hse⟩ hpre rfl (by rw [List.length_map]; exact hn) hl.1 rfl hcat hd hf
  refine xrun (nb := nb) (wb := wb) (pc := pc) I go (fun v M' h => by obtain ⟨z1, z2⟩ := b7 v M' h; omega) (fun v M' H1 locs1 hq I1 => ?_)
  obtain ⟨z1, z2⟩ := b7 v M' hq
  have K1 := kk v M' hq p l e R s m args below meth c D dA ad h0 nb wb Qf cX K H1 locs1 ls I1 hl
  refine W.cs (by omega) (by omega) (W.eq ?_ K1)
  rw [List.map_append]
  cases v <;> rfl
theorem x_callS {index n d : Nat} {Y : xY} {As : List Value} {B : xB} {Q' : Option Value → xM → Prop} (hd : decode E.1.2.1 pc = .ok (.invokestatic index, 3)) (hM : ExM d Y As M B Q') (hw : xMw Y n) (hlk : xlm E.1.1.cls index Y.1) (hst : Cond.static Y.1 ∈ xT) (hn : As.length = n) (hS : S.length ≤ 4) (hB : xBk E M d Y B Q') (kk : ∀ v M', Q' v M' → Ex E (pc + 3) L (v.toList ++ S) M' Q) : Ex E pc L (As.reverse ++ S) M Q := by
  intro p l e R s m args below meth c D dA ad h0 nb wb Qf cX K H locs ls I hl
  obtain ⟨hx, hb, hml, hown, hts, hret, hini, hfr, hlo, hce, hsl, had, hh0, hG, hZ⟩ := id cX
  obtain ⟨b1, b2, b3, b4, b5, b6, b7⟩ := hB
  obtain ⟨i1, i2, i3, i4, i5, i6, i7⟩ := id I
  have hpre : PreS s H (xPc D dA ad h0 M As) (As.map (xv ad)) := ⟨xPc_blind, xpre hG I⟩
  have hMe := hM l D dA ad h0 had
  have hR : d + 1 ≤ R.frames ∧ 8 + (Y.2.2.1 + 11) + 64 * d ≤ R.locals := ⟨by omega, by omega⟩
  have hf : M.2.1 - nb + (B.1 - M.2.1) ≤ R.cells ∧ M.2.2 - wb + (B.2 - M.2.2) ≤ R.slots := ⟨by omega, by omega⟩
  have hcat : 2 * (F0 m pc ls ((As.map (xv ad)).reverse ++ S.map (xv ad))).monitorRoom + ((S.map (xv ad)).map fun v => v.category).sum ≤ 8 := by
    have := xcat_sum (ad := ad) hS
    show 2 * 0 + _ ≤ _
    omega
  refine W.eq (g2 := F0 m pc ls ((As.map (xv ad)).reverse ++ S.map (xv ad))) (by rw [xstk]) ?_
  have go : va_Run p l e R s m args below meth c H locs (M.2.1 - nb) (M.2.2 - wb) (B.1 - M.2.1) (B.2 - M.2.2) (F0 m pc ls ((As.map (xv ad)).reverse ++ S.map (xv ad))) (S.map (xv ad)) (xQc D dA ad h0 Q' (As.map (xv ad)).toArray) (fun q => h0 ≤ q) := by
    rcases hlk with hlk | ⟨host, hlk⟩
    · exact va_runS (S := ⟨hx, hb, hml, hown, hts⟩) hMe ⟨callB_of n hts (xws_good hw) rfl rfl rfl (hts _ hw.2.1) (hts _ hlk) hw.2.2 hR, hts _ hst⟩ hpre rfl (by rw [List.length_map]; exact hn) hl.1 rfl hcat hd hf
    · exact va_runSN (S := ⟨hx, hb, hml, hown, hts⟩) hMe ⟨va_cnB n hts (xws_good hw) rfl rfl rfl (hG.2.1 _ hlk) (hts _ hw.2.1) hw.2.2 hR, hts _ hst, trivial⟩ hpre rfl (by rw [List.length_map]; exact hn) hl.1 rfl hcat hd hf
  refine xrun (nb := nb) (wb := wb) (pc := pc) I go (fun v M' h => by obtain ⟨z1, z2⟩ := b7 v M' h; omega) (fun v M' H1 locs1 hq I1 => ?_)
  obtain ⟨z1, z2⟩ := b7 v M' hq
  have K1 := kk v M' hq p l e R s m args below meth c D dA ad h0 nb wb Qf cX K H1 locs1 ls I1 hl
  refine W.cs (by omega) (by omega) (W.eq ?_ K1)
  rw [List.map_append]
  cases v <;> rfl
theorem x_callI {index n b d : Nat} {y : MethodName} {cc : ByteArray} {mL : Nat} {As : List Value} {B : xB} {Q' : Option Value → xM → Prop} (hd : decode E.1.2.1 pc = .ok (.invokespecial index, 3)) (hM : ExM d (y, cc, mL, none) (.ref b :: As) M B Q') (hw : xMw (y, cc, mL, none) n) (hlk : xlm E.1.1.cls index y) (hin : Cond.instanceMethod y ∈ xT) (hi : y.name = "<init>") (hn : As.length = n) (hS : S.length ≤ 4) (hB : xBk E M d (y, cc, mL, none) B Q') (kk : ∀ v M', Q' v M' → Ex E (pc + 3) L (v.toList ++ S) M' Q) : Ex E pc L (As.reverse ++ .ref b :: S) M Q := by
  intro p l e R s m args below meth c D dA ad h0 nb wb Qf cX K H locs ls I hl
  obtain ⟨hx, hb, hml, hown, hts, hret, hini, hfr, hlo, hce, hsl, had, hh0, hG, hZ⟩ := id cX
  obtain ⟨b1, b2, b3, b4, b5, b6, b7⟩ := hB
  obtain ⟨i1, i2, i3, i4, i5, i6, i7⟩ := id I
  have hpre : PreS s H (xPc D dA ad h0 M (.ref b :: As)) (.ref (ad b) :: As.map (xv ad)) := ⟨xPc_blind, xpre (As := .ref b :: As) hG I⟩
  have hMe := hM l D dA ad h0 had
  have hR : d + 1 ≤ R.frames ∧ 8 + (mL + 11) + 64 * d ≤ R.locals := ⟨by omega, by dsimp only at b2; omega⟩
  have hf : M.2.1 - nb + (B.1 - M.2.1) ≤ R.cells ∧ M.2.2 - wb + (B.2 - M.2.2) ≤ R.slots := ⟨by omega, by omega⟩
  have hcat : 2 * (F0 m pc ls ((As.map (xv ad)).reverse ++ .ref (ad b) :: S.map (xv ad))).monitorRoom + ((S.map (xv ad)).map fun v => v.category).sum ≤ 8 := by
    have := xcat_sum (ad := ad) hS
    show 2 * 0 + _ ≤ _
    omega
  refine W.eq (g2 := F0 m pc ls ((As.map (xv ad)).reverse ++ .ref (ad b) :: S.map (xv ad))) (by rw [xstk]; rfl) ?_
  have go : va_Run p l e R s m args below meth c H locs (M.2.1 - nb) (M.2.2 - wb) (B.1 - M.2.1) (B.2 - M.2.2) (F0 m pc ls ((As.map (xv ad)).reverse ++ .ref (ad b) :: S.map (xv ad))) (S.map (xv ad)) (xQc D dA ad h0 Q' (Value.ref (ad b) :: As.map (xv ad)).toArray) (fun q => h0 ≤ q) := by
    rcases hlk with hlk | ⟨host, hlk⟩
    · exact va_runI (S := ⟨hx, hb, hml, hown, hts⟩) hMe ⟨callB_of n hts (xws_good hw) rfl rfl rfl (hts _ hw.2.1) (hts _ hlk) hw.2.2 hR, hi, hts _ hin⟩ hpre rfl (by rw [List.length_map]; exact hn) hl.1 rfl hcat hd hf
    · exact va_runIN (S := ⟨hx, hb, hml, hown, hts⟩) hMe ⟨va_cnB n hts (xws_good hw) rfl rfl rfl (hG.2.1 _ hlk) (hts _ hw.2.1) hw.2.2 hR, hi, hts _ hin⟩ hpre rfl (by rw [List.length_map]; exact hn) hl.1 rfl hcat hd hf
  refine xrun (nb := nb) (wb := wb) (pc := pc) I go (fun v M' h => by obtain ⟨z1, z2⟩ := b7 v M' h; omega) (fun v M' H1 locs1 hq I1 => ?_)
  obtain ⟨z1, z2⟩ := b7 v M' hq
  have K1 := kk v M' hq p l e R s m args below meth c D dA ad h0 nb wb Qf cX K H1 locs1 ls I1 hl
  refine W.cs (by omega) (by omega) (W.eq ?_ K1)
  rw [List.map_append]
  cases v <;> rfl
end XC
end
section
/-! ===== the tables' words that the walks use, by their places (written by a program) ===== -/
theorem xT_of {w : Cond} (i : Nat) (h : lw_tbl[i]? = some w ∧ goodWord w = true) : w ∈ xT := List.mem_filter.mpr ⟨List.mem_of_getElem? h.1, h.2⟩
theorem xN_of {w : Cond} (i : Nat) (h : tables_1[i]? = some w ∧ xNw w = true) : w ∈ xN := List.mem_filter.mpr ⟨List.mem_of_getElem? h.1, h.2⟩

theorem iiL : Cond.initialized RL ∈ xT := xT_of 72 (by decide +kernel)
theorem iiX8 : Cond.initialized RX8 ∈ xT := xT_of 73 (by decide +kernel)
theorem iiX7 : Cond.initialized RX7 ∈ xT := xT_of 74 (by decide +kernel)
theorem iiX3 : Cond.initialized RX3 ∈ xT := xT_of 75 (by decide +kernel)
theorem iiX1 : Cond.initialized RX1 ∈ xT := xT_of 76 (by decide +kernel)
theorem iiX2 : Cond.initialized RX2 ∈ xT := xT_of 77 (by decide +kernel)
theorem iiX5 : Cond.initialized RX5 ∈ xT := xT_of 78 (by decide +kernel)
theorem iiX6 : Cond.initialized RX6 ∈ xT := xT_of 79 (by decide +kernel)
theorem iiX0 : Cond.initialized RX0 ∈ xT := xT_of 80 (by decide +kernel)
theorem iiX4 : Cond.initialized RX4 ∈ xT := xT_of 81 (by decide +kernel)
theorem iiX9 : Cond.initialized RX9 ∈ xT := xT_of 82 (by decide +kernel)
theorem iiJ10 : Cond.initialized RJ10 ∈ xT := xT_of 83 (by decide +kernel)
theorem iiJ0 : Cond.initialized RJ0 ∈ xT := xT_of 84 (by decide +kernel)
theorem iiJ1 : Cond.initialized RJ1 ∈ xT := xT_of 85 (by decide +kernel)
theorem iiJ3 : Cond.initialized RJ3 ∈ xT := xT_of 86 (by decide +kernel)
theorem iiJ2 : Cond.initialized RJ2 ∈ xT := xT_of 87 (by decide +kernel)
theorem iiJ9 : Cond.initialized RJ9 ∈ xT := xT_of 88 (by decide +kernel)
theorem iiJ6 : Cond.initialized RJ6 ∈ xT := xT_of 89 (by decide +kernel)
theorem itX8 : Cond.instantiable RX8 10 ∈ xT := xT_of 91 (by decide +kernel)
theorem im_X8_init : Cond.instanceMethod yX8_init ∈ xT := xT_of 93 (by decide +kernel)
theorem cd_X8_init : Cond.code yX8_init cX8_init 1 none ∈ xT := xT_of 94 (by decide +kernel)
theorem im_objinit : Cond.instanceMethod Lib.objectInit ∈ xT := xT_of 96 (by decide +kernel)
theorem cd_objinit : Cond.code Lib.objectInit ⟨#[0xb1]⟩ 1 none ∈ xT := xT_of 97 (by decide +kernel)
theorem itX7 : Cond.instantiable RX7 5 ∈ xT := xT_of 99 (by decide +kernel)
theorem im_X7_init : Cond.instanceMethod yX7_init ∈ xT := xT_of 101 (by decide +kernel)
theorem cd_X7_init : Cond.code yX7_init cX7_init 1 none ∈ xT := xT_of 102 (by decide +kernel)
theorem ac_char : Cond.arrayClass .char ∈ xT := xT_of 122 (by decide +kernel)
theorem itX3 : Cond.instantiable RX3 8 ∈ xT := xT_of 124 (by decide +kernel)
theorem im_X3_init : Cond.instanceMethod yX3_init ∈ xT := xT_of 126 (by decide +kernel)
theorem cd_X3_init : Cond.code yX3_init cX3_init 1 none ∈ xT := xT_of 127 (by decide +kernel)
theorem ac_int : Cond.arrayClass .int ∈ xT := xT_of 172 (by decide +kernel)
theorem itX1 : Cond.instantiable RX1 4 ∈ xT := xT_of 174 (by decide +kernel)
theorem im_X1_init : Cond.instanceMethod yX1_init ∈ xT := xT_of 176 (by decide +kernel)
theorem cd_X1_init : Cond.code yX1_init cX1_init 1 none ∈ xT := xT_of 177 (by decide +kernel)
theorem itX2 : Cond.instantiable RX2 3 ∈ xT := xT_of 199 (by decide +kernel)
theorem im_X2_init : Cond.instanceMethod yX2_init ∈ xT := xT_of 201 (by decide +kernel)
theorem cd_X2_init : Cond.code yX2_init cX2_init 2 none ∈ xT := xT_of 202 (by decide +kernel)
theorem itX5 : Cond.instantiable RX5 2 ∈ xT := xT_of 219 (by decide +kernel)
theorem im_X5_init : Cond.instanceMethod yX5_init ∈ xT := xT_of 221 (by decide +kernel)
theorem cd_X5_init : Cond.code yX5_init cX5_init 2 none ∈ xT := xT_of 222 (by decide +kernel)
theorem ac_boolean : Cond.arrayClass .boolean ∈ xT := xT_of 233 (by decide +kernel)
theorem itX6 : Cond.instantiable RX6 3 ∈ xT := xT_of 235 (by decide +kernel)
theorem im_X6_init : Cond.instanceMethod yX6_init ∈ xT := xT_of 237 (by decide +kernel)
theorem cd_X6_init : Cond.code yX6_init cX6_init 1 none ∈ xT := xT_of 238 (by decide +kernel)
theorem itX0 : Cond.instantiable RX0 3 ∈ xT := xT_of 252 (by decide +kernel)
theorem im_X0_init : Cond.instanceMethod yX0_init ∈ xT := xT_of 254 (by decide +kernel)
theorem cd_X0_init : Cond.code yX0_init cX0_init 1 none ∈ xT := xT_of 255 (by decide +kernel)
theorem itX4 : Cond.instantiable RX4 5 ∈ xT := xT_of 269 (by decide +kernel)
theorem im_X4_init : Cond.instanceMethod yX4_init ∈ xT := xT_of 271 (by decide +kernel)
theorem cd_X4_init : Cond.code yX4_init cX4_init 2 none ∈ xT := xT_of 272 (by decide +kernel)
theorem im_X8_write : Cond.instanceMethod yX8_write ∈ xT := xT_of 326 (by decide +kernel)
theorem se_X8_write : Cond.selects yX8_write.cls yX8_write yX8_write ∈ xT := xT_of 327 (by decide +kernel)
theorem cd_X8_write : Cond.code yX8_write cX8_write 2 (some .int) ∈ xT := xT_of 328 (by decide +kernel)
theorem im_X7_add : Cond.instanceMethod yX7_add ∈ xT := xT_of 331 (by decide +kernel)
theorem cd_X7_add : Cond.code yX7_add cX7_add 2 (some .boolean) ∈ xT := xT_of 332 (by decide +kernel)
theorem im_X8_erase : Cond.instanceMethod yX8_erase ∈ xT := xT_of 334 (by decide +kernel)
theorem se_X8_erase : Cond.selects yX8_erase.cls yX8_erase yX8_erase ∈ xT := xT_of 335 (by decide +kernel)
theorem cd_X8_erase : Cond.code yX8_erase cX8_erase 2 (some .int) ∈ xT := xT_of 336 (by decide +kernel)
theorem im_X8_fault : Cond.instanceMethod yX8_fault ∈ xT := xT_of 338 (by decide +kernel)
theorem se_X8_fault : Cond.selects yX8_fault.cls yX8_fault yX8_fault ∈ xT := xT_of 339 (by decide +kernel)
theorem cd_X8_fault : Cond.code yX8_fault cX8_fault 1 (some .int) ∈ xT := xT_of 340 (by decide +kernel)
theorem im_X7_read : Cond.instanceMethod yX7_read ∈ xT := xT_of 343 (by decide +kernel)
theorem cd_X7_read : Cond.code yX7_read cX7_read 4 (some .int) ∈ xT := xT_of 344 (by decide +kernel)
theorem im_X3_copyFrom : Cond.instanceMethod yX3_copyFrom ∈ xT := xT_of 347 (by decide +kernel)
theorem cd_X3_copyFrom : Cond.code yX3_copyFrom cX3_copyFrom 2 none ∈ xT := xT_of 348 (by decide +kernel)
theorem st_acopy : Cond.static arraycopyName ∈ xT := xT_of 350 (by decide +kernel)
theorem nt_acopy : Cond.native arraycopyName ∈ xT := xT_of 351 (by decide +kernel)
theorem im_X7_step : Cond.instanceMethod yX7_step ∈ xT := xT_of 354 (by decide +kernel)
theorem cd_X7_step : Cond.code yX7_step cX7_step 1 none ∈ xT := xT_of 355 (by decide +kernel)
theorem im_X7_isDigitAt : Cond.instanceMethod yX7_isDigitAt ∈ xT := xT_of 358 (by decide +kernel)
theorem cd_X7_isDigitAt : Cond.code yX7_isDigitAt cX7_isDigitAt 2 (some .boolean) ∈ xT := xT_of 359 (by decide +kernel)
theorem im_X7_isSmallAt : Cond.instanceMethod yX7_isSmallAt ∈ xT := xT_of 362 (by decide +kernel)
theorem cd_X7_isSmallAt : Cond.code yX7_isSmallAt cX7_isSmallAt 2 (some .boolean) ∈ xT := xT_of 363 (by decide +kernel)
theorem im_X7_readClause : Cond.instanceMethod yX7_readClause ∈ xT := xT_of 366 (by decide +kernel)
theorem cd_X7_readClause : Cond.code yX7_readClause cX7_readClause 3 (some .boolean) ∈ xT := xT_of 367 (by decide +kernel)
theorem im_X7_isWord : Cond.instanceMethod yX7_isWord ∈ xT := xT_of 371 (by decide +kernel)
theorem cd_X7_isWord : Cond.code yX7_isWord cX7_isWord 3 (some .boolean) ∈ xT := xT_of 372 (by decide +kernel)
theorem im_J0_length_8abf5 : Cond.instanceMethod yJ0_length_8abf5 ∈ xT := xT_of 374 (by decide +kernel)
theorem se_J0_length_8abf5 : Cond.selects yJ0_length_8abf5.cls yJ0_length_8abf5 yJ0_length_8abf5 ∈ xT := xT_of 375 (by decide +kernel)
theorem cd_J0_length_8abf5 : Cond.code yJ0_length_8abf5 cJ0_length_8abf5 1 (some .int) ∈ xT := xT_of 376 (by decide +kernel)
theorem im_J0_coder_7d493 : Cond.instanceMethod yJ0_coder_7d493 ∈ xT := xT_of 378 (by decide +kernel)
theorem se_J0_coder_7d493 : Cond.selects yJ0_coder_7d493.cls yJ0_coder_7d493 yJ0_coder_7d493 ∈ xT := xT_of 379 (by decide +kernel)
theorem cd_J0_coder_7d493 : Cond.code yJ0_coder_7d493 cJ0_coder_7d493 1 (some .byte) ∈ xT := xT_of 380 (by decide +kernel)
theorem im_J0_charAt_5068e : Cond.instanceMethod yJ0_charAt_5068e ∈ xT := xT_of 384 (by decide +kernel)
theorem se_J0_charAt_5068e : Cond.selects yJ0_charAt_5068e.cls yJ0_charAt_5068e yJ0_charAt_5068e ∈ xT := xT_of 385 (by decide +kernel)
theorem cd_J0_charAt_5068e : Cond.code yJ0_charAt_5068e cJ0_charAt_5068e 2 (some .char) ∈ xT := xT_of 386 (by decide +kernel)
theorem im_J0_isLatin1_aae02 : Cond.instanceMethod yJ0_isLatin1_aae02 ∈ xT := xT_of 388 (by decide +kernel)
theorem se_J0_isLatin1_aae02 : Cond.selects yJ0_isLatin1_aae02.cls yJ0_isLatin1_aae02 yJ0_isLatin1_aae02 ∈ xT := xT_of 389 (by decide +kernel)
theorem cd_J0_isLatin1_aae02 : Cond.code yJ0_isLatin1_aae02 cJ0_isLatin1_aae02 1 (some .boolean) ∈ xT := xT_of 390 (by decide +kernel)
theorem st_J1_charAt_3b067 : Cond.static yJ1_charAt_3b067 ∈ xT := xT_of 392 (by decide +kernel)
theorem cd_J1_charAt_3b067 : Cond.code yJ1_charAt_3b067 cJ1_charAt_3b067 2 (some .char) ∈ xT := xT_of 393 (by decide +kernel)
theorem st_J0_checkIndex_df160 : Cond.static yJ0_checkIndex_df160 ∈ xT := xT_of 395 (by decide +kernel)
theorem cd_J0_checkIndex_df160 : Cond.code yJ0_checkIndex_df160 cJ0_checkIndex_df160 2 none ∈ xT := xT_of 396 (by decide +kernel)
theorem st_J3_checkIndex_8e157 : Cond.static yJ3_checkIndex_8e157 ∈ xT := xT_of 400 (by decide +kernel)
theorem cd_J3_checkIndex_8e157 : Cond.code yJ3_checkIndex_8e157 cJ3_checkIndex_8e157 3 (some .int) ∈ xT := xT_of 401 (by decide +kernel)
theorem st_J2_charAt_3b067 : Cond.static yJ2_charAt_3b067 ∈ xT := xT_of 403 (by decide +kernel)
theorem cd_J2_charAt_3b067 : Cond.code yJ2_charAt_3b067 cJ2_charAt_3b067 2 (some .char) ∈ xT := xT_of 404 (by decide +kernel)
theorem st_J2_checkIndex_2214a : Cond.static yJ2_checkIndex_2214a ∈ xT := xT_of 406 (by decide +kernel)
theorem cd_J2_checkIndex_2214a : Cond.code yJ2_checkIndex_2214a cJ2_checkIndex_2214a 2 none ∈ xT := xT_of 407 (by decide +kernel)
theorem st_J2_length_9d52b : Cond.static yJ2_length_9d52b ∈ xT := xT_of 409 (by decide +kernel)
theorem cd_J2_length_9d52b : Cond.code yJ2_length_9d52b cJ2_length_9d52b 1 (some .int) ∈ xT := xT_of 410 (by decide +kernel)
theorem st_J2_getChar_3b067 : Cond.static yJ2_getChar_3b067 ∈ xT := xT_of 413 (by decide +kernel)
theorem cd_J2_getChar_3b067 : Cond.code yJ2_getChar_3b067 cJ2_getChar_3b067 2 (some .char) ∈ xT := xT_of 414 (by decide +kernel)
theorem im_X3_clear : Cond.instanceMethod yX3_clear ∈ xT := xT_of 423 (by decide +kernel)
theorem cd_X3_clear : Cond.code yX3_clear cX3_clear 1 none ∈ xT := xT_of 424 (by decide +kernel)
theorem im_X7_readSlope : Cond.instanceMethod yX7_readSlope ∈ xT := xT_of 428 (by decide +kernel)
theorem cd_X7_readSlope : Cond.code yX7_readSlope cX7_readSlope 4 (some .boolean) ∈ xT := xT_of 429 (by decide +kernel)
theorem im_X7_readNumber : Cond.instanceMethod yX7_readNumber ∈ xT := xT_of 432 (by decide +kernel)
theorem cd_X7_readNumber : Cond.code yX7_readNumber cX7_readNumber 6 (some .int) ∈ xT := xT_of 433 (by decide +kernel)
theorem im_X3_tilt : Cond.instanceMethod yX3_tilt ∈ xT := xT_of 436 (by decide +kernel)
theorem cd_X3_tilt : Cond.code yX3_tilt cX3_tilt 3 none ∈ xT := xT_of 437 (by decide +kernel)
theorem im_X3_has : Cond.instanceMethod yX3_has ∈ xT := xT_of 440 (by decide +kernel)
theorem cd_X3_has : Cond.code yX3_has cX3_has 2 (some .boolean) ∈ xT := xT_of 441 (by decide +kernel)
theorem im_X7_kindOfWord : Cond.instanceMethod yX7_kindOfWord ∈ xT := xT_of 446 (by decide +kernel)
theorem cd_X7_kindOfWord : Cond.code yX7_kindOfWord cX7_kindOfWord 1 (some .int) ∈ xT := xT_of 447 (by decide +kernel)
theorem im_X7_readStreet : Cond.instanceMethod yX7_readStreet ∈ xT := xT_of 454 (by decide +kernel)
theorem cd_X7_readStreet : Cond.code yX7_readStreet cX7_readStreet 6 (some .boolean) ∈ xT := xT_of 455 (by decide +kernel)
theorem im_X3_add : Cond.instanceMethod yX3_add ∈ xT := xT_of 458 (by decide +kernel)
theorem cd_X3_add : Cond.code yX3_add cX3_add 5 none ∈ xT := xT_of 459 (by decide +kernel)
theorem ac_byte : Cond.arrayClass .byte ∈ xT := xT_of 460 (by decide +kernel)
theorem im_X8_town : Cond.instanceMethod yX8_town ∈ xT := xT_of 462 (by decide +kernel)
theorem se_X8_town : Cond.selects yX8_town.cls yX8_town yX8_town ∈ xT := xT_of 463 (by decide +kernel)
theorem cd_X8_town : Cond.code yX8_town cX8_town 1 (some .int) ∈ xT := xT_of 464 (by decide +kernel)
theorem im_X1_begin : Cond.instanceMethod yX1_begin ∈ xT := xT_of 468 (by decide +kernel)
theorem cd_X1_begin : Cond.code yX1_begin cX1_begin 2 none ∈ xT := xT_of 469 (by decide +kernel)
theorem im_X2_clear : Cond.instanceMethod yX2_clear ∈ xT := xT_of 473 (by decide +kernel)
theorem cd_X2_clear : Cond.code yX2_clear cX2_clear 1 none ∈ xT := xT_of 474 (by decide +kernel)
theorem im_X5_clear : Cond.instanceMethod yX5_clear ∈ xT := xT_of 477 (by decide +kernel)
theorem cd_X5_clear : Cond.code yX5_clear cX5_clear 2 none ∈ xT := xT_of 478 (by decide +kernel)
theorem im_X8_street : Cond.instanceMethod yX8_street ∈ xT := xT_of 480 (by decide +kernel)
theorem se_X8_street : Cond.selects yX8_street.cls yX8_street yX8_street ∈ xT := xT_of 481 (by decide +kernel)
theorem cd_X8_street : Cond.code yX8_street cX8_street 3 (some .int) ∈ xT := xT_of 482 (by decide +kernel)
theorem st_X0_choiceOf : Cond.static yX0_choiceOf ∈ xT := xT_of 485 (by decide +kernel)
theorem cd_X0_choiceOf : Cond.code yX0_choiceOf cX0_choiceOf 3 (some .int) ∈ xT := xT_of 486 (by decide +kernel)
theorem im_X1_driest : Cond.instanceMethod yX1_driest ∈ xT := xT_of 490 (by decide +kernel)
theorem cd_X1_driest : Cond.code yX1_driest cX1_driest 6 (some .int) ∈ xT := xT_of 491 (by decide +kernel)
theorem im_X1_isContent : Cond.instanceMethod yX1_isContent ∈ xT := xT_of 494 (by decide +kernel)
theorem cd_X1_isContent : Cond.code yX1_isContent cX1_isContent 3 (some .boolean) ∈ xT := xT_of 495 (by decide +kernel)
theorem im_X3_wants : Cond.instanceMethod yX3_wants ∈ xT := xT_of 499 (by decide +kernel)
theorem cd_X3_wants : Cond.code yX3_wants cX3_wants 2 (some .int) ∈ xT := xT_of 500 (by decide +kernel)
theorem im_X0_choose : Cond.instanceMethod yX0_choose ∈ xT := xT_of 503 (by decide +kernel)
theorem cd_X0_choose : Cond.code yX0_choose cX0_choose 4 none ∈ xT := xT_of 504 (by decide +kernel)
theorem im_X0_tally : Cond.instanceMethod yX0_tally ∈ xT := xT_of 508 (by decide +kernel)
theorem cd_X0_tally : Cond.code yX0_tally cX0_tally 3 none ∈ xT := xT_of 509 (by decide +kernel)
theorem im_X0_tallyAll : Cond.instanceMethod yX0_tallyAll ∈ xT := xT_of 512 (by decide +kernel)
theorem cd_X0_tallyAll : Cond.code yX0_tallyAll cX0_tallyAll 8 none ∈ xT := xT_of 513 (by decide +kernel)
theorem im_X8_as : Cond.instanceMethod yX8_as ∈ xT := xT_of 515 (by decide +kernel)
theorem se_X8_as : Cond.selects yX8_as.cls yX8_as yX8_as ∈ xT := xT_of 516 (by decide +kernel)
theorem cd_X8_as : Cond.code yX8_as cX8_as 3 (some .int) ∈ xT := xT_of 517 (by decide +kernel)
theorem st_X8_isUnder : Cond.static yX8_isUnder ∈ xT := xT_of 519 (by decide +kernel)
theorem cd_X8_isUnder : Cond.code yX8_isUnder cX8_isUnder 2 (some .boolean) ∈ xT := xT_of 520 (by decide +kernel)
theorem im_X8_day : Cond.instanceMethod yX8_day ∈ xT := xT_of 523 (by decide +kernel)
theorem se_X8_day : Cond.selects yX8_day.cls yX8_day yX8_day ∈ xT := xT_of 524 (by decide +kernel)
theorem cd_X8_day : Cond.code yX8_day cX8_day 1 (some .int) ∈ xT := xT_of 525 (by decide +kernel)
theorem im_X2_remember : Cond.instanceMethod yX2_remember ∈ xT := xT_of 528 (by decide +kernel)
theorem cd_X2_remember : Cond.code yX2_remember cX2_remember 2 none ∈ xT := xT_of 529 (by decide +kernel)
theorem im_X1_copyFrom : Cond.instanceMethod yX1_copyFrom ∈ xT := xT_of 532 (by decide +kernel)
theorem cd_X1_copyFrom : Cond.code yX1_copyFrom cX1_copyFrom 2 none ∈ xT := xT_of 533 (by decide +kernel)
theorem st_J9_min_7cf53 : Cond.static yJ9_min_7cf53 ∈ xT := xT_of 535 (by decide +kernel)
theorem cd_mmin : Cond.code Lib.Math.min.name Lib.Math.min.code 2 (some .int) ∈ xT := xT_of 536 (by decide +kernel)
theorem im_X8_passDay : Cond.instanceMethod yX8_passDay ∈ xT := xT_of 539 (by decide +kernel)
theorem cd_X8_passDay : Cond.code yX8_passDay cX8_passDay 3 (some .int) ∈ xT := xT_of 540 (by decide +kernel)
theorem im_X0_winner : Cond.instanceMethod yX0_winner ∈ xT := xT_of 543 (by decide +kernel)
theorem cd_X0_winner : Cond.code yX0_winner cX0_winner 4 (some .int) ∈ xT := xT_of 544 (by decide +kernel)
theorem im_X1_pass : Cond.instanceMethod yX1_pass ∈ xT := xT_of 547 (by decide +kernel)
theorem cd_X1_pass : Cond.code yX1_pass cX1_pass 4 none ∈ xT := xT_of 548 (by decide +kernel)
theorem im_X1_fall : Cond.instanceMethod yX1_fall ∈ xT := xT_of 551 (by decide +kernel)
theorem cd_X1_fall : Cond.code yX1_fall cX1_fall 8 (some .int) ∈ xT := xT_of 552 (by decide +kernel)
theorem st_J9_max_7cf53 : Cond.static yJ9_max_7cf53 ∈ xT := xT_of 555 (by decide +kernel)
theorem cd_mmax : Cond.code Lib.Math.max.name Lib.Math.max.code 2 (some .int) ∈ xT := xT_of 556 (by decide +kernel)
theorem im_X8_hose : Cond.instanceMethod yX8_hose ∈ xT := xT_of 558 (by decide +kernel)
theorem se_X8_hose : Cond.selects yX8_hose.cls yX8_hose yX8_hose ∈ xT := xT_of 559 (by decide +kernel)
theorem cd_X8_hose : Cond.code yX8_hose cX8_hose 3 (some .int) ∈ xT := xT_of 560 (by decide +kernel)
theorem im_X8_poll : Cond.instanceMethod yX8_poll ∈ xT := xT_of 563 (by decide +kernel)
theorem se_X8_poll : Cond.selects yX8_poll.cls yX8_poll yX8_poll ∈ xT := xT_of 564 (by decide +kernel)
theorem cd_X8_poll : Cond.code yX8_poll cX8_poll 4 (some .int) ∈ xT := xT_of 565 (by decide +kernel)
theorem im_X8_undo : Cond.instanceMethod yX8_undo ∈ xT := xT_of 567 (by decide +kernel)
theorem se_X8_undo : Cond.selects yX8_undo.cls yX8_undo yX8_undo ∈ xT := xT_of 568 (by decide +kernel)
theorem cd_X8_undo : Cond.code yX8_undo cX8_undo 1 (some .int) ∈ xT := xT_of 569 (by decide +kernel)
theorem im_X2_recall : Cond.instanceMethod yX2_recall ∈ xT := xT_of 572 (by decide +kernel)
theorem cd_X2_recall : Cond.code yX2_recall cX2_recall 2 (some .boolean) ∈ xT := xT_of 573 (by decide +kernel)
theorem im_X8_keep : Cond.instanceMethod yX8_keep ∈ xT := xT_of 575 (by decide +kernel)
theorem se_X8_keep : Cond.selects yX8_keep.cls yX8_keep yX8_keep ∈ xT := xT_of 576 (by decide +kernel)
theorem cd_X8_keep : Cond.code yX8_keep cX8_keep 2 (some .int) ∈ xT := xT_of 577 (by decide +kernel)
theorem st_X8_isShelf : Cond.static yX8_isShelf ∈ xT := xT_of 579 (by decide +kernel)
theorem cd_X8_isShelf : Cond.code yX8_isShelf cX8_isShelf 1 (some .boolean) ∈ xT := xT_of 580 (by decide +kernel)
theorem im_X5_put : Cond.instanceMethod yX5_put ∈ xT := xT_of 583 (by decide +kernel)
theorem cd_X5_put : Cond.code yX5_put cX5_put 3 none ∈ xT := xT_of 584 (by decide +kernel)
theorem im_X8_back : Cond.instanceMethod yX8_back ∈ xT := xT_of 588 (by decide +kernel)
theorem se_X8_back : Cond.selects yX8_back.cls yX8_back yX8_back ∈ xT := xT_of 589 (by decide +kernel)
theorem cd_X8_back : Cond.code yX8_back cX8_back 2 (some .int) ∈ xT := xT_of 590 (by decide +kernel)
theorem im_X5_take : Cond.instanceMethod yX5_take ∈ xT := xT_of 593 (by decide +kernel)
theorem cd_X5_take : Cond.code yX5_take cX5_take 3 (some .boolean) ∈ xT := xT_of 594 (by decide +kernel)
theorem im_X8_where : Cond.instanceMethod yX8_where ∈ xT := xT_of 596 (by decide +kernel)
theorem se_X8_where : Cond.selects yX8_where.cls yX8_where yX8_where ∈ xT := xT_of 597 (by decide +kernel)
theorem cd_X8_where : Cond.code yX8_where cX8_where 2 (some .int) ∈ xT := xT_of 598 (by decide +kernel)
theorem im_X8_passTrialDays : Cond.instanceMethod yX8_passTrialDays ∈ xT := xT_of 601 (by decide +kernel)
theorem cd_X8_passTrialDays : Cond.code yX8_passTrialDays cX8_passTrialDays 3 none ∈ xT := xT_of 602 (by decide +kernel)
theorem im_X8_wet : Cond.instanceMethod yX8_wet ∈ xT := xT_of 605 (by decide +kernel)
theorem se_X8_wet : Cond.selects yX8_wet.cls yX8_wet yX8_wet ∈ xT := xT_of 606 (by decide +kernel)
theorem cd_X8_wet : Cond.code yX8_wet cX8_wet 3 (some .int) ∈ xT := xT_of 607 (by decide +kernel)
theorem im_X8_carry : Cond.instanceMethod yX8_carry ∈ xT := xT_of 609 (by decide +kernel)
theorem se_X8_carry : Cond.selects yX8_carry.cls yX8_carry yX8_carry ∈ xT := xT_of 610 (by decide +kernel)
theorem cd_X8_carry : Cond.code yX8_carry cX8_carry 6 (some .int) ∈ xT := xT_of 611 (by decide +kernel)
theorem im_X3_votingBits : Cond.instanceMethod yX3_votingBits ∈ xT := xT_of 614 (by decide +kernel)
theorem cd_X3_votingBits : Cond.code yX3_votingBits cX3_votingBits 3 (some .int) ∈ xT := xT_of 615 (by decide +kernel)
theorem st_J6_bitCount_0f7a4 : Cond.static yJ6_bitCount_0f7a4 ∈ xT := xT_of 617 (by decide +kernel)
theorem cd_J6_bitCount_0f7a4 : Cond.code yJ6_bitCount_0f7a4 cJ6_bitCount_0f7a4 1 (some .int) ∈ xT := xT_of 618 (by decide +kernel)
theorem kc_265 : Cond.constant RJ6 265 1431655765 ∈ xT := xT_of 619 (by decide +kernel)
theorem kc_266 : Cond.constant RJ6 266 858993459 ∈ xT := xT_of 620 (by decide +kernel)
theorem kc_267 : Cond.constant RJ6 267 252645135 ∈ xT := xT_of 621 (by decide +kernel)
theorem im_X8_isCarriedWith : Cond.instanceMethod yX8_isCarriedWith ∈ xT := xT_of 624 (by decide +kernel)
theorem cd_X8_isCarriedWith : Cond.code yX8_isCarriedWith cX8_isCarriedWith 3 (some .boolean) ∈ xT := xT_of 625 (by decide +kernel)
theorem im_X0_tallyTurned : Cond.instanceMethod yX0_tallyTurned ∈ xT := xT_of 628 (by decide +kernel)
theorem cd_X0_tallyTurned : Cond.code yX0_tallyTurned cX0_tallyTurned 4 none ∈ xT := xT_of 629 (by decide +kernel)
theorem im_X8_reach : Cond.instanceMethod yX8_reach ∈ xT := xT_of 631 (by decide +kernel)
theorem se_X8_reach : Cond.selects yX8_reach.cls yX8_reach yX8_reach ∈ xT := xT_of 632 (by decide +kernel)
theorem cd_X8_reach : Cond.code yX8_reach cX8_reach 4 (some .int) ∈ xT := xT_of 633 (by decide +kernel)
theorem im_X8_month : Cond.instanceMethod yX8_month ∈ xT := xT_of 636 (by decide +kernel)
theorem se_X8_month : Cond.selects yX8_month.cls yX8_month yX8_month ∈ xT := xT_of 637 (by decide +kernel)
theorem cd_X8_month : Cond.code yX8_month cX8_month 3 (some .int) ∈ xT := xT_of 638 (by decide +kernel)
theorem im_X4_find : Cond.instanceMethod yX4_find ∈ xT := xT_of 641 (by decide +kernel)
theorem cd_X4_find : Cond.code yX4_find cX4_find 4 none ∈ xT := xT_of 642 (by decide +kernel)
theorem st_X4_extend : Cond.static yX4_extend ∈ xT := xT_of 646 (by decide +kernel)
theorem cd_X4_extend : Cond.code yX4_extend cX4_extend 5 none ∈ xT := xT_of 647 (by decide +kernel)
theorem im_X4_judge : Cond.instanceMethod yX4_judge ∈ xT := xT_of 650 (by decide +kernel)
theorem cd_X4_judge : Cond.code yX4_judge cX4_judge 3 none ∈ xT := xT_of 651 (by decide +kernel)
theorem im_X1_contentBits : Cond.instanceMethod yX1_contentBits ∈ xT := xT_of 654 (by decide +kernel)
theorem cd_X1_contentBits : Cond.code yX1_contentBits cX1_contentBits 4 (some .int) ∈ xT := xT_of 655 (by decide +kernel)
theorem im_X8_seen : Cond.instanceMethod yX8_seen ∈ xT := xT_of 661 (by decide +kernel)
theorem se_X8_seen : Cond.selects yX8_seen.cls yX8_seen yX8_seen ∈ xT := xT_of 662 (by decide +kernel)
theorem cd_X8_seen : Cond.code yX8_seen cX8_seen 3 (some .int) ∈ xT := xT_of 663 (by decide +kernel)
theorem im_X6_add : Cond.instanceMethod yX6_add ∈ xT := xT_of 666 (by decide +kernel)
theorem cd_X6_add : Cond.code yX6_add cX6_add 3 (some .boolean) ∈ xT := xT_of 667 (by decide +kernel)
theorem im_X8_forget : Cond.instanceMethod yX8_forget ∈ xT := xT_of 669 (by decide +kernel)
theorem se_X8_forget : Cond.selects yX8_forget.cls yX8_forget yX8_forget ∈ xT := xT_of 670 (by decide +kernel)
theorem cd_X8_forget : Cond.code yX8_forget cX8_forget 2 (some .int) ∈ xT := xT_of 671 (by decide +kernel)
theorem im_X8_polls : Cond.instanceMethod yX8_polls ∈ xT := xT_of 673 (by decide +kernel)
theorem se_X8_polls : Cond.selects yX8_polls.cls yX8_polls yX8_polls ∈ xT := xT_of 674 (by decide +kernel)
theorem cd_X8_polls : Cond.code yX8_polls cX8_polls 4 (some .int) ∈ xT := xT_of 675 (by decide +kernel)
theorem im_X8_isAllSeenInTrial : Cond.instanceMethod yX8_isAllSeenInTrial ∈ xT := xT_of 678 (by decide +kernel)
theorem cd_X8_isAllSeenInTrial : Cond.code yX8_isAllSeenInTrial cX8_isAllSeenInTrial 3 (some .boolean) ∈ xT := xT_of 679 (by decide +kernel)
theorem im_X6_lastDay : Cond.instanceMethod yX6_lastDay ∈ xT := xT_of 682 (by decide +kernel)
theorem cd_X6_lastDay : Cond.code yX6_lastDay cX6_lastDay 3 (some .int) ∈ xT := xT_of 683 (by decide +kernel)
theorem im_X6_allow : Cond.instanceMethod yX6_allow ∈ xT := xT_of 687 (by decide +kernel)
theorem cd_X6_allow : Cond.code yX6_allow cX6_allow 4 (some .boolean) ∈ xT := xT_of 688 (by decide +kernel)
theorem im_X8_chance : Cond.instanceMethod yX8_chance ∈ xT := xT_of 690 (by decide +kernel)
theorem se_X8_chance : Cond.selects yX8_chance.cls yX8_chance yX8_chance ∈ xT := xT_of 691 (by decide +kernel)
theorem cd_X8_chance : Cond.code yX8_chance cX8_chance 10 (some .int) ∈ xT := xT_of 692 (by decide +kernel)
theorem im_X8_weightOfCarried : Cond.instanceMethod yX8_weightOfCarried ∈ xT := xT_of 695 (by decide +kernel)
theorem cd_X8_weightOfCarried : Cond.code yX8_weightOfCarried cX8_weightOfCarried 6 (some .long) ∈ xT := xT_of 696 (by decide +kernel)
theorem im_X8_weightOf : Cond.instanceMethod yX8_weightOf ∈ xT := xT_of 699 (by decide +kernel)
theorem cd_X8_weightOf : Cond.code yX8_weightOf cX8_weightOf 6 (some .long) ∈ xT := xT_of 700 (by decide +kernel)
theorem st_X8_commonDivisor : Cond.static yX8_commonDivisor ∈ xT := xT_of 702 (by decide +kernel)
theorem cd_X8_commonDivisor : Cond.code yX8_commonDivisor cX8_commonDivisor 11 (some .long) ∈ xT := xT_of 703 (by decide +kernel)
theorem im_X8_count : Cond.instanceMethod yX8_count ∈ xT := xT_of 705 (by decide +kernel)
theorem se_X8_count : Cond.selects yX8_count.cls yX8_count yX8_count ∈ xT := xT_of 706 (by decide +kernel)
theorem cd_X8_count : Cond.code yX8_count cX8_count 2 (some .int) ∈ xT := xT_of 707 (by decide +kernel)
theorem im_X1_allWater : Cond.instanceMethod yX1_allWater ∈ xT := xT_of 710 (by decide +kernel)
theorem cd_X1_allWater : Cond.code yX1_allWater cX1_allWater 4 (some .int) ∈ xT := xT_of 711 (by decide +kernel)
theorem itX9 : Cond.instantiable RX9 20 ∈ xT := xT_of 714 (by decide +kernel)
theorem im_X9_init : Cond.instanceMethod yX9_init ∈ xT := xT_of 716 (by decide +kernel)
theorem cd_X9_init : Cond.code yX9_init cX9_init 2 none ∈ xT := xT_of 717 (by decide +kernel)
theorem im_X9_forgets : Cond.instanceMethod yX9_forgets ∈ xT := xT_of 721 (by decide +kernel)
theorem cd_X9_forgets : Cond.code yX9_forgets cX9_forgets 2 none ∈ xT := xT_of 722 (by decide +kernel)
theorem im_X9_lays : Cond.instanceMethod yX9_lays ∈ xT := xT_of 725 (by decide +kernel)
theorem cd_X9_lays : Cond.code yX9_lays cX9_lays 2 none ∈ xT := xT_of 726 (by decide +kernel)
theorem im_X9_write : Cond.instanceMethod yX9_write ∈ xT := xT_of 789 (by decide +kernel)
theorem se_X9_write : Cond.selects yX9_write.cls yX9_write yX9_write ∈ xT := xT_of 790 (by decide +kernel)
theorem cd_X9_write : Cond.code yX9_write cX9_write 2 (some .int) ∈ xT := xT_of 791 (by decide +kernel)
theorem st_X9_in : Cond.static yX9_in ∈ xT := xT_of 793 (by decide +kernel)
theorem cd_X9_in : Cond.code yX9_in cX9_in 3 (some .boolean) ∈ xT := xT_of 794 (by decide +kernel)
theorem im_X9_erase : Cond.instanceMethod yX9_erase ∈ xT := xT_of 796 (by decide +kernel)
theorem se_X9_erase : Cond.selects yX9_erase.cls yX9_erase yX9_erase ∈ xT := xT_of 797 (by decide +kernel)
theorem cd_X9_erase : Cond.code yX9_erase cX9_erase 2 (some .int) ∈ xT := xT_of 798 (by decide +kernel)
theorem im_X9_fault : Cond.instanceMethod yX9_fault ∈ xT := xT_of 800 (by decide +kernel)
theorem se_X9_fault : Cond.selects yX9_fault.cls yX9_fault yX9_fault ∈ xT := xT_of 801 (by decide +kernel)
theorem cd_X9_fault : Cond.code yX9_fault cX9_fault 1 (some .int) ∈ xT := xT_of 802 (by decide +kernel)
theorem im_X9_reads : Cond.instanceMethod yX9_reads ∈ xT := xT_of 805 (by decide +kernel)
theorem cd_X9_reads : Cond.code yX9_reads cX9_reads 3 (some .int) ∈ xT := xT_of 806 (by decide +kernel)
theorem im_X9_token : Cond.instanceMethod yX9_token ∈ xT := xT_of 809 (by decide +kernel)
theorem cd_X9_token : Cond.code yX9_token cX9_token 2 none ∈ xT := xT_of 810 (by decide +kernel)
theorem im_X9_letterAt : Cond.instanceMethod yX9_letterAt ∈ xT := xT_of 813 (by decide +kernel)
theorem cd_X9_letterAt : Cond.code yX9_letterAt cX9_letterAt 2 (some .int) ∈ xT := xT_of 814 (by decide +kernel)
theorem st_X9_isLetter : Cond.static yX9_isLetter ∈ xT := xT_of 816 (by decide +kernel)
theorem cd_X9_isLetter : Cond.code yX9_isLetter cX9_isLetter 1 (some .boolean) ∈ xT := xT_of 817 (by decide +kernel)
theorem st_X9_isDigit : Cond.static yX9_isDigit ∈ xT := xT_of 819 (by decide +kernel)
theorem cd_X9_isDigit : Cond.code yX9_isDigit cX9_isDigit 1 (some .boolean) ∈ xT := xT_of 820 (by decide +kernel)
theorem im_X9_readsClause : Cond.instanceMethod yX9_readsClause ∈ xT := xT_of 823 (by decide +kernel)
theorem cd_X9_readsClause : Cond.code yX9_readsClause cX9_readsClause 1 (some .boolean) ∈ xT := xT_of 824 (by decide +kernel)
theorem im_X9_isWord : Cond.instanceMethod yX9_isWord ∈ xT := xT_of 827 (by decide +kernel)
theorem cd_X9_isWord : Cond.code yX9_isWord cX9_isWord 11 (some .boolean) ∈ xT := xT_of 828 (by decide +kernel)
theorem im_X9_readsStreet : Cond.instanceMethod yX9_readsStreet ∈ xT := xT_of 831 (by decide +kernel)
theorem cd_X9_readsStreet : Cond.code yX9_readsStreet cX9_readsStreet 3 (some .boolean) ∈ xT := xT_of 832 (by decide +kernel)
theorem im_X9_number : Cond.instanceMethod yX9_number ∈ xT := xT_of 835 (by decide +kernel)
theorem cd_X9_number : Cond.code yX9_number cX9_number 4 (some .boolean) ∈ xT := xT_of 836 (by decide +kernel)
theorem im_X9_readsSlope : Cond.instanceMethod yX9_readsSlope ∈ xT := xT_of 839 (by decide +kernel)
theorem cd_X9_readsSlope : Cond.code yX9_readsSlope cX9_readsSlope 2 (some .boolean) ∈ xT := xT_of 840 (by decide +kernel)
theorem im_X9_town : Cond.instanceMethod yX9_town ∈ xT := xT_of 842 (by decide +kernel)
theorem se_X9_town : Cond.selects yX9_town.cls yX9_town yX9_town ∈ xT := xT_of 843 (by decide +kernel)
theorem cd_X9_town : Cond.code yX9_town cX9_town 3 (some .int) ∈ xT := xT_of 844 (by decide +kernel)
theorem im_X9_street : Cond.instanceMethod yX9_street ∈ xT := xT_of 846 (by decide +kernel)
theorem se_X9_street : Cond.selects yX9_street.cls yX9_street yX9_street ∈ xT := xT_of 847 (by decide +kernel)
theorem cd_X9_street : Cond.code yX9_street cX9_street 3 (some .int) ∈ xT := xT_of 848 (by decide +kernel)
theorem im_X9_isStreet : Cond.instanceMethod yX9_isStreet ∈ xT := xT_of 851 (by decide +kernel)
theorem cd_X9_isStreet : Cond.code yX9_isStreet cX9_isStreet 2 (some .boolean) ∈ xT := xT_of 852 (by decide +kernel)
theorem im_X9_counts : Cond.instanceMethod yX9_counts ∈ xT := xT_of 855 (by decide +kernel)
theorem cd_X9_counts : Cond.code yX9_counts cX9_counts 3 none ∈ xT := xT_of 856 (by decide +kernel)
theorem im_X9_choice : Cond.instanceMethod yX9_choice ∈ xT := xT_of 859 (by decide +kernel)
theorem cd_X9_choice : Cond.code yX9_choice cX9_choice 3 (some .int) ∈ xT := xT_of 860 (by decide +kernel)
theorem im_X9_driestBut : Cond.instanceMethod yX9_driestBut ∈ xT := xT_of 863 (by decide +kernel)
theorem cd_X9_driestBut : Cond.code yX9_driestBut cX9_driestBut 4 (some .int) ∈ xT := xT_of 864 (by decide +kernel)
theorem im_X9_wants : Cond.instanceMethod yX9_wants ∈ xT := xT_of 867 (by decide +kernel)
theorem cd_X9_wants : Cond.code yX9_wants cX9_wants 3 (some .int) ∈ xT := xT_of 868 (by decide +kernel)
theorem im_X9_as : Cond.instanceMethod yX9_as ∈ xT := xT_of 870 (by decide +kernel)
theorem se_X9_as : Cond.selects yX9_as.cls yX9_as yX9_as ∈ xT := xT_of 871 (by decide +kernel)
theorem cd_X9_as : Cond.code yX9_as cX9_as 5 (some .int) ∈ xT := xT_of 872 (by decide +kernel)
theorem im_X9_day : Cond.instanceMethod yX9_day ∈ xT := xT_of 874 (by decide +kernel)
theorem se_X9_day : Cond.selects yX9_day.cls yX9_day yX9_day ∈ xT := xT_of 875 (by decide +kernel)
theorem cd_X9_day : Cond.code yX9_day cX9_day 1 (some .int) ∈ xT := xT_of 876 (by decide +kernel)
theorem im_X9_keeps : Cond.instanceMethod yX9_keeps ∈ xT := xT_of 879 (by decide +kernel)
theorem cd_X9_keeps : Cond.code yX9_keeps cX9_keeps 2 none ∈ xT := xT_of 880 (by decide +kernel)
theorem im_X9_carried : Cond.instanceMethod yX9_carried ∈ xT := xT_of 883 (by decide +kernel)
theorem cd_X9_carried : Cond.code yX9_carried cX9_carried 4 (some .int) ∈ xT := xT_of 884 (by decide +kernel)
theorem im_X9_rains : Cond.instanceMethod yX9_rains ∈ xT := xT_of 887 (by decide +kernel)
theorem cd_X9_rains : Cond.code yX9_rains cX9_rains 3 none ∈ xT := xT_of 888 (by decide +kernel)
theorem im_X9_falls : Cond.instanceMethod yX9_falls ∈ xT := xT_of 891 (by decide +kernel)
theorem cd_X9_falls : Cond.code yX9_falls cX9_falls 5 (some .int) ∈ xT := xT_of 892 (by decide +kernel)
theorem im_X9_hose : Cond.instanceMethod yX9_hose ∈ xT := xT_of 894 (by decide +kernel)
theorem se_X9_hose : Cond.selects yX9_hose.cls yX9_hose yX9_hose ∈ xT := xT_of 895 (by decide +kernel)
theorem cd_X9_hose : Cond.code yX9_hose cX9_hose 3 (some .int) ∈ xT := xT_of 896 (by decide +kernel)
theorem im_X9_poll : Cond.instanceMethod yX9_poll ∈ xT := xT_of 898 (by decide +kernel)
theorem se_X9_poll : Cond.selects yX9_poll.cls yX9_poll yX9_poll ∈ xT := xT_of 899 (by decide +kernel)
theorem cd_X9_poll : Cond.code yX9_poll cX9_poll 4 (some .int) ∈ xT := xT_of 900 (by decide +kernel)
theorem im_X9_undo : Cond.instanceMethod yX9_undo ∈ xT := xT_of 902 (by decide +kernel)
theorem se_X9_undo : Cond.selects yX9_undo.cls yX9_undo yX9_undo ∈ xT := xT_of 903 (by decide +kernel)
theorem cd_X9_undo : Cond.code yX9_undo cX9_undo 2 (some .int) ∈ xT := xT_of 904 (by decide +kernel)
theorem im_X9_keep : Cond.instanceMethod yX9_keep ∈ xT := xT_of 906 (by decide +kernel)
theorem se_X9_keep : Cond.selects yX9_keep.cls yX9_keep yX9_keep ∈ xT := xT_of 907 (by decide +kernel)
theorem cd_X9_keep : Cond.code yX9_keep cX9_keep 3 (some .int) ∈ xT := xT_of 908 (by decide +kernel)
theorem im_X9_back : Cond.instanceMethod yX9_back ∈ xT := xT_of 910 (by decide +kernel)
theorem se_X9_back : Cond.selects yX9_back.cls yX9_back yX9_back ∈ xT := xT_of 911 (by decide +kernel)
theorem cd_X9_back : Cond.code yX9_back cX9_back 3 (some .int) ∈ xT := xT_of 912 (by decide +kernel)
theorem im_X9_where : Cond.instanceMethod yX9_where ∈ xT := xT_of 914 (by decide +kernel)
theorem se_X9_where : Cond.selects yX9_where.cls yX9_where yX9_where ∈ xT := xT_of 915 (by decide +kernel)
theorem cd_X9_where : Cond.code yX9_where cX9_where 3 (some .int) ∈ xT := xT_of 916 (by decide +kernel)
theorem im_X9_holds : Cond.instanceMethod yX9_holds ∈ xT := xT_of 919 (by decide +kernel)
theorem cd_X9_holds : Cond.code yX9_holds cX9_holds 2 none ∈ xT := xT_of 920 (by decide +kernel)
theorem im_X9_passes : Cond.instanceMethod yX9_passes ∈ xT := xT_of 923 (by decide +kernel)
theorem cd_X9_passes : Cond.code yX9_passes cX9_passes 3 none ∈ xT := xT_of 924 (by decide +kernel)
theorem im_X9_lets : Cond.instanceMethod yX9_lets ∈ xT := xT_of 927 (by decide +kernel)
theorem cd_X9_lets : Cond.code yX9_lets cX9_lets 2 none ∈ xT := xT_of 928 (by decide +kernel)
theorem im_X9_wet : Cond.instanceMethod yX9_wet ∈ xT := xT_of 930 (by decide +kernel)
theorem se_X9_wet : Cond.selects yX9_wet.cls yX9_wet yX9_wet ∈ xT := xT_of 931 (by decide +kernel)
theorem cd_X9_wet : Cond.code yX9_wet cX9_wet 4 (some .int) ∈ xT := xT_of 932 (by decide +kernel)
theorem im_X9_carry : Cond.instanceMethod yX9_carry ∈ xT := xT_of 934 (by decide +kernel)
theorem se_X9_carry : Cond.selects yX9_carry.cls yX9_carry yX9_carry ∈ xT := xT_of 935 (by decide +kernel)
theorem cd_X9_carry : Cond.code yX9_carry cX9_carry 5 (some .int) ∈ xT := xT_of 936 (by decide +kernel)
theorem st_X9_ones : Cond.static yX9_ones ∈ xT := xT_of 938 (by decide +kernel)
theorem cd_X9_ones : Cond.code yX9_ones cX9_ones 3 (some .int) ∈ xT := xT_of 939 (by decide +kernel)
theorem im_X9_reach : Cond.instanceMethod yX9_reach ∈ xT := xT_of 941 (by decide +kernel)
theorem se_X9_reach : Cond.selects yX9_reach.cls yX9_reach yX9_reach ∈ xT := xT_of 942 (by decide +kernel)
theorem cd_X9_reach : Cond.code yX9_reach cX9_reach 4 (some .int) ∈ xT := xT_of 943 (by decide +kernel)
theorem im_X9_month : Cond.instanceMethod yX9_month ∈ xT := xT_of 945 (by decide +kernel)
theorem se_X9_month : Cond.selects yX9_month.cls yX9_month yX9_month ∈ xT := xT_of 946 (by decide +kernel)
theorem cd_X9_month : Cond.code yX9_month cX9_month 9 (some .int) ∈ xT := xT_of 947 (by decide +kernel)
theorem im_X9_sated : Cond.instanceMethod yX9_sated ∈ xT := xT_of 950 (by decide +kernel)
theorem cd_X9_sated : Cond.code yX9_sated cX9_sated 3 (some .int) ∈ xT := xT_of 951 (by decide +kernel)
theorem im_X9_seen : Cond.instanceMethod yX9_seen ∈ xT := xT_of 953 (by decide +kernel)
theorem se_X9_seen : Cond.selects yX9_seen.cls yX9_seen yX9_seen ∈ xT := xT_of 954 (by decide +kernel)
theorem cd_X9_seen : Cond.code yX9_seen cX9_seen 3 (some .int) ∈ xT := xT_of 955 (by decide +kernel)
theorem im_X9_forget : Cond.instanceMethod yX9_forget ∈ xT := xT_of 957 (by decide +kernel)
theorem se_X9_forget : Cond.selects yX9_forget.cls yX9_forget yX9_forget ∈ xT := xT_of 958 (by decide +kernel)
theorem cd_X9_forget : Cond.code yX9_forget cX9_forget 2 (some .int) ∈ xT := xT_of 959 (by decide +kernel)
theorem im_X9_polls : Cond.instanceMethod yX9_polls ∈ xT := xT_of 961 (by decide +kernel)
theorem se_X9_polls : Cond.selects yX9_polls.cls yX9_polls yX9_polls ∈ xT := xT_of 962 (by decide +kernel)
theorem cd_X9_polls : Cond.code yX9_polls cX9_polls 4 (some .int) ∈ xT := xT_of 963 (by decide +kernel)
theorem im_X9_isSo : Cond.instanceMethod yX9_isSo ∈ xT := xT_of 966 (by decide +kernel)
theorem cd_X9_isSo : Cond.code yX9_isSo cX9_isSo 4 (some .boolean) ∈ xT := xT_of 967 (by decide +kernel)
theorem im_X9_chance : Cond.instanceMethod yX9_chance ∈ xT := xT_of 969 (by decide +kernel)
theorem se_X9_chance : Cond.selects yX9_chance.cls yX9_chance yX9_chance ∈ xT := xT_of 970 (by decide +kernel)
theorem cd_X9_chance : Cond.code yX9_chance cX9_chance 9 (some .int) ∈ xT := xT_of 971 (by decide +kernel)
theorem im_X9_count : Cond.instanceMethod yX9_count ∈ xT := xT_of 973 (by decide +kernel)
theorem se_X9_count : Cond.selects yX9_count.cls yX9_count yX9_count ∈ xT := xT_of 974 (by decide +kernel)
theorem cd_X9_count : Cond.code yX9_count cX9_count 4 (some .int) ∈ xT := xT_of 975 (by decide +kernel)
theorem se_X7_add : Cond.selects yX7_add.cls yX7_add yX7_add ∈ xT := xT_of 0 (by decide +kernel)
theorem se_X7_read : Cond.selects yX7_read.cls yX7_read yX7_read ∈ xT := xT_of 1 (by decide +kernel)
theorem se_X3_copyFrom : Cond.selects yX3_copyFrom.cls yX3_copyFrom yX3_copyFrom ∈ xT := xT_of 2 (by decide +kernel)
theorem se_X7_step : Cond.selects yX7_step.cls yX7_step yX7_step ∈ xT := xT_of 3 (by decide +kernel)
theorem se_X7_isDigitAt : Cond.selects yX7_isDigitAt.cls yX7_isDigitAt yX7_isDigitAt ∈ xT := xT_of 4 (by decide +kernel)
theorem se_X7_isSmallAt : Cond.selects yX7_isSmallAt.cls yX7_isSmallAt yX7_isSmallAt ∈ xT := xT_of 5 (by decide +kernel)
theorem se_X7_readClause : Cond.selects yX7_readClause.cls yX7_readClause yX7_readClause ∈ xT := xT_of 6 (by decide +kernel)
theorem se_X7_isWord : Cond.selects yX7_isWord.cls yX7_isWord yX7_isWord ∈ xT := xT_of 7 (by decide +kernel)
theorem se_X3_clear : Cond.selects yX3_clear.cls yX3_clear yX3_clear ∈ xT := xT_of 8 (by decide +kernel)
theorem se_X7_readSlope : Cond.selects yX7_readSlope.cls yX7_readSlope yX7_readSlope ∈ xT := xT_of 9 (by decide +kernel)
theorem se_X7_readNumber : Cond.selects yX7_readNumber.cls yX7_readNumber yX7_readNumber ∈ xT := xT_of 10 (by decide +kernel)
theorem se_X3_tilt : Cond.selects yX3_tilt.cls yX3_tilt yX3_tilt ∈ xT := xT_of 11 (by decide +kernel)
theorem se_X3_has : Cond.selects yX3_has.cls yX3_has yX3_has ∈ xT := xT_of 12 (by decide +kernel)
theorem se_X7_kindOfWord : Cond.selects yX7_kindOfWord.cls yX7_kindOfWord yX7_kindOfWord ∈ xT := xT_of 13 (by decide +kernel)
theorem se_X7_readStreet : Cond.selects yX7_readStreet.cls yX7_readStreet yX7_readStreet ∈ xT := xT_of 14 (by decide +kernel)
theorem se_X3_add : Cond.selects yX3_add.cls yX3_add yX3_add ∈ xT := xT_of 15 (by decide +kernel)
theorem se_X1_begin : Cond.selects yX1_begin.cls yX1_begin yX1_begin ∈ xT := xT_of 16 (by decide +kernel)
theorem se_X2_clear : Cond.selects yX2_clear.cls yX2_clear yX2_clear ∈ xT := xT_of 17 (by decide +kernel)
theorem se_X5_clear : Cond.selects yX5_clear.cls yX5_clear yX5_clear ∈ xT := xT_of 18 (by decide +kernel)
theorem se_X1_driest : Cond.selects yX1_driest.cls yX1_driest yX1_driest ∈ xT := xT_of 19 (by decide +kernel)
theorem se_X1_isContent : Cond.selects yX1_isContent.cls yX1_isContent yX1_isContent ∈ xT := xT_of 20 (by decide +kernel)
theorem se_X3_wants : Cond.selects yX3_wants.cls yX3_wants yX3_wants ∈ xT := xT_of 21 (by decide +kernel)
theorem se_X0_choose : Cond.selects yX0_choose.cls yX0_choose yX0_choose ∈ xT := xT_of 22 (by decide +kernel)
theorem se_X0_tally : Cond.selects yX0_tally.cls yX0_tally yX0_tally ∈ xT := xT_of 23 (by decide +kernel)
theorem se_X0_tallyAll : Cond.selects yX0_tallyAll.cls yX0_tallyAll yX0_tallyAll ∈ xT := xT_of 24 (by decide +kernel)
theorem se_X2_remember : Cond.selects yX2_remember.cls yX2_remember yX2_remember ∈ xT := xT_of 25 (by decide +kernel)
theorem se_X1_copyFrom : Cond.selects yX1_copyFrom.cls yX1_copyFrom yX1_copyFrom ∈ xT := xT_of 26 (by decide +kernel)
theorem se_X8_passDay : Cond.selects yX8_passDay.cls yX8_passDay yX8_passDay ∈ xT := xT_of 27 (by decide +kernel)
theorem se_X0_winner : Cond.selects yX0_winner.cls yX0_winner yX0_winner ∈ xT := xT_of 28 (by decide +kernel)
theorem se_X1_pass : Cond.selects yX1_pass.cls yX1_pass yX1_pass ∈ xT := xT_of 29 (by decide +kernel)
theorem se_X1_fall : Cond.selects yX1_fall.cls yX1_fall yX1_fall ∈ xT := xT_of 30 (by decide +kernel)
theorem se_X2_recall : Cond.selects yX2_recall.cls yX2_recall yX2_recall ∈ xT := xT_of 31 (by decide +kernel)
theorem se_X5_put : Cond.selects yX5_put.cls yX5_put yX5_put ∈ xT := xT_of 32 (by decide +kernel)
theorem se_X5_take : Cond.selects yX5_take.cls yX5_take yX5_take ∈ xT := xT_of 33 (by decide +kernel)
theorem se_X8_passTrialDays : Cond.selects yX8_passTrialDays.cls yX8_passTrialDays yX8_passTrialDays ∈ xT := xT_of 34 (by decide +kernel)
theorem se_X3_votingBits : Cond.selects yX3_votingBits.cls yX3_votingBits yX3_votingBits ∈ xT := xT_of 35 (by decide +kernel)
theorem se_X8_isCarriedWith : Cond.selects yX8_isCarriedWith.cls yX8_isCarriedWith yX8_isCarriedWith ∈ xT := xT_of 36 (by decide +kernel)
theorem se_X0_tallyTurned : Cond.selects yX0_tallyTurned.cls yX0_tallyTurned yX0_tallyTurned ∈ xT := xT_of 37 (by decide +kernel)
theorem se_X4_find : Cond.selects yX4_find.cls yX4_find yX4_find ∈ xT := xT_of 38 (by decide +kernel)
theorem se_X4_judge : Cond.selects yX4_judge.cls yX4_judge yX4_judge ∈ xT := xT_of 39 (by decide +kernel)
theorem se_X1_contentBits : Cond.selects yX1_contentBits.cls yX1_contentBits yX1_contentBits ∈ xT := xT_of 40 (by decide +kernel)
theorem se_X6_add : Cond.selects yX6_add.cls yX6_add yX6_add ∈ xT := xT_of 41 (by decide +kernel)
theorem se_X8_isAllSeenInTrial : Cond.selects yX8_isAllSeenInTrial.cls yX8_isAllSeenInTrial yX8_isAllSeenInTrial ∈ xT := xT_of 42 (by decide +kernel)
theorem se_X6_lastDay : Cond.selects yX6_lastDay.cls yX6_lastDay yX6_lastDay ∈ xT := xT_of 43 (by decide +kernel)
theorem se_X6_allow : Cond.selects yX6_allow.cls yX6_allow yX6_allow ∈ xT := xT_of 44 (by decide +kernel)
theorem se_X8_weightOfCarried : Cond.selects yX8_weightOfCarried.cls yX8_weightOfCarried yX8_weightOfCarried ∈ xT := xT_of 45 (by decide +kernel)
theorem se_X8_weightOf : Cond.selects yX8_weightOf.cls yX8_weightOf yX8_weightOf ∈ xT := xT_of 46 (by decide +kernel)
theorem se_X1_allWater : Cond.selects yX1_allWater.cls yX1_allWater yX1_allWater ∈ xT := xT_of 47 (by decide +kernel)
theorem se_X9_forgets : Cond.selects yX9_forgets.cls yX9_forgets yX9_forgets ∈ xT := xT_of 48 (by decide +kernel)
theorem se_X9_lays : Cond.selects yX9_lays.cls yX9_lays yX9_lays ∈ xT := xT_of 49 (by decide +kernel)
theorem se_X9_reads : Cond.selects yX9_reads.cls yX9_reads yX9_reads ∈ xT := xT_of 50 (by decide +kernel)
theorem se_X9_token : Cond.selects yX9_token.cls yX9_token yX9_token ∈ xT := xT_of 51 (by decide +kernel)
theorem se_X9_letterAt : Cond.selects yX9_letterAt.cls yX9_letterAt yX9_letterAt ∈ xT := xT_of 52 (by decide +kernel)
theorem se_X9_readsClause : Cond.selects yX9_readsClause.cls yX9_readsClause yX9_readsClause ∈ xT := xT_of 53 (by decide +kernel)
theorem se_X9_isWord : Cond.selects yX9_isWord.cls yX9_isWord yX9_isWord ∈ xT := xT_of 54 (by decide +kernel)
theorem se_X9_readsStreet : Cond.selects yX9_readsStreet.cls yX9_readsStreet yX9_readsStreet ∈ xT := xT_of 55 (by decide +kernel)
theorem se_X9_number : Cond.selects yX9_number.cls yX9_number yX9_number ∈ xT := xT_of 56 (by decide +kernel)
theorem se_X9_readsSlope : Cond.selects yX9_readsSlope.cls yX9_readsSlope yX9_readsSlope ∈ xT := xT_of 57 (by decide +kernel)
theorem se_X9_isStreet : Cond.selects yX9_isStreet.cls yX9_isStreet yX9_isStreet ∈ xT := xT_of 58 (by decide +kernel)
theorem se_X9_counts : Cond.selects yX9_counts.cls yX9_counts yX9_counts ∈ xT := xT_of 59 (by decide +kernel)
theorem se_X9_choice : Cond.selects yX9_choice.cls yX9_choice yX9_choice ∈ xT := xT_of 60 (by decide +kernel)
theorem se_X9_driestBut : Cond.selects yX9_driestBut.cls yX9_driestBut yX9_driestBut ∈ xT := xT_of 61 (by decide +kernel)
theorem se_X9_wants : Cond.selects yX9_wants.cls yX9_wants yX9_wants ∈ xT := xT_of 62 (by decide +kernel)
theorem se_X9_keeps : Cond.selects yX9_keeps.cls yX9_keeps yX9_keeps ∈ xT := xT_of 63 (by decide +kernel)
theorem se_X9_carried : Cond.selects yX9_carried.cls yX9_carried yX9_carried ∈ xT := xT_of 64 (by decide +kernel)
theorem se_X9_rains : Cond.selects yX9_rains.cls yX9_rains yX9_rains ∈ xT := xT_of 65 (by decide +kernel)
theorem se_X9_falls : Cond.selects yX9_falls.cls yX9_falls yX9_falls ∈ xT := xT_of 66 (by decide +kernel)
theorem se_X9_holds : Cond.selects yX9_holds.cls yX9_holds yX9_holds ∈ xT := xT_of 67 (by decide +kernel)
theorem se_X9_passes : Cond.selects yX9_passes.cls yX9_passes yX9_passes ∈ xT := xT_of 68 (by decide +kernel)
theorem se_X9_lets : Cond.selects yX9_lets.cls yX9_lets yX9_lets ∈ xT := xT_of 69 (by decide +kernel)
theorem se_X9_sated : Cond.selects yX9_sated.cls yX9_sated yX9_sated ∈ xT := xT_of 70 (by decide +kernel)
theorem se_X9_isSo : Cond.selects yX9_isSo.cls yX9_isSo yX9_isSo ∈ xT := xT_of 71 (by decide +kernel)
theorem lcL_7 : Cond.classLink RL 7 RX8 ∈ xT := xT_of 90 (by decide +kernel)
theorem tmL_9 : Cond.methodLink RL 9 yX8_init ∈ xT := xT_of 92 (by decide +kernel)
theorem lmL_9 : xlm RL 9 yX8_init := Or.inl tmL_9
theorem tmX8_1 : Cond.methodLink RX8 1 Lib.objectInit ∈ xT := xT_of 95 (by decide +kernel)
theorem lmX8_1 : xlm RX8 1 Lib.objectInit := Or.inl tmX8_1
theorem lcX8_7 : Cond.classLink RX8 7 RX7 ∈ xT := xT_of 98 (by decide +kernel)
theorem tmX8_9 : Cond.methodLinkNest RX8 9 yX7_init "RainBallot" ∈ xN := xN_of 28 (by decide +kernel)
theorem lmX8_9 : xlm RX8 9 yX7_init := Or.inr ⟨_, tmX8_9⟩
theorem tmX7_3 : Cond.methodLink RX7 3 Lib.objectInit ∈ xT := xT_of 103 (by decide +kernel)
theorem lmX7_3 : xlm RX7 3 Lib.objectInit := Or.inl tmX7_3
theorem lfX7_9 : Cond.fieldLink RX7 9 "RainBallot$Text" "letters" "[C" ∈ xT := xT_of 104 (by decide +kernel)
theorem lfX7_15 : Cond.fieldLink RX7 15 "RainBallot$Text" "length" "I" ∈ xT := xT_of 105 (by decide +kernel)
theorem lfX8_75 : Cond.fieldLinkNest RX8 75 "RainBallot$Text" "length" "I" "RainBallot" ∈ xN := xN_of 34 (by decide +kernel)
theorem lfX7_19 : Cond.fieldLink RX7 19 "RainBallot$Text" "start" "I" ∈ xT := xT_of 107 (by decide +kernel)
theorem lfX7_22 : Cond.fieldLink RX7 22 "RainBallot$Text" "end" "I" ∈ xT := xT_of 108 (by decide +kernel)
theorem lfX7_25 : Cond.fieldLink RX7 25 "RainBallot$Text" "clauses" "I" ∈ xT := xT_of 109 (by decide +kernel)
theorem lfX8_97 : Cond.fieldLinkNest RX8 97 "RainBallot$Text" "clauses" "I" "RainBallot" ∈ xN := xN_of 38 (by decide +kernel)
theorem lcX8_16 : Cond.classLink RX8 16 RX3 ∈ xT := xT_of 123 (by decide +kernel)
theorem tmX8_18 : Cond.methodLinkNest RX8 18 yX3_init "RainBallot" ∈ xN := xN_of 53 (by decide +kernel)
theorem lmX8_18 : xlm RX8 18 yX3_init := Or.inr ⟨_, tmX8_18⟩
theorem tmX3_3 : Cond.methodLink RX3 3 Lib.objectInit ∈ xT := xT_of 128 (by decide +kernel)
theorem lmX3_3 : xlm RX3 3 Lib.objectInit := Or.inl tmX3_3
theorem lfX3_9 : Cond.fieldLink RX3 9 "RainBallot$Plan" "kind" "[I" ∈ xT := xT_of 129 (by decide +kernel)
theorem lfX0_28 : Cond.fieldLinkNest RX0 28 "RainBallot$Plan" "kind" "[I" "RainBallot" ∈ xN := xN_of 58 (by decide +kernel)
theorem lfX8_104 : Cond.fieldLinkNest RX8 104 "RainBallot$Plan" "kind" "[I" "RainBallot" ∈ xN := xN_of 59 (by decide +kernel)
theorem lfX3_15 : Cond.fieldLink RX3 15 "RainBallot$Plan" "need" "[I" ∈ xT := xT_of 132 (by decide +kernel)
theorem lfX8_108 : Cond.fieldLinkNest RX8 108 "RainBallot$Plan" "need" "[I" "RainBallot" ∈ xN := xN_of 61 (by decide +kernel)
theorem lfX3_18 : Cond.fieldLink RX3 18 "RainBallot$Plan" "voters" "[I" ∈ xT := xT_of 134 (by decide +kernel)
theorem lfX1_34 : Cond.fieldLinkNest RX1 34 "RainBallot$Plan" "voters" "[I" "RainBallot" ∈ xN := xN_of 63 (by decide +kernel)
theorem lfX3_21 : Cond.fieldLink RX3 21 "RainBallot$Plan" "water" "[I" ∈ xT := xT_of 136 (by decide +kernel)
theorem lfX1_25 : Cond.fieldLinkNest RX1 25 "RainBallot$Plan" "water" "[I" "RainBallot" ∈ xN := xN_of 65 (by decide +kernel)
theorem lfX3_24 : Cond.fieldLink RX3 24 "RainBallot$Plan" "slope" "[I" ∈ xT := xT_of 138 (by decide +kernel)
theorem lfX1_61 : Cond.fieldLinkNest RX1 61 "RainBallot$Plan" "slope" "[I" "RainBallot" ∈ xN := xN_of 67 (by decide +kernel)
theorem lfX8_117 : Cond.fieldLinkNest RX8 117 "RainBallot$Plan" "slope" "[I" "RainBallot" ∈ xN := xN_of 68 (by decide +kernel)
theorem lfX3_27 : Cond.fieldLink RX3 27 "RainBallot$Plan" "streets" "I" ∈ xT := xT_of 141 (by decide +kernel)
theorem lfX0_41 : Cond.fieldLinkNest RX0 41 "RainBallot$Plan" "streets" "I" "RainBallot" ∈ xN := xN_of 70 (by decide +kernel)
theorem lfX4_50 : Cond.fieldLinkNest RX4 50 "RainBallot$Plan" "streets" "I" "RainBallot" ∈ xN := xN_of 71 (by decide +kernel)
theorem lfX1_39 : Cond.fieldLinkNest RX1 39 "RainBallot$Plan" "streets" "I" "RainBallot" ∈ xN := xN_of 72 (by decide +kernel)
theorem lfX7_98 : Cond.fieldLinkNest RX7 98 "RainBallot$Plan" "streets" "I" "RainBallot" ∈ xN := xN_of 73 (by decide +kernel)
theorem lfX8_187 : Cond.fieldLinkNest RX8 187 "RainBallot$Plan" "streets" "I" "RainBallot" ∈ xN := xN_of 74 (by decide +kernel)
theorem lfX3_31 : Cond.fieldLink RX3 31 "RainBallot$Plan" "cap" "I" ∈ xT := xT_of 147 (by decide +kernel)
theorem lfX1_55 : Cond.fieldLinkNest RX1 55 "RainBallot$Plan" "cap" "I" "RainBallot" ∈ xN := xN_of 76 (by decide +kernel)
theorem lfX7_77 : Cond.fieldLinkNest RX7 77 "RainBallot$Plan" "cap" "I" "RainBallot" ∈ xN := xN_of 77 (by decide +kernel)
theorem lfX8_231 : Cond.fieldLinkNest RX8 231 "RainBallot$Plan" "cap" "I" "RainBallot" ∈ xN := xN_of 78 (by decide +kernel)
theorem lfX3_34 : Cond.fieldLink RX3 34 "RainBallot$Plan" "inches" "I" ∈ xT := xT_of 151 (by decide +kernel)
theorem lfX1_48 : Cond.fieldLinkNest RX1 48 "RainBallot$Plan" "inches" "I" "RainBallot" ∈ xN := xN_of 80 (by decide +kernel)
theorem lfX7_81 : Cond.fieldLinkNest RX7 81 "RainBallot$Plan" "inches" "I" "RainBallot" ∈ xN := xN_of 81 (by decide +kernel)
theorem lfX8_234 : Cond.fieldLinkNest RX8 234 "RainBallot$Plan" "inches" "I" "RainBallot" ∈ xN := xN_of 82 (by decide +kernel)
theorem lcX8_26 : Cond.classLink RX8 26 RX1 ∈ xT := xT_of 173 (by decide +kernel)
theorem tmX8_28 : Cond.methodLinkNest RX8 28 yX1_init "RainBallot" ∈ xN := xN_of 103 (by decide +kernel)
theorem lmX8_28 : xlm RX8 28 yX1_init := Or.inr ⟨_, tmX8_28⟩
theorem tmX1_3 : Cond.methodLink RX1 3 Lib.objectInit ∈ xT := xT_of 178 (by decide +kernel)
theorem lmX1_3 : xlm RX1 3 Lib.objectInit := Or.inl tmX1_3
theorem lfX1_9 : Cond.fieldLink RX1 9 "RainBallot$Moment" "water" "[I" ∈ xT := xT_of 179 (by decide +kernel)
theorem lfX8_114 : Cond.fieldLinkNest RX8 114 "RainBallot$Moment" "water" "[I" "RainBallot" ∈ xN := xN_of 108 (by decide +kernel)
theorem lfX1_15 : Cond.fieldLink RX1 15 "RainBallot$Moment" "voters" "[I" ∈ xT := xT_of 181 (by decide +kernel)
theorem lfX8_111 : Cond.fieldLinkNest RX8 111 "RainBallot$Moment" "voters" "[I" "RainBallot" ∈ xN := xN_of 110 (by decide +kernel)
theorem lfX0_53 : Cond.fieldLinkNest RX0 53 "RainBallot$Moment" "voters" "[I" "RainBallot" ∈ xN := xN_of 111 (by decide +kernel)
theorem lfX1_18 : Cond.fieldLink RX1 18 "RainBallot$Moment" "rained" "I" ∈ xT := xT_of 184 (by decide +kernel)
theorem lfX0_50 : Cond.fieldLinkNest RX0 50 "RainBallot$Moment" "rained" "I" "RainBallot" ∈ xN := xN_of 113 (by decide +kernel)
theorem lfX8_180 : Cond.fieldLinkNest RX8 180 "RainBallot$Moment" "rained" "I" "RainBallot" ∈ xN := xN_of 114 (by decide +kernel)
theorem lfX1_22 : Cond.fieldLink RX1 22 "RainBallot$Moment" "number" "I" ∈ xT := xT_of 187 (by decide +kernel)
theorem lfX8_143 : Cond.fieldLinkNest RX8 143 "RainBallot$Moment" "number" "I" "RainBallot" ∈ xN := xN_of 116 (by decide +kernel)
theorem lcX8_36 : Cond.classLink RX8 36 RX2 ∈ xT := xT_of 198 (by decide +kernel)
theorem tmX8_38 : Cond.methodLinkNest RX8 38 yX2_init "RainBallot" ∈ xN := xN_of 128 (by decide +kernel)
theorem lmX8_38 : xlm RX8 38 yX2_init := Or.inr ⟨_, tmX8_38⟩
theorem tmX2_3 : Cond.methodLink RX2 3 Lib.objectInit ∈ xT := xT_of 203 (by decide +kernel)
theorem lmX2_3 : xlm RX2 3 Lib.objectInit := Or.inl tmX2_3
theorem lcX2_9 : Cond.classLink RX2 9 RX1 ∈ xT := xT_of 204 (by decide +kernel)
theorem tmX2_24 : Cond.methodLinkNest RX2 24 yX1_init "RainBallot" ∈ xN := xN_of 134 (by decide +kernel)
theorem lmX2_24 : xlm RX2 24 yX1_init := Or.inr ⟨_, tmX2_24⟩
theorem lfX2_11 : Cond.fieldLink RX2 11 "RainBallot$Past" "moments" "[LRainBallot$Moment;" ∈ xT := xT_of 207 (by decide +kernel)
theorem lfX2_17 : Cond.fieldLink RX2 17 "RainBallot$Past" "next" "I" ∈ xT := xT_of 208 (by decide +kernel)
theorem lfX2_21 : Cond.fieldLink RX2 21 "RainBallot$Past" "size" "I" ∈ xT := xT_of 209 (by decide +kernel)
theorem lfX8_164 : Cond.fieldLinkNest RX8 164 "RainBallot$Past" "size" "I" "RainBallot" ∈ xN := xN_of 138 (by decide +kernel)
theorem lcX8_43 : Cond.classLink RX8 43 RX5 ∈ xT := xT_of 218 (by decide +kernel)
theorem tmX8_45 : Cond.methodLinkNest RX8 45 yX5_init "RainBallot" ∈ xN := xN_of 148 (by decide +kernel)
theorem lmX8_45 : xlm RX8 45 yX5_init := Or.inr ⟨_, tmX8_45⟩
theorem tmX5_3 : Cond.methodLink RX5 3 Lib.objectInit ∈ xT := xT_of 223 (by decide +kernel)
theorem lmX5_3 : xlm RX5 3 Lib.objectInit := Or.inl tmX5_3
theorem lcX5_9 : Cond.classLink RX5 9 RX1 ∈ xT := xT_of 224 (by decide +kernel)
theorem tmX5_21 : Cond.methodLinkNest RX5 21 yX1_init "RainBallot" ∈ xN := xN_of 153 (by decide +kernel)
theorem lmX5_21 : xlm RX5 21 yX1_init := Or.inr ⟨_, tmX5_21⟩
theorem lfX5_11 : Cond.fieldLink RX5 11 "RainBallot$Shelf" "moments" "[LRainBallot$Moment;" ∈ xT := xT_of 226 (by decide +kernel)
theorem lfX5_17 : Cond.fieldLink RX5 17 "RainBallot$Shelf" "used" "[Z" ∈ xT := xT_of 227 (by decide +kernel)
theorem lcX8_50 : Cond.classLink RX8 50 RX6 ∈ xT := xT_of 234 (by decide +kernel)
theorem tmX8_52 : Cond.methodLinkNest RX8 52 yX6_init "RainBallot" ∈ xN := xN_of 164 (by decide +kernel)
theorem lmX8_52 : xlm RX8 52 yX6_init := Or.inr ⟨_, tmX8_52⟩
theorem tmX6_3 : Cond.methodLink RX6 3 Lib.objectInit ∈ xT := xT_of 239 (by decide +kernel)
theorem lmX6_3 : xlm RX6 3 Lib.objectInit := Or.inl tmX6_3
theorem lfX6_9 : Cond.fieldLink RX6 9 "RainBallot$Sightings" "place" "[I" ∈ xT := xT_of 240 (by decide +kernel)
theorem lfX6_15 : Cond.fieldLink RX6 15 "RainBallot$Sightings" "time" "[I" ∈ xT := xT_of 241 (by decide +kernel)
theorem lfX6_18 : Cond.fieldLink RX6 18 "RainBallot$Sightings" "size" "I" ∈ xT := xT_of 242 (by decide +kernel)
theorem lfX8_94 : Cond.fieldLinkNest RX8 94 "RainBallot$Sightings" "size" "I" "RainBallot" ∈ xN := xN_of 171 (by decide +kernel)
theorem lcX8_57 : Cond.classLink RX8 57 RX0 ∈ xT := xT_of 251 (by decide +kernel)
theorem tmX8_59 : Cond.methodLinkNest RX8 59 yX0_init "RainBallot" ∈ xN := xN_of 181 (by decide +kernel)
theorem lmX8_59 : xlm RX8 59 yX0_init := Or.inr ⟨_, tmX8_59⟩
theorem tmX0_3 : Cond.methodLink RX0 3 Lib.objectInit ∈ xT := xT_of 256 (by decide +kernel)
theorem lmX0_3 : xlm RX0 3 Lib.objectInit := Or.inl tmX0_3
theorem lfX0_9 : Cond.fieldLink RX0 9 "RainBallot$Ballot" "choice" "[I" ∈ xT := xT_of 257 (by decide +kernel)
theorem lfX0_15 : Cond.fieldLink RX0 15 "RainBallot$Ballot" "votes" "[I" ∈ xT := xT_of 258 (by decide +kernel)
theorem lfX8_132 : Cond.fieldLinkNest RX8 132 "RainBallot$Ballot" "votes" "[I" "RainBallot" ∈ xN := xN_of 187 (by decide +kernel)
theorem lfX0_18 : Cond.fieldLink RX0 18 "RainBallot$Ballot" "streets" "I" ∈ xT := xT_of 260 (by decide +kernel)
theorem lcX8_64 : Cond.classLink RX8 64 RX4 ∈ xT := xT_of 268 (by decide +kernel)
theorem tmX8_66 : Cond.methodLinkNest RX8 66 yX4_init "RainBallot" ∈ xN := xN_of 198 (by decide +kernel)
theorem lmX8_66 : xlm RX8 66 yX4_init := Or.inr ⟨_, tmX8_66⟩
theorem tmX4_3 : Cond.methodLink RX4 3 Lib.objectInit ∈ xT := xT_of 273 (by decide +kernel)
theorem lmX4_3 : xlm RX4 3 Lib.objectInit := Or.inl tmX4_3
theorem lcX4_9 : Cond.classLink RX4 9 RX1 ∈ xT := xT_of 274 (by decide +kernel)
theorem tmX4_31 : Cond.methodLinkNest RX4 31 yX1_init "RainBallot" ∈ xN := xN_of 203 (by decide +kernel)
theorem lmX4_31 : xlm RX4 31 yX1_init := Or.inr ⟨_, tmX4_31⟩
theorem lfX4_11 : Cond.fieldLink RX4 11 "RainBallot$RowSearch" "behind" "[LRainBallot$Moment;" ∈ xT := xT_of 276 (by decide +kernel)
theorem lfX4_17 : Cond.fieldLink RX4 17 "RainBallot$RowSearch" "row" "[I" ∈ xT := xT_of 277 (by decide +kernel)
theorem lfX4_21 : Cond.fieldLink RX4 21 "RainBallot$RowSearch" "best" "[I" ∈ xT := xT_of 278 (by decide +kernel)
theorem lfX8_211 : Cond.fieldLinkNest RX8 211 "RainBallot$RowSearch" "best" "[I" "RainBallot" ∈ xN := xN_of 207 (by decide +kernel)
theorem lfX4_24 : Cond.fieldLink RX4 24 "RainBallot$RowSearch" "length" "I" ∈ xT := xT_of 280 (by decide +kernel)
theorem lfX4_28 : Cond.fieldLink RX4 28 "RainBallot$RowSearch" "most" "I" ∈ xT := xT_of 281 (by decide +kernel)
theorem lfX8_208 : Cond.fieldLinkNest RX8 208 "RainBallot$RowSearch" "most" "I" "RainBallot" ∈ xN := xN_of 210 (by decide +kernel)
theorem lfX8_10 : Cond.fieldLink RX8 10 "RainBallot" "text" "LRainBallot$Text;" ∈ xT := xT_of 294 (by decide +kernel)
theorem lfX8_19 : Cond.fieldLink RX8 19 "RainBallot" "told" "LRainBallot$Plan;" ∈ xT := xT_of 295 (by decide +kernel)
theorem lfX8_23 : Cond.fieldLink RX8 23 "RainBallot" "draft" "LRainBallot$Plan;" ∈ xT := xT_of 296 (by decide +kernel)
theorem lfX8_29 : Cond.fieldLink RX8 29 "RainBallot" "now" "LRainBallot$Moment;" ∈ xT := xT_of 297 (by decide +kernel)
theorem lfX8_33 : Cond.fieldLink RX8 33 "RainBallot" "trial" "LRainBallot$Moment;" ∈ xT := xT_of 298 (by decide +kernel)
theorem lfX8_39 : Cond.fieldLink RX8 39 "RainBallot" "past" "LRainBallot$Past;" ∈ xT := xT_of 299 (by decide +kernel)
theorem lfX8_46 : Cond.fieldLink RX8 46 "RainBallot" "shelf" "LRainBallot$Shelf;" ∈ xT := xT_of 300 (by decide +kernel)
theorem lfX8_53 : Cond.fieldLink RX8 53 "RainBallot" "sightings" "LRainBallot$Sightings;" ∈ xT := xT_of 301 (by decide +kernel)
theorem lfX8_60 : Cond.fieldLink RX8 60 "RainBallot" "ballot" "LRainBallot$Ballot;" ∈ xT := xT_of 302 (by decide +kernel)
theorem lfX8_67 : Cond.fieldLink RX8 67 "RainBallot" "rows" "LRainBallot$RowSearch;" ∈ xT := xT_of 303 (by decide +kernel)
theorem tmL_13 : Cond.methodLink RL 13 yX8_write ∈ xT := xT_of 325 (by decide +kernel)
theorem lmL_13 : xlm RL 13 yX8_write := Or.inl tmL_13
theorem tmX8_71 : Cond.methodLinkNest RX8 71 yX7_add "RainBallot" ∈ xN := xN_of 257 (by decide +kernel)
theorem lmX8_71 : xlm RX8 71 yX7_add := Or.inr ⟨_, tmX8_71⟩
theorem tmL_18 : Cond.methodLink RL 18 yX8_erase ∈ xT := xT_of 333 (by decide +kernel)
theorem lmL_18 : xlm RL 18 yX8_erase := Or.inl tmL_18
theorem tmL_23 : Cond.methodLink RL 23 yX8_fault ∈ xT := xT_of 337 (by decide +kernel)
theorem lmL_23 : xlm RL 23 yX8_fault := Or.inl tmL_23
theorem tmX8_79 : Cond.methodLinkNest RX8 79 yX7_read "RainBallot" ∈ xN := xN_of 269 (by decide +kernel)
theorem lmX8_79 : xlm RX8 79 yX7_read := Or.inr ⟨_, tmX8_79⟩
theorem tmX7_28 : Cond.methodLinkNest RX7 28 yX3_copyFrom "RainBallot" ∈ xN := xN_of 273 (by decide +kernel)
theorem lmX7_28 : xlm RX7 28 yX3_copyFrom := Or.inr ⟨_, tmX7_28⟩
theorem tmX3_37 : Cond.methodLink RX3 37 arraycopyName ∈ xT := xT_of 349 (by decide +kernel)
theorem lmX3_37 : xlm RX3 37 arraycopyName := Or.inl tmX3_37
theorem tmX7_34 : Cond.methodLink RX7 34 yX7_step ∈ xT := xT_of 352 (by decide +kernel)
theorem lmX7_34 : xlm RX7 34 yX7_step := Or.inl tmX7_34
theorem tmX7_41 : Cond.methodLink RX7 41 yX7_isDigitAt ∈ xT := xT_of 356 (by decide +kernel)
theorem lmX7_41 : xlm RX7 41 yX7_isDigitAt := Or.inl tmX7_41
theorem tmX7_45 : Cond.methodLink RX7 45 yX7_isSmallAt ∈ xT := xT_of 360 (by decide +kernel)
theorem lmX7_45 : xlm RX7 45 yX7_isSmallAt := Or.inl tmX7_45
theorem tmX7_37 : Cond.methodLink RX7 37 yX7_readClause ∈ xT := xT_of 364 (by decide +kernel)
theorem lmX7_37 : xlm RX7 37 yX7_readClause := Or.inl tmX7_37
theorem tmX7_59 : Cond.methodLink RX7 59 yX7_isWord ∈ xT := xT_of 369 (by decide +kernel)
theorem lmX7_59 : xlm RX7 59 yX7_isWord := Or.inl tmX7_59
theorem tmX7_48 : Cond.methodLink RX7 48 yJ0_length_8abf5 ∈ xT := xT_of 373 (by decide +kernel)
theorem lmX7_48 : xlm RX7 48 yJ0_length_8abf5 := Or.inl tmX7_48
theorem tmJ0_335 : Cond.methodLink RJ0 335 yJ0_coder_7d493 ∈ xT := xT_of 377 (by decide +kernel)
theorem lmJ0_335 : xlm RJ0 335 yJ0_coder_7d493 := Or.inl tmJ0_335
theorem lfJ0_38 : Cond.fieldLink RJ0 38 "java/lang/String" "COMPACT_STRINGS" "Z" ∈ xT := xT_of 381 (by decide +kernel)
theorem tmX7_53 : Cond.methodLink RX7 53 yJ0_charAt_5068e ∈ xT := xT_of 383 (by decide +kernel)
theorem lmX7_53 : xlm RX7 53 yJ0_charAt_5068e := Or.inl tmX7_53
theorem tmJ0_492 : Cond.methodLink RJ0 492 yJ0_isLatin1_aae02 ∈ xT := xT_of 387 (by decide +kernel)
theorem lmJ0_492 : xlm RJ0 492 yJ0_isLatin1_aae02 := Or.inl tmJ0_492
theorem tmJ0_495 : Cond.methodLink RJ0 495 yJ1_charAt_3b067 ∈ xT := xT_of 391 (by decide +kernel)
theorem lmJ0_495 : xlm RJ0 495 yJ1_charAt_3b067 := Or.inl tmJ0_495
theorem tmJ1_9 : Cond.methodLink RJ1 9 yJ0_checkIndex_df160 ∈ xT := xT_of 394 (by decide +kernel)
theorem lmJ1_9 : xlm RJ1 9 yJ0_checkIndex_df160 := Or.inl tmJ1_9
theorem lfJ0_1053 : Cond.fieldLink RJ0 1053 "jdk/internal/util/Preconditions" "SIOOBE_FORMATTER" "Ljava/util/function/BiFunction;" ∈ xT := xT_of 397 (by decide +kernel)
theorem tmJ0_1059 : Cond.methodLink RJ0 1059 yJ3_checkIndex_8e157 ∈ xT := xT_of 399 (by decide +kernel)
theorem lmJ0_1059 : xlm RJ0 1059 yJ3_checkIndex_8e157 := Or.inl tmJ0_1059
theorem tmJ0_498 : Cond.methodLink RJ0 498 yJ2_charAt_3b067 ∈ xT := xT_of 402 (by decide +kernel)
theorem lmJ0_498 : xlm RJ0 498 yJ2_charAt_3b067 := Or.inl tmJ0_498
theorem tmJ2_67 : Cond.methodLink RJ2 67 yJ2_checkIndex_2214a ∈ xT := xT_of 405 (by decide +kernel)
theorem lmJ2_67 : xlm RJ2 67 yJ2_checkIndex_2214a := Or.inl tmJ2_67
theorem tmJ2_48 : Cond.methodLink RJ2 48 yJ2_length_9d52b ∈ xT := xT_of 408 (by decide +kernel)
theorem lmJ2_48 : xlm RJ2 48 yJ2_length_9d52b := Or.inl tmJ2_48
theorem tmJ2_414 : Cond.methodLink RJ2 414 yJ0_checkIndex_df160 ∈ xT := xT_of 411 (by decide +kernel)
theorem lmJ2_414 : xlm RJ2 414 yJ0_checkIndex_df160 := Or.inl tmJ2_414
theorem tmJ2_71 : Cond.methodLink RJ2 71 yJ2_getChar_3b067 ∈ xT := xT_of 412 (by decide +kernel)
theorem lmJ2_71 : xlm RJ2 71 yJ2_getChar_3b067 := Or.inl tmJ2_71
theorem lfJ2_44 : Cond.fieldLink RJ2 44 "java/lang/StringUTF16" "$assertionsDisabled" "Z" ∈ xT := xT_of 415 (by decide +kernel)
theorem lfJ2_59 : Cond.fieldLink RJ2 59 "java/lang/StringUTF16" "HI_BYTE_SHIFT" "I" ∈ xT := xT_of 417 (by decide +kernel)
theorem lfJ2_63 : Cond.fieldLink RJ2 63 "java/lang/StringUTF16" "LO_BYTE_SHIFT" "I" ∈ xT := xT_of 419 (by decide +kernel)
theorem tmX7_63 : Cond.methodLinkNest RX7 63 yX3_clear "RainBallot" ∈ xN := xN_of 349 (by decide +kernel)
theorem lmX7_63 : xlm RX7 63 yX3_clear := Or.inr ⟨_, tmX7_63⟩
theorem tmX7_68 : Cond.methodLink RX7 68 yX7_readSlope ∈ xT := xT_of 426 (by decide +kernel)
theorem lmX7_68 : xlm RX7 68 yX7_readSlope := Or.inl tmX7_68
theorem tmX7_73 : Cond.methodLink RX7 73 yX7_readNumber ∈ xT := xT_of 430 (by decide +kernel)
theorem lmX7_73 : xlm RX7 73 yX7_readNumber := Or.inl tmX7_73
theorem tmX7_105 : Cond.methodLinkNest RX7 105 yX3_tilt "RainBallot" ∈ xN := xN_of 362 (by decide +kernel)
theorem lmX7_105 : xlm RX7 105 yX3_tilt := Or.inr ⟨_, tmX7_105⟩
theorem tmX3_43 : Cond.methodLink RX3 43 yX3_has ∈ xT := xT_of 438 (by decide +kernel)
theorem lmX3_43 : xlm RX3 43 yX3_has := Or.inl tmX3_43
theorem tmX7_83 : Cond.methodLink RX7 83 yX7_kindOfWord ∈ xT := xT_of 444 (by decide +kernel)
theorem lmX7_83 : xlm RX7 83 yX7_kindOfWord := Or.inl tmX7_83
theorem tmX7_86 : Cond.methodLink RX7 86 yX7_readStreet ∈ xT := xT_of 452 (by decide +kernel)
theorem lmX7_86 : xlm RX7 86 yX7_readStreet := Or.inl tmX7_86
theorem tmX7_101 : Cond.methodLinkNest RX7 101 yX3_add "RainBallot" ∈ xN := xN_of 384 (by decide +kernel)
theorem lmX7_101 : xlm RX7 101 yX3_add := Or.inr ⟨_, tmX7_101⟩
theorem tmL_27 : Cond.methodLink RL 27 yX8_town ∈ xT := xT_of 461 (by decide +kernel)
theorem lmL_27 : xlm RL 27 yX8_town := Or.inl tmL_27
theorem tmX8_83 : Cond.methodLinkNest RX8 83 yX3_copyFrom "RainBallot" ∈ xN := xN_of 393 (by decide +kernel)
theorem lmX8_83 : xlm RX8 83 yX3_copyFrom := Or.inr ⟨_, tmX8_83⟩
theorem tmX8_87 : Cond.methodLinkNest RX8 87 yX1_begin "RainBallot" ∈ xN := xN_of 394 (by decide +kernel)
theorem lmX8_87 : xlm RX8 87 yX1_begin := Or.inr ⟨_, tmX8_87⟩
theorem tmX1_28 : Cond.methodLink RX1 28 arraycopyName ∈ xT := xT_of 470 (by decide +kernel)
theorem lmX1_28 : xlm RX1 28 arraycopyName := Or.inl tmX1_28
theorem tmX8_90 : Cond.methodLinkNest RX8 90 yX2_clear "RainBallot" ∈ xN := xN_of 399 (by decide +kernel)
theorem lmX8_90 : xlm RX8 90 yX2_clear := Or.inr ⟨_, tmX8_90⟩
theorem tmX8_93 : Cond.methodLinkNest RX8 93 yX5_clear "RainBallot" ∈ xN := xN_of 403 (by decide +kernel)
theorem lmX8_93 : xlm RX8 93 yX5_clear := Or.inr ⟨_, tmX8_93⟩
theorem tmL_31 : Cond.methodLink RL 31 yX8_street ∈ xT := xT_of 479 (by decide +kernel)
theorem lmL_31 : xlm RL 31 yX8_street := Or.inl tmL_31
theorem tmX8_100 : Cond.methodLinkNest RX8 100 yX3_has "RainBallot" ∈ xN := xN_of 411 (by decide +kernel)
theorem lmX8_100 : xlm RX8 100 yX3_has := Or.inr ⟨_, tmX8_100⟩
theorem tmX8_120 : Cond.methodLinkNest RX8 120 yX0_choiceOf "RainBallot" ∈ xN := xN_of 412 (by decide +kernel)
theorem lmX8_120 : xlm RX8 120 yX0_choiceOf := Or.inr ⟨_, tmX8_120⟩
theorem tmX0_22 : Cond.methodLinkNest RX0 22 yX3_has "RainBallot" ∈ xN := xN_of 415 (by decide +kernel)
theorem lmX0_22 : xlm RX0 22 yX3_has := Or.inr ⟨_, tmX0_22⟩
theorem tmX0_31 : Cond.methodLinkNest RX0 31 yX1_driest "RainBallot" ∈ xN := xN_of 416 (by decide +kernel)
theorem lmX0_31 : xlm RX0 31 yX1_driest := Or.inr ⟨_, tmX0_31⟩
theorem tmX0_37 : Cond.methodLinkNest RX0 37 yX1_isContent "RainBallot" ∈ xN := xN_of 420 (by decide +kernel)
theorem lmX0_37 : xlm RX0 37 yX1_isContent := Or.inr ⟨_, tmX0_37⟩
theorem tmX1_51 : Cond.methodLinkNest RX1 51 yX3_has "RainBallot" ∈ xN := xN_of 424 (by decide +kernel)
theorem lmX1_51 : xlm RX1 51 yX3_has := Or.inr ⟨_, tmX1_51⟩
theorem tmX1_64 : Cond.methodLinkNest RX1 64 yX3_wants "RainBallot" ∈ xN := xN_of 425 (by decide +kernel)
theorem lmX1_64 : xlm RX1 64 yX3_wants := Or.inr ⟨_, tmX1_64⟩
theorem tmX8_124 : Cond.methodLinkNest RX8 124 yX0_choose "RainBallot" ∈ xN := xN_of 429 (by decide +kernel)
theorem lmX8_124 : xlm RX8 124 yX0_choose := Or.inr ⟨_, tmX8_124⟩
theorem tmX0_42 : Cond.methodLink RX0 42 yX0_choiceOf ∈ xT := xT_of 505 (by decide +kernel)
theorem lmX0_42 : xlm RX0 42 yX0_choiceOf := Or.inl tmX0_42
theorem tmX8_128 : Cond.methodLinkNest RX8 128 yX0_tally "RainBallot" ∈ xN := xN_of 434 (by decide +kernel)
theorem lmX8_128 : xlm RX8 128 yX0_tally := Or.inr ⟨_, tmX8_128⟩
theorem tmX0_46 : Cond.methodLink RX0 46 yX0_tallyAll ∈ xT := xT_of 510 (by decide +kernel)
theorem lmX0_46 : xlm RX0 46 yX0_tallyAll := Or.inl tmX0_46
theorem tmL_36 : Cond.methodLink RL 36 yX8_as ∈ xT := xT_of 514 (by decide +kernel)
theorem lmL_36 : xlm RL 36 yX8_as := Or.inl tmL_36
theorem tmX8_135 : Cond.methodLink RX8 135 yX8_isUnder ∈ xT := xT_of 518 (by decide +kernel)
theorem lmX8_135 : xlm RX8 135 yX8_isUnder := Or.inl tmX8_135
theorem tmX8_139 : Cond.methodLinkNest RX8 139 yX3_wants "RainBallot" ∈ xN := xN_of 449 (by decide +kernel)
theorem lmX8_139 : xlm RX8 139 yX3_wants := Or.inr ⟨_, tmX8_139⟩
theorem tmL_40 : Cond.methodLink RL 40 yX8_day ∈ xT := xT_of 522 (by decide +kernel)
theorem lmL_40 : xlm RL 40 yX8_day := Or.inl tmL_40
theorem tmX8_146 : Cond.methodLinkNest RX8 146 yX2_remember "RainBallot" ∈ xN := xN_of 454 (by decide +kernel)
theorem lmX8_146 : xlm RX8 146 yX2_remember := Or.inr ⟨_, tmX8_146⟩
theorem tmX2_25 : Cond.methodLinkNest RX2 25 yX1_copyFrom "RainBallot" ∈ xN := xN_of 458 (by decide +kernel)
theorem lmX2_25 : xlm RX2 25 yX1_copyFrom := Or.inr ⟨_, tmX2_25⟩
theorem tmX2_29 : Cond.methodLink RX2 29 yJ9_min_7cf53 ∈ xT := xT_of 534 (by decide +kernel)
theorem lmX2_29 : xlm RX2 29 yJ9_min_7cf53 := Or.inl tmX2_29
theorem tmX8_150 : Cond.methodLink RX8 150 yX8_passDay ∈ xT := xT_of 537 (by decide +kernel)
theorem lmX8_150 : xlm RX8 150 yX8_passDay := Or.inl tmX8_150
theorem tmX8_244 : Cond.methodLinkNest RX8 244 yX0_winner "RainBallot" ∈ xN := xN_of 469 (by decide +kernel)
theorem lmX8_244 : xlm RX8 244 yX0_winner := Or.inr ⟨_, tmX8_244⟩
theorem tmX8_247 : Cond.methodLinkNest RX8 247 yX1_pass "RainBallot" ∈ xN := xN_of 473 (by decide +kernel)
theorem lmX8_247 : xlm RX8 247 yX1_pass := Or.inr ⟨_, tmX8_247⟩
theorem tmX1_35 : Cond.methodLink RX1 35 yX1_fall ∈ xT := xT_of 549 (by decide +kernel)
theorem lmX1_35 : xlm RX1 35 yX1_fall := Or.inl tmX1_35
theorem tmX1_58 : Cond.methodLink RX1 58 yJ9_min_7cf53 ∈ xT := xT_of 553 (by decide +kernel)
theorem lmX1_58 : xlm RX1 58 yJ9_min_7cf53 := Or.inl tmX1_58
theorem tmX1_42 : Cond.methodLink RX1 42 yJ9_max_7cf53 ∈ xT := xT_of 554 (by decide +kernel)
theorem lmX1_42 : xlm RX1 42 yJ9_max_7cf53 := Or.inl tmX1_42
theorem tmL_44 : Cond.methodLink RL 44 yX8_hose ∈ xT := xT_of 557 (by decide +kernel)
theorem lmL_44 : xlm RL 44 yX8_hose := Or.inl tmL_44
theorem tmX8_154 : Cond.methodLink RX8 154 yJ9_min_7cf53 ∈ xT := xT_of 561 (by decide +kernel)
theorem lmX8_154 : xlm RX8 154 yJ9_min_7cf53 := Or.inl tmX8_154
theorem tmL_48 : Cond.methodLink RL 48 yX8_poll ∈ xT := xT_of 562 (by decide +kernel)
theorem lmL_48 : xlm RL 48 yX8_poll := Or.inl tmL_48
theorem tmL_52 : Cond.methodLink RL 52 yX8_undo ∈ xT := xT_of 566 (by decide +kernel)
theorem lmL_52 : xlm RL 52 yX8_undo := Or.inl tmL_52
theorem tmX8_160 : Cond.methodLinkNest RX8 160 yX2_recall "RainBallot" ∈ xN := xN_of 498 (by decide +kernel)
theorem lmX8_160 : xlm RX8 160 yX2_recall := Or.inr ⟨_, tmX8_160⟩
theorem tmL_56 : Cond.methodLink RL 56 yX8_keep ∈ xT := xT_of 574 (by decide +kernel)
theorem lmL_56 : xlm RL 56 yX8_keep := Or.inl tmL_56
theorem tmX8_165 : Cond.methodLink RX8 165 yX8_isShelf ∈ xT := xT_of 578 (by decide +kernel)
theorem lmX8_165 : xlm RX8 165 yX8_isShelf := Or.inl tmX8_165
theorem tmX8_168 : Cond.methodLinkNest RX8 168 yX5_put "RainBallot" ∈ xN := xN_of 509 (by decide +kernel)
theorem lmX8_168 : xlm RX8 168 yX5_put := Or.inr ⟨_, tmX8_168⟩
theorem tmX5_22 : Cond.methodLinkNest RX5 22 yX8_isShelf "RainBallot" ∈ xN := xN_of 513 (by decide +kernel)
theorem lmX5_22 : xlm RX5 22 yX8_isShelf := Or.inr ⟨_, tmX5_22⟩
theorem tmX5_26 : Cond.methodLinkNest RX5 26 yX1_copyFrom "RainBallot" ∈ xN := xN_of 514 (by decide +kernel)
theorem lmX5_26 : xlm RX5 26 yX1_copyFrom := Or.inr ⟨_, tmX5_26⟩
theorem tmL_60 : Cond.methodLink RL 60 yX8_back ∈ xT := xT_of 587 (by decide +kernel)
theorem lmL_60 : xlm RL 60 yX8_back := Or.inl tmL_60
theorem tmX8_172 : Cond.methodLinkNest RX8 172 yX5_take "RainBallot" ∈ xN := xN_of 519 (by decide +kernel)
theorem lmX8_172 : xlm RX8 172 yX5_take := Or.inr ⟨_, tmX8_172⟩
theorem tmL_64 : Cond.methodLink RL 64 yX8_where ∈ xT := xT_of 595 (by decide +kernel)
theorem lmL_64 : xlm RL 64 yX8_where := Or.inl tmL_64
theorem tmX8_176 : Cond.methodLink RX8 176 yX8_passTrialDays ∈ xT := xT_of 599 (by decide +kernel)
theorem lmX8_176 : xlm RX8 176 yX8_passTrialDays := Or.inl tmX8_176
theorem tmX8_198 : Cond.methodLinkNest RX8 198 yX1_copyFrom "RainBallot" ∈ xN := xN_of 531 (by decide +kernel)
theorem lmX8_198 : xlm RX8 198 yX1_copyFrom := Or.inr ⟨_, tmX8_198⟩
theorem tmL_68 : Cond.methodLink RL 68 yX8_wet ∈ xT := xT_of 604 (by decide +kernel)
theorem lmL_68 : xlm RL 68 yX8_wet := Or.inl tmL_68
theorem tmL_72 : Cond.methodLink RL 72 yX8_carry ∈ xT := xT_of 608 (by decide +kernel)
theorem lmL_72 : xlm RL 72 yX8_carry := Or.inl tmL_72
theorem tmX8_183 : Cond.methodLinkNest RX8 183 yX3_votingBits "RainBallot" ∈ xN := xN_of 540 (by decide +kernel)
theorem lmX8_183 : xlm RX8 183 yX3_votingBits := Or.inr ⟨_, tmX8_183⟩
theorem tmX8_190 : Cond.methodLink RX8 190 yJ6_bitCount_0f7a4 ∈ xT := xT_of 616 (by decide +kernel)
theorem lmX8_190 : xlm RX8 190 yJ6_bitCount_0f7a4 := Or.inl tmX8_190
theorem tmX8_195 : Cond.methodLink RX8 195 yX8_isCarriedWith ∈ xT := xT_of 622 (by decide +kernel)
theorem lmX8_195 : xlm RX8 195 yX8_isCarriedWith := Or.inl tmX8_195
theorem tmX8_251 : Cond.methodLinkNest RX8 251 yX0_tallyTurned "RainBallot" ∈ xN := xN_of 554 (by decide +kernel)
theorem lmX8_251 : xlm RX8 251 yX0_tallyTurned := Or.inr ⟨_, tmX8_251⟩
theorem tmL_76 : Cond.methodLink RL 76 yX8_reach ∈ xT := xT_of 630 (by decide +kernel)
theorem lmL_76 : xlm RL 76 yX8_reach := Or.inl tmL_76
theorem tmX8_200 : Cond.methodLinkNest RX8 200 yX1_fall "RainBallot" ∈ xN := xN_of 562 (by decide +kernel)
theorem lmX8_200 : xlm RX8 200 yX1_fall := Or.inr ⟨_, tmX8_200⟩
theorem tmL_80 : Cond.methodLink RL 80 yX8_month ∈ xT := xT_of 635 (by decide +kernel)
theorem lmL_80 : xlm RL 80 yX8_month := Or.inl tmL_80
theorem tmX8_204 : Cond.methodLinkNest RX8 204 yX4_find "RainBallot" ∈ xN := xN_of 567 (by decide +kernel)
theorem lmX8_204 : xlm RX8 204 yX4_find := Or.inr ⟨_, tmX8_204⟩
theorem tmX4_32 : Cond.methodLink RX4 32 yJ9_min_7cf53 ∈ xT := xT_of 643 (by decide +kernel)
theorem lmX4_32 : xlm RX4 32 yJ9_min_7cf53 := Or.inl tmX4_32
theorem tmX4_38 : Cond.methodLinkNest RX4 38 yX1_copyFrom "RainBallot" ∈ xN := xN_of 572 (by decide +kernel)
theorem lmX4_38 : xlm RX4 38 yX1_copyFrom := Or.inr ⟨_, tmX4_38⟩
theorem tmX4_42 : Cond.methodLink RX4 42 yX4_extend ∈ xT := xT_of 645 (by decide +kernel)
theorem lmX4_42 : xlm RX4 42 yX4_extend := Or.inl tmX4_42
theorem tmX4_46 : Cond.methodLink RX4 46 yX4_judge ∈ xT := xT_of 648 (by decide +kernel)
theorem lmX4_46 : xlm RX4 46 yX4_judge := Or.inl tmX4_46
theorem tmX4_59 : Cond.methodLinkNest RX4 59 yX1_contentBits "RainBallot" ∈ xN := xN_of 580 (by decide +kernel)
theorem lmX4_59 : xlm RX4 59 yX1_contentBits := Or.inr ⟨_, tmX4_59⟩
theorem tmX1_68 : Cond.methodLink RX1 68 yX1_isContent ∈ xT := xT_of 656 (by decide +kernel)
theorem lmX1_68 : xlm RX1 68 yX1_isContent := Or.inl tmX1_68
theorem tmX4_63 : Cond.methodLink RX4 63 yJ6_bitCount_0f7a4 ∈ xT := xT_of 657 (by decide +kernel)
theorem lmX4_63 : xlm RX4 63 yJ6_bitCount_0f7a4 := Or.inl tmX4_63
theorem tmX4_69 : Cond.methodLink RX4 69 arraycopyName ∈ xT := xT_of 658 (by decide +kernel)
theorem lmX4_69 : xlm RX4 69 arraycopyName := Or.inl tmX4_69
theorem tmX4_55 : Cond.methodLinkNest RX4 55 yX1_pass "RainBallot" ∈ xN := xN_of 587 (by decide +kernel)
theorem lmX4_55 : xlm RX4 55 yX1_pass := Or.inr ⟨_, tmX4_55⟩
theorem tmL_84 : Cond.methodLink RL 84 yX8_seen ∈ xT := xT_of 660 (by decide +kernel)
theorem lmL_84 : xlm RL 84 yX8_seen := Or.inl tmL_84
theorem tmX8_214 : Cond.methodLinkNest RX8 214 yX6_add "RainBallot" ∈ xN := xN_of 592 (by decide +kernel)
theorem lmX8_214 : xlm RX8 214 yX6_add := Or.inr ⟨_, tmX8_214⟩
theorem tmL_88 : Cond.methodLink RL 88 yX8_forget ∈ xT := xT_of 668 (by decide +kernel)
theorem lmL_88 : xlm RL 88 yX8_forget := Or.inl tmL_88
theorem tmL_92 : Cond.methodLink RL 92 yX8_polls ∈ xT := xT_of 672 (by decide +kernel)
theorem lmL_92 : xlm RL 92 yX8_polls := Or.inl tmL_92
theorem tmX8_216 : Cond.methodLink RX8 216 yX8_isAllSeenInTrial ∈ xT := xT_of 676 (by decide +kernel)
theorem lmX8_216 : xlm RX8 216 yX8_isAllSeenInTrial := Or.inl tmX8_216
theorem tmX8_255 : Cond.methodLinkNest RX8 255 yX6_lastDay "RainBallot" ∈ xN := xN_of 608 (by decide +kernel)
theorem lmX8_255 : xlm RX8 255 yX6_lastDay := Or.inr ⟨_, tmX8_255⟩
theorem tmX6_22 : Cond.methodLink RX6 22 yJ9_max_7cf53 ∈ xT := xT_of 684 (by decide +kernel)
theorem lmX6_22 : xlm RX6 22 yJ9_max_7cf53 := Or.inl tmX6_22
theorem tmX8_258 : Cond.methodLinkNest RX8 258 yX6_allow "RainBallot" ∈ xN := xN_of 613 (by decide +kernel)
theorem lmX8_258 : xlm RX8 258 yX6_allow := Or.inr ⟨_, tmX8_258⟩
theorem tmL_96 : Cond.methodLink RL 96 yX8_chance ∈ xT := xT_of 689 (by decide +kernel)
theorem lmL_96 : xlm RL 96 yX8_chance := Or.inl tmL_96
theorem tmX8_220 : Cond.methodLink RX8 220 yX8_weightOfCarried ∈ xT := xT_of 693 (by decide +kernel)
theorem lmX8_220 : xlm RX8 220 yX8_weightOfCarried := Or.inl tmX8_220
theorem tmX8_224 : Cond.methodLink RX8 224 yX8_weightOf ∈ xT := xT_of 697 (by decide +kernel)
theorem lmX8_224 : xlm RX8 224 yX8_weightOf := Or.inl tmX8_224
theorem tmX8_227 : Cond.methodLink RX8 227 yX8_commonDivisor ∈ xT := xT_of 701 (by decide +kernel)
theorem lmX8_227 : xlm RX8 227 yX8_commonDivisor := Or.inl tmX8_227
theorem tmL_101 : Cond.methodLink RL 101 yX8_count ∈ xT := xT_of 704 (by decide +kernel)
theorem lmL_101 : xlm RL 101 yX8_count := Or.inl tmL_101
theorem tmX8_237 : Cond.methodLinkNest RX8 237 yX1_allWater "RainBallot" ∈ xN := xN_of 636 (by decide +kernel)
theorem lmX8_237 : xlm RX8 237 yX1_allWater := Or.inr ⟨_, tmX8_237⟩
theorem tmX8_240 : Cond.methodLinkNest RX8 240 yX1_contentBits "RainBallot" ∈ xN := xN_of 640 (by decide +kernel)
theorem lmX8_240 : xlm RX8 240 yX1_contentBits := Or.inr ⟨_, tmX8_240⟩
theorem lcL_10 : Cond.classLink RL 10 RX9 ∈ xT := xT_of 713 (by decide +kernel)
theorem tmL_12 : Cond.methodLink RL 12 yX9_init ∈ xT := xT_of 715 (by decide +kernel)
theorem lmL_12 : xlm RL 12 yX9_init := Or.inl tmL_12
theorem tmX9_1 : Cond.methodLink RX9 1 Lib.objectInit ∈ xT := xT_of 718 (by decide +kernel)
theorem lmX9_1 : xlm RX9 1 Lib.objectInit := Or.inl tmX9_1
theorem tmX9_45 : Cond.methodLink RX9 45 yX9_forgets ∈ xT := xT_of 719 (by decide +kernel)
theorem lmX9_45 : xlm RX9 45 yX9_forgets := Or.inl tmX9_45
theorem tmX9_48 : Cond.methodLink RX9 48 yX9_lays ∈ xT := xT_of 723 (by decide +kernel)
theorem lmX9_48 : xlm RX9 48 yX9_lays := Or.inl tmX9_48
theorem lfX9_7 : Cond.fieldLink RX9 7 "RainBallotModel" "text" "[I" ∈ xT := xT_of 727 (by decide +kernel)
theorem lfX9_55 : Cond.fieldLink RX9 55 "RainBallotModel" "typed" "I" ∈ xT := xT_of 728 (by decide +kernel)
theorem lfX9_13 : Cond.fieldLink RX9 13 "RainBallotModel" "told" "[I" ∈ xT := xT_of 729 (by decide +kernel)
theorem lfX9_16 : Cond.fieldLink RX9 16 "RainBallotModel" "draft" "[I" ∈ xT := xT_of 730 (by decide +kernel)
theorem lfX9_19 : Cond.fieldLink RX9 19 "RainBallotModel" "s" "[I" ∈ xT := xT_of 731 (by decide +kernel)
theorem lfX9_22 : Cond.fieldLink RX9 22 "RainBallotModel" "past" "[I" ∈ xT := xT_of 732 (by decide +kernel)
theorem lfX9_101 : Cond.fieldLink RX9 101 "RainBallotModel" "known" "I" ∈ xT := xT_of 733 (by decide +kernel)
theorem lfX9_25 : Cond.fieldLink RX9 25 "RainBallotModel" "images" "[I" ∈ xT := xT_of 734 (by decide +kernel)
theorem lfX9_28 : Cond.fieldLink RX9 28 "RainBallotModel" "kept" "[Z" ∈ xT := xT_of 735 (by decide +kernel)
theorem lfX9_32 : Cond.fieldLink RX9 32 "RainBallotModel" "notes" "[I" ∈ xT := xT_of 736 (by decide +kernel)
theorem lfX9_104 : Cond.fieldLink RX9 104 "RainBallotModel" "noted" "I" ∈ xT := xT_of 737 (by decide +kernel)
theorem lfX9_58 : Cond.fieldLink RX9 58 "RainBallotModel" "at" "I" ∈ xT := xT_of 738 (by decide +kernel)
theorem lfX9_75 : Cond.fieldLink RX9 75 "RainBallotModel" "sort" "I" ∈ xT := xT_of 739 (by decide +kernel)
theorem lfX9_65 : Cond.fieldLink RX9 65 "RainBallotModel" "start" "I" ∈ xT := xT_of 740 (by decide +kernel)
theorem lfX9_78 : Cond.fieldLink RX9 78 "RainBallotModel" "value" "I" ∈ xT := xT_of 741 (by decide +kernel)
theorem lfX9_35 : Cond.fieldLink RX9 35 "RainBallotModel" "votes" "[I" ∈ xT := xT_of 742 (by decide +kernel)
theorem lfX9_123 : Cond.fieldLink RX9 123 "RainBallotModel" "home" "I" ∈ xT := xT_of 743 (by decide +kernel)
theorem lfX9_117 : Cond.fieldLink RX9 117 "RainBallotModel" "bought" "I" ∈ xT := xT_of 744 (by decide +kernel)
theorem lfX9_38 : Cond.fieldLink RX9 38 "RainBallotModel" "buyer" "I" ∈ xT := xT_of 745 (by decide +kernel)
theorem lfX9_42 : Cond.fieldLink RX9 42 "RainBallotModel" "held" "[I" ∈ xT := xT_of 746 (by decide +kernel)
theorem tmL_17 : Cond.methodLink RL 17 yX9_write ∈ xT := xT_of 788 (by decide +kernel)
theorem lmL_17 : xlm RL 17 yX9_write := Or.inl tmL_17
theorem tmX9_51 : Cond.methodLink RX9 51 yX9_in ∈ xT := xT_of 792 (by decide +kernel)
theorem lmX9_51 : xlm RX9 51 yX9_in := Or.inl tmX9_51
theorem tmL_22 : Cond.methodLink RL 22 yX9_erase ∈ xT := xT_of 795 (by decide +kernel)
theorem lmL_22 : xlm RL 22 yX9_erase := Or.inl tmL_22
theorem tmL_26 : Cond.methodLink RL 26 yX9_fault ∈ xT := xT_of 799 (by decide +kernel)
theorem lmL_26 : xlm RL 26 yX9_fault := Or.inl tmL_26
theorem tmX9_107 : Cond.methodLink RX9 107 yX9_reads ∈ xT := xT_of 803 (by decide +kernel)
theorem lmX9_107 : xlm RX9 107 yX9_reads := Or.inl tmX9_107
theorem tmX9_81 : Cond.methodLink RX9 81 yX9_token ∈ xT := xT_of 807 (by decide +kernel)
theorem lmX9_81 : xlm RX9 81 yX9_token := Or.inl tmX9_81
theorem tmX9_61 : Cond.methodLink RX9 61 yX9_letterAt ∈ xT := xT_of 811 (by decide +kernel)
theorem lmX9_61 : xlm RX9 61 yX9_letterAt := Or.inl tmX9_61
theorem tmX9_68 : Cond.methodLink RX9 68 yX9_isLetter ∈ xT := xT_of 815 (by decide +kernel)
theorem lmX9_68 : xlm RX9 68 yX9_isLetter := Or.inl tmX9_68
theorem tmX9_72 : Cond.methodLink RX9 72 yX9_isDigit ∈ xT := xT_of 818 (by decide +kernel)
theorem lmX9_72 : xlm RX9 72 yX9_isDigit := Or.inl tmX9_72
theorem tmX9_98 : Cond.methodLink RX9 98 yX9_readsClause ∈ xT := xT_of 821 (by decide +kernel)
theorem lmX9_98 : xlm RX9 98 yX9_readsClause := Or.inl tmX9_98
theorem tmX9_87 : Cond.methodLink RX9 87 yX9_isWord ∈ xT := xT_of 825 (by decide +kernel)
theorem lmX9_87 : xlm RX9 87 yX9_isWord := Or.inl tmX9_87
theorem tmX9_91 : Cond.methodLink RX9 91 yX9_readsStreet ∈ xT := xT_of 829 (by decide +kernel)
theorem lmX9_91 : xlm RX9 91 yX9_readsStreet := Or.inl tmX9_91
theorem tmX9_84 : Cond.methodLink RX9 84 yX9_number ∈ xT := xT_of 833 (by decide +kernel)
theorem lmX9_84 : xlm RX9 84 yX9_number := Or.inl tmX9_84
theorem tmX9_94 : Cond.methodLink RX9 94 yX9_readsSlope ∈ xT := xT_of 837 (by decide +kernel)
theorem lmX9_94 : xlm RX9 94 yX9_readsSlope := Or.inl tmX9_94
theorem tmL_30 : Cond.methodLink RL 30 yX9_town ∈ xT := xT_of 841 (by decide +kernel)
theorem lmL_30 : xlm RL 30 yX9_town := Or.inl tmL_30
theorem tmL_35 : Cond.methodLink RL 35 yX9_street ∈ xT := xT_of 845 (by decide +kernel)
theorem lmL_35 : xlm RL 35 yX9_street := Or.inl tmL_35
theorem tmX9_129 : Cond.methodLink RX9 129 yX9_isStreet ∈ xT := xT_of 849 (by decide +kernel)
theorem lmX9_129 : xlm RX9 129 yX9_isStreet := Or.inl tmX9_129
theorem tmX9_126 : Cond.methodLink RX9 126 yX9_counts ∈ xT := xT_of 853 (by decide +kernel)
theorem lmX9_126 : xlm RX9 126 yX9_counts := Or.inl tmX9_126
theorem tmX9_120 : Cond.methodLink RX9 120 yX9_choice ∈ xT := xT_of 857 (by decide +kernel)
theorem lmX9_120 : xlm RX9 120 yX9_choice := Or.inl tmX9_120
theorem tmX9_111 : Cond.methodLink RX9 111 yX9_driestBut ∈ xT := xT_of 861 (by decide +kernel)
theorem lmX9_111 : xlm RX9 111 yX9_driestBut := Or.inl tmX9_111
theorem tmX9_114 : Cond.methodLink RX9 114 yX9_wants ∈ xT := xT_of 865 (by decide +kernel)
theorem lmX9_114 : xlm RX9 114 yX9_wants := Or.inl tmX9_114
theorem tmL_39 : Cond.methodLink RL 39 yX9_as ∈ xT := xT_of 869 (by decide +kernel)
theorem lmL_39 : xlm RL 39 yX9_as := Or.inl tmL_39
theorem tmL_43 : Cond.methodLink RL 43 yX9_day ∈ xT := xT_of 873 (by decide +kernel)
theorem lmL_43 : xlm RL 43 yX9_day := Or.inl tmL_43
theorem tmX9_135 : Cond.methodLink RX9 135 yX9_keeps ∈ xT := xT_of 877 (by decide +kernel)
theorem lmX9_135 : xlm RX9 135 yX9_keeps := Or.inl tmX9_135
theorem tmX9_138 : Cond.methodLink RX9 138 yX9_carried ∈ xT := xT_of 881 (by decide +kernel)
theorem lmX9_138 : xlm RX9 138 yX9_carried := Or.inl tmX9_138
theorem tmX9_141 : Cond.methodLink RX9 141 yX9_rains ∈ xT := xT_of 885 (by decide +kernel)
theorem lmX9_141 : xlm RX9 141 yX9_rains := Or.inl tmX9_141
theorem tmX9_132 : Cond.methodLink RX9 132 yX9_falls ∈ xT := xT_of 889 (by decide +kernel)
theorem lmX9_132 : xlm RX9 132 yX9_falls := Or.inl tmX9_132
theorem tmL_47 : Cond.methodLink RL 47 yX9_hose ∈ xT := xT_of 893 (by decide +kernel)
theorem lmL_47 : xlm RL 47 yX9_hose := Or.inl tmL_47
theorem tmL_51 : Cond.methodLink RL 51 yX9_poll ∈ xT := xT_of 897 (by decide +kernel)
theorem lmL_51 : xlm RL 51 yX9_poll := Or.inl tmL_51
theorem tmL_55 : Cond.methodLink RL 55 yX9_undo ∈ xT := xT_of 901 (by decide +kernel)
theorem lmL_55 : xlm RL 55 yX9_undo := Or.inl tmL_55
theorem tmL_59 : Cond.methodLink RL 59 yX9_keep ∈ xT := xT_of 905 (by decide +kernel)
theorem lmL_59 : xlm RL 59 yX9_keep := Or.inl tmL_59
theorem tmL_63 : Cond.methodLink RL 63 yX9_back ∈ xT := xT_of 909 (by decide +kernel)
theorem lmL_63 : xlm RL 63 yX9_back := Or.inl tmL_63
theorem tmL_67 : Cond.methodLink RL 67 yX9_where ∈ xT := xT_of 913 (by decide +kernel)
theorem lmL_67 : xlm RL 67 yX9_where := Or.inl tmL_67
theorem tmX9_145 : Cond.methodLink RX9 145 yX9_holds ∈ xT := xT_of 917 (by decide +kernel)
theorem lmX9_145 : xlm RX9 145 yX9_holds := Or.inl tmX9_145
theorem tmX9_148 : Cond.methodLink RX9 148 yX9_passes ∈ xT := xT_of 921 (by decide +kernel)
theorem lmX9_148 : xlm RX9 148 yX9_passes := Or.inl tmX9_148
theorem tmX9_151 : Cond.methodLink RX9 151 yX9_lets ∈ xT := xT_of 925 (by decide +kernel)
theorem lmX9_151 : xlm RX9 151 yX9_lets := Or.inl tmX9_151
theorem tmL_71 : Cond.methodLink RL 71 yX9_wet ∈ xT := xT_of 929 (by decide +kernel)
theorem lmL_71 : xlm RL 71 yX9_wet := Or.inl tmL_71
theorem tmL_75 : Cond.methodLink RL 75 yX9_carry ∈ xT := xT_of 933 (by decide +kernel)
theorem lmL_75 : xlm RL 75 yX9_carry := Or.inl tmL_75
theorem tmX9_154 : Cond.methodLink RX9 154 yX9_ones ∈ xT := xT_of 937 (by decide +kernel)
theorem lmX9_154 : xlm RX9 154 yX9_ones := Or.inl tmX9_154
theorem tmL_79 : Cond.methodLink RL 79 yX9_reach ∈ xT := xT_of 940 (by decide +kernel)
theorem lmL_79 : xlm RL 79 yX9_reach := Or.inl tmL_79
theorem tmL_83 : Cond.methodLink RL 83 yX9_month ∈ xT := xT_of 944 (by decide +kernel)
theorem lmL_83 : xlm RL 83 yX9_month := Or.inl tmL_83
theorem tmX9_157 : Cond.methodLink RX9 157 yX9_sated ∈ xT := xT_of 948 (by decide +kernel)
theorem lmX9_157 : xlm RX9 157 yX9_sated := Or.inl tmX9_157
theorem tmL_87 : Cond.methodLink RL 87 yX9_seen ∈ xT := xT_of 952 (by decide +kernel)
theorem lmL_87 : xlm RL 87 yX9_seen := Or.inl tmL_87
theorem tmL_91 : Cond.methodLink RL 91 yX9_forget ∈ xT := xT_of 956 (by decide +kernel)
theorem lmL_91 : xlm RL 91 yX9_forget := Or.inl tmL_91
theorem tmL_95 : Cond.methodLink RL 95 yX9_polls ∈ xT := xT_of 960 (by decide +kernel)
theorem lmL_95 : xlm RL 95 yX9_polls := Or.inl tmL_95
theorem tmX9_160 : Cond.methodLink RX9 160 yX9_isSo ∈ xT := xT_of 964 (by decide +kernel)
theorem lmX9_160 : xlm RX9 160 yX9_isSo := Or.inl tmX9_160
theorem tmL_100 : Cond.methodLink RL 100 yX9_chance ∈ xT := xT_of 968 (by decide +kernel)
theorem lmL_100 : xlm RL 100 yX9_chance := Or.inl tmL_100
theorem tmL_104 : Cond.methodLink RL 104 yX9_count ∈ xT := xT_of 972 (by decide +kernel)
theorem lmL_104 : xlm RL 104 yX9_count := Or.inl tmL_104
theorem lfJ0_9 : Cond.fieldLink RJ0 9 "java/lang/String" "value" "[B" ∈ xT := xT_of 976 (by decide +kernel)
theorem lfJ0_15 : Cond.fieldLink RJ0 15 "java/lang/String" "coder" "B" ∈ xT := xT_of 977 (by decide +kernel)
abbrev YX8_init : xY := (yX8_init, cX8_init, 1, none)
theorem w_X8_init : xMw YX8_init 0 := ⟨cd_X8_init, iiX8, by decide +kernel, by decide +kernel, by decide +kernel⟩
abbrev YX7_init : xY := (yX7_init, cX7_init, 1, none)
theorem w_X7_init : xMw YX7_init 0 := ⟨cd_X7_init, iiX7, by decide +kernel, by decide +kernel, by decide +kernel⟩
abbrev YX3_init : xY := (yX3_init, cX3_init, 1, none)
theorem w_X3_init : xMw YX3_init 0 := ⟨cd_X3_init, iiX3, by decide +kernel, by decide +kernel, by decide +kernel⟩
abbrev YX1_init : xY := (yX1_init, cX1_init, 1, none)
theorem w_X1_init : xMw YX1_init 0 := ⟨cd_X1_init, iiX1, by decide +kernel, by decide +kernel, by decide +kernel⟩
abbrev YX2_init : xY := (yX2_init, cX2_init, 2, none)
theorem w_X2_init : xMw YX2_init 0 := ⟨cd_X2_init, iiX2, by decide +kernel, by decide +kernel, by decide +kernel⟩
abbrev YX5_init : xY := (yX5_init, cX5_init, 2, none)
theorem w_X5_init : xMw YX5_init 0 := ⟨cd_X5_init, iiX5, by decide +kernel, by decide +kernel, by decide +kernel⟩
abbrev YX6_init : xY := (yX6_init, cX6_init, 1, none)
theorem w_X6_init : xMw YX6_init 0 := ⟨cd_X6_init, iiX6, by decide +kernel, by decide +kernel, by decide +kernel⟩
abbrev YX0_init : xY := (yX0_init, cX0_init, 1, none)
theorem w_X0_init : xMw YX0_init 0 := ⟨cd_X0_init, iiX0, by decide +kernel, by decide +kernel, by decide +kernel⟩
abbrev YX4_init : xY := (yX4_init, cX4_init, 2, none)
theorem w_X4_init : xMw YX4_init 0 := ⟨cd_X4_init, iiX4, by decide +kernel, by decide +kernel, by decide +kernel⟩
abbrev YX8_write : xY := (yX8_write, cX8_write, 2, (some .int))
theorem w_X8_write : xMw YX8_write 1 := ⟨cd_X8_write, iiX8, by decide +kernel, by decide +kernel, by decide +kernel⟩
abbrev YX7_add : xY := (yX7_add, cX7_add, 2, (some .boolean))
theorem w_X7_add : xMw YX7_add 1 := ⟨cd_X7_add, iiX7, by decide +kernel, by decide +kernel, by decide +kernel⟩
abbrev YX8_erase : xY := (yX8_erase, cX8_erase, 2, (some .int))
theorem w_X8_erase : xMw YX8_erase 0 := ⟨cd_X8_erase, iiX8, by decide +kernel, by decide +kernel, by decide +kernel⟩
abbrev YX8_fault : xY := (yX8_fault, cX8_fault, 1, (some .int))
theorem w_X8_fault : xMw YX8_fault 0 := ⟨cd_X8_fault, iiX8, by decide +kernel, by decide +kernel, by decide +kernel⟩
abbrev YX7_read : xY := (yX7_read, cX7_read, 4, (some .int))
theorem w_X7_read : xMw YX7_read 2 := ⟨cd_X7_read, iiX7, by decide +kernel, by decide +kernel, by decide +kernel⟩
abbrev YX3_copyFrom : xY := (yX3_copyFrom, cX3_copyFrom, 2, none)
theorem w_X3_copyFrom : xMw YX3_copyFrom 1 := ⟨cd_X3_copyFrom, iiX3, by decide +kernel, by decide +kernel, by decide +kernel⟩
abbrev YX7_step : xY := (yX7_step, cX7_step, 1, none)
theorem w_X7_step : xMw YX7_step 0 := ⟨cd_X7_step, iiX7, by decide +kernel, by decide +kernel, by decide +kernel⟩
abbrev YX7_isDigitAt : xY := (yX7_isDigitAt, cX7_isDigitAt, 2, (some .boolean))
theorem w_X7_isDigitAt : xMw YX7_isDigitAt 1 := ⟨cd_X7_isDigitAt, iiX7, by decide +kernel, by decide +kernel, by decide +kernel⟩
abbrev YX7_isSmallAt : xY := (yX7_isSmallAt, cX7_isSmallAt, 2, (some .boolean))
theorem w_X7_isSmallAt : xMw YX7_isSmallAt 1 := ⟨cd_X7_isSmallAt, iiX7, by decide +kernel, by decide +kernel, by decide +kernel⟩
abbrev YX7_readClause : xY := (yX7_readClause, cX7_readClause, 3, (some .boolean))
theorem w_X7_readClause : xMw YX7_readClause 1 := ⟨cd_X7_readClause, iiX7, by decide +kernel, by decide +kernel, by decide +kernel⟩
abbrev YX7_isWord : xY := (yX7_isWord, cX7_isWord, 3, (some .boolean))
theorem w_X7_isWord : xMw YX7_isWord 1 := ⟨cd_X7_isWord, iiX7, by decide +kernel, by decide +kernel, by decide +kernel⟩
abbrev YJ0_length_8abf5 : xY := (yJ0_length_8abf5, cJ0_length_8abf5, 1, (some .int))
theorem w_J0_length_8abf5 : xMw YJ0_length_8abf5 0 := ⟨cd_J0_length_8abf5, iiJ0, by decide +kernel, by decide +kernel, by decide +kernel⟩
abbrev YJ0_coder_7d493 : xY := (yJ0_coder_7d493, cJ0_coder_7d493, 1, (some .byte))
theorem w_J0_coder_7d493 : xMw YJ0_coder_7d493 0 := ⟨cd_J0_coder_7d493, iiJ0, by decide +kernel, by decide +kernel, by decide +kernel⟩
abbrev YJ0_charAt_5068e : xY := (yJ0_charAt_5068e, cJ0_charAt_5068e, 2, (some .char))
theorem w_J0_charAt_5068e : xMw YJ0_charAt_5068e 1 := ⟨cd_J0_charAt_5068e, iiJ0, by decide +kernel, by decide +kernel, by decide +kernel⟩
abbrev YJ0_isLatin1_aae02 : xY := (yJ0_isLatin1_aae02, cJ0_isLatin1_aae02, 1, (some .boolean))
theorem w_J0_isLatin1_aae02 : xMw YJ0_isLatin1_aae02 0 := ⟨cd_J0_isLatin1_aae02, iiJ0, by decide +kernel, by decide +kernel, by decide +kernel⟩
abbrev YJ1_charAt_3b067 : xY := (yJ1_charAt_3b067, cJ1_charAt_3b067, 2, (some .char))
theorem w_J1_charAt_3b067 : xMw YJ1_charAt_3b067 2 := ⟨cd_J1_charAt_3b067, iiJ1, by decide +kernel, by decide +kernel, by decide +kernel⟩
abbrev YJ0_checkIndex_df160 : xY := (yJ0_checkIndex_df160, cJ0_checkIndex_df160, 2, none)
theorem w_J0_checkIndex_df160 : xMw YJ0_checkIndex_df160 2 := ⟨cd_J0_checkIndex_df160, iiJ0, by decide +kernel, by decide +kernel, by decide +kernel⟩
abbrev YJ3_checkIndex_8e157 : xY := (yJ3_checkIndex_8e157, cJ3_checkIndex_8e157, 3, (some .int))
theorem w_J3_checkIndex_8e157 : xMw YJ3_checkIndex_8e157 3 := ⟨cd_J3_checkIndex_8e157, iiJ3, by decide +kernel, by decide +kernel, by decide +kernel⟩
abbrev YJ2_charAt_3b067 : xY := (yJ2_charAt_3b067, cJ2_charAt_3b067, 2, (some .char))
theorem w_J2_charAt_3b067 : xMw YJ2_charAt_3b067 2 := ⟨cd_J2_charAt_3b067, iiJ2, by decide +kernel, by decide +kernel, by decide +kernel⟩
abbrev YJ2_checkIndex_2214a : xY := (yJ2_checkIndex_2214a, cJ2_checkIndex_2214a, 2, none)
theorem w_J2_checkIndex_2214a : xMw YJ2_checkIndex_2214a 2 := ⟨cd_J2_checkIndex_2214a, iiJ2, by decide +kernel, by decide +kernel, by decide +kernel⟩
abbrev YJ2_length_9d52b : xY := (yJ2_length_9d52b, cJ2_length_9d52b, 1, (some .int))
theorem w_J2_length_9d52b : xMw YJ2_length_9d52b 1 := ⟨cd_J2_length_9d52b, iiJ2, by decide +kernel, by decide +kernel, by decide +kernel⟩
abbrev YJ2_getChar_3b067 : xY := (yJ2_getChar_3b067, cJ2_getChar_3b067, 2, (some .char))
theorem w_J2_getChar_3b067 : xMw YJ2_getChar_3b067 2 := ⟨cd_J2_getChar_3b067, iiJ2, by decide +kernel, by decide +kernel, by decide +kernel⟩
abbrev YX3_clear : xY := (yX3_clear, cX3_clear, 1, none)
theorem w_X3_clear : xMw YX3_clear 0 := ⟨cd_X3_clear, iiX3, by decide +kernel, by decide +kernel, by decide +kernel⟩
abbrev YX7_readSlope : xY := (yX7_readSlope, cX7_readSlope, 4, (some .boolean))
theorem w_X7_readSlope : xMw YX7_readSlope 1 := ⟨cd_X7_readSlope, iiX7, by decide +kernel, by decide +kernel, by decide +kernel⟩
abbrev YX7_readNumber : xY := (yX7_readNumber, cX7_readNumber, 6, (some .int))
theorem w_X7_readNumber : xMw YX7_readNumber 3 := ⟨cd_X7_readNumber, iiX7, by decide +kernel, by decide +kernel, by decide +kernel⟩
abbrev YX3_tilt : xY := (yX3_tilt, cX3_tilt, 3, none)
theorem w_X3_tilt : xMw YX3_tilt 2 := ⟨cd_X3_tilt, iiX3, by decide +kernel, by decide +kernel, by decide +kernel⟩
abbrev YX3_has : xY := (yX3_has, cX3_has, 2, (some .boolean))
theorem w_X3_has : xMw YX3_has 1 := ⟨cd_X3_has, iiX3, by decide +kernel, by decide +kernel, by decide +kernel⟩
abbrev YX7_kindOfWord : xY := (yX7_kindOfWord, cX7_kindOfWord, 1, (some .int))
theorem w_X7_kindOfWord : xMw YX7_kindOfWord 0 := ⟨cd_X7_kindOfWord, iiX7, by decide +kernel, by decide +kernel, by decide +kernel⟩
abbrev YX7_readStreet : xY := (yX7_readStreet, cX7_readStreet, 6, (some .boolean))
theorem w_X7_readStreet : xMw YX7_readStreet 2 := ⟨cd_X7_readStreet, iiX7, by decide +kernel, by decide +kernel, by decide +kernel⟩
abbrev YX3_add : xY := (yX3_add, cX3_add, 5, none)
theorem w_X3_add : xMw YX3_add 4 := ⟨cd_X3_add, iiX3, by decide +kernel, by decide +kernel, by decide +kernel⟩
abbrev YX8_town : xY := (yX8_town, cX8_town, 1, (some .int))
theorem w_X8_town : xMw YX8_town 0 := ⟨cd_X8_town, iiX8, by decide +kernel, by decide +kernel, by decide +kernel⟩
abbrev YX1_begin : xY := (yX1_begin, cX1_begin, 2, none)
theorem w_X1_begin : xMw YX1_begin 1 := ⟨cd_X1_begin, iiX1, by decide +kernel, by decide +kernel, by decide +kernel⟩
abbrev YX2_clear : xY := (yX2_clear, cX2_clear, 1, none)
theorem w_X2_clear : xMw YX2_clear 0 := ⟨cd_X2_clear, iiX2, by decide +kernel, by decide +kernel, by decide +kernel⟩
abbrev YX5_clear : xY := (yX5_clear, cX5_clear, 2, none)
theorem w_X5_clear : xMw YX5_clear 0 := ⟨cd_X5_clear, iiX5, by decide +kernel, by decide +kernel, by decide +kernel⟩
abbrev YX8_street : xY := (yX8_street, cX8_street, 3, (some .int))
theorem w_X8_street : xMw YX8_street 2 := ⟨cd_X8_street, iiX8, by decide +kernel, by decide +kernel, by decide +kernel⟩
abbrev YX0_choiceOf : xY := (yX0_choiceOf, cX0_choiceOf, 3, (some .int))
theorem w_X0_choiceOf : xMw YX0_choiceOf 3 := ⟨cd_X0_choiceOf, iiX0, by decide +kernel, by decide +kernel, by decide +kernel⟩
abbrev YX1_driest : xY := (yX1_driest, cX1_driest, 6, (some .int))
theorem w_X1_driest : xMw YX1_driest 2 := ⟨cd_X1_driest, iiX1, by decide +kernel, by decide +kernel, by decide +kernel⟩
abbrev YX1_isContent : xY := (yX1_isContent, cX1_isContent, 3, (some .boolean))
theorem w_X1_isContent : xMw YX1_isContent 2 := ⟨cd_X1_isContent, iiX1, by decide +kernel, by decide +kernel, by decide +kernel⟩
abbrev YX3_wants : xY := (yX3_wants, cX3_wants, 2, (some .int))
theorem w_X3_wants : xMw YX3_wants 1 := ⟨cd_X3_wants, iiX3, by decide +kernel, by decide +kernel, by decide +kernel⟩
abbrev YX0_choose : xY := (yX0_choose, cX0_choose, 4, none)
theorem w_X0_choose : xMw YX0_choose 2 := ⟨cd_X0_choose, iiX0, by decide +kernel, by decide +kernel, by decide +kernel⟩
abbrev YX0_tally : xY := (yX0_tally, cX0_tally, 3, none)
theorem w_X0_tally : xMw YX0_tally 2 := ⟨cd_X0_tally, iiX0, by decide +kernel, by decide +kernel, by decide +kernel⟩
abbrev YX0_tallyAll : xY := (yX0_tallyAll, cX0_tallyAll, 8, none)
theorem w_X0_tallyAll : xMw YX0_tallyAll 4 := ⟨cd_X0_tallyAll, iiX0, by decide +kernel, by decide +kernel, by decide +kernel⟩
abbrev YX8_as : xY := (yX8_as, cX8_as, 3, (some .int))
theorem w_X8_as : xMw YX8_as 2 := ⟨cd_X8_as, iiX8, by decide +kernel, by decide +kernel, by decide +kernel⟩
abbrev YX8_isUnder : xY := (yX8_isUnder, cX8_isUnder, 2, (some .boolean))
theorem w_X8_isUnder : xMw YX8_isUnder 2 := ⟨cd_X8_isUnder, iiX8, by decide +kernel, by decide +kernel, by decide +kernel⟩
abbrev YX8_day : xY := (yX8_day, cX8_day, 1, (some .int))
theorem w_X8_day : xMw YX8_day 0 := ⟨cd_X8_day, iiX8, by decide +kernel, by decide +kernel, by decide +kernel⟩
abbrev YX2_remember : xY := (yX2_remember, cX2_remember, 2, none)
theorem w_X2_remember : xMw YX2_remember 1 := ⟨cd_X2_remember, iiX2, by decide +kernel, by decide +kernel, by decide +kernel⟩
abbrev YX1_copyFrom : xY := (yX1_copyFrom, cX1_copyFrom, 2, none)
theorem w_X1_copyFrom : xMw YX1_copyFrom 1 := ⟨cd_X1_copyFrom, iiX1, by decide +kernel, by decide +kernel, by decide +kernel⟩
abbrev YX8_passDay : xY := (yX8_passDay, cX8_passDay, 3, (some .int))
theorem w_X8_passDay : xMw YX8_passDay 1 := ⟨cd_X8_passDay, iiX8, by decide +kernel, by decide +kernel, by decide +kernel⟩
abbrev YX0_winner : xY := (yX0_winner, cX0_winner, 4, (some .int))
theorem w_X0_winner : xMw YX0_winner 0 := ⟨cd_X0_winner, iiX0, by decide +kernel, by decide +kernel, by decide +kernel⟩
abbrev YX1_pass : xY := (yX1_pass, cX1_pass, 4, none)
theorem w_X1_pass : xMw YX1_pass 2 := ⟨cd_X1_pass, iiX1, by decide +kernel, by decide +kernel, by decide +kernel⟩
abbrev YX1_fall : xY := (yX1_fall, cX1_fall, 8, (some .int))
theorem w_X1_fall : xMw YX1_fall 2 := ⟨cd_X1_fall, iiX1, by decide +kernel, by decide +kernel, by decide +kernel⟩
abbrev YX8_hose : xY := (yX8_hose, cX8_hose, 3, (some .int))
theorem w_X8_hose : xMw YX8_hose 2 := ⟨cd_X8_hose, iiX8, by decide +kernel, by decide +kernel, by decide +kernel⟩
abbrev YX8_poll : xY := (yX8_poll, cX8_poll, 4, (some .int))
theorem w_X8_poll : xMw YX8_poll 2 := ⟨cd_X8_poll, iiX8, by decide +kernel, by decide +kernel, by decide +kernel⟩
abbrev YX8_undo : xY := (yX8_undo, cX8_undo, 1, (some .int))
theorem w_X8_undo : xMw YX8_undo 0 := ⟨cd_X8_undo, iiX8, by decide +kernel, by decide +kernel, by decide +kernel⟩
abbrev YX2_recall : xY := (yX2_recall, cX2_recall, 2, (some .boolean))
theorem w_X2_recall : xMw YX2_recall 1 := ⟨cd_X2_recall, iiX2, by decide +kernel, by decide +kernel, by decide +kernel⟩
abbrev YX8_keep : xY := (yX8_keep, cX8_keep, 2, (some .int))
theorem w_X8_keep : xMw YX8_keep 1 := ⟨cd_X8_keep, iiX8, by decide +kernel, by decide +kernel, by decide +kernel⟩
abbrev YX8_isShelf : xY := (yX8_isShelf, cX8_isShelf, 1, (some .boolean))
theorem w_X8_isShelf : xMw YX8_isShelf 1 := ⟨cd_X8_isShelf, iiX8, by decide +kernel, by decide +kernel, by decide +kernel⟩
abbrev YX5_put : xY := (yX5_put, cX5_put, 3, none)
theorem w_X5_put : xMw YX5_put 2 := ⟨cd_X5_put, iiX5, by decide +kernel, by decide +kernel, by decide +kernel⟩
abbrev YX8_back : xY := (yX8_back, cX8_back, 2, (some .int))
theorem w_X8_back : xMw YX8_back 1 := ⟨cd_X8_back, iiX8, by decide +kernel, by decide +kernel, by decide +kernel⟩
abbrev YX5_take : xY := (yX5_take, cX5_take, 3, (some .boolean))
theorem w_X5_take : xMw YX5_take 2 := ⟨cd_X5_take, iiX5, by decide +kernel, by decide +kernel, by decide +kernel⟩
abbrev YX8_where : xY := (yX8_where, cX8_where, 2, (some .int))
theorem w_X8_where : xMw YX8_where 1 := ⟨cd_X8_where, iiX8, by decide +kernel, by decide +kernel, by decide +kernel⟩
abbrev YX8_passTrialDays : xY := (yX8_passTrialDays, cX8_passTrialDays, 3, none)
theorem w_X8_passTrialDays : xMw YX8_passTrialDays 1 := ⟨cd_X8_passTrialDays, iiX8, by decide +kernel, by decide +kernel, by decide +kernel⟩
abbrev YX8_wet : xY := (yX8_wet, cX8_wet, 3, (some .int))
theorem w_X8_wet : xMw YX8_wet 2 := ⟨cd_X8_wet, iiX8, by decide +kernel, by decide +kernel, by decide +kernel⟩
abbrev YX8_carry : xY := (yX8_carry, cX8_carry, 6, (some .int))
theorem w_X8_carry : xMw YX8_carry 1 := ⟨cd_X8_carry, iiX8, by decide +kernel, by decide +kernel, by decide +kernel⟩
abbrev YX3_votingBits : xY := (yX3_votingBits, cX3_votingBits, 3, (some .int))
theorem w_X3_votingBits : xMw YX3_votingBits 0 := ⟨cd_X3_votingBits, iiX3, by decide +kernel, by decide +kernel, by decide +kernel⟩
abbrev YJ6_bitCount_0f7a4 : xY := (yJ6_bitCount_0f7a4, cJ6_bitCount_0f7a4, 1, (some .int))
theorem w_J6_bitCount_0f7a4 : xMw YJ6_bitCount_0f7a4 1 := ⟨cd_J6_bitCount_0f7a4, iiJ6, by decide +kernel, by decide +kernel, by decide +kernel⟩
abbrev YX8_isCarriedWith : xY := (yX8_isCarriedWith, cX8_isCarriedWith, 3, (some .boolean))
theorem w_X8_isCarriedWith : xMw YX8_isCarriedWith 2 := ⟨cd_X8_isCarriedWith, iiX8, by decide +kernel, by decide +kernel, by decide +kernel⟩
abbrev YX0_tallyTurned : xY := (yX0_tallyTurned, cX0_tallyTurned, 4, none)
theorem w_X0_tallyTurned : xMw YX0_tallyTurned 3 := ⟨cd_X0_tallyTurned, iiX0, by decide +kernel, by decide +kernel, by decide +kernel⟩
abbrev YX8_reach : xY := (yX8_reach, cX8_reach, 4, (some .int))
theorem w_X8_reach : xMw YX8_reach 1 := ⟨cd_X8_reach, iiX8, by decide +kernel, by decide +kernel, by decide +kernel⟩
abbrev YX8_month : xY := (yX8_month, cX8_month, 3, (some .int))
theorem w_X8_month : xMw YX8_month 2 := ⟨cd_X8_month, iiX8, by decide +kernel, by decide +kernel, by decide +kernel⟩
abbrev YX4_find : xY := (yX4_find, cX4_find, 4, none)
theorem w_X4_find : xMw YX4_find 3 := ⟨cd_X4_find, iiX4, by decide +kernel, by decide +kernel, by decide +kernel⟩
abbrev YX4_extend : xY := (yX4_extend, cX4_extend, 5, none)
theorem w_X4_extend : xMw YX4_extend 3 := ⟨cd_X4_extend, iiX4, by decide +kernel, by decide +kernel, by decide +kernel⟩
abbrev YX4_judge : xY := (yX4_judge, cX4_judge, 3, none)
theorem w_X4_judge : xMw YX4_judge 1 := ⟨cd_X4_judge, iiX4, by decide +kernel, by decide +kernel, by decide +kernel⟩
abbrev YX1_contentBits : xY := (yX1_contentBits, cX1_contentBits, 4, (some .int))
theorem w_X1_contentBits : xMw YX1_contentBits 1 := ⟨cd_X1_contentBits, iiX1, by decide +kernel, by decide +kernel, by decide +kernel⟩
abbrev YX8_seen : xY := (yX8_seen, cX8_seen, 3, (some .int))
theorem w_X8_seen : xMw YX8_seen 2 := ⟨cd_X8_seen, iiX8, by decide +kernel, by decide +kernel, by decide +kernel⟩
abbrev YX6_add : xY := (yX6_add, cX6_add, 3, (some .boolean))
theorem w_X6_add : xMw YX6_add 2 := ⟨cd_X6_add, iiX6, by decide +kernel, by decide +kernel, by decide +kernel⟩
abbrev YX8_forget : xY := (yX8_forget, cX8_forget, 2, (some .int))
theorem w_X8_forget : xMw YX8_forget 0 := ⟨cd_X8_forget, iiX8, by decide +kernel, by decide +kernel, by decide +kernel⟩
abbrev YX8_polls : xY := (yX8_polls, cX8_polls, 4, (some .int))
theorem w_X8_polls : xMw YX8_polls 1 := ⟨cd_X8_polls, iiX8, by decide +kernel, by decide +kernel, by decide +kernel⟩
abbrev YX8_isAllSeenInTrial : xY := (yX8_isAllSeenInTrial, cX8_isAllSeenInTrial, 3, (some .boolean))
theorem w_X8_isAllSeenInTrial : xMw YX8_isAllSeenInTrial 0 := ⟨cd_X8_isAllSeenInTrial, iiX8, by decide +kernel, by decide +kernel, by decide +kernel⟩
abbrev YX6_lastDay : xY := (yX6_lastDay, cX6_lastDay, 3, (some .int))
theorem w_X6_lastDay : xMw YX6_lastDay 0 := ⟨cd_X6_lastDay, iiX6, by decide +kernel, by decide +kernel, by decide +kernel⟩
abbrev YX6_allow : xY := (yX6_allow, cX6_allow, 4, (some .boolean))
theorem w_X6_allow : xMw YX6_allow 2 := ⟨cd_X6_allow, iiX6, by decide +kernel, by decide +kernel, by decide +kernel⟩
abbrev YX8_chance : xY := (yX8_chance, cX8_chance, 10, (some .int))
theorem w_X8_chance : xMw YX8_chance 3 := ⟨cd_X8_chance, iiX8, by decide +kernel, by decide +kernel, by decide +kernel⟩
abbrev YX8_weightOfCarried : xY := (yX8_weightOfCarried, cX8_weightOfCarried, 6, (some .long))
theorem w_X8_weightOfCarried : xMw YX8_weightOfCarried 2 := ⟨cd_X8_weightOfCarried, iiX8, by decide +kernel, by decide +kernel, by decide +kernel⟩
abbrev YX8_weightOf : xY := (yX8_weightOf, cX8_weightOf, 6, (some .long))
theorem w_X8_weightOf : xMw YX8_weightOf 2 := ⟨cd_X8_weightOf, iiX8, by decide +kernel, by decide +kernel, by decide +kernel⟩
abbrev YX8_commonDivisor : xY := (yX8_commonDivisor, cX8_commonDivisor, 11, (some .long))
theorem w_X8_commonDivisor : xMw YX8_commonDivisor 2 := ⟨cd_X8_commonDivisor, iiX8, by decide +kernel, by decide +kernel, by decide +kernel⟩
abbrev YX8_count : xY := (yX8_count, cX8_count, 2, (some .int))
theorem w_X8_count : xMw YX8_count 1 := ⟨cd_X8_count, iiX8, by decide +kernel, by decide +kernel, by decide +kernel⟩
abbrev YX1_allWater : xY := (yX1_allWater, cX1_allWater, 4, (some .int))
theorem w_X1_allWater : xMw YX1_allWater 1 := ⟨cd_X1_allWater, iiX1, by decide +kernel, by decide +kernel, by decide +kernel⟩
abbrev YX9_init : xY := (yX9_init, cX9_init, 2, none)
theorem w_X9_init : xMw YX9_init 0 := ⟨cd_X9_init, iiX9, by decide +kernel, by decide +kernel, by decide +kernel⟩
abbrev YX9_forgets : xY := (yX9_forgets, cX9_forgets, 2, none)
theorem w_X9_forgets : xMw YX9_forgets 0 := ⟨cd_X9_forgets, iiX9, by decide +kernel, by decide +kernel, by decide +kernel⟩
abbrev YX9_lays : xY := (yX9_lays, cX9_lays, 2, none)
theorem w_X9_lays : xMw YX9_lays 0 := ⟨cd_X9_lays, iiX9, by decide +kernel, by decide +kernel, by decide +kernel⟩
abbrev YX9_write : xY := (yX9_write, cX9_write, 2, (some .int))
theorem w_X9_write : xMw YX9_write 1 := ⟨cd_X9_write, iiX9, by decide +kernel, by decide +kernel, by decide +kernel⟩
abbrev YX9_in : xY := (yX9_in, cX9_in, 3, (some .boolean))
theorem w_X9_in : xMw YX9_in 3 := ⟨cd_X9_in, iiX9, by decide +kernel, by decide +kernel, by decide +kernel⟩
abbrev YX9_erase : xY := (yX9_erase, cX9_erase, 2, (some .int))
theorem w_X9_erase : xMw YX9_erase 0 := ⟨cd_X9_erase, iiX9, by decide +kernel, by decide +kernel, by decide +kernel⟩
abbrev YX9_fault : xY := (yX9_fault, cX9_fault, 1, (some .int))
theorem w_X9_fault : xMw YX9_fault 0 := ⟨cd_X9_fault, iiX9, by decide +kernel, by decide +kernel, by decide +kernel⟩
abbrev YX9_reads : xY := (yX9_reads, cX9_reads, 3, (some .int))
theorem w_X9_reads : xMw YX9_reads 0 := ⟨cd_X9_reads, iiX9, by decide +kernel, by decide +kernel, by decide +kernel⟩
abbrev YX9_token : xY := (yX9_token, cX9_token, 2, none)
theorem w_X9_token : xMw YX9_token 0 := ⟨cd_X9_token, iiX9, by decide +kernel, by decide +kernel, by decide +kernel⟩
abbrev YX9_letterAt : xY := (yX9_letterAt, cX9_letterAt, 2, (some .int))
theorem w_X9_letterAt : xMw YX9_letterAt 1 := ⟨cd_X9_letterAt, iiX9, by decide +kernel, by decide +kernel, by decide +kernel⟩
abbrev YX9_isLetter : xY := (yX9_isLetter, cX9_isLetter, 1, (some .boolean))
theorem w_X9_isLetter : xMw YX9_isLetter 1 := ⟨cd_X9_isLetter, iiX9, by decide +kernel, by decide +kernel, by decide +kernel⟩
abbrev YX9_isDigit : xY := (yX9_isDigit, cX9_isDigit, 1, (some .boolean))
theorem w_X9_isDigit : xMw YX9_isDigit 1 := ⟨cd_X9_isDigit, iiX9, by decide +kernel, by decide +kernel, by decide +kernel⟩
abbrev YX9_readsClause : xY := (yX9_readsClause, cX9_readsClause, 1, (some .boolean))
theorem w_X9_readsClause : xMw YX9_readsClause 0 := ⟨cd_X9_readsClause, iiX9, by decide +kernel, by decide +kernel, by decide +kernel⟩
abbrev YX9_isWord : xY := (yX9_isWord, cX9_isWord, 11, (some .boolean))
theorem w_X9_isWord : xMw YX9_isWord 7 := ⟨cd_X9_isWord, iiX9, by decide +kernel, by decide +kernel, by decide +kernel⟩
abbrev YX9_readsStreet : xY := (yX9_readsStreet, cX9_readsStreet, 3, (some .boolean))
theorem w_X9_readsStreet : xMw YX9_readsStreet 1 := ⟨cd_X9_readsStreet, iiX9, by decide +kernel, by decide +kernel, by decide +kernel⟩
abbrev YX9_number : xY := (yX9_number, cX9_number, 4, (some .boolean))
theorem w_X9_number : xMw YX9_number 3 := ⟨cd_X9_number, iiX9, by decide +kernel, by decide +kernel, by decide +kernel⟩
abbrev YX9_readsSlope : xY := (yX9_readsSlope, cX9_readsSlope, 2, (some .boolean))
theorem w_X9_readsSlope : xMw YX9_readsSlope 0 := ⟨cd_X9_readsSlope, iiX9, by decide +kernel, by decide +kernel, by decide +kernel⟩
abbrev YX9_town : xY := (yX9_town, cX9_town, 3, (some .int))
theorem w_X9_town : xMw YX9_town 0 := ⟨cd_X9_town, iiX9, by decide +kernel, by decide +kernel, by decide +kernel⟩
abbrev YX9_street : xY := (yX9_street, cX9_street, 3, (some .int))
theorem w_X9_street : xMw YX9_street 2 := ⟨cd_X9_street, iiX9, by decide +kernel, by decide +kernel, by decide +kernel⟩
abbrev YX9_isStreet : xY := (yX9_isStreet, cX9_isStreet, 2, (some .boolean))
theorem w_X9_isStreet : xMw YX9_isStreet 1 := ⟨cd_X9_isStreet, iiX9, by decide +kernel, by decide +kernel, by decide +kernel⟩
abbrev YX9_counts : xY := (yX9_counts, cX9_counts, 3, none)
theorem w_X9_counts : xMw YX9_counts 0 := ⟨cd_X9_counts, iiX9, by decide +kernel, by decide +kernel, by decide +kernel⟩
abbrev YX9_choice : xY := (yX9_choice, cX9_choice, 3, (some .int))
theorem w_X9_choice : xMw YX9_choice 1 := ⟨cd_X9_choice, iiX9, by decide +kernel, by decide +kernel, by decide +kernel⟩
abbrev YX9_driestBut : xY := (yX9_driestBut, cX9_driestBut, 4, (some .int))
theorem w_X9_driestBut : xMw YX9_driestBut 1 := ⟨cd_X9_driestBut, iiX9, by decide +kernel, by decide +kernel, by decide +kernel⟩
abbrev YX9_wants : xY := (yX9_wants, cX9_wants, 3, (some .int))
theorem w_X9_wants : xMw YX9_wants 1 := ⟨cd_X9_wants, iiX9, by decide +kernel, by decide +kernel, by decide +kernel⟩
abbrev YX9_as : xY := (yX9_as, cX9_as, 5, (some .int))
theorem w_X9_as : xMw YX9_as 2 := ⟨cd_X9_as, iiX9, by decide +kernel, by decide +kernel, by decide +kernel⟩
abbrev YX9_day : xY := (yX9_day, cX9_day, 1, (some .int))
theorem w_X9_day : xMw YX9_day 0 := ⟨cd_X9_day, iiX9, by decide +kernel, by decide +kernel, by decide +kernel⟩
abbrev YX9_keeps : xY := (yX9_keeps, cX9_keeps, 2, none)
theorem w_X9_keeps : xMw YX9_keeps 0 := ⟨cd_X9_keeps, iiX9, by decide +kernel, by decide +kernel, by decide +kernel⟩
abbrev YX9_carried : xY := (yX9_carried, cX9_carried, 4, (some .int))
theorem w_X9_carried : xMw YX9_carried 0 := ⟨cd_X9_carried, iiX9, by decide +kernel, by decide +kernel, by decide +kernel⟩
abbrev YX9_rains : xY := (yX9_rains, cX9_rains, 3, none)
theorem w_X9_rains : xMw YX9_rains 1 := ⟨cd_X9_rains, iiX9, by decide +kernel, by decide +kernel, by decide +kernel⟩
abbrev YX9_falls : xY := (yX9_falls, cX9_falls, 5, (some .int))
theorem w_X9_falls : xMw YX9_falls 1 := ⟨cd_X9_falls, iiX9, by decide +kernel, by decide +kernel, by decide +kernel⟩
abbrev YX9_hose : xY := (yX9_hose, cX9_hose, 3, (some .int))
theorem w_X9_hose : xMw YX9_hose 2 := ⟨cd_X9_hose, iiX9, by decide +kernel, by decide +kernel, by decide +kernel⟩
abbrev YX9_poll : xY := (yX9_poll, cX9_poll, 4, (some .int))
theorem w_X9_poll : xMw YX9_poll 2 := ⟨cd_X9_poll, iiX9, by decide +kernel, by decide +kernel, by decide +kernel⟩
abbrev YX9_undo : xY := (yX9_undo, cX9_undo, 2, (some .int))
theorem w_X9_undo : xMw YX9_undo 0 := ⟨cd_X9_undo, iiX9, by decide +kernel, by decide +kernel, by decide +kernel⟩
abbrev YX9_keep : xY := (yX9_keep, cX9_keep, 3, (some .int))
theorem w_X9_keep : xMw YX9_keep 1 := ⟨cd_X9_keep, iiX9, by decide +kernel, by decide +kernel, by decide +kernel⟩
abbrev YX9_back : xY := (yX9_back, cX9_back, 3, (some .int))
theorem w_X9_back : xMw YX9_back 1 := ⟨cd_X9_back, iiX9, by decide +kernel, by decide +kernel, by decide +kernel⟩
abbrev YX9_where : xY := (yX9_where, cX9_where, 3, (some .int))
theorem w_X9_where : xMw YX9_where 1 := ⟨cd_X9_where, iiX9, by decide +kernel, by decide +kernel, by decide +kernel⟩
abbrev YX9_holds : xY := (yX9_holds, cX9_holds, 2, none)
theorem w_X9_holds : xMw YX9_holds 0 := ⟨cd_X9_holds, iiX9, by decide +kernel, by decide +kernel, by decide +kernel⟩
abbrev YX9_passes : xY := (yX9_passes, cX9_passes, 3, none)
theorem w_X9_passes : xMw YX9_passes 1 := ⟨cd_X9_passes, iiX9, by decide +kernel, by decide +kernel, by decide +kernel⟩
abbrev YX9_lets : xY := (yX9_lets, cX9_lets, 2, none)
theorem w_X9_lets : xMw YX9_lets 0 := ⟨cd_X9_lets, iiX9, by decide +kernel, by decide +kernel, by decide +kernel⟩
abbrev YX9_wet : xY := (yX9_wet, cX9_wet, 4, (some .int))
theorem w_X9_wet : xMw YX9_wet 2 := ⟨cd_X9_wet, iiX9, by decide +kernel, by decide +kernel, by decide +kernel⟩
abbrev YX9_carry : xY := (yX9_carry, cX9_carry, 5, (some .int))
theorem w_X9_carry : xMw YX9_carry 1 := ⟨cd_X9_carry, iiX9, by decide +kernel, by decide +kernel, by decide +kernel⟩
abbrev YX9_ones : xY := (yX9_ones, cX9_ones, 3, (some .int))
theorem w_X9_ones : xMw YX9_ones 1 := ⟨cd_X9_ones, iiX9, by decide +kernel, by decide +kernel, by decide +kernel⟩
abbrev YX9_reach : xY := (yX9_reach, cX9_reach, 4, (some .int))
theorem w_X9_reach : xMw YX9_reach 1 := ⟨cd_X9_reach, iiX9, by decide +kernel, by decide +kernel, by decide +kernel⟩
abbrev YX9_month : xY := (yX9_month, cX9_month, 9, (some .int))
theorem w_X9_month : xMw YX9_month 2 := ⟨cd_X9_month, iiX9, by decide +kernel, by decide +kernel, by decide +kernel⟩
abbrev YX9_sated : xY := (yX9_sated, cX9_sated, 3, (some .int))
theorem w_X9_sated : xMw YX9_sated 0 := ⟨cd_X9_sated, iiX9, by decide +kernel, by decide +kernel, by decide +kernel⟩
abbrev YX9_seen : xY := (yX9_seen, cX9_seen, 3, (some .int))
theorem w_X9_seen : xMw YX9_seen 2 := ⟨cd_X9_seen, iiX9, by decide +kernel, by decide +kernel, by decide +kernel⟩
abbrev YX9_forget : xY := (yX9_forget, cX9_forget, 2, (some .int))
theorem w_X9_forget : xMw YX9_forget 0 := ⟨cd_X9_forget, iiX9, by decide +kernel, by decide +kernel, by decide +kernel⟩
abbrev YX9_polls : xY := (yX9_polls, cX9_polls, 4, (some .int))
theorem w_X9_polls : xMw YX9_polls 1 := ⟨cd_X9_polls, iiX9, by decide +kernel, by decide +kernel, by decide +kernel⟩
abbrev YX9_isSo : xY := (yX9_isSo, cX9_isSo, 4, (some .boolean))
theorem w_X9_isSo : xMw YX9_isSo 0 := ⟨cd_X9_isSo, iiX9, by decide +kernel, by decide +kernel, by decide +kernel⟩
abbrev YX9_chance : xY := (yX9_chance, cX9_chance, 9, (some .int))
theorem w_X9_chance : xMw YX9_chance 3 := ⟨cd_X9_chance, iiX9, by decide +kernel, by decide +kernel, by decide +kernel⟩
abbrev YX9_count : xY := (yX9_count, cX9_count, 4, (some .int))
theorem w_X9_count : xMw YX9_count 1 := ⟨cd_X9_count, iiX9, by decide +kernel, by decide +kernel, by decide +kernel⟩
abbrev YL_law : xY := (yL_law, cL_law, 4, some .boolean)
theorem inX0 : ∀ w ∈ u_ws RX0 TX0 3, w ∈ xT := by decide +kernel
theorem inX1 : ∀ w ∈ u_ws RX1 TX1 4, w ∈ xT := by decide +kernel
theorem inX2 : ∀ w ∈ u_ws RX2 TX2 3, w ∈ xT := by decide +kernel
theorem inX3 : ∀ w ∈ u_ws RX3 TX3 8, w ∈ xT := by decide +kernel
theorem inX4 : ∀ w ∈ u_ws RX4 TX4 5, w ∈ xT := by decide +kernel
theorem inX5 : ∀ w ∈ u_ws RX5 TX5 2, w ∈ xT := by decide +kernel
theorem inX6 : ∀ w ∈ u_ws RX6 TX6 3, w ∈ xT := by decide +kernel
theorem inX7 : ∀ w ∈ u_ws RX7 TX7 5, w ∈ xT := by decide +kernel
theorem inX8 : ∀ w ∈ u_ws RX8 TX8 10, w ∈ xT := by decide +kernel
theorem inX9 : ∀ w ∈ u_ws RX9 TX9 20, w ∈ xT := by decide +kernel
end
section
/-! ===== the system's cells, once made: their shapes stand still, their numbers are σ ===== -/
abbrev xSh : Type := (Nat × Nat × Option (List Nat)) ⊕ (Nat × List (Option Nat))
abbrev Sg : Type := Nat → Nat → Int32
def xShp : List xSh := [.inr (8, [some 1, some 3, some 9, some 15, some 18, some 21, some 47, some 56, some 59, some 62]),
  .inr (7, [some 2, none, none, none, none]),
  .inl (1, 160, none),
  .inr (3, [some 4, some 5, some 6, some 7, some 8, none, none, none]),
  .inl (0, 8, none),
  .inl (0, 8, none),
  .inl (0, 8, none),
  .inl (0, 8, none),
  .inl (0, 8, none),
  .inr (3, [some 10, some 11, some 12, some 13, some 14, none, none, none]),
  .inl (0, 8, none),
  .inl (0, 8, none),
  .inl (0, 8, none),
  .inl (0, 8, none),
  .inl (0, 8, none),
  .inr (1, [some 16, some 17, none, none]),
  .inl (0, 8, none),
  .inl (0, 8, none),
  .inr (1, [some 19, some 20, none, none]),
  .inl (0, 8, none),
  .inl (0, 8, none),
  .inr (2, [some 22, none, none]),
  .inl (3, 8, some [23, 26, 29, 32, 35, 38, 41, 44]),
  .inr (1, [some 24, some 25, none, none]),
  .inl (0, 8, none),
  .inl (0, 8, none),
  .inr (1, [some 27, some 28, none, none]),
  .inl (0, 8, none),
  .inl (0, 8, none),
  .inr (1, [some 30, some 31, none, none]),
  .inl (0, 8, none),
  .inl (0, 8, none),
  .inr (1, [some 33, some 34, none, none]),
  .inl (0, 8, none),
  .inl (0, 8, none),
  .inr (1, [some 36, some 37, none, none]),
  .inl (0, 8, none),
  .inl (0, 8, none),
  .inr (1, [some 39, some 40, none, none]),
  .inl (0, 8, none),
  .inl (0, 8, none),
  .inr (1, [some 42, some 43, none, none]),
  .inl (0, 8, none),
  .inl (0, 8, none),
  .inr (1, [some 45, some 46, none, none]),
  .inl (0, 8, none),
  .inl (0, 8, none),
  .inr (5, [some 48, some 49]),
  .inl (3, 2, some [50, 53]),
  .inl (2, 2, none),
  .inr (1, [some 51, some 52, none, none]),
  .inl (0, 8, none),
  .inl (0, 8, none),
  .inr (1, [some 54, some 55, none, none]),
  .inl (0, 8, none),
  .inl (0, 8, none),
  .inr (6, [some 57, some 58, none]),
  .inl (0, 6, none),
  .inl (0, 6, none),
  .inr (0, [some 60, some 61, none]),
  .inl (0, 8, none),
  .inl (0, 8, none),
  .inr (4, [some 63, some 64, some 65, none, none]),
  .inl (3, 5, some [66, 69, 72, 75, 78]),
  .inl (0, 4, none),
  .inl (0, 4, none),
  .inr (1, [some 67, some 68, none, none]),
  .inl (0, 8, none),
  .inl (0, 8, none),
  .inr (1, [some 70, some 71, none, none]),
  .inl (0, 8, none),
  .inl (0, 8, none),
  .inr (1, [some 73, some 74, none, none]),
  .inl (0, 8, none),
  .inl (0, 8, none),
  .inr (1, [some 76, some 77, none, none]),
  .inl (0, 8, none),
  .inl (0, 8, none),
  .inr (1, [some 79, some 80, none, none]),
  .inl (0, 8, none),
  .inl (0, 8, none),
  .inr (9, [some 82, none, some 83, some 84, some 85, some 86, none, some 87, some 88, some 89, none, none, none, none, none, some 90, none, none, none, some 91]),
  .inl (0, 160, none),
  .inl (0, 43, none),
  .inl (0, 43, none),
  .inl (0, 18, none),
  .inl (0, 144, none),
  .inl (0, 36, none),
  .inl (2, 2, none),
  .inl (0, 6, none),
  .inl (0, 8, none),
  .inl (0, 18, none)]
def xfs (f : Nat → Int32) : Nat → List (Option Nat) → List Value
  | _, [] => []
  | k, some r :: l => .ref r :: xfs f (k + 1) l
  | k, none :: l => .int (f k) :: xfs f (k + 1) l
def xcell (s : Option xSh) (f : Nat → Int32) : xA := match s with
  | some (.inl (t, n, none)) => .inl (t, n, .inl f)
  | some (.inl (_, n, some l)) => .inl (3, n, .inr (.inr (.inr (.inr (fun j => l[j]?)))))
  | some (.inr (c, fs)) => .inr (c, xfs f 0 fs)
  | none => .inl (0, 0, .inl f)
def xH (σ : Sg) (i : Nat) : xA := xcell xShp[i]? (σ i)
abbrev xB0 : xB := (92, 1178)
def xMs (σ : Sg) : xM := (xH σ, 92, 1178)
def sw (σ : Sg) (a : Nat) (f : Nat → Int32) : Sg := fun b => if b = a then f else σ b
def sg (σ : Sg) (a k : Nat) (x : Int32) : Sg := sw σ a (upd (σ a) k x)
theorem sw_s (σ : Sg) (a : Nat) (f : Nat → Int32) : sw σ a f a = f := if_pos rfl
theorem sw_n (σ : Sg) {a b : Nat} (f : Nat → Int32) (h : b ≠ a) : sw σ a f b = σ b := if_neg h
theorem sg_s (σ : Sg) (a k : Nat) (x : Int32) : sg σ a k x a k = x := by
  unfold sg
  rw [sw_s]
  exact if_pos rfl
theorem sg_k (σ : Sg) (a : Nat) {k j : Nat} (x : Int32) (h : j ≠ k) : sg σ a k x a j = σ a j := by
  unfold sg
  rw [sw_s]
  exact if_neg h
theorem sg_n (σ : Sg) {a b : Nat} (k : Nat) (x : Int32) (h : b ≠ a) : sg σ a k x b = σ b := sw_n _ _ h
theorem xu_sw {σ : Sg} {a : Nat} {f : Nat → Int32} {c : xA} (h : c = xcell xShp[a]? f) : (xu (xMs σ).1 a c, (xMs σ).2) = xMs (sw σ a f) := by
  subst h
  unfold xMs
  refine Prod.ext ?_ rfl
  funext i
  show xu (xH σ) a _ i = xH (sw σ a f) i
  unfold xu xH sw
  by_cases e : i = a
  · subst e
    rw [if_pos rfl, if_pos rfl]
  · rw [if_neg e, if_neg e]
theorem xfs_set {f : Nat → Int32} {x : Int32} : ∀ (l : List (Option Nat)) (i k : Nat), l[k]? = some none → (xfs f i l).set k (.int x) = xfs (upd f (i + k) x) i l := by
  have same : ∀ (l : List (Option Nat)) (i j : Nat), j < i → xfs (upd f j x) i l = xfs f i l := by
    intro l
    induction l with
    | nil => intro i j _; rfl
    | cons a l ih =>
      intro i j hj
      cases a with
      | none =>
        show Value.int (upd f j x i) :: xfs (upd f j x) (i + 1) l = Value.int (f i) :: xfs f (i + 1) l
        rw [ih (i + 1) j (by omega), show upd f j x i = f i from if_neg (by omega)]
      | some r =>
        show Value.ref r :: xfs (upd f j x) (i + 1) l = Value.ref r :: xfs f (i + 1) l
        rw [ih (i + 1) j (by omega)]
  intro l
  induction l with
  | nil => intro i k h; cases h
  | cons a l ih =>
    intro i k h
    cases k with
    | zero =>
      cases h
      show Value.int x :: xfs f (i + 1) l = Value.int (upd f (i + 0) x i) :: xfs (upd f (i + 0) x) (i + 1) l
      rw [same l (i + 1) (i + 0) (by omega), show upd f (i + 0) x i = x from if_pos (by omega)]
    | succ k =>
      have h2 := ih (i + 1) k h
      cases a with
      | none =>
        show Value.int (f i) :: (xfs f (i + 1) l).set k (.int x) = Value.int (upd f (i + (k + 1)) x i) :: xfs (upd f (i + (k + 1)) x) (i + 1) l
        rw [h2, show upd f (i + (k + 1)) x i = f i from if_neg (by omega), show i + 1 + k = i + (k + 1) by omega]
      | some r =>
        show Value.ref r :: (xfs f (i + 1) l).set k (.int x) = Value.ref r :: xfs (upd f (i + (k + 1)) x) (i + 1) l
        rw [h2, show i + 1 + k = i + (k + 1) by omega]
theorem xfs_int {f : Nat → Int32} : ∀ (l : List (Option Nat)) (i k : Nat), l[k]? = some none → (xfs f i l)[k]? = some (.int (f (i + k))) := by
  intro l
  induction l with
  | nil => intro i k h; cases h
  | cons a l ih =>
    intro i k h
    cases k with
    | zero => cases h; rfl
    | succ k =>
      have h2 := ih (i + 1) k h
      rw [show i + 1 + k = i + (k + 1) by omega] at h2
      cases a <;> exact h2
theorem xfs_ref {f : Nat → Int32} {r : Nat} : ∀ (l : List (Option Nat)) (i k : Nat), l[k]? = some (some r) → (xfs f i l)[k]? = some (.ref r) := by
  intro l
  induction l with
  | nil => intro i k h; cases h
  | cons a l ih =>
    intro i k h
    cases k with
    | zero => cases h; rfl
    | succ k =>
      have h2 := ih (i + 1) k h
      cases a <;> exact h2
theorem xShp_lt {a : Nat} {c : xSh} (h : xShp[a]? = some c) : a < 92 := (List.getElem?_eq_some_iff.mp h).1
theorem xH_o {σ : Sg} {a ci : Nat} {fs : List (Option Nat)} (h : xShp[a]? = some (.inr (ci, fs))) : (xMs σ).1 a = .inr (ci, xfs (σ a) 0 fs) := by
  show xcell xShp[a]? (σ a) = _
  rw [h]
  rfl
theorem xH_a {σ : Sg} {a t n : Nat} (h : xShp[a]? = some (.inl (t, n, none))) : (xMs σ).1 a = .inl (t, n, .inl (σ a)) := by
  show xcell xShp[a]? (σ a) = _
  rw [h]
  rfl
theorem xH_q {σ : Sg} {a t n : Nat} {l : List Nat} (h : xShp[a]? = some (.inl (t, n, some l))) : (xMs σ).1 a = .inl (3, n, .inr (.inr (.inr (.inr (fun j => l[j]?))))) := by
  show xcell xShp[a]? (σ a) = _
  rw [h]
  rfl
def xQ (P : Option Value → Sg → Prop) : Option Value → xM → Prop := fun v M => ∃ σ, M = xMs σ ∧ P v σ
def Cm (d : Nat) (Y : xY) (As : List Value) (σ : Sg) (P : Option Value → Sg → Prop) : Prop := ExM d Y As (xMs σ) xB0 (xQ P)
theorem Cm_of {d : Nat} {Y : xY} {As : List Value} {σ : Sg} {P : Option Value → Sg → Prop} (hy : plainName Y.1.cls = true) (hlen : (xargs As).length ≤ Y.2.2.1) (k : Ex (Y, d, xB0, none) 0 (xpad Y.2.2.1 As) [] (xMs σ) (xQ P)) : Cm d Y As σ P :=
  ExM_of hy hlen (by show 92 ≤ _; omega) (fun v M h => by obtain ⟨σ', rfl, -⟩ := h; exact ⟨Nat.le_refl _, Nat.le_refl _⟩) k
def cpN (N : Nat) (f g : Nat → Int32) : Nat → Int32 := fun k => if k < N then f k else g k
theorem va_cpN (N : Nat) (f g : Nat → Int32) : va_cpy f g 0 0 N = cpN N f g := by
  funext k
  unfold va_cpy cpN
  by_cases h : k < N
  · rw [if_pos h, if_pos ⟨Nat.zero_le _, by omega⟩]
    congr 1
    omega
  · rw [if_neg h, if_neg (fun q => h (by omega))]
section XG
variable {E : xE} {pc : Nat} {L S S0 : List Value} {σ : Sg} {Q : Option Value → xM → Prop} {P P' : Option Value → Sg → Prop}
theorem s_geti {a ci k index N : Nat} {fs : List (Option Nat)} {C : String} {T : u_T} (hd : decode E.1.2.1 pc = .ok (.getfield index, 3)) (hlink : Cond.fieldLink E.1.1.cls index (T k).1 (T k).2.1 (T k).2.2.1 ∈ xT) (hin : ∀ w ∈ u_ws C T N, w ∈ xT) (hc : vwCl[ci]? = some (C, T, N)) (hk : k < N) (hs : xShp[a]? = some (.inr (ci, fs))) (hf : fs[k]? = some none) (kk : Ex E (pc + 3) L (.int (σ a k) :: S) (xMs σ) Q) : Ex E pc L (.ref a :: S) (xMs σ) Q :=
  x_get hd hlink hin hc hk (xShp_lt hs) (xH_o hs) (by have := xfs_int (f := σ a) fs 0 k hf; rw [Nat.zero_add] at this; exact this) kk
theorem s_getiN {a ci k index N : Nat} {fs : List (Option Nat)} {C host : String} {T : u_T} (hd : decode E.1.2.1 pc = .ok (.getfield index, 3)) (hlink : Cond.fieldLinkNest E.1.1.cls index (T k).1 (T k).2.1 (T k).2.2.1 host ∈ xN) (hin : ∀ w ∈ u_ws C T N, w ∈ xT) (hc : vwCl[ci]? = some (C, T, N)) (hk : k < N) (hs : xShp[a]? = some (.inr (ci, fs))) (hf : fs[k]? = some none) (kk : Ex E (pc + 3) L (.int (σ a k) :: S) (xMs σ) Q) : Ex E pc L (.ref a :: S) (xMs σ) Q :=
  x_getN hd hlink hin hc hk (xShp_lt hs) (xH_o hs) (by have := xfs_int (f := σ a) fs 0 k hf; rw [Nat.zero_add] at this; exact this) kk
theorem s_getr {a ci k index N r : Nat} {fs : List (Option Nat)} {C : String} {T : u_T} (hd : decode E.1.2.1 pc = .ok (.getfield index, 3)) (hlink : Cond.fieldLink E.1.1.cls index (T k).1 (T k).2.1 (T k).2.2.1 ∈ xT) (hin : ∀ w ∈ u_ws C T N, w ∈ xT) (hc : vwCl[ci]? = some (C, T, N)) (hk : k < N) (hs : xShp[a]? = some (.inr (ci, fs))) (hf : fs[k]? = some (some r)) (kk : Ex E (pc + 3) L (.ref r :: S) (xMs σ) Q) : Ex E pc L (.ref a :: S) (xMs σ) Q :=
  x_get hd hlink hin hc hk (xShp_lt hs) (xH_o hs) (xfs_ref fs 0 k hf) kk
theorem s_getrN {a ci k index N r : Nat} {fs : List (Option Nat)} {C host : String} {T : u_T} (hd : decode E.1.2.1 pc = .ok (.getfield index, 3)) (hlink : Cond.fieldLinkNest E.1.1.cls index (T k).1 (T k).2.1 (T k).2.2.1 host ∈ xN) (hin : ∀ w ∈ u_ws C T N, w ∈ xT) (hc : vwCl[ci]? = some (C, T, N)) (hk : k < N) (hs : xShp[a]? = some (.inr (ci, fs))) (hf : fs[k]? = some (some r)) (kk : Ex E (pc + 3) L (.ref r :: S) (xMs σ) Q) : Ex E pc L (.ref a :: S) (xMs σ) Q :=
  x_getN hd hlink hin hc hk (xShp_lt hs) (xH_o hs) (xfs_ref fs 0 k hf) kk
theorem xset_eq {a ci k : Nat} {fs : List (Option Nat)} {x : Int32} (hs : xShp[a]? = some (.inr (ci, fs))) (hf : fs[k]? = some none) : (xu (xMs σ).1 a (.inr (ci, (xfs (σ a) 0 fs).set k (.int x))), (xMs σ).2) = xMs (sg σ a k x) := by
  refine xu_sw ?_
  rw [hs, xfs_set fs 0 k hf, Nat.zero_add]
  rfl
theorem s_puti {a ci k index N : Nat} {fs : List (Option Nat)} {C : String} {T : u_T} {ty0 : Nat → FieldType} {x : Int32} (hd : decode E.1.2.1 pc = .ok (.putfield index, 3)) (hlink : Cond.fieldLink E.1.1.cls index (T k).1 (T k).2.1 (T k).2.2.1 ∈ xT) (hin : ∀ w ∈ u_ws C T N, w ∈ xT) (hty : ∀ k, k < N → parseFieldDescriptor (T k).2.2.1 = some (ty0 k)) (hnm : ∀ a, a < N → ∀ b, b < N → a ≠ b → (T a).2.1 ≠ (T b).2.1) (hc : vwCl[ci]? = some (C, T, N)) (hk : k < N) (hfin : (T k).2.2.2 = false) (hint : ty0 k = .int) (hs : xShp[a]? = some (.inr (ci, fs))) (hf : fs[k]? = some none) (kk : Ex E (pc + 3) L S (xMs (sg σ a k x)) Q) : Ex E pc L (.int x :: .ref a :: S) (xMs σ) Q :=
  x_put hd hlink hin hty hnm hc hk hfin (xShp_lt hs) (xH_o hs) (by rw [hint]; rfl) (by rw [hint]; rfl) (by have := xfs_int (f := σ a) fs 0 k hf; exact (List.getElem?_eq_some_iff.mp this).1) (by rw [xset_eq hs hf]; exact kk)
theorem s_putiN {a ci k index N : Nat} {fs : List (Option Nat)} {C host : String} {T : u_T} {ty0 : Nat → FieldType} {x : Int32} (hd : decode E.1.2.1 pc = .ok (.putfield index, 3)) (hlink : Cond.fieldLinkNest E.1.1.cls index (T k).1 (T k).2.1 (T k).2.2.1 host ∈ xN) (hin : ∀ w ∈ u_ws C T N, w ∈ xT) (hty : ∀ k, k < N → parseFieldDescriptor (T k).2.2.1 = some (ty0 k)) (hnm : ∀ a, a < N → ∀ b, b < N → a ≠ b → (T a).2.1 ≠ (T b).2.1) (hc : vwCl[ci]? = some (C, T, N)) (hk : k < N) (hfin : (T k).2.2.2 = false) (hint : ty0 k = .int) (hs : xShp[a]? = some (.inr (ci, fs))) (hf : fs[k]? = some none) (kk : Ex E (pc + 3) L S (xMs (sg σ a k x)) Q) : Ex E pc L (.int x :: .ref a :: S) (xMs σ) Q :=
  x_putN hd hlink hin hty hnm hc hk hfin (xShp_lt hs) (xH_o hs) (by rw [hint]; rfl) (by rw [hint]; rfl) (by have := xfs_int (f := σ a) fs 0 k hf; exact (List.getElem?_eq_some_iff.mp this).1) (by rw [xset_eq hs hf]; exact kk)
theorem xn_in {n j : Nat} {i : Int32} (hi : i = nI j) (hj : j < n) (hn : n ≤ 1000) : vp_in i n ∧ i.toNatClampNeg = j := by
  subst hi
  exact ⟨vp_in_nI hj (by omega), nI_clamp (by omega)⟩
theorem s_iald {a n j : Nat} {i : Int32} (hd : decode E.1.2.1 pc = .ok (.iaload, 1)) (hs : xShp[a]? = some (.inl (0, n, none))) (hi : i = nI j) (hj : j < n) (hn : n ≤ 1000) (kk : Ex E (pc + 1) L (.int (σ a j) :: S) (xMs σ) Q) : Ex E pc L (.int i :: .ref a :: S) (xMs σ) Q := by
  obtain ⟨h1, h2⟩ := xn_in hi hj hn
  exact x_iald hd (xShp_lt hs) (xH_a hs) h1 (by rw [h2]; exact kk)
theorem s_cald {a n j : Nat} {i : Int32} (hd : decode E.1.2.1 pc = .ok (.caload, 1)) (hs : xShp[a]? = some (.inl (1, n, none))) (hi : i = nI j) (hj : j < n) (hn : n ≤ 1000) (kk : Ex E (pc + 1) L (.int (σ a j) :: S) (xMs σ) Q) : Ex E pc L (.int i :: .ref a :: S) (xMs σ) Q := by
  obtain ⟨h1, h2⟩ := xn_in hi hj hn
  exact x_cald hd (xShp_lt hs) (xH_a hs) h1 (by rw [h2]; exact kk)
theorem s_zald {a n j : Nat} {i : Int32} (hd : decode E.1.2.1 pc = .ok (.baload, 1)) (hs : xShp[a]? = some (.inl (2, n, none))) (hi : i = nI j) (hj : j < n) (hn : n ≤ 1000) (kk : Ex E (pc + 1) L (.int (σ a j) :: S) (xMs σ) Q) : Ex E pc L (.int i :: .ref a :: S) (xMs σ) Q := by
  obtain ⟨h1, h2⟩ := xn_in hi hj hn
  exact x_zald hd (xShp_lt hs) (xH_a hs) h1 (by rw [h2]; exact kk)
theorem s_iast {a n j : Nat} {i x : Int32} (hd : decode E.1.2.1 pc = .ok (.iastore, 1)) (hs : xShp[a]? = some (.inl (0, n, none))) (hi : i = nI j) (hj : j < n) (hn : n ≤ 1000) (kk : Ex E (pc + 1) L S (xMs (sg σ a j x)) Q) : Ex E pc L (.int x :: .int i :: .ref a :: S) (xMs σ) Q := by
  obtain ⟨h1, h2⟩ := xn_in hi hj hn
  refine x_iast hd (xShp_lt hs) (xH_a hs) h1 ?_
  rw [h2, xu_sw (a := a) (f := upd (σ a) j x) (by rw [hs]; rfl)]
  exact kk
theorem s_cast {a n j : Nat} {i x : Int32} (hd : decode E.1.2.1 pc = .ok (.castore, 1)) (hs : xShp[a]? = some (.inl (1, n, none))) (hi : i = nI j) (hj : j < n) (hn : n ≤ 1000) (kk : Ex E (pc + 1) L S (xMs (sg σ a j (vp_nar .char x))) Q) : Ex E pc L (.int x :: .int i :: .ref a :: S) (xMs σ) Q := by
  obtain ⟨h1, h2⟩ := xn_in hi hj hn
  refine x_cast hd (xShp_lt hs) (xH_a hs) h1 ?_
  rw [h2, xu_sw (a := a) (f := upd (σ a) j (vp_nar .char x)) (by rw [hs]; rfl)]
  exact kk
theorem s_zast {a n j : Nat} {i x : Int32} (hd : decode E.1.2.1 pc = .ok (.bastore, 1)) (hs : xShp[a]? = some (.inl (2, n, none))) (hi : i = nI j) (hj : j < n) (hn : n ≤ 1000) (kk : Ex E (pc + 1) L S (xMs (sg σ a j (vp_nar .boolean x))) Q) : Ex E pc L (.int x :: .int i :: .ref a :: S) (xMs σ) Q := by
  obtain ⟨h1, h2⟩ := xn_in hi hj hn
  refine x_zast hd (xShp_lt hs) (xH_a hs) h1 ?_
  rw [h2, xu_sw (a := a) (f := upd (σ a) j (vp_nar .boolean x)) (by rw [hs]; rfl)]
  exact kk
theorem s_aald {a n j b : Nat} {l : List Nat} {i : Int32} (hd : decode E.1.2.1 pc = .ok (.aaload, 1)) (hs : xShp[a]? = some (.inl (3, n, some l))) (hi : i = nI j) (hj : j < n) (hn : n ≤ 1000) (hg : l[j]? = some b) (kk : Ex E (pc + 1) L (.ref b :: S) (xMs σ) Q) : Ex E pc L (.int i :: .ref a :: S) (xMs σ) Q := by
  obtain ⟨h1, h2⟩ := xn_in hi hj hn
  exact x_aald hd (xShp_lt hs) (xH_q hs) h1 (by rw [h2]; exact hg) kk
theorem s_iinc {i k : Nat} (hd : decode E.1.2.1 pc = .ok (.iinc i 1, 3)) (hv : L[i]? = some (.int (nI k))) (hn : i < E.1.2.2.1) (ho : xok i L = true) (kk : Ex E (pc + 3) (L.set i (.int (nI (k + 1)))) S (xMs σ) Q) : Ex E pc L S (xMs σ) Q :=
  x_iinc hd hv hn ho (by rw [show nI k + Int32.ofInt 1 = nI (k + 1) from nI_1 k]; exact kk)
theorem s_copy {a0 a n0 n1 index N : Nat} {n : Int32} (hd : decode E.1.2.1 pc = .ok (.invokestatic index, 3)) (hw : Cond.methodLink E.1.1.cls index arraycopyName ∈ xT) (hs0 : xShp[a0]? = some (.inl (0, n0, none))) (hs1 : xShp[a]? = some (.inl (0, n1, none))) (hn : n = nI N) (hN0 : N ≤ n0) (hN1 : N ≤ n1) (hN : N ≤ 1000) (hS : S.length ≤ 4) (hdp : 1 ≤ E.2.1) (kk : Ex E (pc + 3) L S (xMs (sw σ a (cpN N (σ a0) (σ a)))) Q) : Ex E pc L (.int n :: .int 0 :: .ref a :: .int 0 :: .ref a0 :: S) (xMs σ) Q := by
  subst hn
  have e : (nI N).toNatClampNeg = N := nI_clamp (by omega)
  refine x_copy hd hw nt_acopy st_acopy iiJ10 (xShp_lt hs0) (xH_a hs0) (xShp_lt hs1) (xH_a hs1) (nI_pos (by omega)) (by rw [e]; exact hN0) (by rw [e]; exact hN1) hS hdp ?_
  rw [e, va_cpN, xu_sw (a := a) (f := cpN N (σ a0) (σ a)) (by rw [hs1]; rfl)]
  exact kk
theorem s_max {index : Nat} {x y : Int32} (hd : decode E.1.2.1 pc = .ok (.invokestatic index, 3)) (hw : Cond.methodLink E.1.1.cls index Lib.Math.max.name ∈ xT) (hE : E.2.2.1 = xB0) (hS : S.length ≤ 4) (hdp : 1 ≤ E.2.1) (kk : Ex E (pc + 3) L (.int (if x < y then y else x) :: S) (xMs σ) Q) : Ex E pc L (.int y :: .int x :: S) (xMs σ) Q :=
  x_max hd hw st_J9_max_7cf53 iiJ9 cd_mmax hS hdp (by rw [hE]; exact ⟨Nat.le_refl _, Nat.le_refl _⟩) kk
theorem s_min {index : Nat} {x y : Int32} (hd : decode E.1.2.1 pc = .ok (.invokestatic index, 3)) (hw : Cond.methodLink E.1.1.cls index Lib.Math.min.name ∈ xT) (hE : E.2.2.1 = xB0) (hS : S.length ≤ 4) (hdp : 1 ≤ E.2.1) (kk : Ex E (pc + 3) L (.int (if y < x then y else x) :: S) (xMs σ) Q) : Ex E pc L (.int y :: .int x :: S) (xMs σ) Q :=
  x_min hd hw st_J9_min_7cf53 iiJ9 cd_mmin hS hdp (by rw [hE]; exact ⟨Nat.le_refl _, Nat.le_refl _⟩) kk
theorem xBk_of {d : Nat} {Y : xY} (hE : E.2.2.1 = xB0) (hdd : d + 1 ≤ E.2.1 ∧ 8 + (Y.2.2.1 + 11) + 64 * d ≤ 64 * E.2.1) : xBk E (xMs σ) d Y xB0 (xQ P) :=
  ⟨hdd.1, hdd.2, Nat.le_refl _, Nat.le_refl _, by rw [hE]; exact Nat.le_refl _, by rw [hE]; exact Nat.le_refl _, fun v M h => by obtain ⟨σ', rfl, -⟩ := h; exact ⟨rfl, rfl⟩⟩
theorem s_callV {index ci n b d N : Nat} {Y : xY} {As : List Value} {fs : List (Option Nat)} {T : u_T} (hd : decode E.1.2.1 pc = .ok (.invokevirtual index, 3)) (hM : Cm d Y (.ref b :: As) σ P') (hst : S0 = As.reverse ++ .ref b :: S) (hw : xMw Y n) (hlk : xlm E.1.1.cls index Y.1) (hin : Cond.instanceMethod Y.1 ∈ xT) (hse : Cond.selects Y.1.cls Y.1 Y.1 ∈ xT) (hn : As.length = n) (hs : xShp[b]? = some (.inr (ci, fs))) (hc : vwCl[ci]? = some (Y.1.cls, T, N)) (hS : S.length ≤ 4) (hE : E.2.2.1 = xB0) (hdd : d + 1 ≤ E.2.1 ∧ 8 + (Y.2.2.1 + 11) + 64 * d ≤ 64 * E.2.1) (kk : ∀ v σ', P' v σ' → Ex E (pc + 3) L (v.toList ++ S) (xMs σ') Q) : Ex E pc L S0 (xMs σ) Q := by
  subst hst
  exact x_callV hd hM hw hlk hin hse hn ⟨xShp_lt hs, xH_o hs, hc⟩ hS (xBk_of hE hdd) (fun v M h => by obtain ⟨σ', rfl, hp⟩ := h; exact kk v σ' hp)
theorem s_callS {index n d : Nat} {Y : xY} {As : List Value} (hd : decode E.1.2.1 pc = .ok (.invokestatic index, 3)) (hM : Cm d Y As σ P') (hst : S0 = As.reverse ++ S) (hw : xMw Y n) (hlk : xlm E.1.1.cls index Y.1) (hin : Cond.static Y.1 ∈ xT) (hn : As.length = n) (hS : S.length ≤ 4) (hE : E.2.2.1 = xB0) (hdd : d + 1 ≤ E.2.1 ∧ 8 + (Y.2.2.1 + 11) + 64 * d ≤ 64 * E.2.1) (kk : ∀ v σ', P' v σ' → Ex E (pc + 3) L (v.toList ++ S) (xMs σ') Q) : Ex E pc L S0 (xMs σ) Q := by
  subst hst
  exact x_callS hd hM hw hlk hin hn hS (xBk_of hE hdd) (fun v M h => by obtain ⟨σ', rfl, hp⟩ := h; exact kk v σ' hp)
theorem s_ret (hd : decode E.1.2.1 pc = .ok (.return_, 1)) (hr : E.1.2.2.2 = none) (hq : P none σ) : Ex E pc L [] (xMs σ) (xQ P) := x_ret hd hr ⟨σ, rfl, hq⟩
theorem s_iret {x : Int32} (hd : decode E.1.2.1 pc = .ok (.ireturn, 1)) (hr : E.1.2.2.2 = some .int) (hq : P (some (.int x)) σ) : Ex E pc L [.int x] (xMs σ) (xQ P) := x_iret hd hr rfl ⟨σ, rfl, hq⟩
theorem s_zret {x : Int32} (hd : decode E.1.2.1 pc = .ok (.ireturn, 1)) (hr : E.1.2.2.2 = some .boolean) (hx : x = 0 ∨ x = 1) (hq : P (some (.int x)) σ) : Ex E pc L [.int x] (xMs σ) (xQ P) := x_iret hd hr (by rcases hx with rfl | rfl <;> rfl) ⟨σ, rfl, hq⟩
theorem s_lret {x : Int64} (hd : decode E.1.2.1 pc = .ok (.lreturn, 1)) (hr : E.1.2.2.2 = some .long) (hq : P (some (.long x)) σ) : Ex E pc L [.long x] (xMs σ) (xQ P) := x_lret hd hr ⟨σ, rfl, hq⟩
end XG
end
section
/-! ===== pure words, and the contracts of the leaves ===== -/
/-- a Plan stands at P, a Moment at m -/
def xPl (P : Nat) : Prop := xShp[P]? = some (.inr (3, [some (P + 1), some (P + 2), some (P + 3), some (P + 4), some (P + 5), none, none, none])) ∧ xShp[P + 1]? = some (.inl (0, 8, none)) ∧ xShp[P + 2]? = some (.inl (0, 8, none)) ∧ xShp[P + 3]? = some (.inl (0, 8, none)) ∧ xShp[P + 4]? = some (.inl (0, 8, none)) ∧ xShp[P + 5]? = some (.inl (0, 8, none))
def xMl : List Nat := [15, 18, 23, 26, 29, 32, 35, 38, 41, 44, 50, 53, 66, 69, 72, 75, 78]
def xMo (m : Nat) : Prop := xShp[m]? = some (.inr (1, [some (m + 1), some (m + 2), none, none])) ∧ xShp[m + 1]? = some (.inl (0, 8, none)) ∧ xShp[m + 2]? = some (.inl (0, 8, none)) ∧ m ∈ xMl
theorem xMo_all : ∀ m ∈ xMl, xMo m := by
  intro m h
  simp only [xMl, List.mem_cons, List.not_mem_nil, or_false] at h
  rcases h with rfl | rfl | rfl | rfl | rfl | rfl | rfl | rfl | rfl | rfl | rfl | rfl | rfl | rfl | rfl | rfl | rfl <;> exact ⟨rfl, rfl, rfl, by decide⟩
theorem mo_15 : xMo 15 := xMo_all 15 (by decide)
theorem mo_18 : xMo 18 := xMo_all 18 (by decide)
theorem xMo_ge {m : Nat} (h : xMo m) : 15 ≤ m := by
  have : ∀ m ∈ xMl, 15 ≤ m := by decide
  exact this m h.2.2.2
/-- cells of no Moment -/
def xFar (c : Nat) : Bool := xMl.all (fun m => c != m && (c != m + 1 && c != m + 2))
theorem xMo_far {m c : Nat} (h : xMo m) (hc : xFar c = true) : c ≠ m ∧ c ≠ m + 1 ∧ c ≠ m + 2 := by
  have := List.all_eq_true.mp hc m h.2.2.2
  simpa using this
/-- two Moments are one, or apart -/
theorem xMo_two {m o : Nat} (h : xMo m) (h2 : xMo o) (hne : m ≠ o) : m + 2 < o ∨ o + 2 < m := by
  have : ∀ m ∈ xMl, ∀ o ∈ xMl, m ≠ o → m + 2 < o ∨ o + 2 < m := by decide
  exact this m h.2.2.2 o h2.2.2.2 hne
theorem pl_3 : xPl 3 := ⟨rfl, rfl, rfl, rfl, rfl, rfl⟩
theorem pl_9 : xPl 9 := ⟨rfl, rfl, rfl, rfl, rfl, rfl⟩
abbrev FN : Type := Nat → Int32
/-- n, cap, inches, kind, need, voters, water, slope -/
abbrev PL : Type := Nat × Int32 × Int32 × FN × FN × FN × FN × FN
/-- water, voters, where it rained, the day -/
abbrev MO : Type := FN × FN × Int32 × Int32
def tr (n : Nat) (f : FN) : FN := fun k => if k < n then f k else 0
theorem tr_i {n k : Nat} {f : FN} (h : k < n) : tr n f k = f k := if_pos h
theorem tr_o {n k : Nat} {f : FN} (h : ¬ k < n) : tr n f k = 0 := if_neg h
theorem tr_ext {n : Nat} {f g : FN} (h : ∀ k, k < n → f k = g k) : tr n f = tr n g := by
  funext k
  unfold tr
  by_cases hk : k < n
  · rw [if_pos hk, if_pos hk, h k hk]
  · rw [if_neg hk, if_neg hk]
theorem tr_iff {n : Nat} {f g : FN} : tr n f = tr n g ↔ ∀ k, k < n → f k = g k := ⟨fun h k hk => by have := congrFun h k; rwa [tr_i hk, tr_i hk] at this, tr_ext⟩
theorem tr_tr (n : Nat) (f : FN) : tr n (tr n f) = tr n f := tr_ext fun _ h => tr_i h
theorem tr_upd {n a : Nat} {f : FN} {x : Int32} (h : a < n) : tr n (upd f a x) = upd (tr n f) a x := by
  funext k
  unfold tr upd
  by_cases e : k = a
  · subst e; rw [if_pos h, if_pos rfl, if_pos rfl]
  · rw [if_neg e, if_neg e]
def plC (n : Nat) (σ : Sg) : PL := (n, σ 3 6, σ 3 7, tr n (σ 4), tr n (σ 5), tr n (σ 6), tr n (σ 7), tr n (σ 8))
def moC (n : Nat) (σ : Sg) (m : Nat) : MO := (tr n (σ (m + 1)), tr n (σ (m + 2)), σ m 2, σ m 3)
def bI (b : Bool) : Int32 := if b = true then 1 else 0
theorem bI_01 (b : Bool) : bI b = 0 ∨ bI b = 1 := by cases b <;> simp [bI]
/-- a street's number, or none -/
def inb (n : Nat) (s : Int32) : Bool := decide (¬ s < 0 ∧ ¬ nI n ≤ s)
theorem inb_nI {n k : Nat} (h : k < n) (hn : n ≤ 1000) : inb n (nI k) = true := decide_eq_true ⟨nI_pos (by omega), nI_ge h (by omega)⟩
theorem inb_m1 (n : Nat) : inb n (-1) = false := decide_eq_false (fun h => h.1 (by decide))
theorem inb_t {n : Nat} {s : Int32} (hn : n ≤ 1000) (h : inb n s = true) : ∃ k, k < n ∧ s = nI k := by
  obtain ⟨h1, h2⟩ := of_decide_eq_true h
  rcases pk_ix s (n := n) (by omega) with h3 | h3 | ⟨j, h3, h4⟩
  · exact absurd h3 h1
  · exact absurd h3 h2
  · exact ⟨j, h3, h4⟩
theorem inb_lt {n : Nat} {s : Int32} (h : s < 0) : inb n s = false := decide_eq_false (fun q => q.1 h)
theorem inb_ge {n : Nat} {s : Int32} (h : nI n ≤ s) : inb n s = false := decide_eq_false (fun q => q.2 h)
theorem inb_ok {n : Nat} {s : Int32} (h : ¬ s < 0) (h2 : ¬ nI n ≤ s) : inb n s = true := decide_eq_true ⟨h, h2⟩
theorem nI8 {n : Nat} (hn : n ≤ 8) {s : Int32} (h : (8 : Int32) ≤ s) : nI n ≤ s := Int32.le_trans (nI_le hn (by omega)) h
set_option maxRecDepth 100000 in
theorem k_has (σ : Sg) {P n : Nat} (hP : xPl P) (hn : σ P 5 = nI n) (hn8 : n ≤ 8) (s : Int32) : Cm 0 YX3_has [.ref P, .int s] σ (fun v σ' => v = some (.int (bI (inb n s))) ∧ σ' = σ) := by
  refine Cm_of (by decide +kernel) (Nat.le_of_ble_eq_true rfl) ?_
  have e : ∀ c : Bool, c = inb n s → ∀ x : Int32, x = bI c → some (Value.int x) = some (Value.int (bI (inb n s))) ∧ σ = σ := fun c h x h2 => ⟨by rw [h2, h], rfl⟩
  refine x_iload_n dX3_has_0 rfl ?_
  refine x_if_lt (tgt := 22) dX3_has_1 (by decide) (fun c_1 => ?_) (fun c_1 => ?_)
  · refine x_iconst (v := 0) dX3_has_22 (by decide) ?_
    exact s_zret dX3_has_23 rfl (by first | exact Or.inl rfl | exact Or.inr rfl | assumption) (by first | exact e true (inb_ok c_1 (by rw [← hn]; exact c_9)).symm _ rfl | exact e false (inb_lt c_1).symm _ rfl | exact e false (inb_ge (by rw [← hn]; exact c_9)).symm _ rfl | exact e false (inb_ge (nI8 hn8 c_15)).symm _ rfl)
  · refine x_iload_n dX3_has_4 rfl ?_
    refine x_aload_n dX3_has_5 rfl ?_
    refine s_geti (ci := 3) (k := 5) (N := 8) (C := RX3) (T := TX3) dX3_has_6 lfX3_27 inX3 rfl (by decide) (hP.1) rfl ?_
    refine x_icmp_ge (tgt := 22) dX3_has_9 (by decide) (fun c_9 => ?_) (fun c_9 => ?_)
    · refine x_iconst (v := 0) dX3_has_22 (by decide) ?_
      exact s_zret dX3_has_23 rfl (by first | exact Or.inl rfl | exact Or.inr rfl | assumption) (by first | exact e true (inb_ok c_1 (by rw [← hn]; exact c_9)).symm _ rfl | exact e false (inb_lt c_1).symm _ rfl | exact e false (inb_ge (by rw [← hn]; exact c_9)).symm _ rfl | exact e false (inb_ge (nI8 hn8 c_15)).symm _ rfl)
    · refine x_iload_n dX3_has_12 rfl ?_
      refine x_bipush (v := 8) dX3_has_13 (by decide) ?_
      refine x_icmp_ge (tgt := 22) dX3_has_15 (by decide) (fun c_15 => ?_) (fun c_15 => ?_)
      · refine x_iconst (v := 0) dX3_has_22 (by decide) ?_
        exact s_zret dX3_has_23 rfl (by first | exact Or.inl rfl | exact Or.inr rfl | assumption) (by first | exact e true (inb_ok c_1 (by rw [← hn]; exact c_9)).symm _ rfl | exact e false (inb_lt c_1).symm _ rfl | exact e false (inb_ge (by rw [← hn]; exact c_9)).symm _ rfl | exact e false (inb_ge (nI8 hn8 c_15)).symm _ rfl)
      · refine x_iconst (v := 1) dX3_has_18 (by decide) ?_
        refine x_goto (tgt := 23) dX3_has_19 (by decide) ?_
        exact s_zret dX3_has_23 rfl (by first | exact Or.inl rfl | exact Or.inr rfl | assumption) (by first | exact e true (inb_ok c_1 (by rw [← hn]; exact c_9)).symm _ rfl | exact e false (inb_lt c_1).symm _ rfl | exact e false (inb_ge (by rw [← hn]; exact c_9)).symm _ rfl | exact e false (inb_ge (nI8 hn8 c_15)).symm _ rfl)
def wantF (kd nd : FN) (k : Nat) : Int32 := if kd k = 3 then 0 else if kd k = 1 then 2 * nd k else nd k
set_option maxRecDepth 100000 in
theorem k_wants (σ : Sg) {n k : Nat} (hn : σ 3 5 = nI n) (hn8 : n ≤ 8) (hk : k < n) : Cm 0 YX3_wants [.ref 3, .int (nI k)] σ (fun v σ' => v = some (.int (wantF (tr n (σ 4)) (tr n (σ 5)) k)) ∧ σ' = σ) := by
  refine Cm_of (by decide +kernel) (Nat.le_of_ble_eq_true rfl) ?_
  unfold wantF
  rw [tr_i hk, tr_i hk]
  refine x_iload_n dX3_wants_0 rfl ?_
  refine x_if_lt (tgt := 22) dX3_wants_1 (by decide) (fun c_1 => (absurd c_1 (nI_pos (by omega)))) (fun c_1 => ?_)
  refine x_iload_n dX3_wants_4 rfl ?_
  refine x_aload_n dX3_wants_5 rfl ?_
  refine s_geti (ci := 3) (k := 5) (N := 8) (C := RX3) (T := TX3) dX3_wants_6 lfX3_27 inX3 rfl (by decide) (rfl) rfl ?_
  refine x_icmp_ge (tgt := 22) dX3_wants_9 (by decide) (fun c_9 => (absurd c_9 (by rw [hn]; exact nI_ge hk (by omega)))) (fun c_9 => ?_)
  refine x_aload_n dX3_wants_12 rfl ?_
  refine s_getr (ci := 3) (k := 0) (N := 8) (C := RX3) (T := TX3) dX3_wants_13 lfX3_9 inX3 rfl (by decide) (rfl) rfl ?_
  refine x_iload_n dX3_wants_16 rfl ?_
  refine s_iald dX3_wants_17 (rfl) (hi := rfl) (hj := by omega) (hn := by decide) ?_
  refine x_iconst (v := 3) dX3_wants_18 (by decide) ?_
  refine x_icmp_ne (tgt := 24) dX3_wants_19 (by decide) (fun c_19 => ?_) (fun c_19 => ?_)
  · refine x_aload_n dX3_wants_24 rfl ?_
    refine s_getr (ci := 3) (k := 0) (N := 8) (C := RX3) (T := TX3) dX3_wants_25 lfX3_9 inX3 rfl (by decide) (rfl) rfl ?_
    refine x_iload_n dX3_wants_28 rfl ?_
    refine s_iald dX3_wants_29 (rfl) (hi := rfl) (hj := by omega) (hn := by decide) ?_
    refine x_iconst (v := 1) dX3_wants_30 (by decide) ?_
    refine x_icmp_ne (tgt := 45) dX3_wants_31 (by decide) (fun c_31 => ?_) (fun c_31 => ?_)
    · refine x_aload_n dX3_wants_45 rfl ?_
      refine s_getr (ci := 3) (k := 1) (N := 8) (C := RX3) (T := TX3) dX3_wants_46 lfX3_15 inX3 rfl (by decide) (rfl) rfl ?_
      refine x_iload_n dX3_wants_49 rfl ?_
      refine s_iald dX3_wants_50 (rfl) (hi := rfl) (hj := by omega) (hn := by decide) ?_
      exact s_iret dX3_wants_51 rfl (by simp_all)
    · refine x_iconst (v := 2) dX3_wants_34 (by decide) ?_
      refine x_aload_n dX3_wants_35 rfl ?_
      refine s_getr (ci := 3) (k := 1) (N := 8) (C := RX3) (T := TX3) dX3_wants_36 lfX3_15 inX3 rfl (by decide) (rfl) rfl ?_
      refine x_iload_n dX3_wants_39 rfl ?_
      refine s_iald dX3_wants_40 (rfl) (hi := rfl) (hj := by omega) (hn := by decide) ?_
      refine x_imul dX3_wants_41 ?_
      refine x_goto (tgt := 51) dX3_wants_42 (by decide) ?_
      exact s_iret dX3_wants_51 rfl (by simp_all)
  · refine x_iconst (v := 0) dX3_wants_22 (by decide) ?_
    exact s_iret dX3_wants_23 rfl (by simp_all)
/-- the driest of the first k but one, of several the first; none: -1 -/
def drF (w : FN) (but : Int32) : Nat → Int32
  | 0 => -1
  | k + 1 => if ¬ nI k = but ∧ (drF w but k = -1 ∨ w k < w (drF w but k).toNatClampNeg) then nI k else drF w but k
theorem drF_s1 {w : FN} {but : Int32} {k : Nat} (h : nI k = but) : drF w but (k + 1) = drF w but k := if_neg (fun q => q.1 h)
theorem drF_s2 {w : FN} {but : Int32} {k : Nat} (h : ¬ drF w but k = -1) (h2 : w (drF w but k).toNatClampNeg ≤ w k) : drF w but (k + 1) = drF w but k := if_neg (fun q => q.2.elim h (Int32.not_lt.mpr h2))
theorem drF_t {w : FN} {but : Int32} {k : Nat} (h : ¬ nI k = but) (h2 : drF w but k = -1 ∨ w k < w (drF w but k).toNatClampNeg) : drF w but (k + 1) = nI k := if_pos ⟨h, h2⟩
theorem drF_in (w : FN) (but : Int32) : ∀ k, drF w but k = -1 ∨ ∃ j, j < k ∧ drF w but k = nI j := by
  intro k
  induction k with
  | zero => exact Or.inl rfl
  | succ k ih =>
    unfold drF
    split
    · exact Or.inr ⟨k, Nat.lt_succ_self k, rfl⟩
    · rcases ih with h | ⟨j, h1, h2⟩
      · exact Or.inl h
      · exact Or.inr ⟨j, Nat.lt_succ_of_lt h1, h2⟩

set_option maxRecDepth 100000 in
/-- driest: the loop -/
theorem l_driest (σ : Sg) {n m : Nat} {but : Int32} (hm : xMo m) (hn : σ 3 5 = nI n) (hn8 : n ≤ 8) : ∀ (j k : Nat), k + j = n → ∀ lst : Int32, (¬ drF (σ (m + 1)) but k = -1 → lst = σ (m + 1) (drF (σ (m + 1)) but k).toNatClampNeg) →
    Ex (YX1_driest, 1, xB0, none) 8 [.ref m, .ref 3, .int but, .int (drF (σ (m + 1)) but k), .int lst, .int (nI k)] [] (xMs σ) (xQ (fun v σ' => v = some (.int (drF (σ (m + 1)) but n)) ∧ σ' = σ)) := by
  intro j
  induction j with
  | zero =>
    intro k hk lst hl
    have hk : k = n := by omega
    subst hk
    refine x_iload dX1_driest_8 rfl ?_
    refine x_aload_n dX1_driest_10 rfl ?_
    refine s_getiN (ci := 3) (k := 5) (N := 8) (C := RX3) (T := TX3) dX1_driest_11 lfX1_39 inX3 rfl (by decide) (rfl) rfl ?_
    refine x_icmp_ge (tgt := 58) dX1_driest_14 (by decide) (fun c_14 => ?_) (fun c_14 => (absurd (by rw [hn]; exact Int32.le_refl _) c_14))
    refine x_iload_n dX1_driest_58 rfl ?_
    exact s_iret dX1_driest_59 rfl (⟨rfl, rfl⟩)
  | succ j ih =>
    intro k hk lst hl
    have hkn : k < n := by omega
    have step : ∀ (x lst2 : Int32), x = drF (σ (m + 1)) but (k + 1) → (¬ x = -1 → lst2 = σ (m + 1) x.toNatClampNeg) → Ex (YX1_driest, 1, xB0, none) 8 [.ref m, .ref 3, .int but, .int x, .int lst2, .int (nI (k + 1))] [] (xMs σ) (xQ (fun v σ' => v = some (.int (drF (σ (m + 1)) but n)) ∧ σ' = σ)) := fun x lst2 hx hl2 => by
      subst hx
      exact ih (k + 1) (by omega) lst2 hl2
    refine x_iload dX1_driest_8 rfl ?_
    refine x_aload_n dX1_driest_10 rfl ?_
    refine s_getiN (ci := 3) (k := 5) (N := 8) (C := RX3) (T := TX3) dX1_driest_11 lfX1_39 inX3 rfl (by decide) (rfl) rfl ?_
    refine x_icmp_ge (tgt := 58) dX1_driest_14 (by decide) (fun c_14 => (absurd c_14 (by rw [hn]; exact nI_ge hkn (by omega)))) (fun c_14 => ?_)
    refine x_iload dX1_driest_17 rfl ?_
    refine x_iload_n dX1_driest_19 rfl ?_
    refine x_icmp_eq (tgt := 52) dX1_driest_20 (by decide) (fun c_20 => ?_) (fun c_20 => ?_)
    · refine s_iinc dX1_driest_52 rfl (by decide) rfl ?_
      refine x_goto (tgt := 8) dX1_driest_55 (by decide) ?_
      first | exact step _ _ (drF_s1 c_20).symm hl | exact step _ _ (drF_s2 c_25 (by rw [← hl c_25]; exact c_37)).symm hl | exact step _ _ (drF_t c_20 (Or.inl c_25)).symm (fun _ => by rw [nI_clamp (by omega)]) | exact step _ _ (drF_t c_20 (Or.inr (by rw [← hl c_25]; exact Int32.not_le.mp c_37))).symm (fun _ => by rw [nI_clamp (by omega)])
    · refine x_iload_n dX1_driest_23 rfl ?_
      refine x_iconst (v := -1) dX1_driest_24 (by decide) ?_
      refine x_icmp_eq (tgt := 40) dX1_driest_25 (by decide) (fun c_25 => ?_) (fun c_25 => ?_)
      · refine x_iload dX1_driest_40 rfl ?_
        refine x_istore_n dX1_driest_42 (by decide) rfl ?_
        refine x_aload_n dX1_driest_43 rfl ?_
        refine s_getr (ci := 1) (k := 0) (N := 4) (C := RX1) (T := TX1) dX1_driest_44 lfX1_9 inX1 rfl (by decide) (hm.1) rfl ?_
        refine x_iload dX1_driest_47 rfl ?_
        refine s_iald dX1_driest_49 (hm.2.1) (hi := rfl) (hj := by omega) (hn := by decide) ?_
        refine x_istore dX1_driest_50 (by decide) rfl ?_
        refine s_iinc dX1_driest_52 rfl (by decide) rfl ?_
        refine x_goto (tgt := 8) dX1_driest_55 (by decide) ?_
        first | exact step _ _ (drF_s1 c_20).symm hl | exact step _ _ (drF_s2 c_25 (by rw [← hl c_25]; exact c_37)).symm hl | exact step _ _ (drF_t c_20 (Or.inl c_25)).symm (fun _ => by rw [nI_clamp (by omega)]) | exact step _ _ (drF_t c_20 (Or.inr (by rw [← hl c_25]; exact Int32.not_le.mp c_37))).symm (fun _ => by rw [nI_clamp (by omega)])
      · refine x_aload_n dX1_driest_28 rfl ?_
        refine s_getr (ci := 1) (k := 0) (N := 4) (C := RX1) (T := TX1) dX1_driest_29 lfX1_9 inX1 rfl (by decide) (hm.1) rfl ?_
        refine x_iload dX1_driest_32 rfl ?_
        refine s_iald dX1_driest_34 (hm.2.1) (hi := rfl) (hj := by omega) (hn := by decide) ?_
        refine x_iload dX1_driest_35 rfl ?_
        refine x_icmp_ge (tgt := 52) dX1_driest_37 (by decide) (fun c_37 => ?_) (fun c_37 => ?_)
        · refine s_iinc dX1_driest_52 rfl (by decide) rfl ?_
          refine x_goto (tgt := 8) dX1_driest_55 (by decide) ?_
          first | exact step _ _ (drF_s1 c_20).symm hl | exact step _ _ (drF_s2 c_25 (by rw [← hl c_25]; exact c_37)).symm hl | exact step _ _ (drF_t c_20 (Or.inl c_25)).symm (fun _ => by rw [nI_clamp (by omega)]) | exact step _ _ (drF_t c_20 (Or.inr (by rw [← hl c_25]; exact Int32.not_le.mp c_37))).symm (fun _ => by rw [nI_clamp (by omega)])
        · refine x_iload dX1_driest_40 rfl ?_
          refine x_istore_n dX1_driest_42 (by decide) rfl ?_
          refine x_aload_n dX1_driest_43 rfl ?_
          refine s_getr (ci := 1) (k := 0) (N := 4) (C := RX1) (T := TX1) dX1_driest_44 lfX1_9 inX1 rfl (by decide) (hm.1) rfl ?_
          refine x_iload dX1_driest_47 rfl ?_
          refine s_iald dX1_driest_49 (hm.2.1) (hi := rfl) (hj := by omega) (hn := by decide) ?_
          refine x_istore dX1_driest_50 (by decide) rfl ?_
          refine s_iinc dX1_driest_52 rfl (by decide) rfl ?_
          refine x_goto (tgt := 8) dX1_driest_55 (by decide) ?_
          first | exact step _ _ (drF_s1 c_20).symm hl | exact step _ _ (drF_s2 c_25 (by rw [← hl c_25]; exact c_37)).symm hl | exact step _ _ (drF_t c_20 (Or.inl c_25)).symm (fun _ => by rw [nI_clamp (by omega)]) | exact step _ _ (drF_t c_20 (Or.inr (by rw [← hl c_25]; exact Int32.not_le.mp c_37))).symm (fun _ => by rw [nI_clamp (by omega)])
theorem drF_congr {w w' : FN} {but : Int32} {n : Nat} (hn : n ≤ 1000) (h : ∀ k, k < n → w k = w' k) : ∀ k, k ≤ n → drF w but k = drF w' but k := by
  intro k
  induction k with
  | zero => intro _; rfl
  | succ k ih =>
    intro hk
    have e := ih (by omega)
    unfold drF
    rw [e, h k (by omega)]
    rcases drF_in w' but k with h1 | ⟨j, h1, h2⟩
    · simp [h1]
    · rw [h2, nI_clamp (by omega), h j (by omega)]
theorem drF_tr {w : FN} {but : Int32} {n : Nat} (hn : n ≤ 1000) : drF w but n = drF (tr n w) but n := drF_congr hn (fun k hk => (tr_i hk).symm) n (Nat.le_refl n)
set_option maxRecDepth 100000 in
theorem k_driest (σ : Sg) {n m : Nat} (but : Int32) (hm : xMo m) (hn : σ 3 5 = nI n) (hn8 : n ≤ 8) : Cm 1 YX1_driest [.ref m, .ref 3, .int but] σ (fun v σ' => v = some (.int (drF (tr n (σ (m + 1))) but n)) ∧ σ' = σ) := by
  refine Cm_of (by decide +kernel) (Nat.le_of_ble_eq_true rfl) ?_
  rw [← drF_tr (by omega)]
  refine x_iconst (v := -1) dX1_driest_0 (by decide) ?_
  refine x_istore_n dX1_driest_1 (by decide) rfl ?_
  refine x_iconst (v := 0) dX1_driest_2 (by decide) ?_
  refine x_istore dX1_driest_3 (by decide) rfl ?_
  refine x_iconst (v := 0) dX1_driest_5 (by decide) ?_
  refine x_istore dX1_driest_6 (by decide) rfl ?_
  exact l_driest σ hm hn hn8 n 0 (by omega) 0 (fun h => absurd rfl h)
end
section
/-! ===== bits of small numbers; sets ===== -/
theorem bz_or (a b : Nat) : nI a ||| nI b = nI (a ||| b) := by
  apply Int32.toBitVec_inj.mp
  show BitVec.ofNat 32 a ||| BitVec.ofNat 32 b = BitVec.ofNat 32 (a ||| b)
  apply BitVec.eq_of_toNat_eq
  simp [BitVec.toNat_or, BitVec.toNat_ofNat, Nat.or_mod_two_pow]
theorem bz_and (a b : Nat) : nI a &&& nI b = nI (a &&& b) := by
  apply Int32.toBitVec_inj.mp
  show BitVec.ofNat 32 a &&& BitVec.ofNat 32 b = BitVec.ofNat 32 (a &&& b)
  apply BitVec.eq_of_toNat_eq
  simp [BitVec.toNat_and, BitVec.toNat_ofNat, Nat.and_mod_two_pow]
theorem bz_k31 {k : Nat} (h : k < 32) : nI k &&& 31 = nI k := by
  have : ∀ k, k < 32 → nI k &&& 31 = nI k := by decide
  exact this k h
theorem bz_sm {k : Nat} (h : k < 31) : ((nI k).toBitVec.smod 32).toNat = k := by
  have : ∀ k, k < 31 → ((nI k).toBitVec.smod 32).toNat = k := by decide
  exact this k h
theorem bz_shr {a k : Nat} (ha : a < 2 ^ 31) (h : k < 31) : nI a >>> (nI k &&& 31) = nI (a >>> k) := by
  rw [bz_k31 (by omega), pk_shrN ha (nI k) k (bz_sm h), Nat.shiftRight_eq_div_pow]
theorem bz_shl {k : Nat} (h : k < 31) : (1 : Int32) <<< (nI k &&& 31) = nI (2 ^ k) := by
  have h2 : 2 ^ k < 2 ^ 31 := Nat.pow_lt_pow_right (by decide) h
  rw [bz_k31 (by omega), show (1 : Int32) = nI 1 from rfl, pk_shlN (nI k) k (bz_sm h) (by omega), Nat.one_mul]
theorem bz_bit {a k : Nat} (ha : a < 2 ^ 31) (h : k < 31) : (nI a >>> (nI k &&& 31)) &&& 1 = bI (a.testBit k) := by
  rw [bz_shr ha h, show (1 : Int32) = nI 1 from rfl, bz_and, Nat.testBit, Nat.and_comm, bI]
  rw [Nat.and_comm 1, Nat.and_one_is_mod]
  rcases Nat.mod_two_eq_zero_or_one (a >>> k) with e | e <;> rw [e] <;> rfl
theorem bI_0 {b : Bool} : bI b = 0 ↔ b = false := by cases b <;> simp [bI]
theorem bI_1 {b : Bool} : bI b = 1 ↔ b = true := by cases b <;> simp [bI]
theorem bI_n {b : Bool} (h : ¬ bI b = 0) : b = true := by cases b <;> simp_all [bI]
/-- a set out of a test, the first k places -/
def stF (p : Nat → Bool) : Nat → Nat
  | 0 => 0
  | k + 1 => if p k = true then stF p k ||| 2 ^ k else stF p k
theorem stF_lt (p : Nat → Bool) : ∀ k, stF p k < 2 ^ k := by
  intro k
  induction k with
  | zero => exact Nat.one_pos
  | succ k ih =>
    have h1 : 2 ^ k < 2 ^ (k + 1) := Nat.pow_lt_pow_right (by decide) (Nat.lt_succ_self k)
    unfold stF
    split
    · exact Nat.or_lt_two_pow (by omega) h1
    · omega
theorem stF_bit (p : Nat → Bool) : ∀ k j, (stF p k).testBit j = (decide (j < k) && p j) := by
  intro k
  induction k with
  | zero => intro j; simp [stF]
  | succ k ih =>
    intro j
    unfold stF
    by_cases e : j = k
    · subst e
      by_cases hp : p j = true
      · rw [if_pos hp, Nat.testBit_or, ih, Nat.testBit_two_pow_self]; simp [hp]
      · rw [if_neg hp, ih]; simp [hp]
    · have e2 : (2 ^ k).testBit j = false := by rw [Nat.testBit_two_pow]; simp; omega
      have e3 : decide (j < k + 1) = decide (j < k) := by
        by_cases h : j < k
        · simp [h]; omega
        · simp [h]; omega
      by_cases hp : p k = true
      · rw [if_pos hp, Nat.testBit_or, ih, e2, e3, Bool.or_false]
      · rw [if_neg hp, ih, e3]
theorem stF_congr {p q : Nat → Bool} : ∀ k, (∀ j, j < k → p j = q j) → stF p k = stF q k := by
  intro k
  induction k with
  | zero => intro _; rfl
  | succ k ih =>
    intro h
    unfold stF
    rw [ih (fun j hj => h j (by omega)), h k (by omega)]
theorem stF_s {p : Nat → Bool} {k : Nat} (hk : k < 31) (h : p k = true) : nI (stF p k) ||| ((1 : Int32) <<< (nI k &&& 31)) = nI (stF p (k + 1)) := by
  rw [bz_shl hk, bz_or]
  show _ = nI (if p k = true then stF p k ||| 2 ^ k else stF p k)
  rw [if_pos h]
theorem stF_n {p : Nat → Bool} {k : Nat} (h : ¬ p k = true) : nI (stF p k) = nI (stF p (k + 1)) := by
  show _ = nI (if p k = true then stF p k ||| 2 ^ k else stF p k)
  rw [if_neg h]
/-- kept by sw, sg where the cell is another one -/
theorem sw_sw (σ : Sg) (a : Nat) (f g : FN) : sw (sw σ a f) a g = sw σ a g := by
  funext b
  unfold sw
  split <;> rfl
theorem sw_sg (σ : Sg) (a k : Nat) (x : Int32) (g : FN) : sw (sg σ a k x) a g = sw σ a g := sw_sw _ _ _ _
theorem sw_id (σ : Sg) (a : Nat) : sw σ a (σ a) = σ := by
  funext b
  unfold sw
  split
  · rename_i h; rw [h]
  · rfl
theorem sg_row (σ : Sg) (a k : Nat) (x : Int32) : sg σ a k x a = upd (σ a) k x := sw_s _ _ _
theorem sg_def (σ : Sg) (a k : Nat) (x : Int32) : sg σ a k x = sw σ a (upd (σ a) k x) := rfl
theorem xname {E : xE} {pc : Nat} {L S : List Value} {σ' : Sg} {Q : Option Value → xM → Prop} (k : ∀ s, s = σ' → Ex E pc L S (xMs s) Q) : Ex E pc L S (xMs σ') Q := k _ rfl
theorem xtop {E : xE} {pc : Nat} {L S : List Value} {x : Int32} {M : xM} {Q : Option Value → xM → Prop} (k : ∀ y, y = x → Ex E pc L (.int y :: S) M Q) : Ex E pc L (.int x :: S) M Q := k _ rfl
theorem sw_at (σ : Sg) (a : Nat) (f : FN) (b : Nat) : sw σ a f b = if b = a then f else σ b := rfl
theorem sg_at (σ : Sg) (a k : Nat) (x : Int32) (b j : Nat) : sg σ a k x b j = if b = a then (if j = k then x else σ a j) else σ b j := by
  unfold sg sw upd
  split <;> rfl
theorem sg_rw (σ : Sg) (a k : Nat) (x : Int32) (b : Nat) : sg σ a k x b = if b = a then upd (σ a) k x else σ b := rfl
end
section
/-! ===== Plan, Sightings, Moment: contracts ===== -/
def vbF (kd : FN) (i : Nat) : Bool := decide (¬ kd i = 2)
set_option maxRecDepth 100000 in
theorem l_votingBits (σ : Sg) {n : Nat} (hn : σ 3 5 = nI n) (hn8 : n ≤ 8) : ∀ (j k : Nat), k + j = n → Ex (YX3_votingBits, 0, xB0, none) 4 [.ref 3, .int (nI (stF (vbF (σ 4)) k)), .int (nI k)] [] (xMs σ) (xQ (fun v σ' => v = some (.int (nI (stF (vbF (σ 4)) n))) ∧ σ' = σ)) := by
  intro j
  induction j with
  | zero =>
    intro k hk
    have hk : k = n := by omega
    subst hk
    refine x_iload_n dX3_votingBits_4 rfl ?_
    refine x_aload_n dX3_votingBits_5 rfl ?_
    refine s_geti (ci := 3) (k := 5) (N := 8) (C := RX3) (T := TX3) dX3_votingBits_6 lfX3_27 inX3 rfl (by decide) (rfl) rfl ?_
    refine x_icmp_ge (tgt := 34) dX3_votingBits_9 (by decide) (fun c_9 => ?_) (fun c_9 => (absurd (by rw [hn]; exact Int32.le_refl _) c_9))
    refine x_iload_n dX3_votingBits_34 rfl ?_
    exact s_iret dX3_votingBits_35 rfl (⟨rfl, rfl⟩)
  | succ j ih =>
    intro k hk
    have hkn : k < n := by omega
    have step : ∀ x : Int32, x = nI (stF (vbF (σ 4)) (k + 1)) → Ex (YX3_votingBits, 0, xB0, none) 4 [.ref 3, .int x, .int (nI (k + 1))] [] (xMs σ) (xQ (fun v σ' => v = some (.int (nI (stF (vbF (σ 4)) n))) ∧ σ' = σ)) := fun x hx => by
      subst hx
      exact ih (k + 1) (by omega)
    refine x_iload_n dX3_votingBits_4 rfl ?_
    refine x_aload_n dX3_votingBits_5 rfl ?_
    refine s_geti (ci := 3) (k := 5) (N := 8) (C := RX3) (T := TX3) dX3_votingBits_6 lfX3_27 inX3 rfl (by decide) (rfl) rfl ?_
    refine x_icmp_ge (tgt := 34) dX3_votingBits_9 (by decide) (fun c_9 => (absurd c_9 (by rw [hn]; exact nI_ge hkn (by omega)))) (fun c_9 => ?_)
    refine x_aload_n dX3_votingBits_12 rfl ?_
    refine s_getr (ci := 3) (k := 0) (N := 8) (C := RX3) (T := TX3) dX3_votingBits_13 lfX3_9 inX3 rfl (by decide) (rfl) rfl ?_
    refine x_iload_n dX3_votingBits_16 rfl ?_
    refine s_iald dX3_votingBits_17 (rfl) (hi := rfl) (hj := by omega) (hn := by decide) ?_
    refine x_iconst (v := 2) dX3_votingBits_18 (by decide) ?_
    refine x_icmp_eq (tgt := 28) dX3_votingBits_19 (by decide) (fun c_19 => ?_) (fun c_19 => ?_)
    · refine s_iinc dX3_votingBits_28 rfl (by decide) rfl ?_
      refine x_goto (tgt := 4) dX3_votingBits_31 (by decide) ?_
      first | exact step _ (stF_s (by omega) (decide_eq_true c_19)) | exact step _ (stF_n (fun h => (of_decide_eq_true h) c_19))
    · refine x_iload_n dX3_votingBits_22 rfl ?_
      refine x_iconst (v := 1) dX3_votingBits_23 (by decide) ?_
      refine x_iload_n dX3_votingBits_24 rfl ?_
      refine x_ishl dX3_votingBits_25 ?_
      refine x_ior dX3_votingBits_26 ?_
      refine x_istore_n dX3_votingBits_27 (by decide) rfl ?_
      refine s_iinc dX3_votingBits_28 rfl (by decide) rfl ?_
      refine x_goto (tgt := 4) dX3_votingBits_31 (by decide) ?_
      first | exact step _ (stF_s (by omega) (decide_eq_true c_19)) | exact step _ (stF_n (fun h => (of_decide_eq_true h) c_19))
set_option maxRecDepth 100000 in
theorem k_votingBits (σ : Sg) {n : Nat} (hn : σ 3 5 = nI n) (hn8 : n ≤ 8) : Cm 0 YX3_votingBits [.ref 3] σ (fun v σ' => v = some (.int (nI (stF (vbF (tr n (σ 4))) n))) ∧ σ' = σ) := by
  refine Cm_of (by decide +kernel) (Nat.le_of_ble_eq_true rfl) ?_
  rw [stF_congr (p := vbF (tr n (σ 4))) (q := vbF (σ 4)) n (fun j hj => by unfold vbF; rw [tr_i hj])]
  refine x_iconst (v := 0) dX3_votingBits_0 (by decide) ?_
  refine x_istore_n dX3_votingBits_1 (by decide) rfl ?_
  refine x_iconst (v := 0) dX3_votingBits_2 (by decide) ?_
  refine x_istore_n dX3_votingBits_3 (by decide) rfl ?_
  exact l_votingBits σ hn hn8 n 0 (by omega)
set_option maxRecDepth 100000 in
theorem k_plclear (σ : Sg) : Cm 0 YX3_clear [.ref 9] σ (fun v σ' => v = none ∧ σ' = sg (sg (sg σ 9 5 0) 9 6 30) 9 7 8) := by
  refine Cm_of (by decide +kernel) (Nat.le_of_ble_eq_true rfl) ?_
  refine x_aload_n dX3_clear_0 rfl ?_
  refine x_iconst (v := 0) dX3_clear_1 (by decide) ?_
  refine s_puti (ci := 3) (k := 5) (N := 8) (C := RX3) (T := TX3) (ty0 := tyX3) dX3_clear_2 lfX3_27 inX3 tyX3_ok nmX3 rfl (by decide) rfl rfl (rfl) rfl ?_
  refine x_aload_n dX3_clear_5 rfl ?_
  refine x_bipush (v := 30) dX3_clear_6 (by decide) ?_
  refine s_puti (ci := 3) (k := 6) (N := 8) (C := RX3) (T := TX3) (ty0 := tyX3) dX3_clear_8 lfX3_31 inX3 tyX3_ok nmX3 rfl (by decide) rfl rfl (rfl) rfl ?_
  refine x_aload_n dX3_clear_11 rfl ?_
  refine x_bipush (v := 8) dX3_clear_12 (by decide) ?_
  refine s_puti (ci := 3) (k := 7) (N := 8) (C := RX3) (T := TX3) (ty0 := tyX3) dX3_clear_14 lfX3_34 inX3 tyX3_ok nmX3 rfl (by decide) rfl rfl (rfl) rfl ?_
  exact s_ret dX3_clear_17 rfl (⟨rfl, rfl⟩)
/-- a Plan's picture -/
def plP (n : Nat) (σ : Sg) (P : Nat) : PL := (n, σ P 6, σ P 7, tr n (σ (P + 1)), tr n (σ (P + 2)), tr n (σ (P + 3)), tr n (σ (P + 4)), tr n (σ (P + 5)))
theorem cpN_i {N k : Nat} {f g : FN} (h : k < N) : cpN N f g k = f k := if_pos h
theorem cpN_tr {N n : Nat} {f g : FN} (h : n ≤ N) : tr n (cpN N f g) = tr n f := tr_ext fun k hk => cpN_i (by omega)
set_option maxRecDepth 100000 in
set_option maxHeartbeats 2000000 in
theorem k_plcopy (σ : Sg) {P O : Nat} (hc : P = 9 ∧ O = 3 ∨ P = 3 ∧ O = 9) : Cm 1 YX3_copyFrom [.ref P, .ref O] σ (fun v σ' => v = none ∧ σ' P 5 = σ O 5 ∧ (∀ n, n ≤ 8 → plP n σ' P = plP n σ O) ∧ ∀ c, ¬ (P ≤ c ∧ c ≤ P + 5) → σ' c = σ c) := by
  refine Cm_of (by decide +kernel) (Nat.le_of_ble_eq_true rfl) ?_
  have fin : ∀ (P O : Nat) (τ : Sg), (τ (P + 1) = cpN 8 (σ (O + 1)) (σ (P + 1)) ∧ τ (P + 2) = cpN 8 (σ (O + 2)) (σ (P + 2)) ∧ τ (P + 3) = cpN 8 (σ (O + 3)) (σ (P + 3)) ∧ τ (P + 4) = cpN 8 (σ (O + 4)) (σ (P + 4)) ∧ τ (P + 5) = cpN 8 (σ (O + 5)) (σ (P + 5))) → τ P 5 = σ O 5 → τ P 6 = σ O 6 → τ P 7 = σ O 7 → (∀ c, ¬ (P ≤ c ∧ c ≤ P + 5) → τ c = σ c) → (none : Option Value) = none ∧ τ P 5 = σ O 5 ∧ (∀ n, n ≤ 8 → plP n τ P = plP n σ O) ∧ ∀ c, ¬ (P ≤ c ∧ c ≤ P + 5) → τ c = σ c := by
    intro P O τ ⟨h1, h2, h3, h4, h5⟩ h6 h7 h8 h9
    refine ⟨rfl, h6, fun n hn => ?_, h9⟩
    unfold plP
    rw [h1, h2, h3, h4, h5, h7, h8, cpN_tr hn, cpN_tr hn, cpN_tr hn, cpN_tr hn, cpN_tr hn]
  rcases hc with ⟨rfl, rfl⟩ | ⟨rfl, rfl⟩

  · skip
    refine x_aload_n dX3_copyFrom_0 rfl ?_
    refine s_getr (ci := 3) (k := 0) (N := 8) (C := RX3) (T := TX3) dX3_copyFrom_1 lfX3_9 inX3 rfl (by decide) (rfl) rfl ?_
    refine x_iconst (v := 0) dX3_copyFrom_4 (by decide) ?_
    refine x_aload_n dX3_copyFrom_5 rfl ?_
    refine s_getr (ci := 3) (k := 0) (N := 8) (C := RX3) (T := TX3) dX3_copyFrom_6 lfX3_9 inX3 rfl (by decide) (rfl) rfl ?_
    refine x_iconst (v := 0) dX3_copyFrom_9 (by decide) ?_
    refine x_bipush (v := 8) dX3_copyFrom_10 (by decide) ?_
    refine s_copy (N := 8) dX3_copyFrom_12 tmX3_37 (rfl) (rfl) (by decide) (by decide) (by decide) (by decide) (by decide) (by decide) ?_
    refine xname (fun σ_12 e_12 => ?_)
    refine x_aload_n dX3_copyFrom_15 rfl ?_
    refine s_getr (ci := 3) (k := 1) (N := 8) (C := RX3) (T := TX3) dX3_copyFrom_16 lfX3_15 inX3 rfl (by decide) (rfl) rfl ?_
    refine x_iconst (v := 0) dX3_copyFrom_19 (by decide) ?_
    refine x_aload_n dX3_copyFrom_20 rfl ?_
    refine s_getr (ci := 3) (k := 1) (N := 8) (C := RX3) (T := TX3) dX3_copyFrom_21 lfX3_15 inX3 rfl (by decide) (rfl) rfl ?_
    refine x_iconst (v := 0) dX3_copyFrom_24 (by decide) ?_
    refine x_bipush (v := 8) dX3_copyFrom_25 (by decide) ?_
    refine s_copy (N := 8) dX3_copyFrom_27 tmX3_37 (rfl) (rfl) (by decide) (by decide) (by decide) (by decide) (by decide) (by decide) ?_
    refine xname (fun σ_27 e_27 => ?_)
    refine x_aload_n dX3_copyFrom_30 rfl ?_
    refine s_getr (ci := 3) (k := 2) (N := 8) (C := RX3) (T := TX3) dX3_copyFrom_31 lfX3_18 inX3 rfl (by decide) (rfl) rfl ?_
    refine x_iconst (v := 0) dX3_copyFrom_34 (by decide) ?_
    refine x_aload_n dX3_copyFrom_35 rfl ?_
    refine s_getr (ci := 3) (k := 2) (N := 8) (C := RX3) (T := TX3) dX3_copyFrom_36 lfX3_18 inX3 rfl (by decide) (rfl) rfl ?_
    refine x_iconst (v := 0) dX3_copyFrom_39 (by decide) ?_
    refine x_bipush (v := 8) dX3_copyFrom_40 (by decide) ?_
    refine s_copy (N := 8) dX3_copyFrom_42 tmX3_37 (rfl) (rfl) (by decide) (by decide) (by decide) (by decide) (by decide) (by decide) ?_
    refine xname (fun σ_42 e_42 => ?_)
    refine x_aload_n dX3_copyFrom_45 rfl ?_
    refine s_getr (ci := 3) (k := 3) (N := 8) (C := RX3) (T := TX3) dX3_copyFrom_46 lfX3_21 inX3 rfl (by decide) (rfl) rfl ?_
    refine x_iconst (v := 0) dX3_copyFrom_49 (by decide) ?_
    refine x_aload_n dX3_copyFrom_50 rfl ?_
    refine s_getr (ci := 3) (k := 3) (N := 8) (C := RX3) (T := TX3) dX3_copyFrom_51 lfX3_21 inX3 rfl (by decide) (rfl) rfl ?_
    refine x_iconst (v := 0) dX3_copyFrom_54 (by decide) ?_
    refine x_bipush (v := 8) dX3_copyFrom_55 (by decide) ?_
    refine s_copy (N := 8) dX3_copyFrom_57 tmX3_37 (rfl) (rfl) (by decide) (by decide) (by decide) (by decide) (by decide) (by decide) ?_
    refine xname (fun σ_57 e_57 => ?_)
    refine x_aload_n dX3_copyFrom_60 rfl ?_
    refine s_getr (ci := 3) (k := 4) (N := 8) (C := RX3) (T := TX3) dX3_copyFrom_61 lfX3_24 inX3 rfl (by decide) (rfl) rfl ?_
    refine x_iconst (v := 0) dX3_copyFrom_64 (by decide) ?_
    refine x_aload_n dX3_copyFrom_65 rfl ?_
    refine s_getr (ci := 3) (k := 4) (N := 8) (C := RX3) (T := TX3) dX3_copyFrom_66 lfX3_24 inX3 rfl (by decide) (rfl) rfl ?_
    refine x_iconst (v := 0) dX3_copyFrom_69 (by decide) ?_
    refine x_bipush (v := 8) dX3_copyFrom_70 (by decide) ?_
    refine s_copy (N := 8) dX3_copyFrom_72 tmX3_37 (rfl) (rfl) (by decide) (by decide) (by decide) (by decide) (by decide) (by decide) ?_
    refine xname (fun σ_72 e_72 => ?_)
    refine x_aload_n dX3_copyFrom_75 rfl ?_
    refine x_aload_n dX3_copyFrom_76 rfl ?_
    refine s_geti (ci := 3) (k := 5) (N := 8) (C := RX3) (T := TX3) dX3_copyFrom_77 lfX3_27 inX3 rfl (by decide) (rfl) rfl ?_
    refine s_puti (ci := 3) (k := 5) (N := 8) (C := RX3) (T := TX3) (ty0 := tyX3) dX3_copyFrom_80 lfX3_27 inX3 tyX3_ok nmX3 rfl (by decide) rfl rfl (rfl) rfl ?_
    refine xname (fun σ_80 e_80 => ?_)
    refine x_aload_n dX3_copyFrom_83 rfl ?_
    refine x_aload_n dX3_copyFrom_84 rfl ?_
    refine s_geti (ci := 3) (k := 6) (N := 8) (C := RX3) (T := TX3) dX3_copyFrom_85 lfX3_31 inX3 rfl (by decide) (rfl) rfl ?_
    refine s_puti (ci := 3) (k := 6) (N := 8) (C := RX3) (T := TX3) (ty0 := tyX3) dX3_copyFrom_88 lfX3_31 inX3 tyX3_ok nmX3 rfl (by decide) rfl rfl (rfl) rfl ?_
    refine xname (fun σ_88 e_88 => ?_)
    refine x_aload_n dX3_copyFrom_91 rfl ?_
    refine x_aload_n dX3_copyFrom_92 rfl ?_
    refine s_geti (ci := 3) (k := 7) (N := 8) (C := RX3) (T := TX3) dX3_copyFrom_93 lfX3_34 inX3 rfl (by decide) (rfl) rfl ?_
    refine s_puti (ci := 3) (k := 7) (N := 8) (C := RX3) (T := TX3) (ty0 := tyX3) dX3_copyFrom_96 lfX3_34 inX3 tyX3_ok nmX3 rfl (by decide) rfl rfl (rfl) rfl ?_
    refine xname (fun σ_96 e_96 => ?_)
    refine s_ret dX3_copyFrom_99 rfl ?_
    refine fin 9 3 _ ⟨?_, ?_, ?_, ?_, ?_⟩ ?_ ?_ ?_ (fun c hc => ?_)
    all_goals first | (simp [e_96, e_88, e_80, e_72, e_57, e_42, e_27, e_12, sw_at, sg_at, sg_rw]; done) | skip
    have hq : ∀ i, 9 ≤ i → i ≤ 14 → c ≠ i := by omega
    simp [e_96, e_88, e_80, e_72, e_57, e_42, e_27, e_12, sw_at, sg_at, sg_rw, hq]
  · skip
    refine x_aload_n dX3_copyFrom_0 rfl ?_
    refine s_getr (ci := 3) (k := 0) (N := 8) (C := RX3) (T := TX3) dX3_copyFrom_1 lfX3_9 inX3 rfl (by decide) (rfl) rfl ?_
    refine x_iconst (v := 0) dX3_copyFrom_4 (by decide) ?_
    refine x_aload_n dX3_copyFrom_5 rfl ?_
    refine s_getr (ci := 3) (k := 0) (N := 8) (C := RX3) (T := TX3) dX3_copyFrom_6 lfX3_9 inX3 rfl (by decide) (rfl) rfl ?_
    refine x_iconst (v := 0) dX3_copyFrom_9 (by decide) ?_
    refine x_bipush (v := 8) dX3_copyFrom_10 (by decide) ?_
    refine s_copy (N := 8) dX3_copyFrom_12 tmX3_37 (rfl) (rfl) (by decide) (by decide) (by decide) (by decide) (by decide) (by decide) ?_
    refine xname (fun σ_12 e_12 => ?_)
    refine x_aload_n dX3_copyFrom_15 rfl ?_
    refine s_getr (ci := 3) (k := 1) (N := 8) (C := RX3) (T := TX3) dX3_copyFrom_16 lfX3_15 inX3 rfl (by decide) (rfl) rfl ?_
    refine x_iconst (v := 0) dX3_copyFrom_19 (by decide) ?_
    refine x_aload_n dX3_copyFrom_20 rfl ?_
    refine s_getr (ci := 3) (k := 1) (N := 8) (C := RX3) (T := TX3) dX3_copyFrom_21 lfX3_15 inX3 rfl (by decide) (rfl) rfl ?_
    refine x_iconst (v := 0) dX3_copyFrom_24 (by decide) ?_
    refine x_bipush (v := 8) dX3_copyFrom_25 (by decide) ?_
    refine s_copy (N := 8) dX3_copyFrom_27 tmX3_37 (rfl) (rfl) (by decide) (by decide) (by decide) (by decide) (by decide) (by decide) ?_
    refine xname (fun σ_27 e_27 => ?_)
    refine x_aload_n dX3_copyFrom_30 rfl ?_
    refine s_getr (ci := 3) (k := 2) (N := 8) (C := RX3) (T := TX3) dX3_copyFrom_31 lfX3_18 inX3 rfl (by decide) (rfl) rfl ?_
    refine x_iconst (v := 0) dX3_copyFrom_34 (by decide) ?_
    refine x_aload_n dX3_copyFrom_35 rfl ?_
    refine s_getr (ci := 3) (k := 2) (N := 8) (C := RX3) (T := TX3) dX3_copyFrom_36 lfX3_18 inX3 rfl (by decide) (rfl) rfl ?_
    refine x_iconst (v := 0) dX3_copyFrom_39 (by decide) ?_
    refine x_bipush (v := 8) dX3_copyFrom_40 (by decide) ?_
    refine s_copy (N := 8) dX3_copyFrom_42 tmX3_37 (rfl) (rfl) (by decide) (by decide) (by decide) (by decide) (by decide) (by decide) ?_
    refine xname (fun σ_42 e_42 => ?_)
    refine x_aload_n dX3_copyFrom_45 rfl ?_
    refine s_getr (ci := 3) (k := 3) (N := 8) (C := RX3) (T := TX3) dX3_copyFrom_46 lfX3_21 inX3 rfl (by decide) (rfl) rfl ?_
    refine x_iconst (v := 0) dX3_copyFrom_49 (by decide) ?_
    refine x_aload_n dX3_copyFrom_50 rfl ?_
    refine s_getr (ci := 3) (k := 3) (N := 8) (C := RX3) (T := TX3) dX3_copyFrom_51 lfX3_21 inX3 rfl (by decide) (rfl) rfl ?_
    refine x_iconst (v := 0) dX3_copyFrom_54 (by decide) ?_
    refine x_bipush (v := 8) dX3_copyFrom_55 (by decide) ?_
    refine s_copy (N := 8) dX3_copyFrom_57 tmX3_37 (rfl) (rfl) (by decide) (by decide) (by decide) (by decide) (by decide) (by decide) ?_
    refine xname (fun σ_57 e_57 => ?_)
    refine x_aload_n dX3_copyFrom_60 rfl ?_
    refine s_getr (ci := 3) (k := 4) (N := 8) (C := RX3) (T := TX3) dX3_copyFrom_61 lfX3_24 inX3 rfl (by decide) (rfl) rfl ?_
    refine x_iconst (v := 0) dX3_copyFrom_64 (by decide) ?_
    refine x_aload_n dX3_copyFrom_65 rfl ?_
    refine s_getr (ci := 3) (k := 4) (N := 8) (C := RX3) (T := TX3) dX3_copyFrom_66 lfX3_24 inX3 rfl (by decide) (rfl) rfl ?_
    refine x_iconst (v := 0) dX3_copyFrom_69 (by decide) ?_
    refine x_bipush (v := 8) dX3_copyFrom_70 (by decide) ?_
    refine s_copy (N := 8) dX3_copyFrom_72 tmX3_37 (rfl) (rfl) (by decide) (by decide) (by decide) (by decide) (by decide) (by decide) ?_
    refine xname (fun σ_72 e_72 => ?_)
    refine x_aload_n dX3_copyFrom_75 rfl ?_
    refine x_aload_n dX3_copyFrom_76 rfl ?_
    refine s_geti (ci := 3) (k := 5) (N := 8) (C := RX3) (T := TX3) dX3_copyFrom_77 lfX3_27 inX3 rfl (by decide) (rfl) rfl ?_
    refine s_puti (ci := 3) (k := 5) (N := 8) (C := RX3) (T := TX3) (ty0 := tyX3) dX3_copyFrom_80 lfX3_27 inX3 tyX3_ok nmX3 rfl (by decide) rfl rfl (rfl) rfl ?_
    refine xname (fun σ_80 e_80 => ?_)
    refine x_aload_n dX3_copyFrom_83 rfl ?_
    refine x_aload_n dX3_copyFrom_84 rfl ?_
    refine s_geti (ci := 3) (k := 6) (N := 8) (C := RX3) (T := TX3) dX3_copyFrom_85 lfX3_31 inX3 rfl (by decide) (rfl) rfl ?_
    refine s_puti (ci := 3) (k := 6) (N := 8) (C := RX3) (T := TX3) (ty0 := tyX3) dX3_copyFrom_88 lfX3_31 inX3 tyX3_ok nmX3 rfl (by decide) rfl rfl (rfl) rfl ?_
    refine xname (fun σ_88 e_88 => ?_)
    refine x_aload_n dX3_copyFrom_91 rfl ?_
    refine x_aload_n dX3_copyFrom_92 rfl ?_
    refine s_geti (ci := 3) (k := 7) (N := 8) (C := RX3) (T := TX3) dX3_copyFrom_93 lfX3_34 inX3 rfl (by decide) (rfl) rfl ?_
    refine s_puti (ci := 3) (k := 7) (N := 8) (C := RX3) (T := TX3) (ty0 := tyX3) dX3_copyFrom_96 lfX3_34 inX3 tyX3_ok nmX3 rfl (by decide) rfl rfl (rfl) rfl ?_
    refine xname (fun σ_96 e_96 => ?_)
    refine s_ret dX3_copyFrom_99 rfl ?_
    refine fin 3 9 _ ⟨?_, ?_, ?_, ?_, ?_⟩ ?_ ?_ ?_ (fun c hc => ?_)
    all_goals first | (simp [e_96, e_88, e_80, e_72, e_57, e_42, e_27, e_12, sw_at, sg_at, sg_rw]; done) | skip
    have hq : ∀ i, 3 ≤ i → i ≤ 8 → c ≠ i := by omega
    simp [e_96, e_88, e_80, e_72, e_57, e_42, e_27, e_12, sw_at, sg_at, sg_rw, hq]
end
section
/-! ===== Plan, Sightings, Moment: contracts, 2 ===== -/
set_option maxRecDepth 100000 in
/-- a street more in the draft -/
theorem k_pladd (σ : Sg) {n : Nat} (hn : σ 9 5 = nI n) (hn8 : n < 8) (kd nd vo wa : Int32) : Cm 0 YX3_add [.ref 9, .int kd, .int nd, .int vo, .int wa] σ (fun v σ' => v = none ∧ σ' 9 5 = nI (n + 1) ∧ σ' 9 6 = σ 9 6 ∧ σ' 9 7 = σ 9 7 ∧ σ' 10 = upd (σ 10) n kd ∧ σ' 11 = upd (σ 11) n nd ∧ σ' 12 = upd (σ 12) n vo ∧ σ' 13 = upd (σ 13) n wa ∧ σ' 14 = upd (σ 14) n (-1) ∧ ∀ c, ¬ (9 ≤ c ∧ c ≤ 14) → σ' c = σ c) := by
  refine Cm_of (by decide +kernel) (Nat.le_of_ble_eq_true rfl) ?_

  refine x_aload_n dX3_add_0 rfl ?_
  refine s_geti (ci := 3) (k := 5) (N := 8) (C := RX3) (T := TX3) dX3_add_1 lfX3_27 inX3 rfl (by decide) (rfl) rfl ?_
  refine x_bipush (v := 8) dX3_add_4 (by decide) ?_
  refine x_icmp_lt (tgt := 10) dX3_add_6 (by decide) (fun c_6 => ?_) (fun c_6 => (absurd (by rw [hn]; exact (show nI n < nI 8 from nI_lt hn8 (by decide))) c_6))
  refine x_aload_n dX3_add_10 rfl ?_
  refine s_getr (ci := 3) (k := 0) (N := 8) (C := RX3) (T := TX3) dX3_add_11 lfX3_9 inX3 rfl (by decide) (rfl) rfl ?_
  refine x_aload_n dX3_add_14 rfl ?_
  refine s_geti (ci := 3) (k := 5) (N := 8) (C := RX3) (T := TX3) dX3_add_15 lfX3_27 inX3 rfl (by decide) (rfl) rfl ?_
  refine x_iload_n dX3_add_18 rfl ?_
  refine s_iast dX3_add_19 (rfl) (hi := hn) (hj := by omega) (hn := by decide) ?_
  refine xname (fun σ_19 e_19 => ?_)
  refine x_aload_n dX3_add_20 rfl ?_
  refine s_getr (ci := 3) (k := 1) (N := 8) (C := RX3) (T := TX3) dX3_add_21 lfX3_15 inX3 rfl (by decide) (rfl) rfl ?_
  refine x_aload_n dX3_add_24 rfl ?_
  refine s_geti (ci := 3) (k := 5) (N := 8) (C := RX3) (T := TX3) dX3_add_25 lfX3_27 inX3 rfl (by decide) (rfl) rfl ?_
  refine x_iload_n dX3_add_28 rfl ?_
  refine s_iast dX3_add_29 (rfl) (hi := by simp [e_19, sg_at]; exact hn) (hj := by omega) (hn := by decide) ?_
  refine xname (fun σ_29 e_29 => ?_)
  refine x_aload_n dX3_add_30 rfl ?_
  refine s_getr (ci := 3) (k := 2) (N := 8) (C := RX3) (T := TX3) dX3_add_31 lfX3_18 inX3 rfl (by decide) (rfl) rfl ?_
  refine x_aload_n dX3_add_34 rfl ?_
  refine s_geti (ci := 3) (k := 5) (N := 8) (C := RX3) (T := TX3) dX3_add_35 lfX3_27 inX3 rfl (by decide) (rfl) rfl ?_
  refine x_iload_n dX3_add_38 rfl ?_
  refine s_iast dX3_add_39 (rfl) (hi := by simp [e_29, e_19, sg_at]; exact hn) (hj := by omega) (hn := by decide) ?_
  refine xname (fun σ_39 e_39 => ?_)
  refine x_aload_n dX3_add_40 rfl ?_
  refine s_getr (ci := 3) (k := 3) (N := 8) (C := RX3) (T := TX3) dX3_add_41 lfX3_21 inX3 rfl (by decide) (rfl) rfl ?_
  refine x_aload_n dX3_add_44 rfl ?_
  refine s_geti (ci := 3) (k := 5) (N := 8) (C := RX3) (T := TX3) dX3_add_45 lfX3_27 inX3 rfl (by decide) (rfl) rfl ?_
  refine x_iload dX3_add_48 rfl ?_
  refine s_iast dX3_add_50 (rfl) (hi := by simp [e_39, e_29, e_19, sg_at]; exact hn) (hj := by omega) (hn := by decide) ?_
  refine xname (fun σ_50 e_50 => ?_)
  refine x_aload_n dX3_add_51 rfl ?_
  refine s_getr (ci := 3) (k := 4) (N := 8) (C := RX3) (T := TX3) dX3_add_52 lfX3_24 inX3 rfl (by decide) (rfl) rfl ?_
  refine x_aload_n dX3_add_55 rfl ?_
  refine s_geti (ci := 3) (k := 5) (N := 8) (C := RX3) (T := TX3) dX3_add_56 lfX3_27 inX3 rfl (by decide) (rfl) rfl ?_
  refine x_iconst (v := -1) dX3_add_59 (by decide) ?_
  refine s_iast dX3_add_60 (rfl) (hi := by simp [e_50, e_39, e_29, e_19, sg_at]; exact hn) (hj := by omega) (hn := by decide) ?_
  refine xname (fun σ_60 e_60 => ?_)
  refine x_aload_n dX3_add_61 rfl ?_
  refine x_dup dX3_add_62 rfl ?_
  refine s_geti (ci := 3) (k := 5) (N := 8) (C := RX3) (T := TX3) dX3_add_63 lfX3_27 inX3 rfl (by decide) (rfl) rfl ?_
  refine x_iconst (v := 1) dX3_add_66 (by decide) ?_
  refine x_iadd dX3_add_67 ?_
  refine s_puti (ci := 3) (k := 5) (N := 8) (C := RX3) (T := TX3) (ty0 := tyX3) dX3_add_68 lfX3_27 inX3 tyX3_ok nmX3 rfl (by decide) rfl rfl (rfl) rfl ?_
  refine xname (fun σ_68 e_68 => ?_)
  refine s_ret dX3_add_71 rfl ?_
  refine ⟨rfl, ?_, ?_, ?_, ?_, ?_, ?_, ?_, ?_, fun c hc => ?_⟩
  all_goals first | (simp [e_68, e_60, e_50, e_39, e_29, e_19, sw_at, sg_at, sg_rw, hn]; done) | (simp [e_68, e_60, e_50, e_39, e_29, e_19, sw_at, sg_at, sg_rw, hn]; exact nI_1 n) | skip
  have hq : ∀ i, 9 ≤ i → i ≤ 14 → c ≠ i := by omega
  simp [e_68, e_60, e_50, e_39, e_29, e_19, sw_at, sg_at, sg_rw, hq]
set_option maxRecDepth 100000 in
theorem k_pltilt (σ : Sg) {n a b : Nat} (hn : σ 9 5 = nI n) (hn8 : n ≤ 8) (ha : a < n) (hb : b < n) : Cm 1 YX3_tilt [.ref 9, .int (nI a), .int (nI b)] σ (fun v σ' => v = none ∧ σ' = sg σ 14 a (nI b)) := by
  refine Cm_of (by decide +kernel) (Nat.le_of_ble_eq_true rfl) ?_
  refine x_aload_n dX3_tilt_0 rfl ?_
  refine x_iload_n dX3_tilt_1 rfl ?_
  refine s_callV dX3_tilt_2 (k_has σ pl_9 hn hn8 (nI a)) rfl w_X3_has lmX3_43 im_X3_has se_X3_has rfl (rfl) rfl (by decide) rfl (by decide) (fun v_2 σ_2 h_2 => ?_)
  obtain ⟨rfl, rfl⟩ := h_2
  refine x_if_eq (tgt := 23) dX3_tilt_5 (by decide) (fun c_5 => (absurd c_5 (by rw [inb_nI ha (by omega)]; decide))) (fun c_5 => ?_)
  refine x_aload_n dX3_tilt_8 rfl ?_
  refine x_iload_n dX3_tilt_9 rfl ?_
  refine s_callV dX3_tilt_10 (k_has _ pl_9 hn hn8 (nI b)) rfl w_X3_has lmX3_43 im_X3_has se_X3_has rfl (rfl) rfl (by decide) rfl (by decide) (fun v_10 σ_10 h_10 => ?_)
  obtain ⟨rfl, rfl⟩ := h_10
  refine x_if_eq (tgt := 23) dX3_tilt_13 (by decide) (fun c_13 => (absurd c_13 (by rw [inb_nI hb (by omega)]; decide))) (fun c_13 => ?_)
  refine x_aload_n dX3_tilt_16 rfl ?_
  refine s_getr (ci := 3) (k := 4) (N := 8) (C := RX3) (T := TX3) dX3_tilt_17 lfX3_24 inX3 rfl (by decide) (rfl) rfl ?_
  refine x_iload_n dX3_tilt_20 rfl ?_
  refine x_iload_n dX3_tilt_21 rfl ?_
  refine s_iast dX3_tilt_22 (rfl) (hi := rfl) (hj := by omega) (hn := by decide) ?_
  exact s_ret dX3_tilt_23 rfl (⟨rfl, rfl⟩)
/-! Sightings -/
set_option maxRecDepth 100000 in
theorem k_siadd (σ : Sg) {q : Nat} (hq : σ 56 2 = nI q) (hq6 : q ≤ 6) (s n : Int32) : Cm 0 YX6_add [.ref 56, .int s, .int n] σ (fun v σ' => (q = 6 ∧ v = some (.int 0) ∧ σ' = σ) ∨ (q < 6 ∧ v = some (.int 1) ∧ σ' 56 2 = nI (q + 1) ∧ σ' 57 = upd (σ 57) q s ∧ σ' 58 = upd (σ 58) q n ∧ ∀ c, ¬ (56 ≤ c ∧ c ≤ 58) → σ' c = σ c)) := by
  refine Cm_of (by decide +kernel) (Nat.le_of_ble_eq_true rfl) ?_
  rcases Nat.lt_or_ge q 6 with h6 | h6
  · skip

    refine x_aload_n dX6_add_0 rfl ?_
    refine s_geti (ci := 6) (k := 2) (N := 3) (C := RX6) (T := TX6) dX6_add_1 lfX6_18 inX6 rfl (by decide) (rfl) rfl ?_
    refine x_bipush (v := 6) dX6_add_4 (by decide) ?_
    refine x_icmp_lt (tgt := 11) dX6_add_6 (by decide) (fun c_6 => ?_) (fun c_6 => (absurd (by rw [hq]; exact (show nI q < nI 6 from nI_lt h6 (by decide))) c_6))
    refine x_aload_n dX6_add_11 rfl ?_
    refine s_getr (ci := 6) (k := 0) (N := 3) (C := RX6) (T := TX6) dX6_add_12 lfX6_9 inX6 rfl (by decide) (rfl) rfl ?_
    refine x_aload_n dX6_add_15 rfl ?_
    refine s_geti (ci := 6) (k := 2) (N := 3) (C := RX6) (T := TX6) dX6_add_16 lfX6_18 inX6 rfl (by decide) (rfl) rfl ?_
    refine x_iload_n dX6_add_19 rfl ?_
    refine s_iast dX6_add_20 (rfl) (hi := hq) (hj := by omega) (hn := by decide) ?_
    refine xname (fun σ_20 e_20 => ?_)
    refine x_aload_n dX6_add_21 rfl ?_
    refine s_getr (ci := 6) (k := 1) (N := 3) (C := RX6) (T := TX6) dX6_add_22 lfX6_15 inX6 rfl (by decide) (rfl) rfl ?_
    refine x_aload_n dX6_add_25 rfl ?_
    refine s_geti (ci := 6) (k := 2) (N := 3) (C := RX6) (T := TX6) dX6_add_26 lfX6_18 inX6 rfl (by decide) (rfl) rfl ?_
    refine x_iload_n dX6_add_29 rfl ?_
    refine s_iast dX6_add_30 (rfl) (hi := by simp [e_20, sg_at]; exact hq) (hj := by omega) (hn := by decide) ?_
    refine xname (fun σ_30 e_30 => ?_)
    refine x_aload_n dX6_add_31 rfl ?_
    refine x_dup dX6_add_32 rfl ?_
    refine s_geti (ci := 6) (k := 2) (N := 3) (C := RX6) (T := TX6) dX6_add_33 lfX6_18 inX6 rfl (by decide) (rfl) rfl ?_
    refine x_iconst (v := 1) dX6_add_36 (by decide) ?_
    refine x_iadd dX6_add_37 ?_
    refine s_puti (ci := 6) (k := 2) (N := 3) (C := RX6) (T := TX6) (ty0 := tyX6) dX6_add_38 lfX6_18 inX6 tyX6_ok nmX6 rfl (by decide) rfl rfl (rfl) rfl ?_
    refine xname (fun σ_38 e_38 => ?_)
    refine x_iconst (v := 1) dX6_add_41 (by decide) ?_
    refine s_zret dX6_add_42 rfl (by first | exact Or.inl rfl | exact Or.inr rfl | assumption) ?_
    refine Or.inr ⟨h6, rfl, ?_, ?_, ?_, fun c hc => ?_⟩
    all_goals first | (simp [e_38, e_30, e_20, sw_at, sg_at, sg_rw, hq]; done) | (simp [e_38, e_30, e_20, sw_at, sg_at, sg_rw, hq]; exact nI_1 q) | skip
    have hw : ∀ i, 56 ≤ i → i ≤ 58 → c ≠ i := by omega
    simp [e_38, e_30, e_20, sw_at, sg_at, sg_rw, hw]
  · obtain rfl : q = 6 := by omega
    refine x_aload_n dX6_add_0 rfl ?_
    refine s_geti (ci := 6) (k := 2) (N := 3) (C := RX6) (T := TX6) dX6_add_1 lfX6_18 inX6 rfl (by decide) (rfl) rfl ?_
    refine x_bipush (v := 6) dX6_add_4 (by decide) ?_
    refine x_icmp_lt (tgt := 11) dX6_add_6 (by decide) (fun c_6 => (absurd c_6 (by rw [hq]; decide))) (fun c_6 => ?_)
    refine x_iconst (v := 0) dX6_add_9 (by decide) ?_
    exact s_zret dX6_add_10 rfl (by first | exact Or.inl rfl | exact Or.inr rfl | assumption) (Or.inl ⟨rfl, rfl, rfl⟩)
def ldF (ti : FN) : Nat → Int32
  | 0 => 0
  | k + 1 => if ldF ti k < ti k then ti k else ldF ti k
set_option maxRecDepth 100000 in
theorem l_lastDay (σ : Sg) {q : Nat} (hq : σ 56 2 = nI q) (hq6 : q ≤ 6) : ∀ (j k : Nat), k + j = q → Ex (YX6_lastDay, 1, xB0, none) 4 [.ref 56, .int (ldF (σ 58) k), .int (nI k)] [] (xMs σ) (xQ (fun v σ' => v = some (.int (ldF (σ 58) q)) ∧ σ' = σ)) := by
  intro j
  induction j with
  | zero =>
    intro k hk
    have hk : k = q := by omega
    subst hk
    refine x_iload_n dX6_lastDay_4 rfl ?_
    refine x_aload_n dX6_lastDay_5 rfl ?_
    refine s_geti (ci := 6) (k := 2) (N := 3) (C := RX6) (T := TX6) dX6_lastDay_6 lfX6_18 inX6 rfl (by decide) (rfl) rfl ?_
    refine x_icmp_ge (tgt := 29) dX6_lastDay_9 (by decide) (fun c_9 => ?_) (fun c_9 => (absurd (by rw [hq]; exact Int32.le_refl _) c_9))
    refine x_iload_n dX6_lastDay_29 rfl ?_
    exact s_iret dX6_lastDay_30 rfl (⟨rfl, rfl⟩)
  | succ j ih =>
    intro k hk
    have hkn : k < q := by omega
    refine x_iload_n dX6_lastDay_4 rfl ?_
    refine x_aload_n dX6_lastDay_5 rfl ?_
    refine s_geti (ci := 6) (k := 2) (N := 3) (C := RX6) (T := TX6) dX6_lastDay_6 lfX6_18 inX6 rfl (by decide) (rfl) rfl ?_
    refine x_icmp_ge (tgt := 29) dX6_lastDay_9 (by decide) (fun c_9 => (absurd c_9 (by rw [hq]; exact nI_ge hkn (by omega)))) (fun c_9 => ?_)
    refine x_iload_n dX6_lastDay_12 rfl ?_
    refine x_aload_n dX6_lastDay_13 rfl ?_
    refine s_getr (ci := 6) (k := 1) (N := 3) (C := RX6) (T := TX6) dX6_lastDay_14 lfX6_15 inX6 rfl (by decide) (rfl) rfl ?_
    refine x_iload_n dX6_lastDay_17 rfl ?_
    refine s_iald dX6_lastDay_18 (rfl) (hi := rfl) (hj := by omega) (hn := by decide) ?_
    refine s_max dX6_lastDay_19 tmX6_22 rfl (by decide) (by decide) ?_
    refine x_istore_n dX6_lastDay_22 (by decide) rfl ?_
    refine s_iinc dX6_lastDay_23 rfl (by decide) rfl ?_
    refine x_goto (tgt := 4) dX6_lastDay_26 (by decide) ?_
    exact ih (k + 1) (by omega)
set_option maxRecDepth 100000 in
theorem k_lastDay (σ : Sg) {q : Nat} (hq : σ 56 2 = nI q) (hq6 : q ≤ 6) : Cm 1 YX6_lastDay [.ref 56] σ (fun v σ' => v = some (.int (ldF (σ 58) q)) ∧ σ' = σ) := by
  refine Cm_of (by decide +kernel) (Nat.le_of_ble_eq_true rfl) ?_
  refine x_iconst (v := 0) dX6_lastDay_0 (by decide) ?_
  refine x_istore_n dX6_lastDay_1 (by decide) rfl ?_
  refine x_iconst (v := 0) dX6_lastDay_2 (by decide) ?_
  refine x_istore_n dX6_lastDay_3 (by decide) rfl ?_
  exact l_lastDay σ hq hq6 q 0 (by omega)
def alF (pl ti : FN) (s n : Int32) : Nat → Bool
  | 0 => true
  | k + 1 => alF pl ti s n k && !(decide (ti k = n) && !decide (pl k = s))
theorem alF_no {pl ti : FN} {s n : Int32} {k : Nat} (h1 : ti k = n) (h2 : ¬ pl k = s) : ∀ q, k < q → alF pl ti s n q = false := by
  intro q
  induction q with
  | zero => intro h; omega
  | succ q ih =>
    intro h
    by_cases e : k = q
    · subst e
      simp [alF, h1, h2]
    · simp [alF, ih (by omega)]
set_option maxRecDepth 100000 in
theorem l_allow (σ : Sg) {q : Nat} (hq : σ 56 2 = nI q) (hq6 : q ≤ 6) (s n : Int32) : ∀ (j k : Nat), k + j = q → alF (σ 57) (σ 58) s n k = true → Ex (YX6_allow, 0, xB0, none) 2 [.ref 56, .int s, .int n, .int (nI k)] [] (xMs σ) (xQ (fun v σ' => v = some (.int (bI (alF (σ 57) (σ 58) s n q))) ∧ σ' = σ)) := by
  intro j
  induction j with
  | zero =>
    intro k hk ha
    have hk : k = q := by omega
    subst hk
    refine x_iload_n dX6_allow_2 rfl ?_
    refine x_aload_n dX6_allow_3 rfl ?_
    refine s_geti (ci := 6) (k := 2) (N := 3) (C := RX6) (T := TX6) dX6_allow_4 lfX6_18 inX6 rfl (by decide) (rfl) rfl ?_
    refine x_icmp_ge (tgt := 38) dX6_allow_7 (by decide) (fun c_7 => ?_) (fun c_7 => (absurd (by rw [hq]; exact Int32.le_refl _) c_7))
    refine x_iconst (v := 1) dX6_allow_38 (by decide) ?_
    exact s_zret dX6_allow_39 rfl (by first | exact Or.inl rfl | exact Or.inr rfl | assumption) (by rw [ha]; exact ⟨rfl, rfl⟩)
  | succ j ih =>
    intro k hk ha
    have hkn : k < q := by omega
    refine x_iload_n dX6_allow_2 rfl ?_
    refine x_aload_n dX6_allow_3 rfl ?_
    refine s_geti (ci := 6) (k := 2) (N := 3) (C := RX6) (T := TX6) dX6_allow_4 lfX6_18 inX6 rfl (by decide) (rfl) rfl ?_
    refine x_icmp_ge (tgt := 38) dX6_allow_7 (by decide) (fun c_7 => (absurd c_7 (by rw [hq]; exact nI_ge hkn (by omega)))) (fun c_7 => ?_)
    refine x_aload_n dX6_allow_10 rfl ?_
    refine s_getr (ci := 6) (k := 1) (N := 3) (C := RX6) (T := TX6) dX6_allow_11 lfX6_15 inX6 rfl (by decide) (rfl) rfl ?_
    refine x_iload_n dX6_allow_14 rfl ?_
    refine s_iald dX6_allow_15 (rfl) (hi := rfl) (hj := by omega) (hn := by decide) ?_
    refine x_iload_n dX6_allow_16 rfl ?_
    refine x_icmp_ne (tgt := 32) dX6_allow_17 (by decide) (fun c_17 => ?_) (fun c_17 => ?_)
    · refine s_iinc dX6_allow_32 rfl (by decide) rfl ?_
      refine x_goto (tgt := 2) dX6_allow_35 (by decide) ?_
      refine ih (k + 1) (by omega) ?_
      first | (simp [alF, ha, c_17]; done) | (simp [alF, ha, c_27]; done)
    · refine x_aload_n dX6_allow_20 rfl ?_
      refine s_getr (ci := 6) (k := 0) (N := 3) (C := RX6) (T := TX6) dX6_allow_21 lfX6_9 inX6 rfl (by decide) (rfl) rfl ?_
      refine x_iload_n dX6_allow_24 rfl ?_
      refine s_iald dX6_allow_25 (rfl) (hi := rfl) (hj := by omega) (hn := by decide) ?_
      refine x_iload_n dX6_allow_26 rfl ?_
      refine x_icmp_eq (tgt := 32) dX6_allow_27 (by decide) (fun c_27 => ?_) (fun c_27 => ?_)
      · refine s_iinc dX6_allow_32 rfl (by decide) rfl ?_
        refine x_goto (tgt := 2) dX6_allow_35 (by decide) ?_
        refine ih (k + 1) (by omega) ?_
        first | (simp [alF, ha, c_17]; done) | (simp [alF, ha, c_27]; done)
      · refine x_iconst (v := 0) dX6_allow_30 (by decide) ?_
        exact s_zret dX6_allow_31 rfl (by first | exact Or.inl rfl | exact Or.inr rfl | assumption) (by rw [alF_no c_17 c_27 q hkn]; exact ⟨rfl, rfl⟩)
set_option maxRecDepth 100000 in
theorem k_allow (σ : Sg) {q : Nat} (hq : σ 56 2 = nI q) (hq6 : q ≤ 6) (s n : Int32) : Cm 0 YX6_allow [.ref 56, .int s, .int n] σ (fun v σ' => v = some (.int (bI (alF (σ 57) (σ 58) s n q))) ∧ σ' = σ) := by
  refine Cm_of (by decide +kernel) (Nat.le_of_ble_eq_true rfl) ?_
  refine x_iconst (v := 0) dX6_allow_0 (by decide) ?_
  refine x_istore_n dX6_allow_1 (by decide) rfl ?_
  exact l_allow σ hq hq6 s n q 0 (by omega) rfl
/-! Moment -/
theorem cpN_same {N : Nat} {f : FN} : cpN N f f = f := by funext k; unfold cpN; split <;> rfl
set_option maxRecDepth 100000 in
theorem k_mobegin (σ : Sg) : Cm 1 YX1_begin [.ref 15, .ref 3] σ (fun v σ' => v = none ∧ (∀ n, n ≤ 8 → moC n σ' 15 = (tr n (σ 7), tr n (σ 6), -1, 0)) ∧ ∀ c, ¬ (15 ≤ c ∧ c ≤ 17) → σ' c = σ c) := by
  refine Cm_of (by decide +kernel) (Nat.le_of_ble_eq_true rfl) ?_

  refine x_aload_n dX1_begin_0 rfl ?_
  refine s_getrN (ci := 3) (k := 3) (N := 8) (C := RX3) (T := TX3) dX1_begin_1 lfX1_25 inX3 rfl (by decide) (rfl) rfl ?_
  refine x_iconst (v := 0) dX1_begin_4 (by decide) ?_
  refine x_aload_n dX1_begin_5 rfl ?_
  refine s_getr (ci := 1) (k := 0) (N := 4) (C := RX1) (T := TX1) dX1_begin_6 lfX1_9 inX1 rfl (by decide) (rfl) rfl ?_
  refine x_iconst (v := 0) dX1_begin_9 (by decide) ?_
  refine x_bipush (v := 8) dX1_begin_10 (by decide) ?_
  refine s_copy (N := 8) dX1_begin_12 tmX1_28 (rfl) (rfl) (by decide) (by decide) (by decide) (by decide) (by decide) (by decide) ?_
  refine xname (fun σ_12 e_12 => ?_)
  refine x_aload_n dX1_begin_15 rfl ?_
  refine s_getrN (ci := 3) (k := 2) (N := 8) (C := RX3) (T := TX3) dX1_begin_16 lfX1_34 inX3 rfl (by decide) (rfl) rfl ?_
  refine x_iconst (v := 0) dX1_begin_19 (by decide) ?_
  refine x_aload_n dX1_begin_20 rfl ?_
  refine s_getr (ci := 1) (k := 1) (N := 4) (C := RX1) (T := TX1) dX1_begin_21 lfX1_15 inX1 rfl (by decide) (rfl) rfl ?_
  refine x_iconst (v := 0) dX1_begin_24 (by decide) ?_
  refine x_bipush (v := 8) dX1_begin_25 (by decide) ?_
  refine s_copy (N := 8) dX1_begin_27 tmX1_28 (rfl) (rfl) (by decide) (by decide) (by decide) (by decide) (by decide) (by decide) ?_
  refine xname (fun σ_27 e_27 => ?_)
  refine x_aload_n dX1_begin_30 rfl ?_
  refine x_iconst (v := -1) dX1_begin_31 (by decide) ?_
  refine s_puti (ci := 1) (k := 2) (N := 4) (C := RX1) (T := TX1) (ty0 := tyX1) dX1_begin_32 lfX1_18 inX1 tyX1_ok nmX1 rfl (by decide) rfl rfl (rfl) rfl ?_
  refine xname (fun σ_32 e_32 => ?_)
  refine x_aload_n dX1_begin_35 rfl ?_
  refine x_iconst (v := 0) dX1_begin_36 (by decide) ?_
  refine s_puti (ci := 1) (k := 3) (N := 4) (C := RX1) (T := TX1) (ty0 := tyX1) dX1_begin_37 lfX1_22 inX1 tyX1_ok nmX1 rfl (by decide) rfl rfl (rfl) rfl ?_
  refine xname (fun σ_37 e_37 => ?_)
  refine s_ret dX1_begin_40 rfl ?_
  refine ⟨rfl, fun n h8 => ?_, fun c hc => ?_⟩
  · simp [moC, e_37, e_32, e_27, e_12, sw_at, sg_at, sg_rw, cpN_tr h8]
  · have hq : ∀ i, 15 ≤ i → i ≤ 17 → c ≠ i := by omega
    simp [e_37, e_32, e_27, e_12, sw_at, sg_at, sg_rw, hq]
set_option maxRecDepth 100000 in
/-- a Moment is made as another one -/
theorem k_mocopy (σ : Sg) {m o : Nat} (hm : xMo m) (ho : xMo o) (hne : m ≠ o) : Cm 1 YX1_copyFrom [.ref m, .ref o] σ (fun v σ' => v = none ∧ (∀ n, n ≤ 8 → moC n σ' m = moC n σ o) ∧ ∀ c, c ≠ m → c ≠ m + 1 → c ≠ m + 2 → σ' c = σ c) := by
  refine Cm_of (by decide +kernel) (Nat.le_of_ble_eq_true rfl) ?_
  have ha := xMo_two hm ho hne
  have q1 : m + 1 ≠ m := by omega
  have q2 : m + 2 ≠ m := by omega
  have q3 : m + 1 ≠ m + 2 := by omega
  have q4 : m + 2 ≠ m + 1 := by omega
  have q5 : m ≠ m + 1 := by omega
  have q6 : m ≠ m + 2 := by omega
  have q7 : o + 1 ≠ m + 1 := by omega
  have q8 : o + 2 ≠ m + 1 := by omega
  have q9 : o + 2 ≠ m + 2 := by omega
  have q10 : o ≠ m + 1 := by omega
  have q11 : o ≠ m + 2 := by omega
  have q12 : o ≠ m := by omega

  refine x_aload_n dX1_copyFrom_0 rfl ?_
  refine s_getr (ci := 1) (k := 0) (N := 4) (C := RX1) (T := TX1) dX1_copyFrom_1 lfX1_9 inX1 rfl (by decide) (ho.1) rfl ?_
  refine x_iconst (v := 0) dX1_copyFrom_4 (by decide) ?_
  refine x_aload_n dX1_copyFrom_5 rfl ?_
  refine s_getr (ci := 1) (k := 0) (N := 4) (C := RX1) (T := TX1) dX1_copyFrom_6 lfX1_9 inX1 rfl (by decide) (hm.1) rfl ?_
  refine x_iconst (v := 0) dX1_copyFrom_9 (by decide) ?_
  refine x_bipush (v := 8) dX1_copyFrom_10 (by decide) ?_
  refine s_copy (N := 8) dX1_copyFrom_12 tmX1_28 (ho.2.1) (hm.2.1) (by decide) (by decide) (by decide) (by decide) (by decide) (by decide) ?_
  refine xname (fun σ_12 e_12 => ?_)
  refine x_aload_n dX1_copyFrom_15 rfl ?_
  refine s_getr (ci := 1) (k := 1) (N := 4) (C := RX1) (T := TX1) dX1_copyFrom_16 lfX1_15 inX1 rfl (by decide) (ho.1) rfl ?_
  refine x_iconst (v := 0) dX1_copyFrom_19 (by decide) ?_
  refine x_aload_n dX1_copyFrom_20 rfl ?_
  refine s_getr (ci := 1) (k := 1) (N := 4) (C := RX1) (T := TX1) dX1_copyFrom_21 lfX1_15 inX1 rfl (by decide) (hm.1) rfl ?_
  refine x_iconst (v := 0) dX1_copyFrom_24 (by decide) ?_
  refine x_bipush (v := 8) dX1_copyFrom_25 (by decide) ?_
  refine s_copy (N := 8) dX1_copyFrom_27 tmX1_28 (ho.2.2.1) (hm.2.2.1) (by decide) (by decide) (by decide) (by decide) (by decide) (by decide) ?_
  refine xname (fun σ_27 e_27 => ?_)
  refine x_aload_n dX1_copyFrom_30 rfl ?_
  refine x_aload_n dX1_copyFrom_31 rfl ?_
  refine s_geti (ci := 1) (k := 2) (N := 4) (C := RX1) (T := TX1) dX1_copyFrom_32 lfX1_18 inX1 rfl (by decide) (ho.1) rfl ?_
  refine s_puti (ci := 1) (k := 2) (N := 4) (C := RX1) (T := TX1) (ty0 := tyX1) dX1_copyFrom_35 lfX1_18 inX1 tyX1_ok nmX1 rfl (by decide) rfl rfl (hm.1) rfl ?_
  refine xname (fun σ_35 e_35 => ?_)
  refine x_aload_n dX1_copyFrom_38 rfl ?_
  refine x_aload_n dX1_copyFrom_39 rfl ?_
  refine s_geti (ci := 1) (k := 3) (N := 4) (C := RX1) (T := TX1) dX1_copyFrom_40 lfX1_22 inX1 rfl (by decide) (ho.1) rfl ?_
  refine s_puti (ci := 1) (k := 3) (N := 4) (C := RX1) (T := TX1) (ty0 := tyX1) dX1_copyFrom_43 lfX1_22 inX1 tyX1_ok nmX1 rfl (by decide) rfl rfl (hm.1) rfl ?_
  refine xname (fun σ_43 e_43 => ?_)
  refine s_ret dX1_copyFrom_46 rfl ?_
  refine ⟨rfl, fun n h8 => ?_, fun c h0 h1 h2 => ?_⟩
  · simp [moC, e_43, e_35, e_27, e_12, sw_at, sg_at, sg_rw, q1, q2, q3, q4, q5, q6, q7, q8, q9, q10, q11, q12, cpN_tr h8]
  · simp [e_43, e_35, e_27, e_12, sw_at, sg_at, sg_rw, q1, q2, q3, q4, q5, q6, q7, q8, q9, q10, q11, q12, h0, h1, h2]
end
section
/-! ===== Moment: what it has, rain, a day ===== -/
set_option maxRecDepth 100000 in
theorem k_isContent (σ : Sg) {n m k : Nat} (hm : xMo m) (hn : σ 3 5 = nI n) (hn8 : n ≤ 8) (hk : k < n) : Cm 1 YX1_isContent [.ref m, .ref 3, .int (nI k)] σ (fun v σ' => v = some (.int (bI (!decide (tr n (σ (m + 1)) k < wantF (tr n (σ 4)) (tr n (σ 5)) k)))) ∧ σ' = σ) := by
  refine Cm_of (by decide +kernel) (Nat.le_of_ble_eq_true rfl) ?_
  have e := tr_i (f := σ (m + 1)) hk
  refine x_aload_n dX1_isContent_0 rfl ?_
  refine x_iload_n dX1_isContent_1 rfl ?_
  refine s_callV dX1_isContent_2 (k_has _ pl_3 hn hn8 (nI k)) rfl w_X3_has lmX1_51 im_X3_has se_X3_has rfl (rfl) rfl (Nat.le_of_ble_eq_true rfl) rfl (by decide) (fun v_2 σ_2 h_2 => ?_)
  obtain ⟨rfl, rfl⟩ := h_2
  refine x_if_eq (tgt := 26) dX1_isContent_5 (by decide) (fun c_5 => (absurd c_5 (by rw [inb_nI hk (by omega)]; decide))) (fun c_5 => ?_)
  refine x_aload_n dX1_isContent_8 rfl ?_
  refine s_getr (ci := 1) (k := 0) (N := 4) (C := RX1) (T := TX1) dX1_isContent_9 lfX1_9 inX1 rfl (by decide) (hm.1) rfl ?_
  refine x_iload_n dX1_isContent_12 rfl ?_
  refine s_iald dX1_isContent_13 (hm.2.1) (hi := rfl) (hj := by omega) (hn := by decide) ?_
  refine x_aload_n dX1_isContent_14 rfl ?_
  refine x_iload_n dX1_isContent_15 rfl ?_
  refine s_callV dX1_isContent_16 (k_wants _ hn hn8 hk) rfl w_X3_wants lmX1_64 im_X3_wants se_X3_wants rfl (rfl) rfl (Nat.le_of_ble_eq_true rfl) rfl (by decide) (fun v_16 σ_16 h_16 => ?_)
  obtain ⟨rfl, rfl⟩ := h_16
  refine x_icmp_lt (tgt := 26) dX1_isContent_19 (by decide) (fun c_19 => ?_) (fun c_19 => ?_)
  · refine x_iconst (v := 0) dX1_isContent_26 (by decide) ?_
    exact s_zret dX1_isContent_27 rfl (by first | exact Or.inl rfl | exact Or.inr rfl | assumption) (by rw [e]; simp [c_19, bI])
  · refine x_iconst (v := 1) dX1_isContent_22 (by decide) ?_
    refine x_goto (tgt := 27) dX1_isContent_23 (by decide) ?_
    exact s_zret dX1_isContent_27 rfl (by first | exact Or.inl rfl | exact Or.inr rfl | assumption) (by rw [e]; simp [c_19, bI])
def saF (w kd nd : FN) (i : Nat) : Bool := !decide (w i < wantF kd nd i)
set_option maxRecDepth 100000 in
theorem l_contentBits (σ : Sg) {n m : Nat} (hm : xMo m) (hn : σ 3 5 = nI n) (hn8 : n ≤ 8) : ∀ (j k : Nat), k + j = n → Ex (YX1_contentBits, 2, xB0, none) 4 [.ref m, .ref 3, .int (nI (stF (saF (tr n (σ (m + 1))) (tr n (σ 4)) (tr n (σ 5))) k)), .int (nI k)] [] (xMs σ) (xQ (fun v σ' => v = some (.int (nI (stF (saF (tr n (σ (m + 1))) (tr n (σ 4)) (tr n (σ 5))) n))) ∧ σ' = σ)) := by
  intro j
  induction j with
  | zero =>
    intro k hk
    have hk : k = n := by omega
    subst hk
    refine x_iload_n dX1_contentBits_4 rfl ?_
    refine x_aload_n dX1_contentBits_5 rfl ?_
    refine s_getiN (ci := 3) (k := 5) (N := 8) (C := RX3) (T := TX3) dX1_contentBits_6 lfX1_39 inX3 rfl (by decide) (rfl) rfl ?_
    refine x_icmp_ge (tgt := 33) dX1_contentBits_9 (by decide) (fun c_9 => ?_) (fun c_9 => (absurd (by rw [hn]; exact Int32.le_refl _) c_9))
    refine x_iload_n dX1_contentBits_33 rfl ?_
    exact s_iret dX1_contentBits_34 rfl (⟨rfl, rfl⟩)
  | succ j ih =>
    intro k hk
    have hkn : k < n := by omega
    have step : ∀ x : Int32, x = nI (stF (saF (tr n (σ (m + 1))) (tr n (σ 4)) (tr n (σ 5))) (k + 1)) → Ex (YX1_contentBits, 2, xB0, none) 4 [.ref m, .ref 3, .int x, .int (nI (k + 1))] [] (xMs σ) (xQ (fun v σ' => v = some (.int (nI (stF (saF (tr n (σ (m + 1))) (tr n (σ 4)) (tr n (σ 5))) n))) ∧ σ' = σ)) := fun x hx => by
      subst hx
      exact ih (k + 1) (by omega)
    refine x_iload_n dX1_contentBits_4 rfl ?_
    refine x_aload_n dX1_contentBits_5 rfl ?_
    refine s_getiN (ci := 3) (k := 5) (N := 8) (C := RX3) (T := TX3) dX1_contentBits_6 lfX1_39 inX3 rfl (by decide) (rfl) rfl ?_
    refine x_icmp_ge (tgt := 33) dX1_contentBits_9 (by decide) (fun c_9 => (absurd c_9 (by rw [hn]; exact nI_ge hkn (by omega)))) (fun c_9 => ?_)
    refine x_aload_n dX1_contentBits_12 rfl ?_
    refine x_aload_n dX1_contentBits_13 rfl ?_
    refine x_iload_n dX1_contentBits_14 rfl ?_
    refine s_callV dX1_contentBits_15 (k_isContent _ hm hn hn8 hkn) rfl w_X1_isContent lmX1_68 im_X1_isContent se_X1_isContent rfl (hm.1) rfl (Nat.le_of_ble_eq_true rfl) rfl (by decide) (fun v_15 σ_15 h_15 => ?_)
    obtain ⟨rfl, rfl⟩ := h_15
    refine x_if_eq (tgt := 27) dX1_contentBits_18 (by decide) (fun c_18 => ?_) (fun c_18 => ?_)
    · refine s_iinc dX1_contentBits_27 rfl (by decide) rfl ?_
      refine x_goto (tgt := 4) dX1_contentBits_30 (by decide) ?_
      first | exact step _ (stF_s (by omega) (bI_n c_18)) | exact step _ (stF_n (fun h => by rw [bI_0] at c_18; exact absurd (h.symm.trans c_18) (by decide)))
    · refine x_iload_n dX1_contentBits_21 rfl ?_
      refine x_iconst (v := 1) dX1_contentBits_22 (by decide) ?_
      refine x_iload_n dX1_contentBits_23 rfl ?_
      refine x_ishl dX1_contentBits_24 ?_
      refine x_ior dX1_contentBits_25 ?_
      refine x_istore_n dX1_contentBits_26 (by decide) rfl ?_
      refine s_iinc dX1_contentBits_27 rfl (by decide) rfl ?_
      refine x_goto (tgt := 4) dX1_contentBits_30 (by decide) ?_
      first | exact step _ (stF_s (by omega) (bI_n c_18)) | exact step _ (stF_n (fun h => by rw [bI_0] at c_18; exact absurd (h.symm.trans c_18) (by decide)))
set_option maxRecDepth 100000 in
theorem k_contentBits (σ : Sg) {n m : Nat} (hm : xMo m) (hn : σ 3 5 = nI n) (hn8 : n ≤ 8) : Cm 2 YX1_contentBits [.ref m, .ref 3] σ (fun v σ' => v = some (.int (nI (stF (saF (tr n (σ (m + 1))) (tr n (σ 4)) (tr n (σ 5))) n))) ∧ σ' = σ) := by
  refine Cm_of (by decide +kernel) (Nat.le_of_ble_eq_true rfl) ?_
  refine x_iconst (v := 0) dX1_contentBits_0 (by decide) ?_
  refine x_istore_n dX1_contentBits_1 (by decide) rfl ?_
  refine x_iconst (v := 0) dX1_contentBits_2 (by decide) ?_
  refine x_istore_n dX1_contentBits_3 (by decide) rfl ?_
  exact l_contentBits σ hm hn hn8 n 0 (by omega)
def smF (w : FN) : Nat → Int32
  | 0 => 0
  | k + 1 => smF w k + w k
theorem smF_congr {w w' : FN} : ∀ n, (∀ k, k < n → w k = w' k) → smF w n = smF w' n := by
  intro n
  induction n with
  | zero => intro _; rfl
  | succ n ih => intro h; unfold smF; rw [ih (fun k hk => h k (by omega)), h n (by omega)]
set_option maxRecDepth 100000 in
theorem l_allWater (σ : Sg) {n : Nat} (hn8 : n ≤ 8) : ∀ (j k : Nat), k + j = n → Ex (YX1_allWater, 0, xB0, none) 4 [.ref 15, .int (nI n), .int (smF (σ 16) k), .int (nI k)] [] (xMs σ) (xQ (fun v σ' => v = some (.int (smF (σ 16) n)) ∧ σ' = σ)) := by
  intro j
  induction j with
  | zero =>
    intro k hk
    have hk : k = n := by omega
    subst hk
    refine x_iload_n dX1_allWater_4 rfl ?_
    refine x_iload_n dX1_allWater_5 rfl ?_
    refine x_icmp_ge (tgt := 30) dX1_allWater_6 (by decide) (fun c_6 => ?_) (fun c_6 => (absurd (Int32.le_refl _) c_6))
    refine x_iload_n dX1_allWater_30 rfl ?_
    exact s_iret dX1_allWater_31 rfl (⟨rfl, rfl⟩)
  | succ j ih =>
    intro k hk
    have hkn : k < n := by omega
    refine x_iload_n dX1_allWater_4 rfl ?_
    refine x_iload_n dX1_allWater_5 rfl ?_
    refine x_icmp_ge (tgt := 30) dX1_allWater_6 (by decide) (fun c_6 => (absurd c_6 (nI_ge hkn (by omega)))) (fun c_6 => ?_)
    refine x_iload_n dX1_allWater_9 rfl ?_
    refine x_bipush (v := 8) dX1_allWater_10 (by decide) ?_
    refine x_icmp_ge (tgt := 30) dX1_allWater_12 (by decide) (fun c_12 => (absurd c_12 (show ¬ nI 8 ≤ nI k from nI_ge (by omega) (by decide)))) (fun c_12 => ?_)
    refine x_iload_n dX1_allWater_15 rfl ?_
    refine x_aload_n dX1_allWater_16 rfl ?_
    refine s_getr (ci := 1) (k := 0) (N := 4) (C := RX1) (T := TX1) dX1_allWater_17 lfX1_9 inX1 rfl (by decide) (rfl) rfl ?_
    refine x_iload_n dX1_allWater_20 rfl ?_
    refine s_iald dX1_allWater_21 (rfl) (hi := rfl) (hj := by omega) (hn := by decide) ?_
    refine x_iadd dX1_allWater_22 ?_
    refine x_istore_n dX1_allWater_23 (by decide) rfl ?_
    refine s_iinc dX1_allWater_24 rfl (by decide) rfl ?_
    refine x_goto (tgt := 4) dX1_allWater_27 (by decide) ?_
    exact ih (k + 1) (by omega)
set_option maxRecDepth 100000 in
theorem k_allWater (σ : Sg) {n : Nat} (hn8 : n ≤ 8) : Cm 0 YX1_allWater [.ref 15, .int (nI n)] σ (fun v σ' => v = some (.int (smF (tr n (σ 16)) n)) ∧ σ' = σ) := by
  refine Cm_of (by decide +kernel) (Nat.le_of_ble_eq_true rfl) ?_
  rw [smF_congr (w := tr n (σ 16)) (w' := σ 16) n (fun k hk => tr_i hk)]
  refine x_iconst (v := 0) dX1_allWater_0 (by decide) ?_
  refine x_istore_n dX1_allWater_1 (by decide) rfl ?_
  refine x_iconst (v := 0) dX1_allWater_2 (by decide) ?_
  refine x_istore_n dX1_allWater_3 (by decide) rfl ?_
  exact l_allWater σ hn8 n 0 (by omega)
/-- rain that runs off: whom it met, the water then -/
def flF (n : Nat) (sl : FN) (cap : Int32) : Nat → Nat → Int32 → Int32 → FN → Nat × FN
  | 0, met, _, _, w => (met, w)
  | f + 1, met, a, x, w => if 0 < x ∧ inb n a = true ∧ met.testBit a.toNatClampNeg = false then
      flF n sl cap f (met ||| 2 ^ a.toNatClampNeg) (sl a.toNatClampNeg) (w a.toNatClampNeg + x - (if cap < w a.toNatClampNeg + x then cap else w a.toNatClampNeg + x)) (upd w a.toNatClampNeg (if cap < w a.toNatClampNeg + x then cap else w a.toNatClampNeg + x))
    else (met, w)
theorem flF_n {n : Nat} {sl : FN} {cap : Int32} {f met : Nat} {a x : Int32} {w : FN} (h : ¬ (0 < x ∧ inb n a = true ∧ met.testBit a.toNatClampNeg = false)) : flF n sl cap f met a x w = (met, w) := by
  cases f with
  | zero => rfl
  | succ f => exact if_neg h
theorem flF_s {n : Nat} {sl : FN} {cap : Int32} {f met a : Nat} {x : Int32} {w : FN} (hn : n ≤ 1000) (h0 : 0 < x) (ha : a < n) (hm : met.testBit a = false) : flF n sl cap (f + 1) met (nI a) x w = flF n sl cap f (met ||| 2 ^ a) (sl a) (w a + x - (if cap < w a + x then cap else w a + x)) (upd w a (if cap < w a + x then cap else w a + x)) := by
  have e : (nI a).toNatClampNeg = a := nI_clamp (by omega)
  rw [flF, e, if_pos ⟨h0, inb_nI ha hn, hm⟩]
theorem flF_lt {n : Nat} {sl : FN} {cap : Int32} (hn8 : n ≤ 8) : ∀ (f met : Nat) (a x : Int32) (w : FN), met < 256 → (flF n sl cap f met a x w).1 < 256 := by
  intro f
  induction f with
  | zero => intro met a x w h; exact h
  | succ f ih =>
    intro met a x w h
    unfold flF
    split
    · rename_i hc
      obtain ⟨k, hk, rfl⟩ := inb_t (by omega) hc.2.1
      refine ih _ _ _ _ ?_
      rw [nI_clamp (by omega)]
      exact Nat.or_lt_two_pow (n := 8) h (Nat.pow_lt_pow_right (by decide) (by omega))
    · exact h
set_option maxRecDepth 100000 in
set_option maxHeartbeats 1000000 in
theorem l_fall {n m : Nat} {s0 : Int32} (hm : xMo m) (hn8 : n ≤ 8) (sl : FN) (cap : Int32) : ∀ (f : Nat) (σ : Sg) (met : Nat) (a x : Int32) (V7 : Value), f ≤ 8 → σ 3 5 = nI n → (tr n (σ 8) = sl ∧ σ 3 6 = cap) → met < 256 →
    Ex (YX1_fall, 1, xB0, none) 14 [.ref m, .ref 3, .int s0, .int (nI met), .int a, .int x, .int (nI (8 - f)), V7] [] (xMs σ) (xQ (fun v σ' => v = some (.int (nI (flF n sl cap f met a x (tr n (σ (m + 1)))).1)) ∧ ∃ W, σ' = sw σ (m + 1) W ∧ tr n W = (flF n sl cap f met a x (tr n (σ (m + 1)))).2)) := by
  intro f
  induction f with
  | zero =>
    intro σ met a x V7 hf hn hp hmet
    refine x_iload dX1_fall_14 rfl ?_
    refine x_bipush (v := 8) dX1_fall_16 (by decide) ?_
    refine x_icmp_ge (tgt := 109) dX1_fall_18 (by decide) (fun c_18 => ?_) (fun c_18 => (absurd (show (8 : Int32) ≤ nI (8 - 0) from by decide) c_18))
    refine x_iload_n dX1_fall_109 rfl ?_
    exact s_iret dX1_fall_110 rfl (⟨rfl, _, (sw_id _ _).symm, rfl⟩)
  | succ f ih =>
    intro σ met a x V7 hf hn hp hmet
    have hge := xMo_ge hm
    have stop : ¬ (0 < x ∧ inb n a = true ∧ met.testBit a.toNatClampNeg = false) → (some (Value.int (nI met)) = some (.int (nI (flF n sl cap (f + 1) met a x (tr n (σ (m + 1)))).1)) ∧ ∃ W, σ = sw σ (m + 1) W ∧ tr n W = (flF n sl cap (f + 1) met a x (tr n (σ (m + 1)))).2) := fun h => by
      rw [flF_n h]
      exact ⟨rfl, _, (sw_id _ _).symm, rfl⟩

    refine x_iload dX1_fall_14 rfl ?_
    refine x_bipush (v := 8) dX1_fall_16 (by decide) ?_
    refine x_icmp_ge (tgt := 109) dX1_fall_18 (by decide) (fun c_18 => (absurd c_18 (show ¬ nI 8 ≤ nI (8 - (f + 1)) from nI_ge (by omega) (by decide)))) (fun c_18 => ?_)
    refine x_iload dX1_fall_21 rfl ?_
    refine x_if_le (tgt := 109) dX1_fall_23 (by decide) (fun c_23 => ?_) (fun c_23 => ?_)
    · refine x_iload_n dX1_fall_109 rfl ?_
      exact s_iret dX1_fall_110 rfl (by first | exact stop (fun h => absurd h.1 (Int32.not_lt.mpr c_23)) | exact stop (fun h => by rw [h.2.1] at c_32; exact absurd c_32 (by decide)) | exact stop (fun h => by rw [nI_clamp (by omega)] at h; rw [h.2.2] at c_41; exact c_41 rfl))
    · refine x_aload_n dX1_fall_26 rfl ?_
      refine x_iload dX1_fall_27 rfl ?_
      refine s_callV dX1_fall_29 (k_has _ pl_3 hn hn8 a) rfl w_X3_has lmX1_51 im_X3_has se_X3_has rfl (rfl) rfl (Nat.le_of_ble_eq_true rfl) rfl (by decide) (fun v_29 σ_29 h_29 => ?_)
      obtain ⟨rfl, z_29⟩ := h_29
      have z_29 := z_29.symm
      subst z_29
      refine x_if_eq (tgt := 109) dX1_fall_32 (by decide) (fun c_32 => ?_) (fun c_32 => ?_)
      · refine x_iload_n dX1_fall_109 rfl ?_
        exact s_iret dX1_fall_110 rfl (by first | exact stop (fun h => absurd h.1 (Int32.not_lt.mpr c_23)) | exact stop (fun h => by rw [h.2.1] at c_32; exact absurd c_32 (by decide)) | exact stop (fun h => by rw [nI_clamp (by omega)] at h; rw [h.2.2] at c_41; exact c_41 rfl))
      · obtain ⟨k, hk, rfl⟩ := inb_t (by omega) (bI_n c_32)
        refine x_iload_n dX1_fall_35 rfl ?_
        refine x_iload dX1_fall_36 rfl ?_
        refine x_ishr dX1_fall_38 ?_
        refine x_iconst (v := 1) dX1_fall_39 (by decide) ?_
        refine x_iand dX1_fall_40 ?_
        refine x_if_eq (tgt := 47) dX1_fall_41 (by decide) (fun c_41 => ?_) (fun c_41 => ?_)
        · rw [bz_bit (by omega) (by omega), bI_0] at c_41
          refine x_iload_n dX1_fall_47 rfl ?_
          refine x_iconst (v := 1) dX1_fall_48 (by decide) ?_
          refine x_iload dX1_fall_49 rfl ?_
          refine x_ishl dX1_fall_51 ?_
          refine x_ior dX1_fall_52 ?_
          rw [bz_shl (by omega), bz_or]
          refine x_istore_n dX1_fall_53 (by decide) rfl ?_
          refine x_aload_n dX1_fall_54 rfl ?_
          refine s_getr (ci := 1) (k := 0) (N := 4) (C := RX1) (T := TX1) dX1_fall_55 lfX1_9 inX1 rfl (by decide) (hm.1) rfl ?_
          refine x_iload dX1_fall_58 rfl ?_
          refine s_iald dX1_fall_60 (hm.2.1) (hi := rfl) (hj := by omega) (hn := by decide) ?_
          refine x_iload dX1_fall_61 rfl ?_
          refine x_iadd dX1_fall_63 ?_
          refine x_istore dX1_fall_64 (by decide) rfl ?_
          refine x_aload_n dX1_fall_66 rfl ?_
          refine s_getr (ci := 1) (k := 0) (N := 4) (C := RX1) (T := TX1) dX1_fall_67 lfX1_9 inX1 rfl (by decide) (hm.1) rfl ?_
          refine x_iload dX1_fall_70 rfl ?_
          refine x_iload dX1_fall_72 rfl ?_
          refine x_aload_n dX1_fall_74 rfl ?_
          refine s_getiN (ci := 3) (k := 6) (N := 8) (C := RX3) (T := TX3) dX1_fall_75 lfX1_55 inX3 rfl (by decide) (rfl) rfl ?_
          refine s_min dX1_fall_78 tmX1_58 rfl (Nat.le_of_ble_eq_true rfl) (by decide) ?_
          refine s_iast dX1_fall_81 (hm.2.1) (hi := rfl) (hj := by omega) (hn := by decide) ?_
          refine xname (fun σ_81 e_81 => ?_)
          refine x_iload dX1_fall_82 rfl ?_
          refine x_aload_n dX1_fall_84 rfl ?_
          refine s_getr (ci := 1) (k := 0) (N := 4) (C := RX1) (T := TX1) dX1_fall_85 lfX1_9 inX1 rfl (by decide) (hm.1) rfl ?_
          refine x_iload dX1_fall_88 rfl ?_
          refine s_iald dX1_fall_90 (hm.2.1) (hi := rfl) (hj := by omega) (hn := by decide) ?_
          refine x_isub dX1_fall_91 ?_
          refine x_istore dX1_fall_92 (by decide) rfl ?_
          refine x_aload_n dX1_fall_94 rfl ?_
          refine s_getrN (ci := 3) (k := 4) (N := 8) (C := RX3) (T := TX3) dX1_fall_95 lfX1_61 inX3 rfl (by decide) (rfl) rfl ?_
          refine x_iload dX1_fall_98 rfl ?_
          refine s_iald dX1_fall_100 (rfl) (hi := rfl) (hj := by omega) (hn := by decide) ?_
          refine x_istore dX1_fall_101 (by decide) rfl ?_
          rw [show 8 - f = 8 - (f + 1) + 1 by omega] at ih
          refine s_iinc dX1_fall_103 rfl (by decide) rfl ?_
          refine x_goto (tgt := 14) dX1_fall_106 (by decide) ?_
          have hw0 : tr n (σ_81 (m + 1)) = upd (tr n (σ (m + 1))) k (if cap < σ (m + 1) k + x then cap else σ (m + 1) k + x) := by rw [e_81, sg_row, tr_upd hk, hp.2]
          have h8 : σ_81 8 k = sl k := by rw [e_81, sg_n _ _ _ (by omega), ← hp.1, tr_i hk]
          have hw1 : σ_81 (m + 1) k = (if cap < σ (m + 1) k + x then cap else σ (m + 1) k + x) := by rw [e_81, sg_s, hp.2]
          have hfl := flF_s (sl := sl) (cap := cap) (f := f) (w := tr n (σ (m + 1))) (by omega) (Int32.not_le.mp c_23) hk c_41
          rw [tr_i hk, ← hw0] at hfl
          rw [hfl, h8, hw1]
          refine Ex.mono (ih σ_81 (met ||| 2 ^ k) (sl k) _ _ (by omega) (by rw [e_81, sg_n _ _ _ (by omega)]; exact hn) ⟨by rw [e_81, sg_n _ _ _ (by omega)]; exact hp.1, by rw [e_81, sg_n _ _ _ (by omega)]; exact hp.2⟩ (Nat.or_lt_two_pow (n := 8) hmet (Nat.pow_lt_pow_right (by decide) (by omega)))) (fun v M h => ?_)
          obtain ⟨σ', rfl, hv, W, hW, ht⟩ := h
          exact ⟨σ', rfl, hv, W, by rw [hW, e_81, sw_sg], ht⟩
        · rw [bz_bit (by omega) (by omega)] at c_41
          refine x_goto (tgt := 109) dX1_fall_44 (by decide) ?_
          refine x_iload_n dX1_fall_109 rfl ?_
          exact s_iret dX1_fall_110 rfl (by first | exact stop (fun h => absurd h.1 (Int32.not_lt.mpr c_23)) | exact stop (fun h => by rw [h.2.1] at c_32; exact absurd c_32 (by decide)) | exact stop (fun h => by rw [nI_clamp (by omega)] at h; rw [h.2.2] at c_41; exact c_41 rfl))
/-- the day's last: one less -/
def deF (x : Int32) : Int32 := if 0 < x - 1 then x - 1 else 0
def flA (p : PL) (s : Int32) (w : FN) : Nat × FN := flF p.1 p.2.2.2.2.2.2.2 p.2.1 8 0 s p.2.2.1 w
set_option maxRecDepth 100000 in
theorem k_fall (σ : Sg) {n m : Nat} (hm : xMo m) (hn : σ 3 5 = nI n) (hn8 : n ≤ 8) (s : Int32) : Cm 1 YX1_fall [.ref m, .ref 3, .int s] σ (fun v σ' => v = some (.int (nI (flA (plC n σ) s (tr n (σ (m + 1)))).1)) ∧ ∃ W, σ' = sw σ (m + 1) W ∧ tr n W = (flA (plC n σ) s (tr n (σ (m + 1)))).2) := by
  refine Cm_of (by decide +kernel) (Nat.le_of_ble_eq_true rfl) ?_
  refine x_iconst (v := 0) dX1_fall_0 (by decide) ?_
  refine x_istore_n dX1_fall_1 (by decide) rfl ?_
  refine x_iload_n dX1_fall_2 rfl ?_
  refine x_istore dX1_fall_3 (by decide) rfl ?_
  refine x_aload_n dX1_fall_5 rfl ?_
  refine s_getiN (ci := 3) (k := 7) (N := 8) (C := RX3) (T := TX3) dX1_fall_6 lfX1_48 inX3 rfl (by decide) (rfl) rfl ?_
  refine x_istore dX1_fall_9 (by decide) rfl ?_
  refine x_iconst (v := 0) dX1_fall_11 (by decide) ?_
  refine x_istore dX1_fall_12 (by decide) rfl ?_
  exact l_fall hm hn8 (tr n (σ 8)) (σ 3 6) 8 σ 0 s (σ 3 7) .null (by omega) hn ⟨rfl, rfl⟩ (by omega)
/-- a day on which it rains on s -/
def psF (p : PL) (o : MO) (s : Int32) : MO := (tr p.1 (fun k => deF ((flA p s o.1).2 k)), o.2.1, s, o.2.2.2 + 1)
set_option maxRecDepth 100000 in
theorem l_pass {n m : Nat} {s0 : Int32} (hm : xMo m) (hn8 : n ≤ 8) (U : FN) (σ0 : Sg) (h0n : σ0 3 5 = nI n) : ∀ (j k : Nat) (W : FN), k + j = n → (∀ i, i < n → W i = if i < k then deF (U i) else U i) →
    Ex (YX1_pass, 2, xB0, none) 9 [.ref m, .ref 3, .int s0, .int (nI k)] [] (xMs (sw σ0 (m + 1) W)) (xQ (fun v σ' => v = none ∧ ∃ W', tr n W' = tr n (fun i => deF (U i)) ∧ σ' = sg (sg (sw σ0 (m + 1) W') m 2 s0) m 3 (σ0 m 3 + 1))) := by
  have hge := xMo_ge hm
  intro j
  induction j with
  | zero =>
    intro k W hk hW
    have hk : k = n := by omega
    subst hk
    have hn : sw σ0 (m + 1) W 3 5 = nI k := by rw [sw_n _ _ (by omega)]; exact h0n
    refine x_iload_n dX1_pass_9 rfl ?_
    refine x_aload_n dX1_pass_10 rfl ?_
    refine s_getiN (ci := 3) (k := 5) (N := 8) (C := RX3) (T := TX3) dX1_pass_11 lfX1_39 inX3 rfl (by decide) (rfl) rfl ?_
    refine x_icmp_ge (tgt := 41) dX1_pass_14 (by decide) (fun c_14 => ?_) (fun c_14 => (absurd (by rw [hn]; exact Int32.le_refl _) c_14))
    refine x_aload_n dX1_pass_41 rfl ?_
    refine x_iload_n dX1_pass_42 rfl ?_
    refine s_puti (ci := 1) (k := 2) (N := 4) (C := RX1) (T := TX1) (ty0 := tyX1) dX1_pass_43 lfX1_18 inX1 tyX1_ok nmX1 rfl (by decide) rfl rfl (hm.1) rfl ?_
    refine xname (fun σ_43 e_43 => ?_)
    refine x_aload_n dX1_pass_46 rfl ?_
    refine x_dup dX1_pass_47 rfl ?_
    refine s_geti (ci := 1) (k := 3) (N := 4) (C := RX1) (T := TX1) dX1_pass_48 lfX1_22 inX1 rfl (by decide) (hm.1) rfl ?_
    refine x_iconst (v := 1) dX1_pass_51 (by decide) ?_
    refine x_iadd dX1_pass_52 ?_
    refine s_puti (ci := 1) (k := 3) (N := 4) (C := RX1) (T := TX1) (ty0 := tyX1) dX1_pass_53 lfX1_22 inX1 tyX1_ok nmX1 rfl (by decide) rfl rfl (hm.1) rfl ?_
    refine xname (fun σ_53 e_53 => ?_)
    refine s_ret dX1_pass_56 rfl ?_
    refine ⟨rfl, W, tr_ext (fun i hi => by rw [hW i hi, if_pos hi]), ?_⟩
    rw [e_53, e_43, sg_k _ _ _ (by decide), sw_n _ _ (by omega)]
  | succ j ih =>
    intro k W hk hW
    have hkn : k < n := by omega
    have hn : sw σ0 (m + 1) W 3 5 = nI n := by rw [sw_n _ _ (by omega)]; exact h0n
    refine x_iload_n dX1_pass_9 rfl ?_
    refine x_aload_n dX1_pass_10 rfl ?_
    refine s_getiN (ci := 3) (k := 5) (N := 8) (C := RX3) (T := TX3) dX1_pass_11 lfX1_39 inX3 rfl (by decide) (rfl) rfl ?_
    refine x_icmp_ge (tgt := 41) dX1_pass_14 (by decide) (fun c_14 => (absurd c_14 (by rw [hn]; exact nI_ge hkn (by omega)))) (fun c_14 => ?_)
    refine x_aload_n dX1_pass_17 rfl ?_
    refine s_getr (ci := 1) (k := 0) (N := 4) (C := RX1) (T := TX1) dX1_pass_18 lfX1_9 inX1 rfl (by decide) (hm.1) rfl ?_
    refine x_iload_n dX1_pass_21 rfl ?_
    refine x_iconst (v := 0) dX1_pass_22 (by decide) ?_
    refine x_aload_n dX1_pass_23 rfl ?_
    refine s_getr (ci := 1) (k := 0) (N := 4) (C := RX1) (T := TX1) dX1_pass_24 lfX1_9 inX1 rfl (by decide) (hm.1) rfl ?_
    refine x_iload_n dX1_pass_27 rfl ?_
    refine s_iald dX1_pass_28 (hm.2.1) (hi := rfl) (hj := by omega) (hn := by decide) ?_
    refine x_iconst (v := 1) dX1_pass_29 (by decide) ?_
    refine x_isub dX1_pass_30 ?_
    refine s_max dX1_pass_31 tmX1_42 rfl (Nat.le_of_ble_eq_true rfl) (by decide) ?_
    refine s_iast dX1_pass_34 (hm.2.1) (hi := rfl) (hj := by omega) (hn := by decide) ?_
    refine s_iinc dX1_pass_35 rfl (by decide) rfl ?_
    refine x_goto (tgt := 9) dX1_pass_38 (by decide) ?_
    rw [sg_def, sw_sw, sw_s]
    refine ih (k + 1) _ (by omega) (fun i hi => ?_)
    unfold upd
    by_cases e : i = k
    · subst e
      rw [if_pos rfl, hW i hi, if_neg (Nat.lt_irrefl i), if_pos (Nat.lt_succ_self i)]
      rfl
    · rw [if_neg e, hW i hi]
      by_cases h : i < k
      · rw [if_pos h, if_pos (by omega)]
      · rw [if_neg h, if_neg (by omega)]
set_option maxRecDepth 100000 in
/-- pass: a day -/
theorem k_pass (σ : Sg) {n m : Nat} (hm : xMo m) (hn : σ 3 5 = nI n) (hn8 : n ≤ 8) (s : Int32) : Cm 2 YX1_pass [.ref m, .ref 3, .int s] σ (fun v σ' => v = none ∧ moC n σ' m = psF (plC n σ) (moC n σ m) s ∧ ∀ c, c ≠ m → c ≠ m + 1 → c ≠ m + 2 → σ' c = σ c) := by
  refine Cm_of (by decide +kernel) (Nat.le_of_ble_eq_true rfl) ?_
  refine x_aload_n dX1_pass_0 rfl ?_
  refine x_aload_n dX1_pass_1 rfl ?_
  refine x_iload_n dX1_pass_2 rfl ?_
  refine s_callV dX1_pass_3 (k_fall σ hm hn hn8 s) rfl w_X1_fall lmX1_35 im_X1_fall se_X1_fall rfl (hm.1) rfl (Nat.le_of_ble_eq_true rfl) rfl (by decide) (fun v_3 σ_3 h_3 => ?_)
  obtain ⟨rfl, W, rfl, hW⟩ := h_3
  refine x_pop dX1_pass_6 rfl ?_
  refine x_iconst (v := 0) dX1_pass_7 (by decide) ?_
  refine x_istore_n dX1_pass_8 (by decide) rfl ?_
  refine Ex.mono (l_pass (s0 := s) hm hn8 W σ hn n 0 W (by omega) (fun i hi => by rw [if_neg (by omega)])) (fun v M h => ?_)
  obtain ⟨σ', rfl, rfl, W', h1, rfl⟩ := h
  refine ⟨_, rfl, rfl, ?_, fun c h0 h1 h2 => by rw [sg_n _ _ _ h0, sg_n _ _ _ h0, sw_n _ _ h1]⟩
  have q1 : m + 1 ≠ m := by omega
  have q2 : m + 2 ≠ m := by omega
  have q3 : m + 2 ≠ m + 1 := by omega
  have q4 : m ≠ m + 1 := by omega
  have h1' : tr n W' = tr n (fun k => deF ((flA (plC n σ) s (tr n (σ (m + 1)))).2 k)) := by
    rw [h1]
    refine tr_ext fun k hk => ?_
    rw [← hW, tr_i hk]
  simp [moC, psF, sg_at, sg_rw, sw_at, q1, q2, q3, q4, upd]
  exact h1'
end
section
/-! ===== Ballot ===== -/
def chF (p : PL) (w : FN) (k : Nat) : Int32 := if p.2.2.2.1 k = 2 then -1 else if p.2.2.2.1 k = 3 then drF w (nI k) p.1 else if saF w p.2.2.2.1 p.2.2.2.2.1 k = true then drF w (-1) p.1 else nI k
theorem drF_inb {w : FN} {but : Int32} {n : Nat} (hn : n ≤ 1000) : drF w but n = -1 ∨ inb n (drF w but n) = true := by
  rcases drF_in w but n with h | ⟨j, h1, h2⟩
  · exact Or.inl h
  · exact Or.inr (by rw [h2]; exact inb_nI h1 hn)
theorem chF_inb {p : PL} {w : FN} {k : Nat} (hn : p.1 ≤ 1000) (hk : k < p.1) : chF p w k = -1 ∨ inb p.1 (chF p w k) = true := by
  unfold chF
  split
  · exact Or.inl rfl
  · split
    · exact drF_inb hn
    · split
      · exact drF_inb hn
      · exact Or.inr (inb_nI hk hn)
set_option maxRecDepth 100000 in
theorem k_choiceOf (σ : Sg) {n m k : Nat} (hm : xMo m) (hn : σ 3 5 = nI n) (hn8 : n ≤ 8) (hk : k < n) : Cm 2 YX0_choiceOf [.ref 3, .ref m, .int (nI k)] σ (fun v σ' => v = some (.int (chF (plC n σ) (tr n (σ (m + 1))) k)) ∧ σ' = σ) := by
  refine Cm_of (by decide +kernel) (Nat.le_of_ble_eq_true rfl) ?_
  have e : (plC n σ).2.2.2.1 k = σ 4 k := tr_i hk
  have key : ∀ x : Int32, x = chF (plC n σ) (tr n (σ (m + 1))) k → some (Value.int x) = some (.int (chF (plC n σ) (tr n (σ (m + 1))) k)) ∧ σ = σ := fun x h => ⟨by rw [h], rfl⟩
  refine x_aload_n dX0_choiceOf_0 rfl ?_
  refine x_iload_n dX0_choiceOf_1 rfl ?_
  refine s_callV dX0_choiceOf_2 (k_has σ pl_3 hn hn8 (nI k)) rfl w_X3_has lmX0_22 im_X3_has se_X3_has rfl (rfl) rfl (Nat.le_of_ble_eq_true rfl) rfl (by decide) (fun v_2 σ_2 h_2 => ?_)
  obtain ⟨rfl, z_2⟩ := h_2
  have z_2 := z_2.symm
  subst z_2
  refine x_if_eq (tgt := 18) dX0_choiceOf_5 (by decide) (fun c_5 => (absurd c_5 (by rw [inb_nI hk (by omega)]; decide))) (fun c_5 => ?_)
  refine x_aload_n dX0_choiceOf_8 rfl ?_
  refine s_getrN (ci := 3) (k := 0) (N := 8) (C := RX3) (T := TX3) dX0_choiceOf_9 lfX0_28 inX3 rfl (by decide) (rfl) rfl ?_
  refine x_iload_n dX0_choiceOf_12 rfl ?_
  refine s_iald dX0_choiceOf_13 (rfl) (hi := rfl) (hj := by omega) (hn := by decide) ?_
  refine x_iconst (v := 2) dX0_choiceOf_14 (by decide) ?_
  refine x_icmp_ne (tgt := 20) dX0_choiceOf_15 (by decide) (fun c_15 => ?_) (fun c_15 => ?_)
  · refine x_aload_n dX0_choiceOf_20 rfl ?_
    refine s_getrN (ci := 3) (k := 0) (N := 8) (C := RX3) (T := TX3) dX0_choiceOf_21 lfX0_28 inX3 rfl (by decide) (rfl) rfl ?_
    refine x_iload_n dX0_choiceOf_24 rfl ?_
    refine s_iald dX0_choiceOf_25 (rfl) (hi := rfl) (hj := by omega) (hn := by decide) ?_
    refine x_iconst (v := 3) dX0_choiceOf_26 (by decide) ?_
    refine x_icmp_ne (tgt := 37) dX0_choiceOf_27 (by decide) (fun c_27 => ?_) (fun c_27 => ?_)
    · refine x_aload_n dX0_choiceOf_37 rfl ?_
      refine x_aload_n dX0_choiceOf_38 rfl ?_
      refine x_iload_n dX0_choiceOf_39 rfl ?_
      refine s_callV dX0_choiceOf_40 (k_isContent σ hm hn hn8 hk) rfl w_X1_isContent lmX0_37 im_X1_isContent se_X1_isContent rfl (hm.1) rfl (Nat.le_of_ble_eq_true rfl) rfl (by decide) (fun v_40 σ_40 h_40 => ?_)
      obtain ⟨rfl, z_40⟩ := h_40
      have z_40 := z_40.symm
      subst z_40
      refine x_if_eq (tgt := 55) dX0_choiceOf_43 (by decide) (fun c_43 => ?_) (fun c_43 => ?_)
      · refine x_iload_n dX0_choiceOf_55 rfl ?_
        exact s_iret dX0_choiceOf_56 rfl (by
            refine key _ ?_
            unfold chF
            rw [e]
            first
              | (rw [if_pos (by assumption)]; done)
              | (rw [if_neg c_15, if_pos c_27]; rfl)
              | (rw [if_neg c_15, if_neg c_27, if_pos (show saF (tr n (σ (m + 1))) (plC n σ).2.2.2.1 (plC n σ).2.2.2.2.1 k = true from bI_n c_43)]; rfl)
              | (rw [if_neg c_15, if_neg c_27, if_neg (show ¬ saF (tr n (σ (m + 1))) (plC n σ).2.2.2.1 (plC n σ).2.2.2.2.1 k = true from fun h => by rw [bI_0] at c_43; exact Bool.noConfusion (h.symm.trans c_43))]))
      · refine x_aload_n dX0_choiceOf_46 rfl ?_
        refine x_aload_n dX0_choiceOf_47 rfl ?_
        refine x_iconst (v := -1) dX0_choiceOf_48 (by decide) ?_
        refine s_callV dX0_choiceOf_49 (k_driest σ _ hm hn hn8) rfl w_X1_driest lmX0_31 im_X1_driest se_X1_driest rfl (hm.1) rfl (Nat.le_of_ble_eq_true rfl) rfl (by decide) (fun v_49 σ_49 h_49 => ?_)
        obtain ⟨rfl, z_49⟩ := h_49
        have z_49 := z_49.symm
        subst z_49
        refine x_goto (tgt := 56) dX0_choiceOf_52 (by decide) ?_
        exact s_iret dX0_choiceOf_56 rfl (by
            refine key _ ?_
            unfold chF
            rw [e]
            first
              | (rw [if_pos (by assumption)]; done)
              | (rw [if_neg c_15, if_pos c_27]; rfl)
              | (rw [if_neg c_15, if_neg c_27, if_pos (show saF (tr n (σ (m + 1))) (plC n σ).2.2.2.1 (plC n σ).2.2.2.2.1 k = true from bI_n c_43)]; rfl)
              | (rw [if_neg c_15, if_neg c_27, if_neg (show ¬ saF (tr n (σ (m + 1))) (plC n σ).2.2.2.1 (plC n σ).2.2.2.2.1 k = true from fun h => by rw [bI_0] at c_43; exact Bool.noConfusion (h.symm.trans c_43))]))
    · refine x_aload_n dX0_choiceOf_30 rfl ?_
      refine x_aload_n dX0_choiceOf_31 rfl ?_
      refine x_iload_n dX0_choiceOf_32 rfl ?_
      refine s_callV dX0_choiceOf_33 (k_driest σ _ hm hn hn8) rfl w_X1_driest lmX0_31 im_X1_driest se_X1_driest rfl (hm.1) rfl (Nat.le_of_ble_eq_true rfl) rfl (by decide) (fun v_33 σ_33 h_33 => ?_)
      obtain ⟨rfl, z_33⟩ := h_33
      have z_33 := z_33.symm
      subst z_33
      exact s_iret dX0_choiceOf_36 rfl (by
          refine key _ ?_
          unfold chF
          rw [e]
          first
            | (rw [if_pos (by assumption)]; done)
            | (rw [if_neg c_15, if_pos c_27]; rfl)
            | (rw [if_neg c_15, if_neg c_27, if_pos (show saF (tr n (σ (m + 1))) (plC n σ).2.2.2.1 (plC n σ).2.2.2.2.1 k = true from bI_n c_43)]; rfl)
            | (rw [if_neg c_15, if_neg c_27, if_neg (show ¬ saF (tr n (σ (m + 1))) (plC n σ).2.2.2.1 (plC n σ).2.2.2.2.1 k = true from fun h => by rw [bI_0] at c_43; exact Bool.noConfusion (h.symm.trans c_43))]))
  · refine x_iconst (v := -1) dX0_choiceOf_18 (by decide) ?_
    exact s_iret dX0_choiceOf_19 rfl (by
        refine key _ ?_
        unfold chF
        rw [e]
        first
          | (rw [if_pos (by assumption)]; done)
          | (rw [if_neg c_15, if_pos c_27]; rfl)
          | (rw [if_neg c_15, if_neg c_27, if_pos (show saF (tr n (σ (m + 1))) (plC n σ).2.2.2.1 (plC n σ).2.2.2.2.1 k = true from bI_n c_43)]; rfl)
          | (rw [if_neg c_15, if_neg c_27, if_neg (show ¬ saF (tr n (σ (m + 1))) (plC n σ).2.2.2.1 (plC n σ).2.2.2.2.1 k = true from fun h => by rw [bI_0] at c_43; exact Bool.noConfusion (h.symm.trans c_43))]))

set_option maxRecDepth 100000 in
theorem l_choose {n m : Nat} (hm : xMo m) (hn8 : n ≤ 8) (σ0 : Sg) (h0n : σ0 3 5 = nI n) : ∀ (j k : Nat) (C : FN), k + j = n → (∀ i, i < k → C i = chF (plC n σ0) (tr n (σ0 (m + 1))) i) →
    Ex (YX0_choose, 3, xB0, none) 10 [.ref 59, .ref 3, .ref m, .int (nI k)] [] (xMs (sw (sg σ0 59 2 (nI n)) 60 C)) (xQ (fun v σ' => v = none ∧ ∃ C', (∀ i, i < n → C' i = chF (plC n σ0) (tr n (σ0 (m + 1))) i) ∧ σ' = sw (sg σ0 59 2 (nI n)) 60 C')) := by
  obtain ⟨q1, q2, q3⟩ := xMo_far (c := 60) hm (by decide)
  obtain ⟨r1, r2, r3⟩ := xMo_far (c := 59) hm (by decide)
  intro j
  induction j with
  | zero =>
    intro k C hk hC
    have hk : k = n := by omega
    subst hk
    have hn : sw (sg σ0 59 2 (nI k)) 60 C 59 2 = nI k := by rw [sw_n _ _ (by decide), sg_s]
    refine x_iload_n dX0_choose_10 rfl ?_
    refine x_aload_n dX0_choose_11 rfl ?_
    refine s_geti (ci := 0) (k := 2) (N := 3) (C := RX0) (T := TX0) dX0_choose_12 lfX0_18 inX0 rfl (by decide) (rfl) rfl ?_
    refine x_icmp_ge (tgt := 36) dX0_choose_15 (by decide) (fun c_15 => ?_) (fun c_15 => (absurd (by rw [hn]; exact Int32.le_refl _) c_15))
    exact s_ret dX0_choose_36 rfl (⟨rfl, C, hC, rfl⟩)
  | succ j ih =>
    intro k C hk hC
    have hkn : k < n := by omega
    have hn : sw (sg σ0 59 2 (nI n)) 60 C 59 2 = nI n := by rw [sw_n _ _ (by decide), sg_s]
    have e1 : plC n (sw (sg σ0 59 2 (nI n)) 60 C) = plC n σ0 := rfl
    have e2 : sw (sg σ0 59 2 (nI n)) 60 C (m + 1) = σ0 (m + 1) := by rw [sw_n _ _ q2.symm, sg_n _ _ _ r2.symm]
    have kc := k_choiceOf (sw (sg σ0 59 2 (nI n)) 60 C) hm (by exact h0n) hn8 hkn
    rw [e1, e2] at kc
    refine x_iload_n dX0_choose_10 rfl ?_
    refine x_aload_n dX0_choose_11 rfl ?_
    refine s_geti (ci := 0) (k := 2) (N := 3) (C := RX0) (T := TX0) dX0_choose_12 lfX0_18 inX0 rfl (by decide) (rfl) rfl ?_
    refine x_icmp_ge (tgt := 36) dX0_choose_15 (by decide) (fun c_15 => (absurd c_15 (by rw [hn]; exact nI_ge hkn (by omega)))) (fun c_15 => ?_)
    refine x_aload_n dX0_choose_18 rfl ?_
    refine s_getr (ci := 0) (k := 0) (N := 3) (C := RX0) (T := TX0) dX0_choose_19 lfX0_9 inX0 rfl (by decide) (rfl) rfl ?_
    refine x_iload_n dX0_choose_22 rfl ?_
    refine x_aload_n dX0_choose_23 rfl ?_
    refine x_aload_n dX0_choose_24 rfl ?_
    refine x_iload_n dX0_choose_25 rfl ?_
    refine s_callS dX0_choose_26 (kc) rfl w_X0_choiceOf lmX0_42 st_X0_choiceOf rfl (Nat.le_of_ble_eq_true rfl) rfl (by decide) (fun v_26 σ_26 h_26 => ?_)
    obtain ⟨rfl, z_26⟩ := h_26
    have z_26 := z_26.symm
    subst z_26
    refine s_iast dX0_choose_29 (rfl) (hi := rfl) (hj := by omega) (hn := by decide) ?_
    refine s_iinc dX0_choose_30 rfl (by decide) rfl ?_
    refine x_goto (tgt := 10) dX0_choose_33 (by decide) ?_
    rw [sg_def _ 60, sw_sw, sw_s]
    refine ih (k + 1) _ (by omega) (fun i hi => ?_)
    unfold upd
    by_cases e : i = k
    · rw [if_pos e, e]
    · rw [if_neg e]
      exact hC i (by omega)
set_option maxRecDepth 100000 in
theorem k_choose (σ : Sg) {n m : Nat} (hm : xMo m) (hn : σ 3 5 = nI n) (hn8 : n ≤ 8) : Cm 3 YX0_choose [.ref 59, .ref 3, .ref m] σ (fun v σ' => v = none ∧ ∃ C', (∀ i, i < n → C' i = chF (plC n σ) (tr n (σ (m + 1))) i) ∧ σ' = sw (sg σ 59 2 (nI n)) 60 C') := by
  refine Cm_of (by decide +kernel) (Nat.le_of_ble_eq_true rfl) ?_
  refine x_aload_n dX0_choose_0 rfl ?_
  refine x_aload_n dX0_choose_1 rfl ?_
  refine s_getiN (ci := 3) (k := 5) (N := 8) (C := RX3) (T := TX3) dX0_choose_2 lfX0_41 inX3 rfl (by decide) (rfl) rfl ?_
  refine s_puti (ci := 0) (k := 2) (N := 3) (C := RX0) (T := TX0) (ty0 := tyX0) dX0_choose_5 lfX0_18 inX0 tyX0_ok nmX0 rfl (by decide) rfl rfl (rfl) rfl ?_
  refine x_iconst (v := 0) dX0_choose_8 (by decide) ?_
  refine x_istore_n dX0_choose_9 (by decide) rfl ?_
  have h := l_choose hm hn8 σ hn n 0 (sg σ 59 2 (nI n) 60) (by omega) (fun i hi => by omega)
  rw [sw_id] at h
  rw [hn]
  exact h
def toF (ch : FN) (turned : Nat) (toward : Int32) (k : Nat) : Int32 := if turned.testBit k = true then toward else ch k
/-- the votes of the first k streets -/
def voF (n : Nat) (ch vo : FN) (r : Int32) (home turned : Nat) (toward : Int32) : Nat → FN
  | 0 => fun _ => 0
  | k + 1 => if home.testBit k = false ∧ ¬ toF ch turned toward k = r ∧ inb n (toF ch turned toward k) = true then upd (voF n ch vo r home turned toward k) (toF ch turned toward k).toNatClampNeg (voF n ch vo r home turned toward k (toF ch turned toward k).toNatClampNeg + vo k) else voF n ch vo r home turned toward k
theorem voF_n {n : Nat} {ch vo : FN} {r : Int32} {home turned : Nat} {toward : Int32} {k : Nat} (h : ¬ (home.testBit k = false ∧ ¬ toF ch turned toward k = r ∧ inb n (toF ch turned toward k) = true)) : voF n ch vo r home turned toward (k + 1) = voF n ch vo r home turned toward k := if_neg h
theorem voF_s {n : Nat} {ch vo : FN} {r : Int32} {home turned : Nat} {toward : Int32} {k j : Nat} (h1 : home.testBit k = false) (h2 : ¬ toF ch turned toward k = r) (h3 : j < n) (hn : n ≤ 1000) (h4 : toF ch turned toward k = nI j) : voF n ch vo r home turned toward (k + 1) = upd (voF n ch vo r home turned toward k) j (voF n ch vo r home turned toward k j + vo k) := by
  have e : (nI j).toNatClampNeg = j := nI_clamp (by omega)
  rw [h4] at h2
  show (if _ then _ else _) = _
  rw [h4, e, if_pos ⟨h1, h2, inb_nI h3 hn⟩]
theorem voF_congr {n : Nat} {ch ch' vo vo' : FN} {r : Int32} {home turned : Nat} {toward : Int32} : ∀ k, (∀ i, i < k → ch i = ch' i ∧ vo i = vo' i) → voF n ch vo r home turned toward k = voF n ch' vo' r home turned toward k := by
  intro k
  induction k with
  | zero => intro _; rfl
  | succ k ih =>
    intro h
    have e := ih (fun i hi => h i (by omega))
    obtain ⟨e1, e2⟩ := h k (by omega)
    have e3 : toF ch turned toward k = toF ch' turned toward k := by unfold toF; rw [e1]
    unfold voF
    rw [e, e2, e3]
def wnF (v : FN) : Nat → Int32 × Int32
  | 0 => (-1, 0)
  | k + 1 => if (wnF v k).2 < v k then (nI k, v k) else if v k = (wnF v k).2 then (-1, (wnF v k).2) else wnF v k
theorem wnF_congr {v v' : FN} : ∀ k, (∀ i, i < k → v i = v' i) → wnF v k = wnF v' k := by
  intro k
  induction k with
  | zero => intro _; rfl
  | succ k ih => intro h; unfold wnF; rw [ih (fun i hi => h i (by omega)), h k (by omega)]
theorem wnF_in (v : FN) : ∀ k, (wnF v k).1 = -1 ∨ ∃ j, j < k ∧ (wnF v k).1 = nI j := by
  intro k
  induction k with
  | zero => exact Or.inl rfl
  | succ k ih =>
    unfold wnF
    split
    · exact Or.inr ⟨k, Nat.lt_succ_self k, rfl⟩
    · split
      · exact Or.inl rfl
      · rcases ih with h | ⟨j, h1, h2⟩
        · exact Or.inl h
        · exact Or.inr ⟨j, by omega, h2⟩
set_option maxRecDepth 100000 in
theorem l_winner (σ : Sg) {n : Nat} (hn : σ 59 2 = nI n) (hn8 : n ≤ 8) : ∀ (j k : Nat), k + j = n → Ex (YX0_winner, 0, xB0, none) 6 [.ref 59, .int (wnF (σ 61) k).1, .int (wnF (σ 61) k).2, .int (nI k)] [] (xMs σ) (xQ (fun v σ' => v = some (.int (wnF (σ 61) n).1) ∧ σ' = σ)) := by
  intro j
  induction j with
  | zero =>
    intro k hk
    have hk : k = n := by omega
    subst hk
    refine x_iload_n dX0_winner_6 rfl ?_
    refine x_aload_n dX0_winner_7 rfl ?_
    refine s_geti (ci := 0) (k := 2) (N := 3) (C := RX0) (T := TX0) dX0_winner_8 lfX0_18 inX0 rfl (by decide) (rfl) rfl ?_
    refine x_icmp_ge (tgt := 54) dX0_winner_11 (by decide) (fun c_11 => ?_) (fun c_11 => (absurd (by rw [hn]; exact Int32.le_refl _) c_11))
    refine x_iload_n dX0_winner_54 rfl ?_
    exact s_iret dX0_winner_55 rfl (⟨rfl, rfl⟩)
  | succ j ih =>
    intro k hk
    have hkn : k < n := by omega
    have step : ∀ x y : Int32, wnF (σ 61) (k + 1) = (x, y) → Ex (YX0_winner, 0, xB0, none) 6 [.ref 59, .int x, .int y, .int (nI (k + 1))] [] (xMs σ) (xQ (fun v σ' => v = some (.int (wnF (σ 61) n).1) ∧ σ' = σ)) := fun x y hx => by
      have h := ih (k + 1) (by omega)
      rw [hx] at h
      exact h
    refine x_iload_n dX0_winner_6 rfl ?_
    refine x_aload_n dX0_winner_7 rfl ?_
    refine s_geti (ci := 0) (k := 2) (N := 3) (C := RX0) (T := TX0) dX0_winner_8 lfX0_18 inX0 rfl (by decide) (rfl) rfl ?_
    refine x_icmp_ge (tgt := 54) dX0_winner_11 (by decide) (fun c_11 => (absurd c_11 (by rw [hn]; exact nI_ge hkn (by omega)))) (fun c_11 => ?_)
    refine x_aload_n dX0_winner_14 rfl ?_
    refine s_getr (ci := 0) (k := 1) (N := 3) (C := RX0) (T := TX0) dX0_winner_15 lfX0_15 inX0 rfl (by decide) (rfl) rfl ?_
    refine x_iload_n dX0_winner_18 rfl ?_
    refine s_iald dX0_winner_19 (rfl) (hi := rfl) (hj := by omega) (hn := by decide) ?_
    refine x_iload_n dX0_winner_20 rfl ?_
    refine x_icmp_le (tgt := 36) dX0_winner_21 (by decide) (fun c_21 => ?_) (fun c_21 => ?_)
    · refine x_aload_n dX0_winner_36 rfl ?_
      refine s_getr (ci := 0) (k := 1) (N := 3) (C := RX0) (T := TX0) dX0_winner_37 lfX0_15 inX0 rfl (by decide) (rfl) rfl ?_
      refine x_iload_n dX0_winner_40 rfl ?_
      refine s_iald dX0_winner_41 (rfl) (hi := rfl) (hj := by omega) (hn := by decide) ?_
      refine x_iload_n dX0_winner_42 rfl ?_
      refine x_icmp_ne (tgt := 48) dX0_winner_43 (by decide) (fun c_43 => ?_) (fun c_43 => ?_)
      · refine s_iinc dX0_winner_48 rfl (by decide) rfl ?_
        refine x_goto (tgt := 6) dX0_winner_51 (by decide) ?_
        first
          | exact step _ _ (if_pos (Int32.not_le.mp c_21))
          | exact step _ _ ((if_neg (Int32.not_lt.mpr c_21)).trans (if_pos c_43))
          | exact step _ _ ((if_neg (Int32.not_lt.mpr c_21)).trans (if_neg c_43))
      · refine x_iconst (v := -1) dX0_winner_46 (by decide) ?_
        refine x_istore_n dX0_winner_47 (by decide) rfl ?_
        refine s_iinc dX0_winner_48 rfl (by decide) rfl ?_
        refine x_goto (tgt := 6) dX0_winner_51 (by decide) ?_
        first
          | exact step _ _ (if_pos (Int32.not_le.mp c_21))
          | exact step _ _ ((if_neg (Int32.not_lt.mpr c_21)).trans (if_pos c_43))
          | exact step _ _ ((if_neg (Int32.not_lt.mpr c_21)).trans (if_neg c_43))
    · refine x_aload_n dX0_winner_24 rfl ?_
      refine s_getr (ci := 0) (k := 1) (N := 3) (C := RX0) (T := TX0) dX0_winner_25 lfX0_15 inX0 rfl (by decide) (rfl) rfl ?_
      refine x_iload_n dX0_winner_28 rfl ?_
      refine s_iald dX0_winner_29 (rfl) (hi := rfl) (hj := by omega) (hn := by decide) ?_
      refine x_istore_n dX0_winner_30 (by decide) rfl ?_
      refine x_iload_n dX0_winner_31 rfl ?_
      refine x_istore_n dX0_winner_32 (by decide) rfl ?_
      refine x_goto (tgt := 48) dX0_winner_33 (by decide) ?_
      refine s_iinc dX0_winner_48 rfl (by decide) rfl ?_
      refine x_goto (tgt := 6) dX0_winner_51 (by decide) ?_
      first
        | exact step _ _ (if_pos (Int32.not_le.mp c_21))
        | exact step _ _ ((if_neg (Int32.not_lt.mpr c_21)).trans (if_pos c_43))
        | exact step _ _ ((if_neg (Int32.not_lt.mpr c_21)).trans (if_neg c_43))
set_option maxRecDepth 100000 in
theorem k_winner (σ : Sg) {n : Nat} (hn : σ 59 2 = nI n) (hn8 : n ≤ 8) : Cm 0 YX0_winner [.ref 59] σ (fun v σ' => v = some (.int (wnF (σ 61) n).1) ∧ σ' = σ) := by
  refine Cm_of (by decide +kernel) (Nat.le_of_ble_eq_true rfl) ?_
  refine x_iconst (v := -1) dX0_winner_0 (by decide) ?_
  refine x_istore_n dX0_winner_1 (by decide) rfl ?_
  refine x_iconst (v := 0) dX0_winner_2 (by decide) ?_
  refine x_istore_n dX0_winner_3 (by decide) rfl ?_
  refine x_iconst (v := 0) dX0_winner_4 (by decide) ?_
  refine x_istore_n dX0_winner_5 (by decide) rfl ?_
  exact l_winner σ hn hn8 n 0 (by omega)

set_option maxRecDepth 100000 in
theorem l_tally1 {n m : Nat} {home turned toward : Int32} {V6 V7 : Value} (hn8 : n ≤ 8) (σ0 : Sg) (h0n : σ0 59 2 = nI n) (P : Option Value → Sg → Prop) (hk : ∀ V : FN, (∀ i, i < n → V i = 0) → Ex (YX0_tallyAll, 0, xB0, none) 29 [.ref 59, .ref m, .int home, .int turned, .int toward, .int (nI 0), V6, V7] [] (xMs (sw σ0 61 V)) (xQ P)) : ∀ (j k : Nat) (V : FN), k + j = n → (∀ i, i < k → V i = 0) →
    Ex (YX0_tallyAll, 0, xB0, none) 3 [.ref 59, .ref m, .int home, .int turned, .int toward, .int (nI k), V6, V7] [] (xMs (sw σ0 61 V)) (xQ P) := by
  intro j
  induction j with
  | zero =>
    intro k V hk0 hV
    have hk1 : k = n := by omega
    subst hk1
    have hn : sw σ0 61 V 59 2 = nI k := by rw [sw_n _ _ (by decide)]; exact h0n
    refine x_iload dX0_tallyAll_3 rfl ?_
    refine x_aload_n dX0_tallyAll_5 rfl ?_
    refine s_geti (ci := 0) (k := 2) (N := 3) (C := RX0) (T := TX0) dX0_tallyAll_6 lfX0_18 inX0 rfl (by decide) (rfl) rfl ?_
    refine x_icmp_ge (tgt := 26) dX0_tallyAll_9 (by decide) (fun c_9 => ?_) (fun c_9 => (absurd (by rw [hn]; exact Int32.le_refl _) c_9))
    refine x_iconst (v := 0) dX0_tallyAll_26 (by decide) ?_
    refine x_istore dX0_tallyAll_27 (by decide) rfl ?_
    exact hk V hV
  | succ j ih =>
    intro k V hk0 hV
    have hkn : k < n := by omega
    have hn : sw σ0 61 V 59 2 = nI n := by rw [sw_n _ _ (by decide)]; exact h0n
    refine x_iload dX0_tallyAll_3 rfl ?_
    refine x_aload_n dX0_tallyAll_5 rfl ?_
    refine s_geti (ci := 0) (k := 2) (N := 3) (C := RX0) (T := TX0) dX0_tallyAll_6 lfX0_18 inX0 rfl (by decide) (rfl) rfl ?_
    refine x_icmp_ge (tgt := 26) dX0_tallyAll_9 (by decide) (fun c_9 => (absurd c_9 (by rw [hn]; exact nI_ge hkn (by omega)))) (fun c_9 => ?_)
    refine x_aload_n dX0_tallyAll_12 rfl ?_
    refine s_getr (ci := 0) (k := 1) (N := 3) (C := RX0) (T := TX0) dX0_tallyAll_13 lfX0_15 inX0 rfl (by decide) (rfl) rfl ?_
    refine x_iload dX0_tallyAll_16 rfl ?_
    refine x_iconst (v := 0) dX0_tallyAll_18 (by decide) ?_
    refine s_iast dX0_tallyAll_19 (rfl) (hi := rfl) (hj := by omega) (hn := by decide) ?_
    refine s_iinc dX0_tallyAll_20 rfl (by decide) rfl ?_
    refine x_goto (tgt := 3) dX0_tallyAll_23 (by decide) ?_
    rw [sg_def _ 61, sw_sw, sw_s]
    refine ih (k + 1) _ (by omega) (fun i hi => ?_)
    unfold upd
    by_cases e : i = k
    · rw [if_pos e]
    · rw [if_neg e]
      exact hV i (by omega)
set_option maxRecDepth 100000 in
set_option maxHeartbeats 1000000 in
theorem l_tally2 {n m home turned : Nat} {toward : Int32} {ch : FN} (hm : xMo m) (hn8 : n ≤ 8) (hho : home < 256) (htu : turned < 256) (σ0 : Sg) (h0n : σ0 59 2 = nI n) (hch : ∀ i, i < n → σ0 60 i = ch i) : ∀ (j k : Nat) (V : FN) (V6 V7 : Value), k + j = n → (∀ i, i < n → V i = voF n ch (tr n (σ0 (m + 2))) (σ0 m 2) home turned toward k i) →
    Ex (YX0_tallyAll, 0, xB0, none) 29 [.ref 59, .ref m, .int (nI home), .int (nI turned), .int toward, .int (nI k), V6, V7] [] (xMs (sw σ0 61 V)) (xQ (fun v σ' => v = none ∧ ∃ V', (∀ i, i < n → V' i = voF n ch (tr n (σ0 (m + 2))) (σ0 m 2) home turned toward n i) ∧ σ' = sw σ0 61 V')) := by
  obtain ⟨q1, q2, q3⟩ := xMo_far (c := 61) hm (by decide)
  intro j
  induction j with
  | zero =>
    intro k V V6 V7 hk hV
    have hk : k = n := by omega
    subst hk
    have hn : sw σ0 61 V 59 2 = nI k := by rw [sw_n _ _ (by decide)]; exact h0n
    refine x_iload dX0_tallyAll_29 rfl ?_
    refine x_aload_n dX0_tallyAll_31 rfl ?_
    refine s_geti (ci := 0) (k := 2) (N := 3) (C := RX0) (T := TX0) dX0_tallyAll_32 lfX0_18 inX0 rfl (by decide) (rfl) rfl ?_
    refine x_icmp_ge (tgt := 128) dX0_tallyAll_35 (by decide) (fun c_35 => ?_) (fun c_35 => (absurd (by rw [hn]; exact Int32.le_refl _) c_35))
    exact s_ret dX0_tallyAll_128 rfl (⟨rfl, V, hV, rfl⟩)
  | succ j ih =>
    intro k V V6 V7 hk hV
    have hkn : k < n := by omega
    have hn : sw σ0 61 V 59 2 = nI n := by rw [sw_n _ _ (by decide)]; exact h0n
    have ech : sw σ0 61 V 60 k = ch k := by rw [sw_n _ _ (by decide)]; exact hch k hkn
    have era : sw σ0 61 V m 2 = σ0 m 2 := by rw [sw_n _ _ q1.symm]
    have evo : sw σ0 61 V (m + 2) k = tr n (σ0 (m + 2)) k := by rw [sw_n _ _ q3.symm, tr_i hkn]
    -- a street's votes are not counted
    have skip : ∀ (V6 V7 : Value), ¬ (home.testBit k = false ∧ ¬ toF ch turned toward k = σ0 m 2 ∧ inb n (toF ch turned toward k) = true) → Ex (YX0_tallyAll, 0, xB0, none) 29 [.ref 59, .ref m, .int (nI home), .int (nI turned), .int toward, .int (nI (k + 1)), V6, V7] [] (xMs (sw σ0 61 V)) (xQ (fun v σ' => v = none ∧ ∃ V', (∀ i, i < n → V' i = voF n ch (tr n (σ0 (m + 2))) (σ0 m 2) home turned toward n i) ∧ σ' = sw σ0 61 V')) := fun V6 V7 h => ih (k + 1) V V6 V7 (by omega) (fun i hi => by rw [voF_n h]; exact hV i hi)
    have take : ∀ (V6 V7 : Value) (a : Nat), home.testBit k = false → ¬ toF ch turned toward k = σ0 m 2 → a < n → toF ch turned toward k = nI a → Ex (YX0_tallyAll, 0, xB0, none) 29 [.ref 59, .ref m, .int (nI home), .int (nI turned), .int toward, .int (nI (k + 1)), V6, V7] [] (xMs (sw σ0 61 (upd V a (V a + tr n (σ0 (m + 2)) k)))) (xQ (fun v σ' => v = none ∧ ∃ V', (∀ i, i < n → V' i = voF n ch (tr n (σ0 (m + 2))) (σ0 m 2) home turned toward n i) ∧ σ' = sw σ0 61 V')) := fun V6 V7 a h1 h2 h3 h4 => ih (k + 1) _ V6 V7 (by omega) (fun i hi => by
      rw [voF_s h1 h2 h3 (by omega) h4]
      unfold upd
      by_cases e : i = a
      · rw [if_pos e, if_pos e, hV a h3]
      · rw [if_neg e, if_neg e, hV i hi])
    have bt := bz_bit (a := turned) (k := k) (by omega) (by omega)
    have bh := bz_bit (a := home) (k := k) (by omega) (by omega)
    have key : ∀ t : Int32, t = toF ch turned toward k → Ex (YX0_tallyAll, 0, xB0, none) 59 [.ref 59, .ref m, .int (nI home), .int (nI turned), .int toward, .int (nI k), V6, V7] [.int t] (xMs (sw σ0 61 V)) (xQ (fun v σ' => v = none ∧ ∃ V', (∀ i, i < n → V' i = voF n ch (tr n (σ0 (m + 2))) (σ0 m 2) home turned toward n i) ∧ σ' = sw σ0 61 V')) := by
      intro t ht
      refine x_istore dX0_tallyAll_59 (by decide) rfl ?_
      refine x_iload_n dX0_tallyAll_61 rfl ?_
      refine x_iload dX0_tallyAll_62 rfl ?_
      refine x_ishr dX0_tallyAll_64 ?_
      refine x_iconst (v := 1) dX0_tallyAll_65 (by decide) ?_
      refine x_iand dX0_tallyAll_66 ?_
      rw [bh]
      refine x_if_ne (tgt := 83) dX0_tallyAll_67 (by decide) (fun c_67 => ?_) (fun c_67 => ?_)
      · refine x_iconst (v := 0) dX0_tallyAll_83 (by decide) ?_
        refine x_istore dX0_tallyAll_84 (by decide) rfl ?_
        refine x_iload dX0_tallyAll_86 rfl ?_
        refine x_if_eq (tgt := 122) dX0_tallyAll_88 (by decide) (fun c_88 => ?_) (fun c_88 => (by first | exact absurd c_88 (by decide) | exact absurd (by decide) c_88))
        skip
        refine s_iinc dX0_tallyAll_122 rfl (by decide) rfl ?_
        refine x_goto (tgt := 29) dX0_tallyAll_125 (by decide) ?_
        first
          | exact skip _ _ (fun h => by rw [bI_0] at c_67; exact absurd h.1 c_67)
          | exact skip _ _ (fun h => h.2.1 (ht.symm.trans c_76))
          | exact skip _ _ (fun h => by rw [← ht, inb_lt c_93] at h; exact Bool.noConfusion h.2.2)
          | exact skip _ _ (fun h => by rw [← ht, inb_ge c_102] at h; exact Bool.noConfusion h.2.2)
          | (rw [sg_def _ 61, sw_sw]; exact take _ _ a (bI_0.mp c_67) (fun h => c_76 (ht.trans h)) ha ht.symm)
      · refine x_iload dX0_tallyAll_70 rfl ?_
        refine x_aload_n dX0_tallyAll_72 rfl ?_
        refine s_getiN (ci := 1) (k := 2) (N := 4) (C := RX1) (T := TX1) dX0_tallyAll_73 lfX0_50 inX1 rfl (by decide) (hm.1) rfl ?_
        rw [era]
        refine x_icmp_eq (tgt := 83) dX0_tallyAll_76 (by decide) (fun c_76 => ?_) (fun c_76 => ?_)
        · refine x_iconst (v := 0) dX0_tallyAll_83 (by decide) ?_
          refine x_istore dX0_tallyAll_84 (by decide) rfl ?_
          refine x_iload dX0_tallyAll_86 rfl ?_
          refine x_if_eq (tgt := 122) dX0_tallyAll_88 (by decide) (fun c_88 => ?_) (fun c_88 => (by first | exact absurd c_88 (by decide) | exact absurd (by decide) c_88))
          skip
          refine s_iinc dX0_tallyAll_122 rfl (by decide) rfl ?_
          refine x_goto (tgt := 29) dX0_tallyAll_125 (by decide) ?_
          first
            | exact skip _ _ (fun h => by rw [bI_0] at c_67; exact absurd h.1 c_67)
            | exact skip _ _ (fun h => h.2.1 (ht.symm.trans c_76))
            | exact skip _ _ (fun h => by rw [← ht, inb_lt c_93] at h; exact Bool.noConfusion h.2.2)
            | exact skip _ _ (fun h => by rw [← ht, inb_ge c_102] at h; exact Bool.noConfusion h.2.2)
            | (rw [sg_def _ 61, sw_sw]; exact take _ _ a (bI_0.mp c_67) (fun h => c_76 (ht.trans h)) ha ht.symm)
        · refine x_iconst (v := 1) dX0_tallyAll_79 (by decide) ?_
          refine x_goto (tgt := 84) dX0_tallyAll_80 (by decide) ?_
          refine x_istore dX0_tallyAll_84 (by decide) rfl ?_
          refine x_iload dX0_tallyAll_86 rfl ?_
          refine x_if_eq (tgt := 122) dX0_tallyAll_88 (by decide) (fun c_88 => (by first | exact absurd c_88 (by decide) | exact absurd (by decide) c_88)) (fun c_88 => ?_)
          refine x_iload dX0_tallyAll_91 rfl ?_
          refine x_if_lt (tgt := 122) dX0_tallyAll_93 (by decide) (fun c_93 => ?_) (fun c_93 => ?_)
          · skip
            refine s_iinc dX0_tallyAll_122 rfl (by decide) rfl ?_
            refine x_goto (tgt := 29) dX0_tallyAll_125 (by decide) ?_
            first
              | exact skip _ _ (fun h => by rw [bI_0] at c_67; exact absurd h.1 c_67)
              | exact skip _ _ (fun h => h.2.1 (ht.symm.trans c_76))
              | exact skip _ _ (fun h => by rw [← ht, inb_lt c_93] at h; exact Bool.noConfusion h.2.2)
              | exact skip _ _ (fun h => by rw [← ht, inb_ge c_102] at h; exact Bool.noConfusion h.2.2)
              | (rw [sg_def _ 61, sw_sw]; exact take _ _ a (bI_0.mp c_67) (fun h => c_76 (ht.trans h)) ha ht.symm)
          · refine x_iload dX0_tallyAll_96 rfl ?_
            refine x_aload_n dX0_tallyAll_98 rfl ?_
            refine s_geti (ci := 0) (k := 2) (N := 3) (C := RX0) (T := TX0) dX0_tallyAll_99 lfX0_18 inX0 rfl (by decide) (rfl) rfl ?_
            rw [hn]
            refine x_icmp_ge (tgt := 122) dX0_tallyAll_102 (by decide) (fun c_102 => ?_) (fun c_102 => ?_)
            · skip
              refine s_iinc dX0_tallyAll_122 rfl (by decide) rfl ?_
              refine x_goto (tgt := 29) dX0_tallyAll_125 (by decide) ?_
              first
                | exact skip _ _ (fun h => by rw [bI_0] at c_67; exact absurd h.1 c_67)
                | exact skip _ _ (fun h => h.2.1 (ht.symm.trans c_76))
                | exact skip _ _ (fun h => by rw [← ht, inb_lt c_93] at h; exact Bool.noConfusion h.2.2)
                | exact skip _ _ (fun h => by rw [← ht, inb_ge c_102] at h; exact Bool.noConfusion h.2.2)
                | (rw [sg_def _ 61, sw_sw]; exact take _ _ a (bI_0.mp c_67) (fun h => c_76 (ht.trans h)) ha ht.symm)
            · obtain ⟨a, ha, rfl⟩ : ∃ a, a < n ∧ t = nI a := inb_t (by omega) (inb_ok c_93 c_102)
              refine x_aload_n dX0_tallyAll_105 rfl ?_
              refine s_getr (ci := 0) (k := 1) (N := 3) (C := RX0) (T := TX0) dX0_tallyAll_106 lfX0_15 inX0 rfl (by decide) (rfl) rfl ?_
              refine x_iload dX0_tallyAll_109 rfl ?_
              refine x_dup2 dX0_tallyAll_111 rfl rfl ?_
              refine s_iald dX0_tallyAll_112 (rfl) (hi := rfl) (hj := by omega) (hn := by decide) ?_
              refine x_aload_n dX0_tallyAll_113 rfl ?_
              refine s_getrN (ci := 1) (k := 1) (N := 4) (C := RX1) (T := TX1) dX0_tallyAll_114 lfX0_53 inX1 rfl (by decide) (hm.1) rfl ?_
              refine x_iload dX0_tallyAll_117 rfl ?_
              refine s_iald dX0_tallyAll_119 (hm.2.2.1) (hi := rfl) (hj := by omega) (hn := by decide) ?_
              rw [evo, sw_s]
              refine x_iadd dX0_tallyAll_120 ?_
              refine s_iast dX0_tallyAll_121 (rfl) (hi := rfl) (hj := by omega) (hn := by decide) ?_
              skip
              refine s_iinc dX0_tallyAll_122 rfl (by decide) rfl ?_
              refine x_goto (tgt := 29) dX0_tallyAll_125 (by decide) ?_
              first
                | exact skip _ _ (fun h => by rw [bI_0] at c_67; exact absurd h.1 c_67)
                | exact skip _ _ (fun h => h.2.1 (ht.symm.trans c_76))
                | exact skip _ _ (fun h => by rw [← ht, inb_lt c_93] at h; exact Bool.noConfusion h.2.2)
                | exact skip _ _ (fun h => by rw [← ht, inb_ge c_102] at h; exact Bool.noConfusion h.2.2)
                | (rw [sg_def _ 61, sw_sw]; exact take _ _ a (bI_0.mp c_67) (fun h => c_76 (ht.trans h)) ha ht.symm)
    refine x_iload dX0_tallyAll_29 rfl ?_
    refine x_aload_n dX0_tallyAll_31 rfl ?_
    refine s_geti (ci := 0) (k := 2) (N := 3) (C := RX0) (T := TX0) dX0_tallyAll_32 lfX0_18 inX0 rfl (by decide) (rfl) rfl ?_
    refine x_icmp_ge (tgt := 128) dX0_tallyAll_35 (by decide) (fun c_35 => (absurd c_35 (by rw [hn]; exact nI_ge hkn (by omega)))) (fun c_35 => ?_)
    refine x_iload_n dX0_tallyAll_38 rfl ?_
    refine x_iload dX0_tallyAll_39 rfl ?_
    refine x_ishr dX0_tallyAll_41 ?_
    refine x_iconst (v := 1) dX0_tallyAll_42 (by decide) ?_
    refine x_iand dX0_tallyAll_43 ?_
    rw [bt]
    refine x_if_eq (tgt := 52) dX0_tallyAll_44 (by decide) (fun c_44 => ?_) (fun c_44 => ?_)
    · refine x_aload_n dX0_tallyAll_52 rfl ?_
      refine s_getr (ci := 0) (k := 0) (N := 3) (C := RX0) (T := TX0) dX0_tallyAll_53 lfX0_9 inX0 rfl (by decide) (rfl) rfl ?_
      refine x_iload dX0_tallyAll_56 rfl ?_
      refine s_iald dX0_tallyAll_58 (rfl) (hi := rfl) (hj := by omega) (hn := by decide) ?_
      first
        | exact key _ (by unfold toF; rw [if_neg (fun h => by rw [bI_0, h] at c_44; exact Bool.noConfusion c_44)]; exact ech)
        | exact key _ (by unfold toF; rw [if_pos (bI_n c_44)])
    · refine x_iload dX0_tallyAll_47 rfl ?_
      refine x_goto (tgt := 59) dX0_tallyAll_49 (by decide) ?_
      first
        | exact key _ (by unfold toF; rw [if_neg (fun h => by rw [bI_0, h] at c_44; exact Bool.noConfusion c_44)]; exact ech)
        | exact key _ (by unfold toF; rw [if_pos (bI_n c_44)])
set_option maxRecDepth 100000 in
theorem k_tallyAll (σ : Sg) {n m home turned : Nat} {toward : Int32} {ch : FN} (hm : xMo m) (hn : σ 59 2 = nI n) (hn8 : n ≤ 8) (hho : home < 256) (htu : turned < 256) (hch : ∀ i, i < n → σ 60 i = ch i) : Cm 0 YX0_tallyAll [.ref 59, .ref m, .int (nI home), .int (nI turned), .int toward] σ (fun v σ' => v = none ∧ ∃ V', (∀ i, i < n → V' i = voF n ch (tr n (σ (m + 2))) (σ m 2) home turned toward n i) ∧ σ' = sw σ 61 V') := by
  refine Cm_of (by decide +kernel) (Nat.le_of_ble_eq_true rfl) ?_
  refine x_iconst (v := 0) dX0_tallyAll_0 (by decide) ?_
  refine x_istore dX0_tallyAll_1 (by decide) rfl ?_
  have h := l_tally1 (V6 := .null) (V7 := .null) (m := m) (home := nI home) (turned := nI turned) (toward := toward) hn8 σ hn _ (fun V hV => l_tally2 (toward := toward) (home := home) (turned := turned) hm hn8 hho htu σ hn hch n 0 V _ _ (by omega) (fun i hi => hV i hi)) n 0 (σ 61) (by omega) (fun i hi => by omega)
  rw [sw_id] at h
  exact h
set_option maxRecDepth 100000 in
theorem k_tally (σ : Sg) {n m home : Nat} {ch : FN} (hm : xMo m) (hn : σ 59 2 = nI n) (hn8 : n ≤ 8) (hho : home < 256) (hch : ∀ i, i < n → σ 60 i = ch i) : Cm 1 YX0_tally [.ref 59, .ref m, .int (nI home)] σ (fun v σ' => v = none ∧ ∃ V', (∀ i, i < n → V' i = voF n ch (tr n (σ (m + 2))) (σ m 2) home 0 (-1) n i) ∧ σ' = sw σ 61 V') := by
  refine Cm_of (by decide +kernel) (Nat.le_of_ble_eq_true rfl) ?_
  refine x_aload_n dX0_tally_0 rfl ?_
  refine x_aload_n dX0_tally_1 rfl ?_
  refine x_iload_n dX0_tally_2 rfl ?_
  refine x_iconst (v := 0) dX0_tally_3 (by decide) ?_
  refine x_iconst (v := -1) dX0_tally_4 (by decide) ?_
  refine s_callV dX0_tally_5 (k_tallyAll (turned := 0) (toward := -1) σ hm hn hn8 hho (by decide) hch) rfl w_X0_tallyAll lmX0_46 im_X0_tallyAll se_X0_tallyAll rfl (rfl) rfl (Nat.le_of_ble_eq_true rfl) rfl (by decide) (fun v_5 σ_5 h_5 => ?_)
  obtain ⟨rfl, V, hV, rfl⟩ := h_5
  exact s_ret dX0_tally_8 rfl (⟨rfl, V, hV, rfl⟩)
set_option maxRecDepth 100000 in
theorem k_tallyTurned (σ : Sg) {n m turned : Nat} {toward : Int32} {ch : FN} (hm : xMo m) (hn : σ 59 2 = nI n) (hn8 : n ≤ 8) (htu : turned < 256) (hch : ∀ i, i < n → σ 60 i = ch i) : Cm 1 YX0_tallyTurned [.ref 59, .ref m, .int (nI turned), .int toward] σ (fun v σ' => v = none ∧ ∃ V', (∀ i, i < n → V' i = voF n ch (tr n (σ (m + 2))) (σ m 2) 0 turned toward n i) ∧ σ' = sw σ 61 V') := by
  refine Cm_of (by decide +kernel) (Nat.le_of_ble_eq_true rfl) ?_
  refine x_aload_n dX0_tallyTurned_0 rfl ?_
  refine x_aload_n dX0_tallyTurned_1 rfl ?_
  refine x_iconst (v := 0) dX0_tallyTurned_2 (by decide) ?_
  refine x_iload_n dX0_tallyTurned_3 rfl ?_
  refine x_iload_n dX0_tallyTurned_4 rfl ?_
  refine s_callV dX0_tallyTurned_5 (k_tallyAll (home := 0) σ hm hn hn8 (by decide) htu hch) rfl w_X0_tallyAll lmX0_46 im_X0_tallyAll se_X0_tallyAll rfl (rfl) rfl (Nat.le_of_ble_eq_true rfl) rfl (by decide) (fun v_5 σ_5 h_5 => ?_)
  obtain ⟨rfl, V, hV, rfl⟩ := h_5
  exact s_ret dX0_tallyTurned_8 rfl (⟨rfl, V, hV, rfl⟩)
/-- by whom it is carried -/
def caF (p : PL) (o : MO) (home turned : Nat) (toward : Int32) : Int32 := (wnF (voF p.1 (chF p o.1) o.2.1 o.2.2.1 home turned toward p.1) p.1).1
theorem caF_in (p : PL) (o : MO) (home turned : Nat) (toward : Int32) : caF p o home turned toward = -1 ∨ ∃ j, j < p.1 ∧ caF p o home turned toward = nI j := wnF_in _ _
/-- the next day -/
def daF (p : PL) (o : MO) : MO := psF p o (caF p o 0 0 (-1))
set_option maxRecDepth 100000 in
theorem k_passDay (σ : Sg) {n m : Nat} (hm : xMo m) (hn : σ 3 5 = nI n) (hn8 : n ≤ 8) : Cm 4 YX8_passDay [.ref 0, .ref m] σ (fun v σ' => v = some (.int (caF (plC n σ) (moC n σ m) 0 0 (-1))) ∧ moC n σ' m = daF (plC n σ) (moC n σ m) ∧ ∀ c, c ≠ m → c ≠ m + 1 → c ≠ m + 2 → c ≠ 59 → c ≠ 60 → c ≠ 61 → σ' c = σ c) := by
  refine Cm_of (by decide +kernel) (Nat.le_of_ble_eq_true rfl) ?_
  obtain ⟨q1, q2, q3⟩ := xMo_far (c := 59) hm (by decide)
  obtain ⟨r1, r2, r3⟩ := xMo_far (c := 60) hm (by decide)
  obtain ⟨s1, s2, s3⟩ := xMo_far (c := 61) hm (by decide)
  refine x_aload_n dX8_passDay_0 rfl ?_
  refine s_getr (ci := 8) (k := 8) (N := 10) (C := RX8) (T := TX8) dX8_passDay_1 lfX8_60 inX8 rfl (by decide) (rfl) rfl ?_
  refine x_aload_n dX8_passDay_4 rfl ?_
  refine s_getr (ci := 8) (k := 1) (N := 10) (C := RX8) (T := TX8) dX8_passDay_5 lfX8_19 inX8 rfl (by decide) (rfl) rfl ?_
  refine x_aload_n dX8_passDay_8 rfl ?_
  refine s_callV dX8_passDay_9 (k_choose σ hm hn hn8) rfl w_X0_choose lmX8_124 im_X0_choose se_X0_choose rfl (rfl) rfl (Nat.le_of_ble_eq_true rfl) rfl (by decide) (fun v_9 σ_9 h_9 => ?_)
  obtain ⟨rfl, C, hC, rfl⟩ := h_9
  refine x_aload_n dX8_passDay_12 rfl ?_
  refine s_getr (ci := 8) (k := 8) (N := 10) (C := RX8) (T := TX8) dX8_passDay_13 lfX8_60 inX8 rfl (by decide) (rfl) rfl ?_
  refine x_aload_n dX8_passDay_16 rfl ?_
  refine x_iconst (v := 0) dX8_passDay_17 (by decide) ?_
  refine s_callV dX8_passDay_18 (k_tally (home := 0) (ch := chF (plC n σ) (tr n (σ (m + 1)))) _ hm (n := n) (by rw [sw_n _ _ (by decide), sg_s]) hn8 (by decide) (fun i hi => by rw [sw_s]; exact hC i hi)) rfl w_X0_tally lmX8_128 im_X0_tally se_X0_tally rfl (rfl) rfl (Nat.le_of_ble_eq_true rfl) rfl (by decide) (fun v_18 σ_18 h_18 => ?_)
  obtain ⟨rfl, V, hV, rfl⟩ := h_18
  refine x_aload_n dX8_passDay_21 rfl ?_
  refine s_getr (ci := 8) (k := 8) (N := 10) (C := RX8) (T := TX8) dX8_passDay_22 lfX8_60 inX8 rfl (by decide) (rfl) rfl ?_
  refine s_callV dX8_passDay_25 (k_winner _ (n := n) (by rw [sw_n _ _ (by decide), sw_n _ _ (by decide), sg_s]) hn8) rfl w_X0_winner lmX8_244 im_X0_winner se_X0_winner rfl (rfl) rfl (Nat.le_of_ble_eq_true rfl) rfl (by decide) (fun v_25 σ_25 h_25 => ?_)
  obtain ⟨rfl, z⟩ := h_25
  have z := z.symm
  subst z
  have ew : (wnF (sw (sw (sg σ 59 2 (nI n)) 60 C) 61 V 61) n).1 = caF (plC n σ) (moC n σ m) 0 0 (-1) := by
    rw [sw_s]
    unfold caF
    rw [wnF_congr n hV]
    rw [sw_n _ _ r3.symm, sg_n _ _ _ q3.symm, sw_n _ _ r1.symm, sg_n _ _ _ q1.symm]
    rfl
  rw [ew]
  refine x_istore_n dX8_passDay_28 (by decide) rfl ?_
  refine x_aload_n dX8_passDay_29 rfl ?_
  refine x_aload_n dX8_passDay_30 rfl ?_
  refine s_getr (ci := 8) (k := 1) (N := 10) (C := RX8) (T := TX8) dX8_passDay_31 lfX8_19 inX8 rfl (by decide) (rfl) rfl ?_
  refine x_iload_n dX8_passDay_34 rfl ?_
  refine s_callV dX8_passDay_35 (k_pass _ hm (n := n) (by exact hn) hn8 _) rfl w_X1_pass lmX8_247 im_X1_pass se_X1_pass rfl (hm.1) rfl (Nat.le_of_ble_eq_true rfl) rfl (by decide) (fun v_35 σ_35 h_35 => ?_)
  obtain ⟨rfl, hmo, hfr⟩ := h_35
  refine x_iload_n dX8_passDay_38 rfl ?_
  refine s_iret dX8_passDay_39 rfl ?_
  refine ⟨rfl, ?_, fun c h0 h1 h2 h3 h4 h5 => by rw [hfr c h0 h1 h2, sw_n _ _ h5, sw_n _ _ h4, sg_n _ _ _ h3]⟩
  rw [hmo]
  have e1 : moC n (sw (sw (sg σ 59 2 (nI n)) 60 C) 61 V) m = moC n σ m := by
    unfold moC
    rw [sw_n _ _ s3.symm, sw_n _ _ s2.symm, sw_n _ _ s1.symm, sw_n _ _ r3.symm, sw_n _ _ r2.symm, sw_n _ _ r1.symm, sg_n _ _ _ q3.symm, sg_n _ _ _ q2.symm, sg_n _ _ _ q1.symm]
  rw [e1]
  rfl
end
section
/-! ===== Past, Shelf, days to come, the count of bits ===== -/
theorem mo_pa {i : Nat} (h : i < 8) : xMo (23 + 3 * i) := xMo_all _ ((show ∀ i, i < 8 → 23 + 3 * i ∈ xMl by decide) i h)
theorem mo_sh {i : Nat} (h : i < 2) : xMo (50 + 3 * i) := xMo_all _ ((show ∀ i, i < 2 → 50 + 3 * i ∈ xMl by decide) i h)
theorem mo_be {i : Nat} (h : i < 5) : xMo (66 + 3 * i) := xMo_all _ ((show ∀ i, i < 5 → 66 + 3 * i ∈ xMl by decide) i h)
theorem pa_at {i : Nat} (h : i < 8) : ([23, 26, 29, 32, 35, 38, 41, 44] : List Nat)[i]? = some (23 + 3 * i) := (show ∀ i, i < 8 → ([23, 26, 29, 32, 35, 38, 41, 44] : List Nat)[i]? = some (23 + 3 * i) by decide) i h
theorem sh_at {i : Nat} (h : i < 2) : ([50, 53] : List Nat)[i]? = some (50 + 3 * i) := (show ∀ i, i < 2 → ([50, 53] : List Nat)[i]? = some (50 + 3 * i) by decide) i h
theorem be_at {i : Nat} (h : i < 5) : ([66, 69, 72, 75, 78] : List Nat)[i]? = some (66 + 3 * i) := (show ∀ i, i < 5 → ([66, 69, 72, 75, 78] : List Nat)[i]? = some (66 + 3 * i) by decide) i h
set_option maxRecDepth 100000 in
theorem k_paclear (σ : Sg) : Cm 0 YX2_clear [.ref 21] σ (fun v σ' => v = none ∧ σ' = sg (sg σ 21 1 0) 21 2 0) := by
  refine Cm_of (by decide +kernel) (Nat.le_of_ble_eq_true rfl) ?_
  refine x_aload_n dX2_clear_0 rfl ?_
  refine x_iconst (v := 0) dX2_clear_1 (by decide) ?_
  refine s_puti (ci := 2) (k := 1) (N := 3) (C := RX2) (T := TX2) (ty0 := tyX2) dX2_clear_2 lfX2_17 inX2 tyX2_ok nmX2 rfl (by decide) rfl rfl (rfl) rfl ?_
  refine x_aload_n dX2_clear_5 rfl ?_
  refine x_iconst (v := 0) dX2_clear_6 (by decide) ?_
  refine s_puti (ci := 2) (k := 2) (N := 3) (C := RX2) (T := TX2) (ty0 := tyX2) dX2_clear_7 lfX2_21 inX2 tyX2_ok nmX2 rfl (by decide) rfl rfl (rfl) rfl ?_
  exact s_ret dX2_clear_10 rfl (⟨rfl, rfl⟩)
theorem nI_m8 {nx : Nat} (h : nx < 8) (q : (8 : Int32) ≤ nI nx + 1) : nx = 7 := by
  have : ∀ nx, nx < 8 → (8 : Int32) ≤ nI nx + 1 → nx = 7 := by decide +kernel
  exact this nx h q
theorem nI_l8 {nx : Nat} (h : nx < 8) (q : ¬ (8 : Int32) ≤ nI nx + 1) : nx < 7 := by
  have : ∀ nx, nx < 8 → ¬ (8 : Int32) ≤ nI nx + 1 → nx < 7 := by decide +kernel
  exact this nx h q
theorem nI_mi {s : Nat} (h : s ≤ 8) : (if (8 : Int32) < nI s + 1 then (8 : Int32) else nI s + 1) = nI (min (s + 1) 8) := by
  have : ∀ s, s < 9 → (if (8 : Int32) < nI s + 1 then (8 : Int32) else nI s + 1) = nI (min (s + 1) 8) := by decide +kernel
  exact this s (by omega)
set_option maxRecDepth 100000 in
theorem k_remember (σ : Sg) {nx sz : Nat} (h1 : σ 21 1 = nI nx) (h2 : nx < 8) (h3 : σ 21 2 = nI sz) (h4 : sz ≤ 8) : Cm 2 YX2_remember [.ref 21, .ref 15] σ (fun v σ' => v = none ∧ σ' 21 1 = nI ((nx + 1) % 8) ∧ σ' 21 2 = nI (min (sz + 1) 8) ∧ (∀ N, N ≤ 8 → moC N σ' (23 + 3 * nx) = moC N σ 15) ∧ ∀ c, c ≠ 21 → c ≠ 23 + 3 * nx → c ≠ 23 + 3 * nx + 1 → c ≠ 23 + 3 * nx + 2 → σ' c = σ c) := by
  refine Cm_of (by decide +kernel) (Nat.le_of_ble_eq_true rfl) ?_

  refine x_aload_n dX2_remember_0 rfl ?_
  refine s_getr (ci := 2) (k := 0) (N := 3) (C := RX2) (T := TX2) dX2_remember_1 lfX2_11 inX2 rfl (by decide) (rfl) rfl ?_
  refine x_aload_n dX2_remember_4 rfl ?_
  refine s_geti (ci := 2) (k := 1) (N := 3) (C := RX2) (T := TX2) dX2_remember_5 lfX2_17 inX2 rfl (by decide) (rfl) rfl ?_
  refine s_aald dX2_remember_8 (rfl) (b := 23 + 3 * nx) (hi := h1) (hj := h2) (hn := by decide) (pa_at h2) ?_
  refine x_aload_n dX2_remember_9 rfl ?_
  refine s_callV dX2_remember_10 (k_mocopy σ (mo_pa h2) mo_15 (by omega)) rfl w_X1_copyFrom lmX2_25 im_X1_copyFrom se_X1_copyFrom rfl ((mo_pa h2).1) rfl (Nat.le_of_ble_eq_true rfl) rfl (by decide) (fun v_10 σ_10 h_10 => ?_)
  obtain ⟨rfl, hmo, hfr⟩ := h_10
  have g1 : σ_10 21 1 = nI nx := by rw [hfr 21 (by omega) (by omega) (by omega)]; exact h1
  have g3 : σ_10 21 2 = nI sz := by rw [hfr 21 (by omega) (by omega) (by omega)]; exact h3
  refine x_aload_n dX2_remember_13 rfl ?_
  refine x_aload_n dX2_remember_14 rfl ?_
  refine s_geti (ci := 2) (k := 1) (N := 3) (C := RX2) (T := TX2) dX2_remember_15 lfX2_17 inX2 rfl (by decide) (rfl) rfl ?_
  refine x_iconst (v := 1) dX2_remember_18 (by decide) ?_
  refine x_iadd dX2_remember_19 ?_
  refine x_bipush (v := 8) dX2_remember_20 (by decide) ?_
  rw [g1]
  refine x_icmp_ge (tgt := 34) dX2_remember_22 (by decide) (fun c_22 => ?_) (fun c_22 => ?_)
  · refine x_iconst (v := 0) dX2_remember_34 (by decide) ?_
    skip
    refine s_puti (ci := 2) (k := 1) (N := 3) (C := RX2) (T := TX2) (ty0 := tyX2) dX2_remember_35 lfX2_17 inX2 tyX2_ok nmX2 rfl (by decide) rfl rfl (rfl) rfl ?_
    refine xname (fun σ_35 e_35 => ?_)
    refine x_aload_n dX2_remember_38 rfl ?_
    refine x_aload_n dX2_remember_39 rfl ?_
    refine s_geti (ci := 2) (k := 2) (N := 3) (C := RX2) (T := TX2) dX2_remember_40 lfX2_21 inX2 rfl (by decide) (rfl) rfl ?_
    refine x_iconst (v := 1) dX2_remember_43 (by decide) ?_
    refine x_iadd dX2_remember_44 ?_
    refine x_bipush (v := 8) dX2_remember_45 (by decide) ?_
    rw [show σ_35 21 2 = nI sz by rw [e_35, sg_k _ _ _ (by decide)]; exact g3]
    refine s_min dX2_remember_47 tmX2_29 rfl (Nat.le_of_ble_eq_true rfl) (by decide) ?_
    refine s_puti (ci := 2) (k := 2) (N := 3) (C := RX2) (T := TX2) (ty0 := tyX2) dX2_remember_50 lfX2_21 inX2 tyX2_ok nmX2 rfl (by decide) rfl rfl (rfl) rfl ?_
    refine xname (fun σ_50 e_50 => ?_)
    refine s_ret dX2_remember_53 rfl ?_
    refine ⟨rfl, ?_, ?_, fun N hN => ?_, fun c q0 q1 q2 q3 => ?_⟩
    · rw [e_50, sg_k _ _ _ (by decide), e_35, sg_s]
      first | (have := nI_m8 h2 c_22; subst this; rfl) | (have := nI_l8 h2 c_22; rw [g1, nI_1, Nat.mod_eq_of_lt (by omega)])
    · rw [e_50, sg_s]
      exact nI_mi h4
    · rw [← hmo N hN]
      unfold moC
      rw [e_50, sg_n _ _ _ (by omega), sg_n _ _ _ (by omega), sg_n _ _ _ (by omega), e_35, sg_n _ _ _ (by omega), sg_n _ _ _ (by omega), sg_n _ _ _ (by omega)]
    · rw [e_50, sg_n _ _ _ q0, e_35, sg_n _ _ _ q0, hfr c q1 q2 q3]
  · refine x_aload_n dX2_remember_25 rfl ?_
    refine s_geti (ci := 2) (k := 1) (N := 3) (C := RX2) (T := TX2) dX2_remember_26 lfX2_17 inX2 rfl (by decide) (rfl) rfl ?_
    refine x_iconst (v := 1) dX2_remember_29 (by decide) ?_
    refine x_iadd dX2_remember_30 ?_
    refine x_goto (tgt := 35) dX2_remember_31 (by decide) ?_
    skip
    refine s_puti (ci := 2) (k := 1) (N := 3) (C := RX2) (T := TX2) (ty0 := tyX2) dX2_remember_35 lfX2_17 inX2 tyX2_ok nmX2 rfl (by decide) rfl rfl (rfl) rfl ?_
    refine xname (fun σ_35 e_35 => ?_)
    refine x_aload_n dX2_remember_38 rfl ?_
    refine x_aload_n dX2_remember_39 rfl ?_
    refine s_geti (ci := 2) (k := 2) (N := 3) (C := RX2) (T := TX2) dX2_remember_40 lfX2_21 inX2 rfl (by decide) (rfl) rfl ?_
    refine x_iconst (v := 1) dX2_remember_43 (by decide) ?_
    refine x_iadd dX2_remember_44 ?_
    refine x_bipush (v := 8) dX2_remember_45 (by decide) ?_
    rw [show σ_35 21 2 = nI sz by rw [e_35, sg_k _ _ _ (by decide)]; exact g3]
    refine s_min dX2_remember_47 tmX2_29 rfl (Nat.le_of_ble_eq_true rfl) (by decide) ?_
    refine s_puti (ci := 2) (k := 2) (N := 3) (C := RX2) (T := TX2) (ty0 := tyX2) dX2_remember_50 lfX2_21 inX2 tyX2_ok nmX2 rfl (by decide) rfl rfl (rfl) rfl ?_
    refine xname (fun σ_50 e_50 => ?_)
    refine s_ret dX2_remember_53 rfl ?_
    refine ⟨rfl, ?_, ?_, fun N hN => ?_, fun c q0 q1 q2 q3 => ?_⟩
    · rw [e_50, sg_k _ _ _ (by decide), e_35, sg_s]
      first | (have := nI_m8 h2 c_22; subst this; rfl) | (have := nI_l8 h2 c_22; rw [g1, nI_1, Nat.mod_eq_of_lt (by omega)])
    · rw [e_50, sg_s]
      exact nI_mi h4
    · rw [← hmo N hN]
      unfold moC
      rw [e_50, sg_n _ _ _ (by omega), sg_n _ _ _ (by omega), sg_n _ _ _ (by omega), e_35, sg_n _ _ _ (by omega), sg_n _ _ _ (by omega), sg_n _ _ _ (by omega)]
    · rw [e_50, sg_n _ _ _ q0, e_35, sg_n _ _ _ q0, hfr c q1 q2 q3]
set_option maxRecDepth 100000 in
theorem k_recall0 (σ : Sg) (h3 : σ 21 2 = nI 0) : Cm 2 YX2_recall [.ref 21, .ref 15] σ (fun v σ' => v = some (.int 0) ∧ σ' = σ) := by
  refine Cm_of (by decide +kernel) (Nat.le_of_ble_eq_true rfl) ?_
  refine x_aload_n dX2_recall_0 rfl ?_
  refine s_geti (ci := 2) (k := 2) (N := 3) (C := RX2) (T := TX2) dX2_recall_1 lfX2_21 inX2 rfl (by decide) (rfl) rfl ?_
  refine x_if_ne (tgt := 9) dX2_recall_4 (by decide) (fun c_4 => (absurd h3 c_4)) (fun c_4 => ?_)
  refine x_iconst (v := 0) dX2_recall_7 (by decide) ?_
  exact s_zret dX2_recall_8 rfl (by first | exact Or.inl rfl | exact Or.inr rfl | assumption) (⟨rfl, rfl⟩)
set_option maxRecDepth 100000 in
theorem k_recall (σ : Sg) {nx sz : Nat} (h1 : σ 21 1 = nI nx) (h2 : nx < 8) (h3 : σ 21 2 = nI (sz + 1)) (h4 : sz < 8) : Cm 2 YX2_recall [.ref 21, .ref 15] σ (fun v σ' => v = some (.int 1) ∧ σ' 21 1 = nI ((nx + 7) % 8) ∧ σ' 21 2 = nI sz ∧ (∀ N, N ≤ 8 → moC N σ' 15 = moC N σ (23 + 3 * ((nx + 7) % 8))) ∧ ∀ c, c ≠ 21 → c ≠ 15 → c ≠ 16 → c ≠ 17 → σ' c = σ c) := by
  refine Cm_of (by decide +kernel) (Nat.le_of_ble_eq_true rfl) ?_
  have hm8 : (nx + 7) % 8 < 8 := Nat.mod_lt _ (by decide)

  refine x_aload_n dX2_recall_0 rfl ?_
  refine s_geti (ci := 2) (k := 2) (N := 3) (C := RX2) (T := TX2) dX2_recall_1 lfX2_21 inX2 rfl (by decide) (rfl) rfl ?_
  refine x_if_ne (tgt := 9) dX2_recall_4 (by decide) (fun c_4 => ?_) (fun c_4 => (absurd (h3.symm.trans c_4) (nI_ne0 (by omega) (by omega))))
  refine x_aload_n dX2_recall_9 rfl ?_
  refine x_aload_n dX2_recall_10 rfl ?_
  refine s_geti (ci := 2) (k := 1) (N := 3) (C := RX2) (T := TX2) dX2_recall_11 lfX2_17 inX2 rfl (by decide) (rfl) rfl ?_
  refine x_if_le (tgt := 26) dX2_recall_14 (by decide) (fun c_14 => ?_) (fun c_14 => ?_)
  · refine x_bipush (v := 7) dX2_recall_26 (by decide) ?_
    refine s_puti (ci := 2) (k := 1) (N := 3) (C := RX2) (T := TX2) (ty0 := tyX2) dX2_recall_28 lfX2_17 inX2 tyX2_ok nmX2 rfl (by decide) rfl rfl (rfl) rfl ?_
    refine xname (fun σ_28 e_28 => ?_)
    refine x_aload_n dX2_recall_31 rfl ?_
    refine x_dup dX2_recall_32 rfl ?_
    refine s_geti (ci := 2) (k := 2) (N := 3) (C := RX2) (T := TX2) dX2_recall_33 lfX2_21 inX2 rfl (by decide) (rfl) rfl ?_
    refine x_iconst (v := 1) dX2_recall_36 (by decide) ?_
    refine x_isub dX2_recall_37 ?_
    refine s_puti (ci := 2) (k := 2) (N := 3) (C := RX2) (T := TX2) (ty0 := tyX2) dX2_recall_38 lfX2_21 inX2 tyX2_ok nmX2 rfl (by decide) rfl rfl (rfl) rfl ?_
    refine xname (fun σ_38 e_38 => ?_)
    have g1 : σ_38 21 1 = nI ((nx + 7) % 8) := by
      rw [e_38, sg_k _ _ _ (by decide), e_28, sg_s]
      first
        | (have : nx = 0 := by
            rw [h1] at c_14
            rcases Nat.eq_zero_or_pos nx with q | q
            · exact q
            · exact absurd c_14 (nI_nle q (by omega))
           subst this; rfl)
        | (have : 0 < nx := by
            rcases Nat.eq_zero_or_pos nx with q | q
            · rw [h1, q] at c_14; exact absurd (by decide) c_14
            · exact q
           rw [h1]
           obtain ⟨y, rfl⟩ : ∃ y, nx = y + 1 := ⟨nx - 1, by omega⟩
           rw [nI_pred, show (y + 1 + 7) % 8 = y by omega])
    refine x_aload_n dX2_recall_41 rfl ?_
    refine x_aload_n dX2_recall_42 rfl ?_
    refine s_getr (ci := 2) (k := 0) (N := 3) (C := RX2) (T := TX2) dX2_recall_43 lfX2_11 inX2 rfl (by decide) (rfl) rfl ?_
    refine x_aload_n dX2_recall_46 rfl ?_
    refine s_geti (ci := 2) (k := 1) (N := 3) (C := RX2) (T := TX2) dX2_recall_47 lfX2_17 inX2 rfl (by decide) (rfl) rfl ?_
    refine s_aald dX2_recall_50 (rfl) (b := 23 + 3 * ((nx + 7) % 8)) (hi := g1) (hj := hm8) (hn := by decide) (pa_at hm8) ?_
    refine s_callV dX2_recall_51 (k_mocopy σ_38 mo_15 (mo_pa hm8) (by omega)) rfl w_X1_copyFrom lmX2_25 im_X1_copyFrom se_X1_copyFrom rfl (mo_15.1) rfl (Nat.le_of_ble_eq_true rfl) rfl (by decide) (fun v_51 σ_51 h_51 => ?_)
    obtain ⟨rfl, hmo, hfr⟩ := h_51
    refine x_iconst (v := 1) dX2_recall_54 (by decide) ?_
    refine s_zret dX2_recall_55 rfl (by first | exact Or.inl rfl | exact Or.inr rfl | assumption) ?_
    refine ⟨rfl, ?_, ?_, fun N hN => ?_, fun c q0 q1 q2 q3 => ?_⟩
    · rw [hfr 21 (by decide) (by decide) (by decide)]; exact g1
    · rw [hfr 21 (by decide) (by decide) (by decide), e_38, sg_s, e_28, sg_k _ _ _ (by decide), h3]; exact nI_pred sz
    · rw [hmo N hN]
      unfold moC
      rw [e_38, sg_n _ _ _ (by omega), sg_n _ _ _ (by omega), sg_n _ _ _ (by omega), e_28, sg_n _ _ _ (by omega), sg_n _ _ _ (by omega), sg_n _ _ _ (by omega)]
    · rw [hfr c q1 q2 q3, e_38, sg_n _ _ _ q0, e_28, sg_n _ _ _ q0]
  · refine x_aload_n dX2_recall_17 rfl ?_
    refine s_geti (ci := 2) (k := 1) (N := 3) (C := RX2) (T := TX2) dX2_recall_18 lfX2_17 inX2 rfl (by decide) (rfl) rfl ?_
    refine x_iconst (v := 1) dX2_recall_21 (by decide) ?_
    refine x_isub dX2_recall_22 ?_
    refine x_goto (tgt := 28) dX2_recall_23 (by decide) ?_
    refine s_puti (ci := 2) (k := 1) (N := 3) (C := RX2) (T := TX2) (ty0 := tyX2) dX2_recall_28 lfX2_17 inX2 tyX2_ok nmX2 rfl (by decide) rfl rfl (rfl) rfl ?_
    refine xname (fun σ_28 e_28 => ?_)
    refine x_aload_n dX2_recall_31 rfl ?_
    refine x_dup dX2_recall_32 rfl ?_
    refine s_geti (ci := 2) (k := 2) (N := 3) (C := RX2) (T := TX2) dX2_recall_33 lfX2_21 inX2 rfl (by decide) (rfl) rfl ?_
    refine x_iconst (v := 1) dX2_recall_36 (by decide) ?_
    refine x_isub dX2_recall_37 ?_
    refine s_puti (ci := 2) (k := 2) (N := 3) (C := RX2) (T := TX2) (ty0 := tyX2) dX2_recall_38 lfX2_21 inX2 tyX2_ok nmX2 rfl (by decide) rfl rfl (rfl) rfl ?_
    refine xname (fun σ_38 e_38 => ?_)
    have g1 : σ_38 21 1 = nI ((nx + 7) % 8) := by
      rw [e_38, sg_k _ _ _ (by decide), e_28, sg_s]
      first
        | (have : nx = 0 := by
            rw [h1] at c_14
            rcases Nat.eq_zero_or_pos nx with q | q
            · exact q
            · exact absurd c_14 (nI_nle q (by omega))
           subst this; rfl)
        | (have : 0 < nx := by
            rcases Nat.eq_zero_or_pos nx with q | q
            · rw [h1, q] at c_14; exact absurd (by decide) c_14
            · exact q
           rw [h1]
           obtain ⟨y, rfl⟩ : ∃ y, nx = y + 1 := ⟨nx - 1, by omega⟩
           rw [nI_pred, show (y + 1 + 7) % 8 = y by omega])
    refine x_aload_n dX2_recall_41 rfl ?_
    refine x_aload_n dX2_recall_42 rfl ?_
    refine s_getr (ci := 2) (k := 0) (N := 3) (C := RX2) (T := TX2) dX2_recall_43 lfX2_11 inX2 rfl (by decide) (rfl) rfl ?_
    refine x_aload_n dX2_recall_46 rfl ?_
    refine s_geti (ci := 2) (k := 1) (N := 3) (C := RX2) (T := TX2) dX2_recall_47 lfX2_17 inX2 rfl (by decide) (rfl) rfl ?_
    refine s_aald dX2_recall_50 (rfl) (b := 23 + 3 * ((nx + 7) % 8)) (hi := g1) (hj := hm8) (hn := by decide) (pa_at hm8) ?_
    refine s_callV dX2_recall_51 (k_mocopy σ_38 mo_15 (mo_pa hm8) (by omega)) rfl w_X1_copyFrom lmX2_25 im_X1_copyFrom se_X1_copyFrom rfl (mo_15.1) rfl (Nat.le_of_ble_eq_true rfl) rfl (by decide) (fun v_51 σ_51 h_51 => ?_)
    obtain ⟨rfl, hmo, hfr⟩ := h_51
    refine x_iconst (v := 1) dX2_recall_54 (by decide) ?_
    refine s_zret dX2_recall_55 rfl (by first | exact Or.inl rfl | exact Or.inr rfl | assumption) ?_
    refine ⟨rfl, ?_, ?_, fun N hN => ?_, fun c q0 q1 q2 q3 => ?_⟩
    · rw [hfr 21 (by decide) (by decide) (by decide)]; exact g1
    · rw [hfr 21 (by decide) (by decide) (by decide), e_38, sg_s, e_28, sg_k _ _ _ (by decide), h3]; exact nI_pred sz
    · rw [hmo N hN]
      unfold moC
      rw [e_38, sg_n _ _ _ (by omega), sg_n _ _ _ (by omega), sg_n _ _ _ (by omega), e_28, sg_n _ _ _ (by omega), sg_n _ _ _ (by omega), sg_n _ _ _ (by omega)]
    · rw [hfr c q1 q2 q3, e_38, sg_n _ _ _ q0, e_28, sg_n _ _ _ q0]

set_option maxRecDepth 100000 in
theorem l_shclear (σ : Sg) : Cm 0 YX5_clear [.ref 47] σ (fun v σ' => v = none ∧ (∀ k, k < 2 → σ' 49 k = 0) ∧ ∀ c, c ≠ 49 → σ' c = σ c) := by
  have go : ∀ (j k : Nat) (τ : Sg), k + j = 2 → (∀ i, i < k → τ 49 i = 0) → (∀ c, c ≠ 49 → τ c = σ c) → Ex (YX5_clear, 0, xB0, none) 2 [.ref 47, .int (nI k)] [] (xMs τ) (xQ (fun v σ' => v = none ∧ (∀ k, k < 2 → σ' 49 k = 0) ∧ ∀ c, c ≠ 49 → σ' c = σ c)) := by
    intro j
    induction j with
    | zero =>
      intro k τ hk h1 h2
      have hk : k = 2 := by omega
      subst hk
      refine x_iload_n dX5_clear_2 rfl ?_
      refine x_iconst (v := 2) dX5_clear_3 (by decide) ?_
      refine x_icmp_ge (tgt := 20) dX5_clear_4 (by decide) (fun c_4 => ?_) (fun c_4 => (absurd (by decide) c_4))
      exact s_ret dX5_clear_20 rfl (⟨rfl, h1, h2⟩)
    | succ j ih =>
      intro k τ hk h1 h2
      have hk2 : k < 2 := by omega
      refine x_iload_n dX5_clear_2 rfl ?_
      refine x_iconst (v := 2) dX5_clear_3 (by decide) ?_
      refine x_icmp_ge (tgt := 20) dX5_clear_4 (by decide) (fun c_4 => (absurd c_4 (show ¬ nI 2 ≤ nI k from nI_ge hk2 (by decide)))) (fun c_4 => ?_)
      refine x_aload_n dX5_clear_7 rfl ?_
      refine s_getr (ci := 5) (k := 1) (N := 2) (C := RX5) (T := TX5) dX5_clear_8 lfX5_17 inX5 rfl (by decide) (rfl) rfl ?_
      refine x_iload_n dX5_clear_11 rfl ?_
      refine x_iconst (v := 0) dX5_clear_12 (by decide) ?_
      refine s_zast dX5_clear_13 (rfl) (hi := rfl) (hj := by omega) (hn := by decide) ?_
      refine s_iinc dX5_clear_14 rfl (by decide) rfl ?_
      refine x_goto (tgt := 2) dX5_clear_17 (by decide) ?_
      refine ih (k + 1) _ (by omega) (fun i hi => ?_) (fun c hc => by rw [sg_n _ _ _ hc]; exact h2 c hc)
      by_cases e : i = k
      · rw [e, sg_s]; rfl
      · rw [sg_k _ _ _ e]; exact h1 i (by omega)
  refine Cm_of (by decide +kernel) (Nat.le_of_ble_eq_true rfl) ?_
  refine x_iconst (v := 0) dX5_clear_0 (by decide) ?_
  refine x_istore_n dX5_clear_1 (by decide) rfl ?_
  exact go 2 0 σ rfl (fun i hi => by omega) (fun c _ => rfl)
set_option maxRecDepth 100000 in
theorem k_isShelf (σ : Sg) (k : Int32) : Cm 0 YX8_isShelf [.int k] σ (fun v σ' => v = some (.int (bI (inb 2 k))) ∧ σ' = σ) := by
  refine Cm_of (by decide +kernel) (Nat.le_of_ble_eq_true rfl) ?_
  have key : ∀ (x : Int32) (b : Bool), b = inb 2 k → x = bI b → some (Value.int x) = some (.int (bI (inb 2 k))) ∧ σ = σ := fun x b h h2 => ⟨by rw [h2, h], rfl⟩
  refine x_iload_n dX8_isShelf_0 rfl ?_
  refine x_if_lt (tgt := 13) dX8_isShelf_1 (by decide) (fun c_1 => ?_) (fun c_1 => ?_)
  · refine x_iconst (v := 0) dX8_isShelf_13 (by decide) ?_
    exact s_zret dX8_isShelf_14 rfl (by first | exact Or.inl rfl | exact Or.inr rfl | assumption) (by first | exact key _ true (inb_ok c_1 c_6).symm rfl | exact key _ false (inb_lt c_1).symm rfl | exact key _ false (inb_ge c_6).symm rfl)
  · refine x_iload_n dX8_isShelf_4 rfl ?_
    refine x_iconst (v := 2) dX8_isShelf_5 (by decide) ?_
    refine x_icmp_ge (tgt := 13) dX8_isShelf_6 (by decide) (fun c_6 => ?_) (fun c_6 => ?_)
    · refine x_iconst (v := 0) dX8_isShelf_13 (by decide) ?_
      exact s_zret dX8_isShelf_14 rfl (by first | exact Or.inl rfl | exact Or.inr rfl | assumption) (by first | exact key _ true (inb_ok c_1 c_6).symm rfl | exact key _ false (inb_lt c_1).symm rfl | exact key _ false (inb_ge c_6).symm rfl)
    · refine x_iconst (v := 1) dX8_isShelf_9 (by decide) ?_
      refine x_goto (tgt := 14) dX8_isShelf_10 (by decide) ?_
      exact s_zret dX8_isShelf_14 rfl (by first | exact Or.inl rfl | exact Or.inr rfl | assumption) (by first | exact key _ true (inb_ok c_1 c_6).symm rfl | exact key _ false (inb_lt c_1).symm rfl | exact key _ false (inb_ge c_6).symm rfl)
set_option maxRecDepth 100000 in
theorem k_shput (σ : Sg) {k : Nat} (hk : k < 2) : Cm 2 YX5_put [.ref 47, .int (nI k), .ref 15] σ (fun v σ' => v = none ∧ σ' 49 = upd (σ 49) k 1 ∧ (∀ N, N ≤ 8 → moC N σ' (50 + 3 * k) = moC N σ 15) ∧ ∀ c, c ≠ 49 → c ≠ 50 + 3 * k → c ≠ 50 + 3 * k + 1 → c ≠ 50 + 3 * k + 2 → σ' c = σ c) := by
  refine Cm_of (by decide +kernel) (Nat.le_of_ble_eq_true rfl) ?_
  refine x_iload_n dX5_put_0 rfl ?_
  refine s_callS dX5_put_1 (k_isShelf σ (nI k)) rfl w_X8_isShelf lmX5_22 st_X8_isShelf rfl (Nat.le_of_ble_eq_true rfl) rfl (by decide) (fun v_1 σ_1 h_1 => ?_)
  obtain ⟨rfl, z_1⟩ := h_1
  have z_1 := z_1.symm
  subst z_1
  refine x_if_eq (tgt := 24) dX5_put_4 (by decide) (fun c_4 => (absurd c_4 (by rw [inb_nI hk (by omega)]; decide))) (fun c_4 => ?_)
  refine x_aload_n dX5_put_7 rfl ?_
  refine s_getr (ci := 5) (k := 0) (N := 2) (C := RX5) (T := TX5) dX5_put_8 lfX5_11 inX5 rfl (by decide) (rfl) rfl ?_
  refine x_iload_n dX5_put_11 rfl ?_
  refine s_aald dX5_put_12 (rfl) (b := 50 + 3 * k) (hi := rfl) (hj := hk) (hn := by decide) (sh_at hk) ?_
  refine x_aload_n dX5_put_13 rfl ?_
  refine s_callV dX5_put_14 (k_mocopy σ (mo_sh hk) mo_15 (by omega)) rfl w_X1_copyFrom lmX5_26 im_X1_copyFrom se_X1_copyFrom rfl ((mo_sh hk).1) rfl (Nat.le_of_ble_eq_true rfl) rfl (by decide) (fun v_14 σ_14 h_14 => ?_)
  obtain ⟨rfl, hmo, hfr⟩ := h_14
  refine x_aload_n dX5_put_17 rfl ?_
  refine s_getr (ci := 5) (k := 1) (N := 2) (C := RX5) (T := TX5) dX5_put_18 lfX5_17 inX5 rfl (by decide) (rfl) rfl ?_
  refine x_iload_n dX5_put_21 rfl ?_
  refine x_iconst (v := 1) dX5_put_22 (by decide) ?_
  refine s_zast dX5_put_23 (rfl) (hi := rfl) (hj := by omega) (hn := by decide) ?_
  refine xname (fun σ_23 e_23 => ?_)
  refine s_ret dX5_put_24 rfl ?_
  refine ⟨rfl, ?_, fun N hN => ?_, fun c q0 q1 q2 q3 => ?_⟩
  · rw [e_23, sg_row, hfr 49 (by omega) (by omega) (by omega)]; rfl
  · rw [← hmo N hN]
    unfold moC
    rw [e_23, sg_n _ _ _ (by omega), sg_n _ _ _ (by omega), sg_n _ _ _ (by omega)]
  · rw [e_23, sg_n _ _ _ q0, hfr c q1 q2 q3]
set_option maxRecDepth 100000 in
theorem k_shtake0 (σ : Sg) {k : Nat} (hk : k < 2) (hu : σ 49 k = 0) : Cm 2 YX5_take [.ref 47, .int (nI k), .ref 15] σ (fun v σ' => v = some (.int 0) ∧ σ' = σ) := by
  refine Cm_of (by decide +kernel) (Nat.le_of_ble_eq_true rfl) ?_
  refine x_iload_n dX5_take_0 rfl ?_
  refine s_callS dX5_take_1 (k_isShelf σ (nI k)) rfl w_X8_isShelf lmX5_22 st_X8_isShelf rfl (Nat.le_of_ble_eq_true rfl) rfl (by decide) (fun v_1 σ_1 h_1 => ?_)
  obtain ⟨rfl, z_1⟩ := h_1
  have z_1 := z_1.symm
  subst z_1
  refine x_if_eq (tgt := 16) dX5_take_4 (by decide) (fun c_4 => (absurd c_4 (by rw [inb_nI hk (by omega)]; decide))) (fun c_4 => ?_)
  refine x_aload_n dX5_take_7 rfl ?_
  refine s_getr (ci := 5) (k := 1) (N := 2) (C := RX5) (T := TX5) dX5_take_8 lfX5_17 inX5 rfl (by decide) (rfl) rfl ?_
  refine x_iload_n dX5_take_11 rfl ?_
  refine s_zald dX5_take_12 (rfl) (hi := rfl) (hj := by omega) (hn := by decide) ?_
  refine x_if_ne (tgt := 18) dX5_take_13 (by decide) (fun c_13 => (absurd hu c_13)) (fun c_13 => ?_)
  refine x_iconst (v := 0) dX5_take_16 (by decide) ?_
  exact s_zret dX5_take_17 rfl (by first | exact Or.inl rfl | exact Or.inr rfl | assumption) (⟨rfl, rfl⟩)
set_option maxRecDepth 100000 in
theorem k_shtake (σ : Sg) {k : Nat} (hk : k < 2) (hu : ¬ σ 49 k = 0) : Cm 2 YX5_take [.ref 47, .int (nI k), .ref 15] σ (fun v σ' => v = some (.int 1) ∧ (∀ N, N ≤ 8 → moC N σ' 15 = moC N σ (50 + 3 * k)) ∧ ∀ c, c ≠ 15 → c ≠ 16 → c ≠ 17 → σ' c = σ c) := by
  refine Cm_of (by decide +kernel) (Nat.le_of_ble_eq_true rfl) ?_
  refine x_iload_n dX5_take_0 rfl ?_
  refine s_callS dX5_take_1 (k_isShelf σ (nI k)) rfl w_X8_isShelf lmX5_22 st_X8_isShelf rfl (Nat.le_of_ble_eq_true rfl) rfl (by decide) (fun v_1 σ_1 h_1 => ?_)
  obtain ⟨rfl, z_1⟩ := h_1
  have z_1 := z_1.symm
  subst z_1
  refine x_if_eq (tgt := 16) dX5_take_4 (by decide) (fun c_4 => (absurd c_4 (by rw [inb_nI hk (by omega)]; decide))) (fun c_4 => ?_)
  refine x_aload_n dX5_take_7 rfl ?_
  refine s_getr (ci := 5) (k := 1) (N := 2) (C := RX5) (T := TX5) dX5_take_8 lfX5_17 inX5 rfl (by decide) (rfl) rfl ?_
  refine x_iload_n dX5_take_11 rfl ?_
  refine s_zald dX5_take_12 (rfl) (hi := rfl) (hj := by omega) (hn := by decide) ?_
  refine x_if_ne (tgt := 18) dX5_take_13 (by decide) (fun c_13 => ?_) (fun c_13 => (absurd c_13 hu))
  refine x_aload_n dX5_take_18 rfl ?_
  refine x_aload_n dX5_take_19 rfl ?_
  refine s_getr (ci := 5) (k := 0) (N := 2) (C := RX5) (T := TX5) dX5_take_20 lfX5_11 inX5 rfl (by decide) (rfl) rfl ?_
  refine x_iload_n dX5_take_23 rfl ?_
  refine s_aald dX5_take_24 (rfl) (b := 50 + 3 * k) (hi := rfl) (hj := hk) (hn := by decide) (sh_at hk) ?_
  refine s_callV dX5_take_25 (k_mocopy σ mo_15 (mo_sh hk) (by omega)) rfl w_X1_copyFrom lmX5_26 im_X1_copyFrom se_X1_copyFrom rfl (mo_15.1) rfl (Nat.le_of_ble_eq_true rfl) rfl (by decide) (fun v_25 σ_25 h_25 => ?_)
  obtain ⟨rfl, hmo, hfr⟩ := h_25
  refine x_iconst (v := 1) dX5_take_28 (by decide) ?_
  exact s_zret dX5_take_29 rfl (by first | exact Or.inl rfl | exact Or.inr rfl | assumption) (⟨rfl, hmo, hfr⟩)
/-- n days behind -/
def itF (p : PL) (o : MO) : Nat → MO
  | 0 => o
  | k + 1 => daF p (itF p o k)
set_option maxRecDepth 100000 in
theorem l_trial {N n : Nat} (hn8 : n ≤ 8) (σ0 : Sg) (h0n : σ0 3 5 = nI n) (hN : N ≤ 1000) : ∀ (j k : Nat) (τ : Sg), k + j = N → (moC n τ 18 = itF (plC n σ0) (moC n σ0 15) k ∧ ∀ c, c ≠ 18 → c ≠ 19 → c ≠ 20 → c ≠ 59 → c ≠ 60 → c ≠ 61 → τ c = σ0 c) →
    Ex (YX8_passTrialDays, 5, xB0, none) 13 [.ref 0, .int (nI N), .int (nI k)] [] (xMs τ) (xQ (fun v σ' => v = none ∧ moC n σ' 18 = itF (plC n σ0) (moC n σ0 15) N ∧ ∀ c, c ≠ 18 → c ≠ 19 → c ≠ 20 → c ≠ 59 → c ≠ 60 → c ≠ 61 → σ' c = σ0 c)) := by
  intro j
  induction j with
  | zero =>
    intro k τ hk hI
    have hk : k = N := by omega
    subst hk
    refine x_iload_n dX8_passTrialDays_13 rfl ?_
    refine x_iload_n dX8_passTrialDays_14 rfl ?_
    refine x_icmp_ge (tgt := 33) dX8_passTrialDays_15 (by decide) (fun c_15 => ?_) (fun c_15 => (absurd (Int32.le_refl _) c_15))
    exact s_ret dX8_passTrialDays_33 rfl (⟨rfl, hI⟩)
  | succ j ih =>
    intro k τ hk hI
    have hkn : k < N := by omega
    have hp : plC n τ = plC n σ0 := by
      unfold plC
      rw [hI.2 3 (by decide) (by decide) (by decide) (by decide) (by decide) (by decide), hI.2 4 (by decide) (by decide) (by decide) (by decide) (by decide) (by decide), hI.2 5 (by decide) (by decide) (by decide) (by decide) (by decide) (by decide), hI.2 6 (by decide) (by decide) (by decide) (by decide) (by decide) (by decide), hI.2 7 (by decide) (by decide) (by decide) (by decide) (by decide) (by decide), hI.2 8 (by decide) (by decide) (by decide) (by decide) (by decide) (by decide)]
    refine x_iload_n dX8_passTrialDays_13 rfl ?_
    refine x_iload_n dX8_passTrialDays_14 rfl ?_
    refine x_icmp_ge (tgt := 33) dX8_passTrialDays_15 (by decide) (fun c_15 => (absurd c_15 (nI_ge hkn (by omega)))) (fun c_15 => ?_)
    refine x_aload_n dX8_passTrialDays_18 rfl ?_
    refine x_aload_n dX8_passTrialDays_19 rfl ?_
    refine s_getr (ci := 8) (k := 4) (N := 10) (C := RX8) (T := TX8) dX8_passTrialDays_20 lfX8_33 inX8 rfl (by decide) (rfl) rfl ?_
    refine s_callV dX8_passTrialDays_23 (k_passDay τ mo_18 (n := n) (by rw [hI.2 3 (by decide) (by decide) (by decide) (by decide) (by decide) (by decide)]; exact h0n) hn8) rfl w_X8_passDay lmX8_150 im_X8_passDay se_X8_passDay rfl (rfl) rfl (Nat.le_of_ble_eq_true rfl) rfl (by decide) (fun v_23 σ_23 h_23 => ?_)
    obtain ⟨rfl, hmo, hfr⟩ := h_23
    refine x_pop dX8_passTrialDays_26 rfl ?_
    refine s_iinc dX8_passTrialDays_27 rfl (by decide) rfl ?_
    refine x_goto (tgt := 13) dX8_passTrialDays_30 (by decide) ?_
    exact ih (k + 1) _ (by omega) ⟨by rw [hmo, hp, hI.1]; rfl, fun c a1 a2 a3 a4 a5 a6 => by rw [hfr c a1 a2 a3 a4 a5 a6, hI.2 c a1 a2 a3 a4 a5 a6]⟩
set_option maxRecDepth 100000 in
theorem k_passTrialDays (σ : Sg) {n N : Nat} (hn : σ 3 5 = nI n) (hn8 : n ≤ 8) (hN : N ≤ 1000) : Cm 5 YX8_passTrialDays [.ref 0, .int (nI N)] σ (fun v σ' => v = none ∧ moC n σ' 18 = itF (plC n σ) (moC n σ 15) N ∧ ∀ c, c ≠ 18 → c ≠ 19 → c ≠ 20 → c ≠ 59 → c ≠ 60 → c ≠ 61 → σ' c = σ c) := by
  refine Cm_of (by decide +kernel) (Nat.le_of_ble_eq_true rfl) ?_
  refine x_aload_n dX8_passTrialDays_0 rfl ?_
  refine s_getr (ci := 8) (k := 4) (N := 10) (C := RX8) (T := TX8) dX8_passTrialDays_1 lfX8_33 inX8 rfl (by decide) (rfl) rfl ?_
  refine x_aload_n dX8_passTrialDays_4 rfl ?_
  refine s_getr (ci := 8) (k := 3) (N := 10) (C := RX8) (T := TX8) dX8_passTrialDays_5 lfX8_29 inX8 rfl (by decide) (rfl) rfl ?_
  refine s_callV dX8_passTrialDays_8 (k_mocopy σ mo_18 mo_15 (by decide)) rfl w_X1_copyFrom lmX8_198 im_X1_copyFrom se_X1_copyFrom rfl (mo_18.1) rfl (Nat.le_of_ble_eq_true rfl) rfl (by decide) (fun v_8 σ_8 h_8 => ?_)
  obtain ⟨rfl, hmo, hfr⟩ := h_8
  refine x_iconst (v := 0) dX8_passTrialDays_11 (by decide) ?_
  refine x_istore_n dX8_passTrialDays_12 (by decide) rfl ?_
  exact l_trial hn8 σ hn hN N 0 _ (by omega) ⟨hmo n hn8, fun c a1 a2 a3 _ _ _ => hfr c a1 a2 a3⟩
end
section
/-! ===== the count of bits; the rows of days ===== -/
/-- how many of the first k bits are set -/
def onF (a : Nat) : Nat → Nat
  | 0 => 0
  | k + 1 => onF a k + (if a.testBit k = true then 1 else 0)
theorem onF_le (a : Nat) : ∀ k, onF a k ≤ k := by
  intro k
  induction k with
  | zero => exact Nat.le_refl 0
  | succ k ih => unfold onF; split <;> omega
theorem xdd {a b mL : Nat} (h : a + 1 ≤ b) (hm : mL ≤ 40) : a + 1 ≤ b ∧ 8 + (mL + 11) + 64 * a ≤ 64 * b := by omega
set_option maxRecDepth 100000 in
theorem k_bitCount (σ : Sg) {a : Nat} (ha : a < 256) : Cm 0 YJ6_bitCount_0f7a4 [.int (nI a)] σ (fun v σ' => v = some (.int (nI (onF a 8))) ∧ σ' = σ) := by
  refine Cm_of (by decide +kernel) (Nat.le_of_ble_eq_true rfl) ?_
  refine x_iload_n dJ6_bitCount_0f7a4_0 rfl ?_
  refine x_iload_n dJ6_bitCount_0f7a4_1 rfl ?_
  refine x_iconst (v := 1) dJ6_bitCount_0f7a4_2 (by decide) ?_
  refine x_iushr dJ6_bitCount_0f7a4_3 rfl ?_
  refine x_ldcw dJ6_bitCount_0f7a4_4 kc_265 ?_
  refine x_iand dJ6_bitCount_0f7a4_7 ?_
  refine x_isub dJ6_bitCount_0f7a4_8 ?_
  refine x_istore_n dJ6_bitCount_0f7a4_9 (Nat.le_of_ble_eq_true rfl) rfl ?_
  refine x_iload_n dJ6_bitCount_0f7a4_10 rfl ?_
  refine x_ldcw dJ6_bitCount_0f7a4_11 kc_266 ?_
  refine x_iand dJ6_bitCount_0f7a4_14 ?_
  refine x_iload_n dJ6_bitCount_0f7a4_15 rfl ?_
  refine x_iconst (v := 2) dJ6_bitCount_0f7a4_16 (by decide) ?_
  refine x_iushr dJ6_bitCount_0f7a4_17 rfl ?_
  refine x_ldcw dJ6_bitCount_0f7a4_18 kc_266 ?_
  refine x_iand dJ6_bitCount_0f7a4_21 ?_
  refine x_iadd dJ6_bitCount_0f7a4_22 ?_
  refine x_istore_n dJ6_bitCount_0f7a4_23 (Nat.le_of_ble_eq_true rfl) rfl ?_
  refine x_iload_n dJ6_bitCount_0f7a4_24 rfl ?_
  refine x_iload_n dJ6_bitCount_0f7a4_25 rfl ?_
  refine x_iconst (v := 4) dJ6_bitCount_0f7a4_26 (by decide) ?_
  refine x_iushr dJ6_bitCount_0f7a4_27 rfl ?_
  refine x_iadd dJ6_bitCount_0f7a4_28 ?_
  refine x_ldcw dJ6_bitCount_0f7a4_29 kc_267 ?_
  refine x_iand dJ6_bitCount_0f7a4_32 ?_
  refine x_istore_n dJ6_bitCount_0f7a4_33 (Nat.le_of_ble_eq_true rfl) rfl ?_
  refine x_iload_n dJ6_bitCount_0f7a4_34 rfl ?_
  refine x_iload_n dJ6_bitCount_0f7a4_35 rfl ?_
  refine x_bipush (v := 8) dJ6_bitCount_0f7a4_36 (by decide) ?_
  refine x_iushr dJ6_bitCount_0f7a4_38 rfl ?_
  refine x_iadd dJ6_bitCount_0f7a4_39 ?_
  refine x_istore_n dJ6_bitCount_0f7a4_40 (Nat.le_of_ble_eq_true rfl) rfl ?_
  refine x_iload_n dJ6_bitCount_0f7a4_41 rfl ?_
  refine x_iload_n dJ6_bitCount_0f7a4_42 rfl ?_
  refine x_bipush (v := 16) dJ6_bitCount_0f7a4_43 (by decide) ?_
  refine x_iushr dJ6_bitCount_0f7a4_45 rfl ?_
  refine x_iadd dJ6_bitCount_0f7a4_46 ?_
  refine x_istore_n dJ6_bitCount_0f7a4_47 (Nat.le_of_ble_eq_true rfl) rfl ?_
  refine x_iload_n dJ6_bitCount_0f7a4_48 rfl ?_
  refine x_bipush (v := 63) dJ6_bitCount_0f7a4_49 (by decide) ?_
  refine x_iand dJ6_bitCount_0f7a4_51 ?_
  refine s_iret dJ6_bitCount_0f7a4_52 rfl ?_
  refine ⟨congrArg (fun z => some (Value.int z)) ?_, rfl⟩
  revert a
  decide +kernel
/-- how many streets have what they want -/
def ctF (p : PL) (o : MO) : Nat := onF (stF (saF o.1 p.2.2.2.1 p.2.2.2.2.1) p.1) 8
theorem stF_256 {p : Nat → Bool} {n : Nat} (h : n ≤ 8) : stF p n < 256 := Nat.lt_of_lt_of_le (stF_lt p n) (Nat.pow_le_pow_right (by decide) h : 2 ^ n ≤ 2 ^ 8)
set_option maxRecDepth 100000 in
theorem k_judge (σ : Sg) {n D : Nat} (hn : σ 3 5 = nI n) (hn8 : n ≤ 8) (hD : σ 62 3 = nI D) (hD4 : D ≤ 4) : Cm 3 YX4_judge [.ref 62, .ref 3] σ (fun v σ' => v = none ∧ σ' = if σ 62 4 < nI (ctF (plC n σ) (moC n σ (66 + 3 * D))) then sw (sg σ 62 4 (nI (ctF (plC n σ) (moC n σ (66 + 3 * D))))) 65 (cpN 4 (σ 64) (σ 65)) else σ) := by
  refine Cm_of (by decide +kernel) (Nat.le_of_ble_eq_true rfl) ?_
  have e : onF (stF (saF (tr n (σ (66 + 3 * D + 1))) (tr n (σ 4)) (tr n (σ 5))) n) 8 = ctF (plC n σ) (moC n σ (66 + 3 * D)) := rfl
  refine x_aload_n dX4_judge_0 rfl ?_
  refine s_getr (ci := 4) (k := 0) (N := 5) (C := RX4) (T := TX4) dX4_judge_1 lfX4_11 inX4 rfl (by decide) (rfl) rfl ?_
  refine x_aload_n dX4_judge_4 rfl ?_
  refine s_geti (ci := 4) (k := 3) (N := 5) (C := RX4) (T := TX4) dX4_judge_5 lfX4_24 inX4 rfl (by decide) (rfl) rfl ?_
  refine s_aald dX4_judge_8 (rfl) (b := 66 + 3 * D) (hi := hD) (hj := by omega) (hn := by decide) (be_at (by omega)) ?_
  refine x_aload_n dX4_judge_9 rfl ?_
  refine s_callV dX4_judge_10 (k_contentBits σ (mo_be (i := D) (by omega)) hn hn8) rfl w_X1_contentBits lmX4_59 im_X1_contentBits se_X1_contentBits rfl ((mo_be (i := D) (by omega)).1) rfl (Nat.le_of_ble_eq_true rfl) rfl (by decide) (fun v_10 σ_10 h_10 => ?_)
  obtain ⟨rfl, z_10⟩ := h_10
  have z_10 := z_10.symm
  subst z_10
  refine s_callS dX4_judge_13 (k_bitCount σ (stF_256 hn8)) rfl w_J6_bitCount_0f7a4 lmX4_63 st_J6_bitCount_0f7a4 rfl (Nat.le_of_ble_eq_true rfl) rfl (by decide) (fun v_13 σ_13 h_13 => ?_)
  obtain ⟨rfl, z_13⟩ := h_13
  have z_13 := z_13.symm
  subst z_13
  refine x_istore_n dX4_judge_16 (Nat.le_of_ble_eq_true rfl) rfl ?_
  refine x_iload_n dX4_judge_17 rfl ?_
  refine x_aload_n dX4_judge_18 rfl ?_
  refine s_geti (ci := 4) (k := 4) (N := 5) (C := RX4) (T := TX4) dX4_judge_19 lfX4_28 inX4 rfl (by decide) (rfl) rfl ?_
  refine x_icmp_le (tgt := 44) dX4_judge_22 (by decide) (fun c_22 => ?_) (fun c_22 => ?_)
  · exact s_ret dX4_judge_44 rfl (by first
      | exact ⟨rfl, (if_neg (Int32.not_lt.mpr c_22)).symm⟩
      | exact ⟨rfl, (if_pos (Int32.not_le.mp c_22)).symm⟩)
  · refine x_aload_n dX4_judge_25 rfl ?_
    refine x_iload_n dX4_judge_26 rfl ?_
    refine s_puti (ci := 4) (k := 4) (N := 5) (C := RX4) (T := TX4) (ty0 := tyX4) dX4_judge_27 lfX4_28 inX4 tyX4_ok nmX4 rfl (by decide) rfl rfl (rfl) rfl ?_
    refine x_aload_n dX4_judge_30 rfl ?_
    refine s_getr (ci := 4) (k := 1) (N := 5) (C := RX4) (T := TX4) dX4_judge_31 lfX4_17 inX4 rfl (by decide) (rfl) rfl ?_
    refine x_iconst (v := 0) dX4_judge_34 (by decide) ?_
    refine x_aload_n dX4_judge_35 rfl ?_
    refine s_getr (ci := 4) (k := 2) (N := 5) (C := RX4) (T := TX4) dX4_judge_36 lfX4_21 inX4 rfl (by decide) (rfl) rfl ?_
    refine x_iconst (v := 0) dX4_judge_39 (by decide) ?_
    refine x_iconst (v := 4) dX4_judge_40 (by decide) ?_
    refine s_copy (N := 4) dX4_judge_41 tmX4_69 (rfl) (rfl) (by decide) (by decide) (by decide) (by decide) (Nat.le_of_ble_eq_true rfl) (by decide) ?_
    exact s_ret dX4_judge_44 rfl (by first
      | exact ⟨rfl, (if_neg (Int32.not_lt.mpr c_22)).symm⟩
      | exact ⟨rfl, (if_pos (Int32.not_le.mp c_22)).symm⟩)
def fdF {S : Type} (g : Nat → S → S) : Nat → S → S
  | 0, s => s
  | k + 1, s => g k (fdF g k s)
/-- the rows from depth d on (r more days): the most, and the row -/
def exF (p : PL) (D : Nat) : Nat → MO → FN → Int32 × FN → Int32 × FN
  | 0, o, row, st => if st.1 < nI (ctF p o) then (nI (ctF p o), tr D row) else st
  | r + 1, o, row, st => fdF (fun s st => if st.1 < nI p.1 then exF p D r (psF p o (nI s)) (upd row (D - (r + 1)) (nI s)) st else st) p.1 st
theorem fdF_fix {S : Type} {g : Nat → S → S} {s : S} {k : Nat} (h : ∀ i, g i (fdF g k s) = fdF g k s) : ∀ j, fdF g (k + j) s = fdF g k s := by
  intro j
  induction j with
  | zero => rfl
  | succ j ih =>
    show g (k + j) (fdF g (k + j) s) = _
    rw [ih]
    exact h _
theorem exF_row {p : PL} {D : Nat} : ∀ (r : Nat) (o : MO) (row row' : FN) (st : Int32 × FN), r ≤ D → tr (D - r) row = tr (D - r) row' → exF p D r o row st = exF p D r o row' st := by
  intro r
  induction r with
  | zero =>
    intro o row row' st _ h
    unfold exF
    rw [show D - 0 = D from rfl] at h
    rw [h]
  | succ r ih =>
    intro o row row' st hr h
    unfold exF
    have : ∀ k, fdF (fun s st => if st.1 < nI p.1 then exF p D r (psF p o (nI s)) (upd row (D - (r + 1)) (nI s)) st else st) k st = fdF (fun s st => if st.1 < nI p.1 then exF p D r (psF p o (nI s)) (upd row' (D - (r + 1)) (nI s)) st else st) k st := by
      intro k
      induction k with
      | zero => rfl
      | succ k ihk =>
        unfold fdF
        rw [ihk]
        split
        · refine ih _ _ _ _ (by omega) (tr_ext fun i hi => ?_)
          unfold upd
          by_cases e : i = D - (r + 1)
          · rw [if_pos e, if_pos e]
          · rw [if_neg e, if_neg e]
            exact (tr_iff.mp h) i (by omega)
        · rfl
    exact this p.1
/-- what extend leaves -/
def exP (n D d : Nat) (σ σ' : Sg) (st : Int32 × FN) : Prop := σ' 62 4 = st.1 ∧ tr D (σ' 65) = st.2 ∧ σ' 62 3 = σ 62 3 ∧ tr d (σ' 64) = tr d (σ 64) ∧ ∀ c, c ≠ 62 → c ≠ 64 → c ≠ 65 → ¬ (66 + 3 * (d + 1) ≤ c ∧ c ≤ 80) → σ' c = σ c
theorem plC_fr {n : Nat} {σ σ' : Sg} (h : ∀ c, 3 ≤ c → c ≤ 8 → σ' c = σ c) : plC n σ' = plC n σ := by
  unfold plC
  rw [h 3 (by decide) (by decide), h 4 (by decide) (by decide), h 5 (by decide) (by decide), h 6 (by decide) (by decide), h 7 (by decide) (by decide), h 8 (by decide) (by decide)]
theorem moC_fr {n m : Nat} {σ σ' : Sg} (h : ∀ c, m ≤ c → c ≤ m + 2 → σ' c = σ c) : moC n σ' m = moC n σ m := by
  unfold moC
  rw [h m (by omega) (by omega), h (m + 1) (by omega) (by omega), h (m + 2) (by omega) (by omega)]

set_option maxRecDepth 100000 in
set_option maxHeartbeats 1000000 in
theorem k_extend {n D : Nat} (hn8 : n ≤ 8) (hD4 : D ≤ 4) : ∀ (r d : Nat) (σ : Sg), d + r = D → σ 3 5 = nI n → σ 62 3 = nI D → Cm (4 + r) YX4_extend [.ref 62, .ref 3, .int (nI d)] σ (fun v σ' => v = none ∧ exP n D d σ σ' (exF (plC n σ) D r (moC n σ (66 + 3 * d)) (σ 64) (σ 62 4, tr D (σ 65)))) := by
  intro r
  induction r with
  | zero =>
    intro d σ hd hn hD
    obtain rfl : d = D := by omega
    refine Cm_of (by decide +kernel) (Nat.le_of_ble_eq_true rfl) ?_
    refine x_iload_n dX4_extend_0 rfl ?_
    refine x_if_lt (tgt := 17) dX4_extend_1 (by decide) (fun c_1 => (absurd c_1 (nI_pos (by omega)))) (fun c_1 => ?_)
    refine x_iload_n dX4_extend_4 rfl ?_
    refine x_aload_n dX4_extend_5 rfl ?_
    refine s_geti (ci := 4) (k := 3) (N := 5) (C := RX4) (T := TX4) dX4_extend_6 lfX4_24 inX4 rfl (by decide) (rfl) rfl ?_
    refine x_icmp_ge (tgt := 17) dX4_extend_9 (by decide) (fun c_9 => ?_) (fun c_9 => (absurd (by rw [hD]; exact Int32.le_refl _) c_9))
    refine x_aload_n dX4_extend_17 rfl ?_
    refine x_aload_n dX4_extend_18 rfl ?_
    refine s_callV dX4_extend_19 (k_judge σ hn hn8 hD hD4) rfl w_X4_judge lmX4_46 im_X4_judge se_X4_judge rfl (rfl) rfl (Nat.le_of_ble_eq_true rfl) rfl (by decide) (fun v_19 σ_19 h_19 => ?_)
    obtain ⟨rfl, rfl⟩ := h_19
    refine s_ret dX4_extend_22 rfl ?_
    refine ⟨rfl, ?_⟩
    unfold exF
    have e : tr d (cpN 4 (σ 64) (σ 65)) = tr d (σ 64) := cpN_tr hD4
    split
    · refine ⟨by rw [sw_n _ _ (by decide), sg_s], by rw [sw_s, e], by rw [sw_n _ _ (by decide), sg_k _ _ _ (by decide)], by rw [sw_n _ _ (by decide), sg_n _ _ _ (by decide)], fun c h1 h2 h3 _ => by rw [sw_n _ _ h3, sg_n _ _ _ h1]⟩
    · exact ⟨rfl, rfl, rfl, rfl, fun c _ _ _ _ => rfl⟩
  | succ r ih =>
    intro d σ hd hn hD
    refine Cm_of (by decide +kernel) (Nat.le_of_ble_eq_true rfl) ?_
    have loop : ∀ (j k : Nat) (τ : Sg) (V4 : Value), k + j = n → exP n D d σ τ (fdF (fun s st => if st.1 < nI (plC n σ).1 then exF (plC n σ) D r (psF (plC n σ) (moC n σ (66 + 3 * d)) (nI s)) (upd (σ 64) (D - (r + 1)) (nI s)) st else st) k (σ 62 4, tr D (σ 65))) →
        Ex (YX4_extend, 4 + (r + 1), xB0, none) 25 [.ref 62, .ref 3, .int (nI d), .int (nI k), V4] [] (xMs τ) (xQ (fun v σ' => v = none ∧ exP n D d σ σ' (exF (plC n σ) D (r + 1) (moC n σ (66 + 3 * d)) (σ 64) (σ 62 4, tr D (σ 65))))) := by
      intro j
      induction j with
      | zero =>
        intro k τ V4 hk hI
        obtain rfl : k = n := by omega
        have hn' : τ 3 5 = nI k := by rw [hI.2.2.2.2 3 (by decide) (by decide) (by decide) (by omega)]; exact hn
        refine x_iload_n dX4_extend_25 rfl ?_
        refine x_aload_n dX4_extend_26 rfl ?_
        refine s_getiN (ci := 3) (k := 5) (N := 8) (C := RX3) (T := TX3) dX4_extend_27 lfX4_50 inX3 rfl (by decide) (rfl) rfl ?_
        refine x_icmp_ge (tgt := 93) dX4_extend_30 (by decide) (fun c_30 => ?_) (fun c_30 => (absurd (by rw [hn']; exact Int32.le_refl _) c_30))
        exact s_ret dX4_extend_93 rfl (⟨rfl, hI⟩)
      | succ j ihj =>
        intro k τ V4 hk hI
        have hkn : k < n := by omega
        have hn' : τ 3 5 = nI n := by rw [hI.2.2.2.2 3 (by decide) (by decide) (by decide) (by omega)]; exact hn
        obtain ⟨i1, i2, i3, i4, i5⟩ := id hI
        refine x_iload_n dX4_extend_25 rfl ?_
        refine x_aload_n dX4_extend_26 rfl ?_
        refine s_getiN (ci := 3) (k := 5) (N := 8) (C := RX3) (T := TX3) dX4_extend_27 lfX4_50 inX3 rfl (by decide) (rfl) rfl ?_
        refine x_icmp_ge (tgt := 93) dX4_extend_30 (by decide) (fun c_30 => (absurd c_30 (by rw [hn']; exact nI_ge hkn (by omega)))) (fun c_30 => ?_)
        refine x_aload_n dX4_extend_33 rfl ?_
        refine s_geti (ci := 4) (k := 4) (N := 5) (C := RX4) (T := TX4) dX4_extend_34 lfX4_28 inX4 rfl (by decide) (rfl) rfl ?_
        refine x_aload_n dX4_extend_37 rfl ?_
        refine s_getiN (ci := 3) (k := 5) (N := 8) (C := RX3) (T := TX3) dX4_extend_38 lfX4_50 inX3 rfl (by decide) (rfl) rfl ?_
        refine x_icmp_ge (tgt := 93) dX4_extend_41 (by decide) (fun c_41 => ?_) (fun c_41 => ?_)
        · refine s_ret dX4_extend_93 rfl ?_
          rw [hn'] at c_41
          refine ⟨rfl, ?_⟩
          have hfx := fdF_fix (g := fun s st => if st.1 < nI (plC n σ).1 then exF (plC n σ) D r (psF (plC n σ) (moC n σ (66 + 3 * d)) (nI s)) (upd (σ 64) (D - (r + 1)) (nI s)) st else st) (s := (σ 62 4, tr D (σ 65))) (k := k) (fun i => if_neg (by rw [← i1]; exact Int32.not_lt.mpr c_41)) (n - k)
          rw [show k + (n - k) = n by omega] at hfx
          show exP n D d σ τ (fdF _ n _)
          rw [hfx]
          exact hI
        · refine x_aload_n dX4_extend_44 rfl ?_
          refine s_getr (ci := 4) (k := 1) (N := 5) (C := RX4) (T := TX4) dX4_extend_45 lfX4_17 inX4 rfl (by decide) (rfl) rfl ?_
          refine x_iload_n dX4_extend_48 rfl ?_
          refine x_iload_n dX4_extend_49 rfl ?_
          refine s_iast dX4_extend_50 (rfl) (hi := rfl) (hj := by omega) (hn := by decide) ?_
          refine xname (fun σ_50 e_50 => ?_)
          refine x_aload_n dX4_extend_51 rfl ?_
          refine s_getr (ci := 4) (k := 0) (N := 5) (C := RX4) (T := TX4) dX4_extend_52 lfX4_11 inX4 rfl (by decide) (rfl) rfl ?_
          refine x_iload_n dX4_extend_55 rfl ?_
          refine x_iconst (v := 1) dX4_extend_56 (by decide) ?_
          refine x_iadd dX4_extend_57 ?_
          refine s_aald dX4_extend_58 (rfl) (b := 66 + 3 * (d + 1)) (hi := nI_1 d) (hj := by omega) (hn := by decide) (be_at (by omega)) ?_
          refine x_astore dX4_extend_59 (Nat.le_of_ble_eq_true rfl) rfl ?_
          refine x_aload dX4_extend_61 rfl ?_
          refine x_aload_n dX4_extend_63 rfl ?_
          refine s_getr (ci := 4) (k := 0) (N := 5) (C := RX4) (T := TX4) dX4_extend_64 lfX4_11 inX4 rfl (by decide) (rfl) rfl ?_
          refine x_iload_n dX4_extend_67 rfl ?_
          refine s_aald dX4_extend_68 (rfl) (b := 66 + 3 * d) (hi := rfl) (hj := by omega) (hn := by decide) (be_at (by omega)) ?_
          refine s_callV dX4_extend_69 (k_mocopy σ_50 (mo_be (i := d + 1) (by omega)) (mo_be (i := d) (by omega)) (by omega)) rfl w_X1_copyFrom lmX4_38 im_X1_copyFrom se_X1_copyFrom rfl ((mo_be (i := d + 1) (by omega)).1) rfl (Nat.le_of_ble_eq_true rfl) rfl (xdd (b := 4 + (r + 1)) (by omega) (by decide)) (fun v_69 σ_69 h_69 => ?_)
          obtain ⟨rfl, hmo, hfr⟩ := h_69
          refine x_aload dX4_extend_72 rfl ?_
          refine x_aload_n dX4_extend_74 rfl ?_
          refine x_iload_n dX4_extend_75 rfl ?_
          refine s_callV dX4_extend_76 (k_pass σ_69 (mo_be (i := d + 1) (by omega)) (n := n) (by rw [hfr 3 (by omega) (by omega) (by omega), e_50, sg_n _ _ _ (by decide)]; exact hn') hn8 (nI k)) rfl w_X1_pass lmX4_55 im_X1_pass se_X1_pass rfl ((mo_be (i := d + 1) (by omega)).1) rfl (Nat.le_of_ble_eq_true rfl) rfl (xdd (b := 4 + (r + 1)) (by omega) (by decide)) (fun v_76 σ_76 h_76 => ?_)
          obtain ⟨rfl, hmo2, hfr2⟩ := h_76
          refine x_aload_n dX4_extend_79 rfl ?_
          refine x_aload_n dX4_extend_80 rfl ?_
          refine x_iload_n dX4_extend_81 rfl ?_
          refine x_iconst (v := 1) dX4_extend_82 (by decide) ?_
          skip
          refine x_iadd dX4_extend_83 ?_
          rw [nI_1]
          refine s_callS dX4_extend_84 (ih (d + 1) σ_76 (by omega) (by rw [hfr2 3 (by omega) (by omega) (by omega), hfr 3 (by omega) (by omega) (by omega), e_50, sg_n _ _ _ (by decide)]; exact hn') (by rw [hfr2 62 (by omega) (by omega) (by omega), hfr 62 (by omega) (by omega) (by omega), e_50, sg_n _ _ _ (by decide), i3]; exact hD)) rfl w_X4_extend lmX4_42 st_X4_extend rfl (Nat.le_of_ble_eq_true rfl) rfl (xdd (b := 4 + (r + 1)) (by omega) (by decide)) (fun v_84 σ_84 h_84 => ?_)
          obtain ⟨rfl, hex⟩ := h_84
          refine s_iinc dX4_extend_87 rfl (Nat.le_of_ble_eq_true rfl) rfl ?_
          refine x_goto (tgt := 25) dX4_extend_90 (by decide) ?_
          rw [plC_fr (σ' := σ_76) (σ := σ) (fun c h1 h2 => by rw [hfr2 c (by omega) (by omega) (by omega), hfr c (by omega) (by omega) (by omega), e_50, sg_n _ _ _ (by omega)]; exact i5 c (by omega) (by omega) (by omega) (by omega))] at hex
          have hmoc : moC n σ_76 (66 + 3 * (d + 1)) = psF (plC n σ) (moC n σ (66 + 3 * d)) (nI k) := by
            rw [hmo2, hmo n hn8]
            rw [plC_fr (σ' := σ_69) (σ := σ) (fun c h1 h2 => by rw [hfr c (by omega) (by omega) (by omega), e_50, sg_n _ _ _ (by omega)]; exact i5 c (by omega) (by omega) (by omega) (by omega))]
            rw [moC_fr (σ' := σ_50) (σ := σ) (fun c h1 h2 => by rw [e_50, sg_n _ _ _ (by omega)]; exact i5 c (by omega) (by omega) (by omega) (by omega))]
          have h64 : σ_76 64 = upd (τ 64) d (nI k) := by rw [hfr2 64 (by omega) (by omega) (by omega), hfr 64 (by omega) (by omega) (by omega), e_50, sg_row]
          have h65 : σ_76 65 = τ 65 := by rw [hfr2 65 (by omega) (by omega) (by omega), hfr 65 (by omega) (by omega) (by omega), e_50, sg_n _ _ _ (by decide)]
          have h62 : σ_76 62 = τ 62 := by rw [hfr2 62 (by omega) (by omega) (by omega), hfr 62 (by omega) (by omega) (by omega), e_50, sg_n _ _ _ (by decide)]
          rw [hmoc, h62, h65, i2, i1] at hex
          rw [exF_row r _ (σ_76 64) (upd (σ 64) (D - (r + 1)) (nI k)) _ (by omega) (by
            rw [h64]
            refine tr_ext fun i hi => ?_
            unfold upd
            by_cases e : i = d
            · rw [if_pos e, if_pos (by omega)]
            · rw [if_neg e, if_neg (by omega)]
              exact (tr_iff.mp i4) i (by omega))] at hex
          refine ihj (k + 1) σ_84 _ (by omega) ?_
          obtain ⟨j1, j2, j3, j4, j5⟩ := hex
          have hc : (fdF (fun s st => if st.1 < nI (plC n σ).1 then exF (plC n σ) D r (psF (plC n σ) (moC n σ (66 + 3 * d)) (nI s)) (upd (σ 64) (D - (r + 1)) (nI s)) st else st) k (σ 62 4, tr D (σ 65))).1 < nI (plC n σ).1 := by
            rw [← i1]
            rw [hn'] at c_41
            exact Int32.not_le.mp c_41
          have hs : fdF (fun s st => if st.1 < nI (plC n σ).1 then exF (plC n σ) D r (psF (plC n σ) (moC n σ (66 + 3 * d)) (nI s)) (upd (σ 64) (D - (r + 1)) (nI s)) st else st) (k + 1) (σ 62 4, tr D (σ 65)) = exF (plC n σ) D r (psF (plC n σ) (moC n σ (66 + 3 * d)) (nI k)) (upd (σ 64) (D - (r + 1)) (nI k)) (fdF (fun s st => if st.1 < nI (plC n σ).1 then exF (plC n σ) D r (psF (plC n σ) (moC n σ (66 + 3 * d)) (nI s)) (upd (σ 64) (D - (r + 1)) (nI s)) st else st) k (σ 62 4, tr D (σ 65))) := if_pos hc
          rw [hs]
          refine ⟨j1, j2, by rw [j3, h62]; exact i3, tr_ext (fun i hi => ?_), fun c h1 h2 h3 h4 => ?_⟩
          · rw [(tr_iff.mp j4) i (by omega), h64]
            unfold upd
            rw [if_neg (by omega)]
            exact (tr_iff.mp i4) i hi
          · rw [j5 c h1 h2 h3 (by omega), hfr2 c (by omega) (by omega) (by omega), hfr c (by omega) (by omega) (by omega), e_50, sg_n _ _ _ h2]
            exact i5 c h1 h2 h3 h4
    refine x_iload_n dX4_extend_0 rfl ?_
    refine x_if_lt (tgt := 17) dX4_extend_1 (by decide) (fun c_1 => (absurd c_1 (nI_pos (by omega)))) (fun c_1 => ?_)
    refine x_iload_n dX4_extend_4 rfl ?_
    refine x_aload_n dX4_extend_5 rfl ?_
    refine s_geti (ci := 4) (k := 3) (N := 5) (C := RX4) (T := TX4) dX4_extend_6 lfX4_24 inX4 rfl (by decide) (rfl) rfl ?_
    refine x_icmp_ge (tgt := 17) dX4_extend_9 (by decide) (fun c_9 => (absurd c_9 (by rw [hD]; exact nI_ge (by omega) (by omega)))) (fun c_9 => ?_)
    refine x_iload_n dX4_extend_12 rfl ?_
    refine x_iconst (v := 4) dX4_extend_13 (by decide) ?_
    refine x_icmp_lt (tgt := 23) dX4_extend_14 (by decide) (fun c_14 => ?_) (fun c_14 => (absurd (show nI d < nI 4 from nI_lt (by omega) (by decide)) c_14))
    refine x_iconst (v := 0) dX4_extend_23 (by decide) ?_
    refine x_istore_n dX4_extend_24 (Nat.le_of_ble_eq_true rfl) rfl ?_
    exact loop n 0 σ _ (by omega) ⟨rfl, rfl, rfl, rfl, fun c _ _ _ _ => rfl⟩
end
section
/-! ===== RainBallot's own helpers ===== -/
set_option maxRecDepth 100000 in
theorem k_find (σ : Sg) {n D : Nat} (hn : σ 3 5 = nI n) (hn8 : n ≤ 8) (hD4 : D ≤ 4) : Cm 9 YX4_find [.ref 62, .ref 3, .ref 15, .int (nI D)] σ (fun v σ' => v = none ∧ σ' 62 4 = (exF (plC n σ) D D (moC n σ 15) (σ 64) (-1, tr D (σ 65))).1 ∧ tr D (σ' 65) = (exF (plC n σ) D D (moC n σ 15) (σ 64) (-1, tr D (σ 65))).2 ∧ ∀ c, c ≠ 62 → c ≠ 64 → c ≠ 65 → ¬ (66 ≤ c ∧ c ≤ 80) → σ' c = σ c) := by
  refine Cm_of (by decide +kernel) (Nat.le_of_ble_eq_true rfl) ?_
  have e4 : (if (4 : Int32) < nI D then (4 : Int32) else nI D) = nI D := if_neg (show ¬ nI 4 < nI D from nI_nlt hD4 (by decide))
  refine x_aload_n dX4_find_0 rfl ?_
  refine x_iload_n dX4_find_1 rfl ?_
  refine x_iconst (v := 4) dX4_find_2 (by decide) ?_
  refine s_min dX4_find_3 tmX4_32 rfl (Nat.le_of_ble_eq_true rfl) (by decide) ?_
  rw [e4]
  refine s_puti (ci := 4) (k := 3) (N := 5) (C := RX4) (T := TX4) (ty0 := tyX4) dX4_find_6 lfX4_24 inX4 tyX4_ok nmX4 rfl (by decide) rfl rfl (rfl) rfl ?_
  refine xname (fun σ_6 e_6 => ?_)
  refine x_aload_n dX4_find_9 rfl ?_
  refine x_iconst (v := -1) dX4_find_10 (by decide) ?_
  refine s_puti (ci := 4) (k := 4) (N := 5) (C := RX4) (T := TX4) (ty0 := tyX4) dX4_find_11 lfX4_28 inX4 tyX4_ok nmX4 rfl (by decide) rfl rfl (rfl) rfl ?_
  refine xname (fun σ_11 e_11 => ?_)
  refine x_aload_n dX4_find_14 rfl ?_
  refine s_getr (ci := 4) (k := 0) (N := 5) (C := RX4) (T := TX4) dX4_find_15 lfX4_11 inX4 rfl (by decide) (rfl) rfl ?_
  refine x_iconst (v := 0) dX4_find_18 (by decide) ?_
  refine s_aald dX4_find_19 (rfl) (j := 0) (hi := by decide) (hj := by decide) (hn := by decide) rfl ?_
  refine x_aload_n dX4_find_20 rfl ?_
  refine s_callV dX4_find_21 (k_mocopy σ_11 (mo_be (i := 0) (by decide)) mo_15 (by decide)) rfl w_X1_copyFrom lmX4_38 im_X1_copyFrom se_X1_copyFrom rfl (rfl) rfl (Nat.le_of_ble_eq_true rfl) rfl (by decide) (fun v_21 σ_21 h_21 => ?_)
  obtain ⟨rfl, hmo, hfr⟩ := h_21
  refine x_aload_n dX4_find_24 rfl ?_
  refine x_aload_n dX4_find_25 rfl ?_
  refine x_iconst (v := 0) dX4_find_26 (by decide) ?_
  refine s_callS dX4_find_27 (k_extend hn8 hD4 D 0 σ_21 (by omega) (by rw [hfr 3 (by decide) (by decide) (by decide), e_11, e_6, sg_n _ _ _ (by decide), sg_n _ _ _ (by decide)]; exact hn) (by rw [hfr 62 (by decide) (by decide) (by decide), e_11, sg_k _ _ _ (by decide), e_6, sg_s])) rfl w_X4_extend lmX4_42 st_X4_extend rfl (Nat.le_of_ble_eq_true rfl) rfl (xdd (b := 9) (by omega) (by decide)) (fun v_27 σ_27 h_27 => ?_)
  obtain ⟨rfl, hex⟩ := h_27
  refine s_ret dX4_find_30 rfl ?_
  obtain ⟨j1, j2, j3, j4, j5⟩ := hex
  have g62 : σ_21 62 4 = -1 := by rw [hfr 62 (by decide) (by decide) (by decide), e_11, sg_s]
  have g65 : σ_21 65 = σ 65 := by rw [hfr 65 (by decide) (by decide) (by decide), e_11, e_6, sg_n _ _ _ (by decide), sg_n _ _ _ (by decide)]
  have g64 : σ_21 64 = σ 64 := by rw [hfr 64 (by decide) (by decide) (by decide), e_11, e_6, sg_n _ _ _ (by decide), sg_n _ _ _ (by decide)]
  have gp : plC n σ_21 = plC n σ := plC_fr (fun c h1 h2 => by rw [hfr c (by omega) (by omega) (by omega), e_11, e_6, sg_n _ _ _ (by omega), sg_n _ _ _ (by omega)])
  have gm : moC n σ_21 66 = moC n σ 15 := by
    rw [hmo n hn8]
    exact moC_fr (fun c h1 h2 => by rw [e_11, e_6, sg_n _ _ _ (by omega), sg_n _ _ _ (by omega)])
  rw [g62, g65, g64, gp, show 66 + 3 * 0 = 66 from rfl, gm] at j1 j2
  exact ⟨rfl, j1, j2, fun c h1 h2 h3 h4 => by rw [j5 c h1 h2 h3 (by omega), hfr c (by omega) (by omega) (by omega), e_11, e_6, sg_n _ _ _ h1, sg_n _ _ _ h1]⟩
def unF (own taken : Nat) : Bool := decide (taken = 0 ∨ taken = own + 1 ∨ (taken = 1 ∧ (own = 1 ∨ own = 2)))
set_option maxRecDepth 100000 in
theorem k_isUnder (σ : Sg) {k t : Nat} (hk : k < 4) (ht : t < 5) : Cm 0 YX8_isUnder [.int (nI k), .int (nI t)] σ (fun v σ' => v = some (.int (bI (unF k t))) ∧ σ' = σ) := by
  refine Cm_of (by decide +kernel) (Nat.le_of_ble_eq_true rfl) ?_
  have key : ∀ x : Int32, x = bI (unF k t) → some (Value.int x) = some (.int (bI (unF k t))) ∧ σ = σ := fun x h => ⟨by rw [h], rfl⟩
  refine x_iload_n dX8_isUnder_0 rfl ?_
  refine x_if_eq (tgt := 11) dX8_isUnder_1 (by decide) (fun c_1 => ?_) (fun c_1 => ?_)
  · refine x_iconst (v := 1) dX8_isUnder_11 (by decide) ?_
    refine s_zret dX8_isUnder_12 rfl (by first | exact Or.inl rfl | exact Or.inr rfl | assumption) ?_
    refine key _ ?_
    clear key
    have hk4 : k = 0 ∨ k = 1 ∨ k = 2 ∨ k = 3 := by omega
    have ht5 : t = 0 ∨ t = 1 ∨ t = 2 ∨ t = 3 ∨ t = 4 := by omega
    rcases hk4 with rfl | rfl | rfl | rfl <;> rcases ht5 with rfl | rfl | rfl | rfl | rfl <;> first | rfl | exact absurd (by decide) c_1 | exact absurd c_1 (by decide) | exact absurd (by decide) c_8 | exact absurd c_8 (by decide) | exact absurd (by decide) c_15 | exact absurd c_15 (by decide) | exact absurd (by decide) c_20 | exact absurd c_20 (by decide) | exact absurd (by decide) c_25 | exact absurd c_25 (by decide)
  · refine x_iload_n dX8_isUnder_4 rfl ?_
    refine x_iload_n dX8_isUnder_5 rfl ?_
    refine x_iconst (v := 1) dX8_isUnder_6 (by decide) ?_
    refine x_iadd dX8_isUnder_7 ?_
    refine x_icmp_ne (tgt := 13) dX8_isUnder_8 (by decide) (fun c_8 => ?_) (fun c_8 => ?_)
    · refine x_iload_n dX8_isUnder_13 rfl ?_
      refine x_iconst (v := 1) dX8_isUnder_14 (by decide) ?_
      refine x_icmp_ne (tgt := 32) dX8_isUnder_15 (by decide) (fun c_15 => ?_) (fun c_15 => ?_)
      · refine x_iconst (v := 0) dX8_isUnder_32 (by decide) ?_
        refine s_zret dX8_isUnder_33 rfl (by first | exact Or.inl rfl | exact Or.inr rfl | assumption) ?_
        refine key _ ?_
        clear key
        have hk4 : k = 0 ∨ k = 1 ∨ k = 2 ∨ k = 3 := by omega
        have ht5 : t = 0 ∨ t = 1 ∨ t = 2 ∨ t = 3 ∨ t = 4 := by omega
        rcases hk4 with rfl | rfl | rfl | rfl <;> rcases ht5 with rfl | rfl | rfl | rfl | rfl <;> first | rfl | exact absurd (by decide) c_1 | exact absurd c_1 (by decide) | exact absurd (by decide) c_8 | exact absurd c_8 (by decide) | exact absurd (by decide) c_15 | exact absurd c_15 (by decide) | exact absurd (by decide) c_20 | exact absurd c_20 (by decide) | exact absurd (by decide) c_25 | exact absurd c_25 (by decide)
      · refine x_iload_n dX8_isUnder_18 rfl ?_
        refine x_iconst (v := 1) dX8_isUnder_19 (by decide) ?_
        refine x_icmp_eq (tgt := 28) dX8_isUnder_20 (by decide) (fun c_20 => ?_) (fun c_20 => ?_)
        · refine x_iconst (v := 1) dX8_isUnder_28 (by decide) ?_
          refine x_goto (tgt := 33) dX8_isUnder_29 (by decide) ?_
          refine s_zret dX8_isUnder_33 rfl (by first | exact Or.inl rfl | exact Or.inr rfl | assumption) ?_
          refine key _ ?_
          clear key
          have hk4 : k = 0 ∨ k = 1 ∨ k = 2 ∨ k = 3 := by omega
          have ht5 : t = 0 ∨ t = 1 ∨ t = 2 ∨ t = 3 ∨ t = 4 := by omega
          rcases hk4 with rfl | rfl | rfl | rfl <;> rcases ht5 with rfl | rfl | rfl | rfl | rfl <;> first | rfl | exact absurd (by decide) c_1 | exact absurd c_1 (by decide) | exact absurd (by decide) c_8 | exact absurd c_8 (by decide) | exact absurd (by decide) c_15 | exact absurd c_15 (by decide) | exact absurd (by decide) c_20 | exact absurd c_20 (by decide) | exact absurd (by decide) c_25 | exact absurd c_25 (by decide)
        · refine x_iload_n dX8_isUnder_23 rfl ?_
          refine x_iconst (v := 2) dX8_isUnder_24 (by decide) ?_
          refine x_icmp_ne (tgt := 32) dX8_isUnder_25 (by decide) (fun c_25 => ?_) (fun c_25 => ?_)
          · refine x_iconst (v := 0) dX8_isUnder_32 (by decide) ?_
            refine s_zret dX8_isUnder_33 rfl (by first | exact Or.inl rfl | exact Or.inr rfl | assumption) ?_
            refine key _ ?_
            clear key
            have hk4 : k = 0 ∨ k = 1 ∨ k = 2 ∨ k = 3 := by omega
            have ht5 : t = 0 ∨ t = 1 ∨ t = 2 ∨ t = 3 ∨ t = 4 := by omega
            rcases hk4 with rfl | rfl | rfl | rfl <;> rcases ht5 with rfl | rfl | rfl | rfl | rfl <;> first | rfl | exact absurd (by decide) c_1 | exact absurd c_1 (by decide) | exact absurd (by decide) c_8 | exact absurd c_8 (by decide) | exact absurd (by decide) c_15 | exact absurd c_15 (by decide) | exact absurd (by decide) c_20 | exact absurd c_20 (by decide) | exact absurd (by decide) c_25 | exact absurd c_25 (by decide)
          · refine x_iconst (v := 1) dX8_isUnder_28 (by decide) ?_
            refine x_goto (tgt := 33) dX8_isUnder_29 (by decide) ?_
            refine s_zret dX8_isUnder_33 rfl (by first | exact Or.inl rfl | exact Or.inr rfl | assumption) ?_
            refine key _ ?_
            clear key
            have hk4 : k = 0 ∨ k = 1 ∨ k = 2 ∨ k = 3 := by omega
            have ht5 : t = 0 ∨ t = 1 ∨ t = 2 ∨ t = 3 ∨ t = 4 := by omega
            rcases hk4 with rfl | rfl | rfl | rfl <;> rcases ht5 with rfl | rfl | rfl | rfl | rfl <;> first | rfl | exact absurd (by decide) c_1 | exact absurd c_1 (by decide) | exact absurd (by decide) c_8 | exact absurd c_8 (by decide) | exact absurd (by decide) c_15 | exact absurd c_15 (by decide) | exact absurd (by decide) c_20 | exact absurd c_20 (by decide) | exact absurd (by decide) c_25 | exact absurd c_25 (by decide)
    · refine x_iconst (v := 1) dX8_isUnder_11 (by decide) ?_
      refine s_zret dX8_isUnder_12 rfl (by first | exact Or.inl rfl | exact Or.inr rfl | assumption) ?_
      refine key _ ?_
      clear key
      have hk4 : k = 0 ∨ k = 1 ∨ k = 2 ∨ k = 3 := by omega
      have ht5 : t = 0 ∨ t = 1 ∨ t = 2 ∨ t = 3 ∨ t = 4 := by omega
      rcases hk4 with rfl | rfl | rfl | rfl <;> rcases ht5 with rfl | rfl | rfl | rfl | rfl <;> first | rfl | exact absurd (by decide) c_1 | exact absurd c_1 (by decide) | exact absurd (by decide) c_8 | exact absurd c_8 (by decide) | exact absurd (by decide) c_15 | exact absurd c_15 (by decide) | exact absurd (by decide) c_20 | exact absurd c_20 (by decide) | exact absurd (by decide) c_25 | exact absurd c_25 (by decide)
set_option maxRecDepth 100000 in
theorem k_isCarriedWith (σ : Sg) {n s set : Nat} (hb : σ 59 2 = nI n) (hn8 : n ≤ 8) (hset : set < 256) (p : PL) (o : MO) (hp : p.1 = n) (ho : moC n σ 15 = o) (hch : ∀ i, i < n → σ 60 i = chF p o.1 i) : Cm 2 YX8_isCarriedWith [.ref 0, .int (nI set), .int (nI s)] σ (fun v σ' => v = some (.int (bI (decide (caF p o 0 set (nI s) = nI s)))) ∧ ∀ c, c ≠ 61 → σ' c = σ c) := by
  refine Cm_of (by decide +kernel) (Nat.le_of_ble_eq_true rfl) ?_
  subst hp
  refine x_aload_n dX8_isCarriedWith_0 rfl ?_
  refine s_getr (ci := 8) (k := 8) (N := 10) (C := RX8) (T := TX8) dX8_isCarriedWith_1 lfX8_60 inX8 rfl (by decide) (rfl) rfl ?_
  refine x_aload_n dX8_isCarriedWith_4 rfl ?_
  refine s_getr (ci := 8) (k := 3) (N := 10) (C := RX8) (T := TX8) dX8_isCarriedWith_5 lfX8_29 inX8 rfl (by decide) (rfl) rfl ?_
  refine x_iload_n dX8_isCarriedWith_8 rfl ?_
  refine x_iload_n dX8_isCarriedWith_9 rfl ?_
  refine s_callV dX8_isCarriedWith_10 (k_tallyTurned (toward := nI s) (ch := chF p o.1) σ mo_15 hb hn8 hset hch) rfl w_X0_tallyTurned lmX8_251 im_X0_tallyTurned se_X0_tallyTurned rfl (rfl) rfl (Nat.le_of_ble_eq_true rfl) rfl (by decide) (fun v_10 σ_10 h_10 => ?_)
  obtain ⟨rfl, V, hV, rfl⟩ := h_10
  refine x_aload_n dX8_isCarriedWith_13 rfl ?_
  refine s_getr (ci := 8) (k := 8) (N := 10) (C := RX8) (T := TX8) dX8_isCarriedWith_14 lfX8_60 inX8 rfl (by decide) (rfl) rfl ?_
  refine s_callV dX8_isCarriedWith_17 (k_winner _ (n := p.1) (by rw [sw_n _ _ (by decide)]; exact hb) hn8) rfl w_X0_winner lmX8_244 im_X0_winner se_X0_winner rfl (rfl) rfl (Nat.le_of_ble_eq_true rfl) rfl (by decide) (fun v_17 σ_17 h_17 => ?_)
  obtain ⟨rfl, z⟩ := h_17
  have z := z.symm
  subst z
  have ew : (wnF (sw σ 61 V 61) p.1).1 = caF p o 0 set (nI s) := by
    rw [sw_s]
    unfold caF
    rw [wnF_congr p.1 hV, ← ho]
    rfl
  rw [ew]
  refine x_iload_n dX8_isCarriedWith_20 rfl ?_
  refine x_icmp_ne (tgt := 28) dX8_isCarriedWith_21 (by decide) (fun c_21 => ?_) (fun c_21 => ?_)
  · refine x_iconst (v := 0) dX8_isCarriedWith_28 (by decide) ?_
    exact s_zret dX8_isCarriedWith_29 rfl (by first | exact Or.inl rfl | exact Or.inr rfl | assumption) (by first | exact ⟨by rw [decide_eq_false c_21]; rfl, fun c h => sw_n _ _ h⟩ | exact ⟨by rw [decide_eq_true c_21]; rfl, fun c h => sw_n _ _ h⟩)
  · refine x_iconst (v := 1) dX8_isCarriedWith_24 (by decide) ?_
    refine x_goto (tgt := 29) dX8_isCarriedWith_25 (by decide) ?_
    exact s_zret dX8_isCarriedWith_29 rfl (by first | exact Or.inl rfl | exact Or.inr rfl | assumption) (by first | exact ⟨by rw [decide_eq_false c_21]; rfl, fun c h => sw_n _ _ h⟩ | exact ⟨by rw [decide_eq_true c_21]; rfl, fun c h => sw_n _ _ h⟩)
/-- the first N days go as was seen -/
def asF (p : PL) (o : MO) (pl ti : FN) (q : Nat) : Nat → Bool
  | 0 => true
  | k + 1 => asF p o pl ti q k && alF pl ti (caF p (itF p o k) 0 0 (-1)) (nI (k + 1)) q
theorem asF_no {p : PL} {o : MO} {pl ti : FN} {q k : Nat} (h : alF pl ti (caF p (itF p o k) 0 0 (-1)) (nI (k + 1)) q = false) : ∀ N, k < N → asF p o pl ti q N = false := by
  intro N
  induction N with
  | zero => intro h; omega
  | succ N ih =>
    intro hk
    unfold asF
    by_cases e : k = N
    · subst e; rw [h, Bool.and_false]
    · rw [ih (by omega), Bool.false_and]
set_option maxRecDepth 100000 in
theorem k_isAllSeen (σ : Sg) {n q last : Nat} (hn : σ 3 5 = nI n) (hn8 : n ≤ 8) (hq : σ 56 2 = nI q) (hq6 : q ≤ 6) (hlast : ldF (σ 58) q = nI last) (hl20 : last ≤ 20) : Cm 6 YX8_isAllSeenInTrial [.ref 0] σ (fun v σ' => v = some (.int (bI (asF (plC n σ) (moC n σ 18) (σ 57) (σ 58) q last))) ∧ ∀ c, c ≠ 18 → c ≠ 19 → c ≠ 20 → c ≠ 59 → c ≠ 60 → c ≠ 61 → σ' c = σ c) := by
  refine Cm_of (by decide +kernel) (Nat.le_of_ble_eq_true rfl) ?_
  have loop : ∀ (j k : Nat) (τ : Sg), k + j = last → moC n τ 18 = itF (plC n σ) (moC n σ 18) k → asF (plC n σ) (moC n σ 18) (σ 57) (σ 58) q k = true → (∀ c, c ≠ 18 → c ≠ 19 → c ≠ 20 → c ≠ 59 → c ≠ 60 → c ≠ 61 → τ c = σ c) →
      Ex (YX8_isAllSeenInTrial, 6, xB0, none) 10 [.ref 0, .int (nI last), .int (nI (k + 1))] [] (xMs τ) (xQ (fun v σ' => v = some (.int (bI (asF (plC n σ) (moC n σ 18) (σ 57) (σ 58) q last))) ∧ ∀ c, c ≠ 18 → c ≠ 19 → c ≠ 20 → c ≠ 59 → c ≠ 60 → c ≠ 61 → σ' c = σ c)) := by
    intro j
    induction j with
    | zero =>
      intro k τ hk h1 h2 h3
      obtain rfl : k = last := by omega
      refine x_iload_n dX8_isAllSeenInTrial_10 rfl ?_
      refine x_iload_n dX8_isAllSeenInTrial_11 rfl ?_
      refine x_icmp_gt (tgt := 42) dX8_isAllSeenInTrial_12 (by decide) (fun c_12 => ?_) (fun c_12 => (absurd (nI_lt (by omega) (by omega)) c_12))
      refine x_iconst (v := 1) dX8_isAllSeenInTrial_42 (by decide) ?_
      exact s_zret dX8_isAllSeenInTrial_43 rfl (by first | exact Or.inl rfl | exact Or.inr rfl | assumption) (by rw [h2]; exact ⟨rfl, h3⟩)
    | succ j ih =>
      intro k τ hk h1 h2 h3
      have hp : plC n τ = plC n σ := plC_fr (fun c a b => h3 c (by omega) (by omega) (by omega) (by omega) (by omega) (by omega))
      refine x_iload_n dX8_isAllSeenInTrial_10 rfl ?_
      refine x_iload_n dX8_isAllSeenInTrial_11 rfl ?_
      refine x_icmp_gt (tgt := 42) dX8_isAllSeenInTrial_12 (by decide) (fun c_12 => (absurd c_12 (nI_nlt (by omega) (by omega)))) (fun c_12 => ?_)
      refine x_aload_n dX8_isAllSeenInTrial_15 rfl ?_
      refine s_getr (ci := 8) (k := 7) (N := 10) (C := RX8) (T := TX8) dX8_isAllSeenInTrial_16 lfX8_53 inX8 rfl (by decide) (rfl) rfl ?_
      refine x_aload_n dX8_isAllSeenInTrial_19 rfl ?_
      refine x_aload_n dX8_isAllSeenInTrial_20 rfl ?_
      refine s_getr (ci := 8) (k := 4) (N := 10) (C := RX8) (T := TX8) dX8_isAllSeenInTrial_21 lfX8_33 inX8 rfl (by decide) (rfl) rfl ?_
      refine s_callV dX8_isAllSeenInTrial_24 (k_passDay τ mo_18 (n := n) (by rw [h3 3 (by decide) (by decide) (by decide) (by decide) (by decide) (by decide)]; exact hn) hn8) rfl w_X8_passDay lmX8_150 im_X8_passDay se_X8_passDay rfl (rfl) rfl (Nat.le_of_ble_eq_true rfl) rfl (by decide) (fun v_24 σ_24 h_24 => ?_)
      obtain ⟨rfl, hmo, hfr⟩ := h_24
      rw [hp, h1]
      refine x_iload_n dX8_isAllSeenInTrial_27 rfl ?_
      refine s_callV dX8_isAllSeenInTrial_28 (k_allow σ_24 (q := q) (by rw [hfr 56 (by decide) (by decide) (by decide) (by decide) (by decide) (by decide), h3 56 (by decide) (by decide) (by decide) (by decide) (by decide) (by decide)]; exact hq) hq6 _ _) rfl w_X6_allow lmX8_258 im_X6_allow se_X6_allow rfl (rfl) rfl (Nat.le_of_ble_eq_true rfl) rfl (by decide) (fun v_28 σ_28 h_28 => ?_)
      obtain ⟨rfl, z⟩ := h_28
      have z := z.symm
      subst z
      have e57 : σ_24 57 = σ 57 := by rw [hfr 57 (by decide) (by decide) (by decide) (by decide) (by decide) (by decide), h3 57 (by decide) (by decide) (by decide) (by decide) (by decide) (by decide)]
      have e58 : σ_24 58 = σ 58 := by rw [hfr 58 (by decide) (by decide) (by decide) (by decide) (by decide) (by decide), h3 58 (by decide) (by decide) (by decide) (by decide) (by decide) (by decide)]
      rw [e57, e58]
      have hfr2 : ∀ c, c ≠ 18 → c ≠ 19 → c ≠ 20 → c ≠ 59 → c ≠ 60 → c ≠ 61 → σ_24 c = σ c := fun c a1 a2 a3 a4 a5 a6 => by rw [hfr c a1 a2 a3 a4 a5 a6, h3 c a1 a2 a3 a4 a5 a6]
      refine x_if_ne (tgt := 36) dX8_isAllSeenInTrial_31 (by decide) (fun c_31 => ?_) (fun c_31 => ?_)
      · refine s_iinc dX8_isAllSeenInTrial_36 rfl (Nat.le_of_ble_eq_true rfl) rfl ?_
        refine x_goto (tgt := 10) dX8_isAllSeenInTrial_39 (by decide) ?_
        exact ih (k + 1) _ (by omega) (by rw [hmo, hp, h1]; rfl) (by unfold asF; rw [h2, bI_n c_31]; rfl) hfr2
      · refine x_iconst (v := 0) dX8_isAllSeenInTrial_34 (by decide) ?_
        exact s_zret dX8_isAllSeenInTrial_35 rfl (by first | exact Or.inl rfl | exact Or.inr rfl | assumption) (by rw [asF_no (bI_0.mp c_31) last (by omega)]; exact ⟨rfl, hfr2⟩)
  refine x_aload_n dX8_isAllSeenInTrial_0 rfl ?_
  refine s_getr (ci := 8) (k := 7) (N := 10) (C := RX8) (T := TX8) dX8_isAllSeenInTrial_1 lfX8_53 inX8 rfl (by decide) (rfl) rfl ?_
  refine s_callV dX8_isAllSeenInTrial_4 (k_lastDay σ hq hq6) rfl w_X6_lastDay lmX8_255 im_X6_lastDay se_X6_lastDay rfl (rfl) rfl (Nat.le_of_ble_eq_true rfl) rfl (by decide) (fun v_4 σ_4 h_4 => ?_)
  obtain ⟨rfl, z_4⟩ := h_4
  have z_4 := z_4.symm
  subst z_4
  rw [hlast]
  refine x_istore_n dX8_isAllSeenInTrial_7 (Nat.le_of_ble_eq_true rfl) rfl ?_
  refine x_iconst (v := 1) dX8_isAllSeenInTrial_8 (by decide) ?_
  refine x_istore_n dX8_isAllSeenInTrial_9 (Nat.le_of_ble_eq_true rfl) rfl ?_
  exact loop last 0 σ (by omega) rfl rfl (fun c _ _ _ _ _ _ => rfl)
/-- in how many of ten for each: of the first k streets just those in h are at home -/
def wtF (q h : Nat) : Nat → Nat
  | 0 => 1
  | k + 1 => wtF q h k * (if h.testBit k = true then q else 10 - q)
theorem wtF_le {q : Nat} (hq : q ≤ 10) (h : Nat) : ∀ k, wtF q h k ≤ 10 ^ k := by
  intro k
  induction k with
  | zero => exact Nat.le_refl _
  | succ k ih =>
    unfold wtF
    rw [Nat.pow_succ]
    refine Nat.mul_le_mul ih ?_
    split <;> omega
end
section
/-! ===== chances ===== -/
theorem q10 {q : Nat} (h : q ≤ 10) : (10 : Int32) - nI q = nI (10 - q) := by
  have := pk_sub (a := 10) (b := q) h
  exact this
theorem wtF_s (q h k : Nat) : wtF q h (k + 1) = wtF q h k * (if h.testBit k = true then q else 10 - q) := rfl
set_option maxRecDepth 100000 in
theorem k_weightOf (σ : Sg) {n q h : Nat} (hn : σ 3 5 = nI n) (hn8 : n ≤ 8) (hq : q ≤ 10) (hh : h < 256) : Cm 0 YX8_weightOf [.ref 0, .int (nI h), .int (nI q)] σ (fun v σ' => v = some (.long (lN (wtF q h n))) ∧ σ' = σ) := by
  refine Cm_of (by decide +kernel) (Nat.le_of_ble_eq_true rfl) ?_
  have loop : ∀ (j k : Nat), k + j = n → Ex (YX8_weightOf, 0, xB0, none) 5 [.ref 0, .int (nI h), .int (nI q), .long (lN (wtF q h k)), .null, .int (nI k)] [] (xMs σ) (xQ (fun v σ' => v = some (.long (lN (wtF q h n))) ∧ σ' = σ)) := by
    intro j
    induction j with
    | zero =>
      intro k hk
      obtain rfl : k = n := by omega
      refine x_iload dX8_weightOf_5 rfl ?_
      refine x_aload_n dX8_weightOf_7 rfl ?_
      refine s_getr (ci := 8) (k := 1) (N := 10) (C := RX8) (T := TX8) dX8_weightOf_8 lfX8_19 inX8 rfl (by decide) (rfl) rfl ?_
      refine s_getiN (ci := 3) (k := 5) (N := 8) (C := RX3) (T := TX3) dX8_weightOf_11 lfX8_187 inX3 rfl (by decide) (rfl) rfl ?_
      refine x_icmp_ge (tgt := 45) dX8_weightOf_14 (by decide) (fun c_14 => ?_) (fun c_14 => (absurd (by rw [hn]; exact Int32.le_refl _) c_14))
      refine x_lload_n dX8_weightOf_45 rfl ?_
      exact s_lret dX8_weightOf_46 rfl (⟨rfl, rfl⟩)
    | succ j ih =>
      intro k hk
      have hkn : k < n := by omega
      have step : ∀ x : Int64, x = lN (wtF q h (k + 1)) → Ex (YX8_weightOf, 0, xB0, none) 5 [.ref 0, .int (nI h), .int (nI q), .long x, .null, .int (nI (k + 1))] [] (xMs σ) (xQ (fun v σ' => v = some (.long (lN (wtF q h n))) ∧ σ' = σ)) := fun x hx => by
        subst hx
        exact ih (k + 1) (by omega)
      have bt := bz_bit (a := h) (k := k) (by omega) (by omega)
      refine x_iload dX8_weightOf_5 rfl ?_
      refine x_aload_n dX8_weightOf_7 rfl ?_
      refine s_getr (ci := 8) (k := 1) (N := 10) (C := RX8) (T := TX8) dX8_weightOf_8 lfX8_19 inX8 rfl (by decide) (rfl) rfl ?_
      refine s_getiN (ci := 3) (k := 5) (N := 8) (C := RX3) (T := TX3) dX8_weightOf_11 lfX8_187 inX3 rfl (by decide) (rfl) rfl ?_
      refine x_icmp_ge (tgt := 45) dX8_weightOf_14 (by decide) (fun c_14 => (absurd c_14 (by rw [hn]; exact nI_ge hkn (by omega)))) (fun c_14 => ?_)
      refine x_lload_n dX8_weightOf_17 rfl ?_
      refine x_iload_n dX8_weightOf_18 rfl ?_
      refine x_iload dX8_weightOf_19 rfl ?_
      refine x_ishr dX8_weightOf_21 ?_
      refine x_iconst (v := 1) dX8_weightOf_22 (by decide) ?_
      refine x_iand dX8_weightOf_23 ?_
      rw [bt]
      refine x_if_eq (tgt := 32) dX8_weightOf_24 (by decide) (fun c_24 => ?_) (fun c_24 => ?_)
      · refine x_bipush (v := 10) dX8_weightOf_32 (by decide) ?_
        refine x_iload_n dX8_weightOf_34 rfl ?_
        refine x_isub dX8_weightOf_35 ?_
        refine x_i2l dX8_weightOf_36 ?_
        refine x_lmul dX8_weightOf_37 ?_
        refine x_lstore_n dX8_weightOf_38 (Nat.le_of_ble_eq_true rfl) rfl ?_
        refine s_iinc dX8_weightOf_39 rfl (Nat.le_of_ble_eq_true rfl) rfl ?_
        refine x_goto (tgt := 5) dX8_weightOf_42 (by decide) ?_
        first
          | exact step _ (by rw [nI_l (by omega), lN_mul, wtF_s, if_pos (bI_n c_24)])
          | exact step _ (by rw [q10 hq, nI_l (by omega), lN_mul, wtF_s, if_neg (fun z => by rw [z] at c_24; exact absurd c_24 (by decide))])
      · refine x_iload_n dX8_weightOf_27 rfl ?_
        refine x_i2l dX8_weightOf_28 ?_
        refine x_goto (tgt := 37) dX8_weightOf_29 (by decide) ?_
        refine x_lmul dX8_weightOf_37 ?_
        refine x_lstore_n dX8_weightOf_38 (Nat.le_of_ble_eq_true rfl) rfl ?_
        refine s_iinc dX8_weightOf_39 rfl (Nat.le_of_ble_eq_true rfl) rfl ?_
        refine x_goto (tgt := 5) dX8_weightOf_42 (by decide) ?_
        first
          | exact step _ (by rw [nI_l (by omega), lN_mul, wtF_s, if_pos (bI_n c_24)])
          | exact step _ (by rw [q10 hq, nI_l (by omega), lN_mul, wtF_s, if_neg (fun z => by rw [z] at c_24; exact absurd c_24 (by decide))])
  refine x_lconst (v := 1) dX8_weightOf_0 (by decide) ?_
  refine x_lstore_n dX8_weightOf_1 (Nat.le_of_ble_eq_true rfl) rfl ?_
  refine x_iconst (v := 0) dX8_weightOf_2 (by decide) ?_
  refine x_istore dX8_weightOf_3 (Nat.le_of_ble_eq_true rfl) rfl ?_
  exact loop n 0 (by omega)
/-- of the first N sets at home: how often just that street carries it -/
def suF (p : PL) (o : MO) (s : Int32) (q : Nat) : Nat → Nat
  | 0 => 0
  | h + 1 => suF p o s q h + (if caF p o h 0 (-1) = s then wtF q h p.1 else 0)
theorem suF_s (p : PL) (o : MO) (s : Int32) (q h : Nat) : suF p o s q (h + 1) = suF p o s q h + (if caF p o h 0 (-1) = s then wtF q h p.1 else 0) := rfl
theorem moC_61 (n : Nat) (σ : Sg) (V : FN) : moC n (sw σ 61 V) 15 = moC n σ 15 := rfl
set_option maxRecDepth 100000 in
set_option maxHeartbeats 1000000 in
theorem k_weightOfCarried (σ : Sg) {n q : Nat} (s : Int32) (hn : σ 3 5 = nI n) (hn8 : n ≤ 8) (hq : q ≤ 10) : Cm 4 YX8_weightOfCarried [.ref 0, .int s, .int (nI q)] σ (fun v σ' => v = some (.long (lN (suF (plC n σ) (moC n σ 15) s q (2 ^ n)))) ∧ ∀ c, c ≠ 59 → c ≠ 60 → c ≠ 61 → σ' c = σ c) := by
  refine Cm_of (by decide +kernel) (Nat.le_of_ble_eq_true rfl) ?_
  have hp256 : 2 ^ n ≤ 256 := Nat.pow_le_pow_right (by decide) hn8
  have e1n : (1 : Int32) <<< (nI n &&& 31) = nI (2 ^ n) := bz_shl (by omega)
  have loop : ∀ (j h : Nat) (τ : Sg), h + j = 2 ^ n → (τ 59 2 = nI n ∧ (∀ i, i < n → τ 60 i = chF (plC n σ) (moC n σ 15).1 i) ∧ ∀ c, c ≠ 59 → c ≠ 60 → c ≠ 61 → τ c = σ c) → Ex (YX8_weightOfCarried, 4, xB0, none) 20 [.ref 0, .int s, .int (nI q), .long (lN (suF (plC n σ) (moC n σ 15) s q h)), .null, .int (nI h)] [] (xMs τ) (xQ (fun v σ' => v = some (.long (lN (suF (plC n σ) (moC n σ 15) s q (2 ^ n)))) ∧ ∀ c, c ≠ 59 → c ≠ 60 → c ≠ 61 → σ' c = σ c)) := by
    intro j
    induction j with
    | zero =>
      intro h τ hh hI
      obtain rfl : h = 2 ^ n := by omega
      have hn' : τ 3 5 = nI n := by rw [hI.2.2 3 (by decide) (by decide) (by decide)]; exact hn
      refine x_iload dX8_weightOfCarried_20 rfl ?_
      refine x_iconst (v := 1) dX8_weightOfCarried_22 (by decide) ?_
      refine x_aload_n dX8_weightOfCarried_23 rfl ?_
      refine s_getr (ci := 8) (k := 1) (N := 10) (C := RX8) (T := TX8) dX8_weightOfCarried_24 lfX8_19 inX8 rfl (by decide) (rfl) rfl ?_
      refine s_getiN (ci := 3) (k := 5) (N := 8) (C := RX3) (T := TX3) dX8_weightOfCarried_27 lfX8_187 inX3 rfl (by decide) (rfl) rfl ?_
      refine x_ishl dX8_weightOfCarried_30 ?_
      rw [hn', e1n]
      refine x_icmp_ge (tgt := 74) dX8_weightOfCarried_31 (by decide) (fun c_31 => ?_) (fun c_31 => (absurd (Int32.le_refl _) c_31))
      refine x_lload_n dX8_weightOfCarried_74 rfl ?_
      exact s_lret dX8_weightOfCarried_75 rfl (⟨rfl, hI.2.2⟩)
    | succ j ih =>
      intro h τ hh hI
      have hkn : h < 2 ^ n := by omega
      have hn' : τ 3 5 = nI n := by rw [hI.2.2 3 (by decide) (by decide) (by decide)]; exact hn
      have hmo : moC n τ 15 = moC n σ 15 := moC_fr (fun c a b => hI.2.2 c (by omega) (by omega) (by omega))
      have step : ∀ (x : Int64) (V : FN), x = lN (suF (plC n σ) (moC n σ 15) s q (h + 1)) → Ex (YX8_weightOfCarried, 4, xB0, none) 20 [.ref 0, .int s, .int (nI q), .long x, .null, .int (nI (h + 1))] [] (xMs (sw τ 61 V)) (xQ (fun v σ' => v = some (.long (lN (suF (plC n σ) (moC n σ 15) s q (2 ^ n)))) ∧ ∀ c, c ≠ 59 → c ≠ 60 → c ≠ 61 → σ' c = σ c)) := fun x V hx => by
        subst hx
        exact ih (h + 1) _ (by omega) ⟨by rw [sw_n _ _ (by decide)]; exact hI.1, fun i hi => by rw [sw_n _ _ (by decide)]; exact hI.2.1 i hi, fun c a b d => by rw [sw_n _ _ d]; exact hI.2.2 c a b d⟩
      refine x_iload dX8_weightOfCarried_20 rfl ?_
      refine x_iconst (v := 1) dX8_weightOfCarried_22 (by decide) ?_
      refine x_aload_n dX8_weightOfCarried_23 rfl ?_
      refine s_getr (ci := 8) (k := 1) (N := 10) (C := RX8) (T := TX8) dX8_weightOfCarried_24 lfX8_19 inX8 rfl (by decide) (rfl) rfl ?_
      refine s_getiN (ci := 3) (k := 5) (N := 8) (C := RX3) (T := TX3) dX8_weightOfCarried_27 lfX8_187 inX3 rfl (by decide) (rfl) rfl ?_
      refine x_ishl dX8_weightOfCarried_30 ?_
      rw [hn', e1n]
      refine x_icmp_ge (tgt := 74) dX8_weightOfCarried_31 (by decide) (fun c_31 => (absurd c_31 (nI_ge hkn (by omega)))) (fun c_31 => ?_)
      refine x_aload_n dX8_weightOfCarried_34 rfl ?_
      refine s_getr (ci := 8) (k := 8) (N := 10) (C := RX8) (T := TX8) dX8_weightOfCarried_35 lfX8_60 inX8 rfl (by decide) (rfl) rfl ?_
      refine x_aload_n dX8_weightOfCarried_38 rfl ?_
      refine s_getr (ci := 8) (k := 3) (N := 10) (C := RX8) (T := TX8) dX8_weightOfCarried_39 lfX8_29 inX8 rfl (by decide) (rfl) rfl ?_
      refine x_iload dX8_weightOfCarried_42 rfl ?_
      refine s_callV dX8_weightOfCarried_44 (k_tally (home := h) (ch := chF (plC n σ) (moC n σ 15).1) τ mo_15 hI.1 hn8 (by omega) hI.2.1) rfl w_X0_tally lmX8_128 im_X0_tally se_X0_tally rfl (rfl) rfl (Nat.le_of_ble_eq_true rfl) rfl (by decide) (fun v_44 σ_44 h_44 => ?_)
      obtain ⟨rfl, V, hV, rfl⟩ := h_44
      refine x_aload_n dX8_weightOfCarried_47 rfl ?_
      refine s_getr (ci := 8) (k := 8) (N := 10) (C := RX8) (T := TX8) dX8_weightOfCarried_48 lfX8_60 inX8 rfl (by decide) (rfl) rfl ?_
      refine s_callV dX8_weightOfCarried_51 (k_winner _ (n := n) (by rw [sw_n _ _ (by decide)]; exact hI.1) hn8) rfl w_X0_winner lmX8_244 im_X0_winner se_X0_winner rfl (rfl) rfl (Nat.le_of_ble_eq_true rfl) rfl (by decide) (fun v_51 σ_51 h_51 => ?_)
      obtain ⟨rfl, z⟩ := h_51
      have z := z.symm
      subst z
      have ew : (wnF (sw τ 61 V 61) n).1 = caF (plC n σ) (moC n σ 15) h 0 (-1) := by
        rw [sw_s]
        unfold caF
        rw [wnF_congr n hV, ← hmo]
        rfl
      rw [ew]
      refine x_iload_n dX8_weightOfCarried_54 rfl ?_
      refine x_icmp_ne (tgt := 68) dX8_weightOfCarried_55 (by decide) (fun c_55 => ?_) (fun c_55 => ?_)
      · refine s_iinc dX8_weightOfCarried_68 rfl (Nat.le_of_ble_eq_true rfl) rfl ?_
        refine x_goto (tgt := 20) dX8_weightOfCarried_71 (by decide) ?_
        first
          | exact step _ V (by rw [suF_s, if_neg c_55, Nat.add_zero])
          | exact step _ V (by rw [suF_s, if_pos c_55, lN_add]; rfl)
      · refine x_lload_n dX8_weightOfCarried_58 rfl ?_
        refine x_aload_n dX8_weightOfCarried_59 rfl ?_
        refine x_iload dX8_weightOfCarried_60 rfl ?_
        refine x_iload_n dX8_weightOfCarried_62 rfl ?_
        refine s_callV dX8_weightOfCarried_63 (k_weightOf _ (h := h) (q := q) (n := n) (by rw [sw_n _ _ (by decide)]; exact hn') hn8 hq (by omega)) rfl w_X8_weightOf lmX8_224 im_X8_weightOf se_X8_weightOf rfl (rfl) rfl (Nat.le_of_ble_eq_true rfl) rfl (by decide) (fun v_63 σ_63 h_63 => ?_)
        obtain ⟨rfl, z_63⟩ := h_63
        have z_63 := z_63.symm
        subst z_63
        refine x_ladd dX8_weightOfCarried_66 ?_
        refine x_lstore_n dX8_weightOfCarried_67 (Nat.le_of_ble_eq_true rfl) rfl ?_
        refine s_iinc dX8_weightOfCarried_68 rfl (Nat.le_of_ble_eq_true rfl) rfl ?_
        refine x_goto (tgt := 20) dX8_weightOfCarried_71 (by decide) ?_
        first
          | exact step _ V (by rw [suF_s, if_neg c_55, Nat.add_zero])
          | exact step _ V (by rw [suF_s, if_pos c_55, lN_add]; rfl)
  refine x_lconst (v := 0) dX8_weightOfCarried_0 (by decide) ?_
  refine x_lstore_n dX8_weightOfCarried_1 (Nat.le_of_ble_eq_true rfl) rfl ?_
  refine x_aload_n dX8_weightOfCarried_2 rfl ?_
  refine s_getr (ci := 8) (k := 8) (N := 10) (C := RX8) (T := TX8) dX8_weightOfCarried_3 lfX8_60 inX8 rfl (by decide) (rfl) rfl ?_
  refine x_aload_n dX8_weightOfCarried_6 rfl ?_
  refine s_getr (ci := 8) (k := 1) (N := 10) (C := RX8) (T := TX8) dX8_weightOfCarried_7 lfX8_19 inX8 rfl (by decide) (rfl) rfl ?_
  refine x_aload_n dX8_weightOfCarried_10 rfl ?_
  refine s_getr (ci := 8) (k := 3) (N := 10) (C := RX8) (T := TX8) dX8_weightOfCarried_11 lfX8_29 inX8 rfl (by decide) (rfl) rfl ?_
  refine s_callV dX8_weightOfCarried_14 (k_choose σ mo_15 hn hn8) rfl w_X0_choose lmX8_124 im_X0_choose se_X0_choose rfl (rfl) rfl (Nat.le_of_ble_eq_true rfl) rfl (by decide) (fun v_14 σ_14 h_14 => ?_)
  obtain ⟨rfl, C, hC, rfl⟩ := h_14
  refine x_iconst (v := 0) dX8_weightOfCarried_17 (by decide) ?_
  refine x_istore dX8_weightOfCarried_18 (Nat.le_of_ble_eq_true rfl) rfl ?_
  exact loop (2 ^ n) 0 _ (by omega) ⟨by rw [sw_n _ _ (by decide), sg_s], fun i hi => by rw [sw_s]; exact hC i hi, fun c a b d => by rw [sw_n _ _ b, sg_n _ _ _ a]⟩
/-- Euclid, so many steps -/
def euF : Nat → Nat → Nat → Nat
  | 0, a, _ => a
  | f + 1, a, b => if b = 0 then a else euF f b (a % b)
theorem euF_gcd : ∀ (k f a b : Nat), b < 2 ^ k → 2 * k + 1 ≤ f → euF f a b = Nat.gcd b a := by
  intro k
  induction k with
  | zero =>
    intro f a b hb hf
    obtain rfl : b = 0 := by simpa using hb
    obtain ⟨g, rfl⟩ : ∃ g, f = g + 1 := ⟨f - 1, by omega⟩
    simp [euF]
  | succ k ih =>
    intro f a b hb hf
    obtain ⟨g, rfl⟩ : ∃ g, f = g + 2 := ⟨f - 2, by omega⟩
    by_cases h0 : b = 0
    · subst h0; simp [euF]
    · have h1 : a % b < b := Nat.mod_lt _ (by omega)
      rw [euF, if_neg h0, euF, Nat.gcd_rec]
      by_cases h2 : a % b = 0
      · rw [if_pos h2, h2, Nat.gcd_zero_left]
      · rw [if_neg h2, ih g _ _ ?_ (by omega), ← Nat.gcd_rec]
        have h3 : b % (a % b) < a % b := Nat.mod_lt _ (by omega)
        have h5 : b % (a % b) = (b - a % b) % (a % b) := Nat.mod_eq_sub_mod (by omega)
        have h6 : (b - a % b) % (a % b) ≤ b - a % b := Nat.mod_le _ _
        have : 2 ^ (k + 1) = 2 ^ k * 2 := Nat.pow_succ 2 k
        omega
theorem lcmp_0 {b : Nat} (hb : b < 2 ^ 31) : lg_cmp (lN b) 0 = 0 ↔ b = 0 := by
  unfold lg_cmp
  constructor
  · intro h
    rcases Nat.eq_zero_or_pos b with q | q
    · exact q
    · rw [if_pos (show lN b > 0 from (pk_lLT (a := 0) (b := b) (by omega) (by omega)).mpr q)] at h
      exact absurd h (by decide)
  · rintro rfl
    decide
set_option maxRecDepth 100000 in
theorem k_commonDivisor (σ : Sg) {a b : Nat} (ha : a < 2 ^ 30) (hb : b < 2 ^ 30) : Cm 0 YX8_commonDivisor [.long (lN a), .long (lN b)] σ (fun v σ' => v = some (.long (lN (Nat.gcd b a))) ∧ σ' = σ) := by
  refine Cm_of (by decide +kernel) (Nat.le_of_ble_eq_true rfl) ?_
  rw [← euF_gcd 30 100 a b hb (by omega)]
  have loop : ∀ (f a1 b1 : Nat) (V9 V10 : Value), f ≤ 100 → a1 < 2 ^ 30 → b1 < 2 ^ 30 → euF f a1 b1 = euF 100 a b → Ex (YX8_commonDivisor, 0, xB0, none) 9 [.long (lN a), .null, .long (lN b), .null, .long (lN a1), .null, .long (lN b1), .null, .int (nI (100 - f)), V9, V10] [] (xMs σ) (xQ (fun v σ' => v = some (.long (lN (euF 100 a b))) ∧ σ' = σ)) := by
    intro f
    induction f with
    | zero =>
      intro a1 b1 V9 V10 hf h1 h2 he
      refine x_iload dX8_commonDivisor_9 rfl ?_
      refine x_bipush (v := 100) dX8_commonDivisor_11 (by decide) ?_
      refine x_icmp_ge (tgt := 44) dX8_commonDivisor_13 (by decide) (fun c_13 => ?_) (fun c_13 => (absurd (by decide) c_13))
      refine x_lload dX8_commonDivisor_44 rfl ?_
      exact s_lret dX8_commonDivisor_46 rfl (by rw [← he]; exact ⟨rfl, rfl⟩)
    | succ f ih =>
      intro a1 b1 V9 V10 hf h1 h2 he
      refine x_iload dX8_commonDivisor_9 rfl ?_
      refine x_bipush (v := 100) dX8_commonDivisor_11 (by decide) ?_
      refine x_icmp_ge (tgt := 44) dX8_commonDivisor_13 (by decide) (fun c_13 => (absurd c_13 (show ¬ nI 100 ≤ nI (100 - (f + 1)) from nI_ge (by omega) (by decide)))) (fun c_13 => ?_)
      refine x_lload dX8_commonDivisor_16 rfl ?_
      refine x_lconst (v := 0) dX8_commonDivisor_18 (by decide) ?_
      refine x_lcmp dX8_commonDivisor_19 ?_
      refine x_if_eq (tgt := 44) dX8_commonDivisor_20 (by decide) (fun c_20 => ?_) (fun c_20 => ?_)
      · refine x_lload dX8_commonDivisor_44 rfl ?_
        exact s_lret dX8_commonDivisor_46 rfl (by rw [← he, show b1 = 0 from (lcmp_0 (by omega)).mp c_20]; exact ⟨rfl, rfl⟩)
      · refine x_lload dX8_commonDivisor_23 rfl ?_
        refine x_lload dX8_commonDivisor_25 rfl ?_
        refine x_lrem dX8_commonDivisor_27 (fun z => c_20 ((lcmp_0 (by omega)).mpr ((pk_lEQ (a := b1) (b := 0) (by omega) (by omega)).mp z))) ?_
        refine x_lstore dX8_commonDivisor_28 (Nat.le_of_ble_eq_true rfl) rfl ?_
        refine x_lload dX8_commonDivisor_30 rfl ?_
        refine x_lstore dX8_commonDivisor_32 (Nat.le_of_ble_eq_true rfl) rfl ?_
        refine x_lload dX8_commonDivisor_34 rfl ?_
        refine x_lstore dX8_commonDivisor_36 (Nat.le_of_ble_eq_true rfl) rfl ?_
        refine s_iinc dX8_commonDivisor_38 rfl (Nat.le_of_ble_eq_true rfl) rfl ?_
        refine x_goto (tgt := 9) dX8_commonDivisor_41 (by decide) ?_
        have hb0 : ¬ b1 = 0 := fun z => c_20 ((lcmp_0 (by omega)).mpr z)
        rw [pk_lRem (by omega) (by omega) (by omega)]
        rw [show 100 - f = 100 - (f + 1) + 1 by omega] at ih
        exact ih b1 (a1 % b1) _ _ (by omega) h2 (Nat.lt_trans (Nat.mod_lt _ (by omega)) h2) (by rw [← he, euF, if_neg hb0])
  refine x_lload_n dX8_commonDivisor_0 rfl ?_
  refine x_lstore dX8_commonDivisor_1 (Nat.le_of_ble_eq_true rfl) rfl ?_
  refine x_lload_n dX8_commonDivisor_3 rfl ?_
  refine x_lstore dX8_commonDivisor_4 (Nat.le_of_ble_eq_true rfl) rfl ?_
  refine x_iconst (v := 0) dX8_commonDivisor_6 (by decide) ?_
  refine x_istore dX8_commonDivisor_7 (Nat.le_of_ble_eq_true rfl) rfl ?_
  exact loop 100 a b _ _ (by omega) ha hb rfl
end
