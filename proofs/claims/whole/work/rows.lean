section
-- ===== PART A: goes FIRST, ahead of the names: the tables' words, and 'selects' of the private methods out of them =====
/-- a private method of a class that the tables say can be made, by its rows of tables_1 -/
def lw_okq (q : MethodName × Nat) : Prop := (q.1.cls ≠ "java/lang/invoke/MethodHandle" ∧ q.1.cls ≠ "java/lang/invoke/VarHandle") ∧ Cond.instantiable q.1.cls q.2 ∈ tables_1 ∧ Cond.privateMethod q.1 ∈ tables_1 ∧ Cond.instanceMethod q.1 ∈ tables_1
theorem lw_p0 : lw_okq (⟨"StratumCounts$Strata", "add", "(I)I"⟩, 4) := ⟨⟨by decide +kernel, by decide +kernel⟩, List.mem_of_getElem? (i := 24) (by decide +kernel), List.mem_of_getElem? (i := 243) (by decide +kernel), List.mem_of_getElem? (i := 244) (by decide +kernel)⟩
theorem lw_p1 : lw_okq (⟨"StratumCounts$Strata", "setCost", "(IJ)Z"⟩, 4) := ⟨⟨by decide +kernel, by decide +kernel⟩, List.mem_of_getElem? (i := 24) (by decide +kernel), List.mem_of_getElem? (i := 251) (by decide +kernel), List.mem_of_getElem? (i := 252) (by decide +kernel)⟩
theorem lw_p2 : lw_okq (⟨"StratumCounts$Strata", "stands", "(I)Z"⟩, 4) := ⟨⟨by decide +kernel, by decide +kernel⟩, List.mem_of_getElem? (i := 24) (by decide +kernel), List.mem_of_getElem? (i := 255) (by decide +kernel), List.mem_of_getElem? (i := 256) (by decide +kernel)⟩
theorem lw_p3 : lw_okq (⟨"StratumCounts$Strata", "has", "(I)Z"⟩, 4) := ⟨⟨by decide +kernel, by decide +kernel⟩, List.mem_of_getElem? (i := 24) (by decide +kernel), List.mem_of_getElem? (i := 259) (by decide +kernel), List.mem_of_getElem? (i := 260) (by decide +kernel)⟩
theorem lw_p4 : lw_okq (⟨"StratumCounts$Bags", "add", "(I)I"⟩, 5) := ⟨⟨by decide +kernel, by decide +kernel⟩, List.mem_of_getElem? (i := 49) (by decide +kernel), List.mem_of_getElem? (i := 269) (by decide +kernel), List.mem_of_getElem? (i := 270) (by decide +kernel)⟩
theorem lw_p5 : lw_okq (⟨"StratumCounts$Bags", "setGrams", "(IIJ)Z"⟩, 5) := ⟨⟨by decide +kernel, by decide +kernel⟩, List.mem_of_getElem? (i := 49) (by decide +kernel), List.mem_of_getElem? (i := 277) (by decide +kernel), List.mem_of_getElem? (i := 278) (by decide +kernel)⟩
theorem lw_p6 : lw_okq (⟨"StratumCounts$Bags", "has", "(I)Z"⟩, 5) := ⟨⟨by decide +kernel, by decide +kernel⟩, List.mem_of_getElem? (i := 49) (by decide +kernel), List.mem_of_getElem? (i := 281) (by decide +kernel), List.mem_of_getElem? (i := 282) (by decide +kernel)⟩
theorem lw_p7 : lw_okq (⟨"StratumCounts$Bags", "setYear", "(II)Z"⟩, 5) := ⟨⟨by decide +kernel, by decide +kernel⟩, List.mem_of_getElem? (i := 49) (by decide +kernel), List.mem_of_getElem? (i := 296) (by decide +kernel), List.mem_of_getElem? (i := 297) (by decide +kernel)⟩
theorem lw_p8 : lw_okq (⟨"StratumCounts$Bags", "lose", "(I)Z"⟩, 5) := ⟨⟨by decide +kernel, by decide +kernel⟩, List.mem_of_getElem? (i := 49) (by decide +kernel), List.mem_of_getElem? (i := 304) (by decide +kernel), List.mem_of_getElem? (i := 305) (by decide +kernel)⟩
theorem lw_p9 : lw_okq (⟨"StratumCounts$Draws", "take", "(III)I"⟩, 3) := ⟨⟨by decide +kernel, by decide +kernel⟩, List.mem_of_getElem? (i := 77) (by decide +kernel), List.mem_of_getElem? (i := 312) (by decide +kernel), List.mem_of_getElem? (i := 313) (by decide +kernel)⟩
theorem lw_p10 : lw_okq (⟨"StratumCounts$Draws", "nextBelow", "(I)I"⟩, 3) := ⟨⟨by decide +kernel, by decide +kernel⟩, List.mem_of_getElem? (i := 77) (by decide +kernel), List.mem_of_getElem? (i := 316) (by decide +kernel), List.mem_of_getElem? (i := 317) (by decide +kernel)⟩
theorem lw_p11 : lw_okq (⟨"StratumCounts$Draws", "swap", "(II)V"⟩, 3) := ⟨⟨by decide +kernel, by decide +kernel⟩, List.mem_of_getElem? (i := 77) (by decide +kernel), List.mem_of_getElem? (i := 322) (by decide +kernel), List.mem_of_getElem? (i := 323) (by decide +kernel)⟩
theorem lw_p12 : lw_okq (⟨"StratumCounts$Draws", "taken", "(II)I"⟩, 3) := ⟨⟨by decide +kernel, by decide +kernel⟩, List.mem_of_getElem? (i := 77) (by decide +kernel), List.mem_of_getElem? (i := 331) (by decide +kernel), List.mem_of_getElem? (i := 332) (by decide +kernel)⟩
theorem lw_p13 : lw_okq (⟨"StratumCounts$Figures", "gather", "(LStratumCounts$Strata;LStratumCounts$Bags;I)V"⟩, 7) := ⟨⟨by decide +kernel, by decide +kernel⟩, List.mem_of_getElem? (i := 112) (by decide +kernel), List.mem_of_getElem? (i := 344) (by decide +kernel), List.mem_of_getElem? (i := 345) (by decide +kernel)⟩
theorem lw_p14 : lw_okq (⟨"StratumCounts$Figures", "gatherOne", "(ILStratumCounts$Bags;I)V"⟩, 7) := ⟨⟨by decide +kernel, by decide +kernel⟩, List.mem_of_getElem? (i := 112) (by decide +kernel), List.mem_of_getElem? (i := 348) (by decide +kernel), List.mem_of_getElem? (i := 349) (by decide +kernel)⟩
theorem lw_p15 : lw_okq (⟨"StratumCounts$Bags", "gramsOf", "(II)J"⟩, 5) := ⟨⟨by decide +kernel, by decide +kernel⟩, List.mem_of_getElem? (i := 49) (by decide +kernel), List.mem_of_getElem? (i := 352) (by decide +kernel), List.mem_of_getElem? (i := 353) (by decide +kernel)⟩
def lw_privs_1 : List (MethodName × Nat) := [(⟨"StratumCounts$Strata", "add", "(I)I"⟩, 4), (⟨"StratumCounts$Strata", "setCost", "(IJ)Z"⟩, 4), (⟨"StratumCounts$Strata", "stands", "(I)Z"⟩, 4), (⟨"StratumCounts$Strata", "has", "(I)Z"⟩, 4), (⟨"StratumCounts$Bags", "add", "(I)I"⟩, 5), (⟨"StratumCounts$Bags", "setGrams", "(IIJ)Z"⟩, 5), (⟨"StratumCounts$Bags", "has", "(I)Z"⟩, 5), (⟨"StratumCounts$Bags", "setYear", "(II)Z"⟩, 5), (⟨"StratumCounts$Bags", "lose", "(I)Z"⟩, 5), (⟨"StratumCounts$Draws", "take", "(III)I"⟩, 3), (⟨"StratumCounts$Draws", "nextBelow", "(I)I"⟩, 3), (⟨"StratumCounts$Draws", "swap", "(II)V"⟩, 3), (⟨"StratumCounts$Draws", "taken", "(II)I"⟩, 3), (⟨"StratumCounts$Figures", "gather", "(LStratumCounts$Strata;LStratumCounts$Bags;I)V"⟩, 7), (⟨"StratumCounts$Figures", "gatherOne", "(ILStratumCounts$Bags;I)V"⟩, 7), (⟨"StratumCounts$Bags", "gramsOf", "(II)J"⟩, 5)]
theorem lw_r1 : ∀ q ∈ lw_privs_1, lw_okq q := List.forall_mem_cons.mpr ⟨lw_p0, List.forall_mem_cons.mpr ⟨lw_p1, List.forall_mem_cons.mpr ⟨lw_p2, List.forall_mem_cons.mpr ⟨lw_p3, List.forall_mem_cons.mpr ⟨lw_p4, List.forall_mem_cons.mpr ⟨lw_p5, List.forall_mem_cons.mpr ⟨lw_p6, List.forall_mem_cons.mpr ⟨lw_p7, List.forall_mem_cons.mpr ⟨lw_p8, List.forall_mem_cons.mpr ⟨lw_p9, List.forall_mem_cons.mpr ⟨lw_p10, List.forall_mem_cons.mpr ⟨lw_p11, List.forall_mem_cons.mpr ⟨lw_p12, List.forall_mem_cons.mpr ⟨lw_p13, List.forall_mem_cons.mpr ⟨lw_p14, List.forall_mem_cons.mpr ⟨lw_p15, fun _ h => absurd h List.not_mem_nil⟩⟩⟩⟩⟩⟩⟩⟩⟩⟩⟩⟩⟩⟩⟩⟩
theorem lw_p16 : lw_okq (⟨"StratumCounts$Figures", "tellMean", "(I)J"⟩, 7) := ⟨⟨by decide +kernel, by decide +kernel⟩, List.mem_of_getElem? (i := 112) (by decide +kernel), List.mem_of_getElem? (i := 356) (by decide +kernel), List.mem_of_getElem? (i := 357) (by decide +kernel)⟩
theorem lw_p17 : lw_okq (⟨"StratumCounts$Terms", "clear", "()V"⟩, 2) := ⟨⟨by decide +kernel, by decide +kernel⟩, List.mem_of_getElem? (i := 118) (by decide +kernel), List.mem_of_getElem? (i := 360) (by decide +kernel), List.mem_of_getElem? (i := 361) (by decide +kernel)⟩
theorem lw_p18 : lw_okq (⟨"StratumCounts$Terms", "set", "(IJJ)V"⟩, 2) := ⟨⟨by decide +kernel, by decide +kernel⟩, List.mem_of_getElem? (i := 118) (by decide +kernel), List.mem_of_getElem? (i := 367) (by decide +kernel), List.mem_of_getElem? (i := 368) (by decide +kernel)⟩
theorem lw_p19 : lw_okq (⟨"StratumCounts$Terms", "common", "()J"⟩, 2) := ⟨⟨by decide +kernel, by decide +kernel⟩, List.mem_of_getElem? (i := 118) (by decide +kernel), List.mem_of_getElem? (i := 371) (by decide +kernel), List.mem_of_getElem? (i := 372) (by decide +kernel)⟩
theorem lw_p20 : lw_okq (⟨"StratumCounts$Terms", "sum", "(J)J"⟩, 2) := ⟨⟨by decide +kernel, by decide +kernel⟩, List.mem_of_getElem? (i := 118) (by decide +kernel), List.mem_of_getElem? (i := 381) (by decide +kernel), List.mem_of_getElem? (i := 382) (by decide +kernel)⟩
theorem lw_p21 : lw_okq (⟨"StratumCounts$Terms", "scaled", "(IJ)J"⟩, 2) := ⟨⟨by decide +kernel, by decide +kernel⟩, List.mem_of_getElem? (i := 118) (by decide +kernel), List.mem_of_getElem? (i := 385) (by decide +kernel), List.mem_of_getElem? (i := 386) (by decide +kernel)⟩
theorem lw_p22 : lw_okq (⟨"StratumCounts$Figures", "haveSpread", "()Z"⟩, 7) := ⟨⟨by decide +kernel, by decide +kernel⟩, List.mem_of_getElem? (i := 112) (by decide +kernel), List.mem_of_getElem? (i := 396) (by decide +kernel), List.mem_of_getElem? (i := 397) (by decide +kernel)⟩
theorem lw_p23 : lw_okq (⟨"StratumCounts$Figures", "tellSpread", "(I)J"⟩, 7) := ⟨⟨by decide +kernel, by decide +kernel⟩, List.mem_of_getElem? (i := 112) (by decide +kernel), List.mem_of_getElem? (i := 400) (by decide +kernel), List.mem_of_getElem? (i := 401) (by decide +kernel)⟩
theorem lw_p24 : lw_okq (⟨"StratumCounts$Figures", "weighedScatter", "(I)J"⟩, 7) := ⟨⟨by decide +kernel, by decide +kernel⟩, List.mem_of_getElem? (i := 112) (by decide +kernel), List.mem_of_getElem? (i := 404) (by decide +kernel), List.mem_of_getElem? (i := 405) (by decide +kernel)⟩
theorem lw_p25 : lw_okq (⟨"StratumCounts$Figures", "pairs", "(I)J"⟩, 7) := ⟨⟨by decide +kernel, by decide +kernel⟩, List.mem_of_getElem? (i := 112) (by decide +kernel), List.mem_of_getElem? (i := 408) (by decide +kernel), List.mem_of_getElem? (i := 409) (by decide +kernel)⟩
theorem lw_p26 : lw_okq (⟨"StratumCounts$Planner", "prepare", "(LStratumCounts$Figures;LStratumCounts$Strata;JJ)V"⟩, 10) := ⟨⟨by decide +kernel, by decide +kernel⟩, List.mem_of_getElem? (i := 156) (by decide +kernel), List.mem_of_getElem? (i := 418) (by decide +kernel), List.mem_of_getElem? (i := 419) (by decide +kernel)⟩
theorem lw_p27 : lw_okq (⟨"StratumCounts$Planner", "findCheapest", "()J"⟩, 10) := ⟨⟨by decide +kernel, by decide +kernel⟩, List.mem_of_getElem? (i := 156) (by decide +kernel), List.mem_of_getElem? (i := 429) (by decide +kernel), List.mem_of_getElem? (i := 430) (by decide +kernel)⟩
theorem lw_p28 : lw_okq (⟨"StratumCounts$Planner", "considerTrial", "()V"⟩, 10) := ⟨⟨by decide +kernel, by decide +kernel⟩, List.mem_of_getElem? (i := 156) (by decide +kernel), List.mem_of_getElem? (i := 437) (by decide +kernel), List.mem_of_getElem? (i := 438) (by decide +kernel)⟩
theorem lw_p29 : lw_okq (⟨"StratumCounts$Planner", "isNearEnough", "()Z"⟩, 10) := ⟨⟨by decide +kernel, by decide +kernel⟩, List.mem_of_getElem? (i := 156) (by decide +kernel), List.mem_of_getElem? (i := 441) (by decide +kernel), List.mem_of_getElem? (i := 442) (by decide +kernel)⟩
theorem lw_p30 : lw_okq (⟨"StratumCounts$Planner", "stepTrial", "()Z"⟩, 10) := ⟨⟨by decide +kernel, by decide +kernel⟩, List.mem_of_getElem? (i := 156) (by decide +kernel), List.mem_of_getElem? (i := 445) (by decide +kernel), List.mem_of_getElem? (i := 446) (by decide +kernel)⟩
theorem lw_p31 : lw_okq (⟨"StratumCounts$Planner", "heldBags", "(I)I"⟩, 10) := ⟨⟨by decide +kernel, by decide +kernel⟩, List.mem_of_getElem? (i := 156) (by decide +kernel), List.mem_of_getElem? (i := 454) (by decide +kernel), List.mem_of_getElem? (i := 455) (by decide +kernel)⟩
def lw_privs_2 : List (MethodName × Nat) := [(⟨"StratumCounts$Figures", "tellMean", "(I)J"⟩, 7), (⟨"StratumCounts$Terms", "clear", "()V"⟩, 2), (⟨"StratumCounts$Terms", "set", "(IJJ)V"⟩, 2), (⟨"StratumCounts$Terms", "common", "()J"⟩, 2), (⟨"StratumCounts$Terms", "sum", "(J)J"⟩, 2), (⟨"StratumCounts$Terms", "scaled", "(IJ)J"⟩, 2), (⟨"StratumCounts$Figures", "haveSpread", "()Z"⟩, 7), (⟨"StratumCounts$Figures", "tellSpread", "(I)J"⟩, 7), (⟨"StratumCounts$Figures", "weighedScatter", "(I)J"⟩, 7), (⟨"StratumCounts$Figures", "pairs", "(I)J"⟩, 7), (⟨"StratumCounts$Planner", "prepare", "(LStratumCounts$Figures;LStratumCounts$Strata;JJ)V"⟩, 10), (⟨"StratumCounts$Planner", "findCheapest", "()J"⟩, 10), (⟨"StratumCounts$Planner", "considerTrial", "()V"⟩, 10), (⟨"StratumCounts$Planner", "isNearEnough", "()Z"⟩, 10), (⟨"StratumCounts$Planner", "stepTrial", "()Z"⟩, 10), (⟨"StratumCounts$Planner", "heldBags", "(I)I"⟩, 10)]
theorem lw_r2 : ∀ q ∈ lw_privs_2, lw_okq q := List.forall_mem_cons.mpr ⟨lw_p16, List.forall_mem_cons.mpr ⟨lw_p17, List.forall_mem_cons.mpr ⟨lw_p18, List.forall_mem_cons.mpr ⟨lw_p19, List.forall_mem_cons.mpr ⟨lw_p20, List.forall_mem_cons.mpr ⟨lw_p21, List.forall_mem_cons.mpr ⟨lw_p22, List.forall_mem_cons.mpr ⟨lw_p23, List.forall_mem_cons.mpr ⟨lw_p24, List.forall_mem_cons.mpr ⟨lw_p25, List.forall_mem_cons.mpr ⟨lw_p26, List.forall_mem_cons.mpr ⟨lw_p27, List.forall_mem_cons.mpr ⟨lw_p28, List.forall_mem_cons.mpr ⟨lw_p29, List.forall_mem_cons.mpr ⟨lw_p30, List.forall_mem_cons.mpr ⟨lw_p31, fun _ h => absurd h List.not_mem_nil⟩⟩⟩⟩⟩⟩⟩⟩⟩⟩⟩⟩⟩⟩⟩⟩
theorem lw_p32 : lw_okq (⟨"StratumCounts$Comparison", "gather", "(LStratumCounts$Bags;I)Z"⟩, 5) := ⟨⟨by decide +kernel, by decide +kernel⟩, List.mem_of_getElem? (i := 195) (by decide +kernel), List.mem_of_getElem? (i := 462) (by decide +kernel), List.mem_of_getElem? (i := 463) (by decide +kernel)⟩
theorem lw_p33 : lw_okq (⟨"StratumCounts$Comparison", "take", "(JI)V"⟩, 5) := ⟨⟨by decide +kernel, by decide +kernel⟩, List.mem_of_getElem? (i := 195) (by decide +kernel), List.mem_of_getElem? (i := 467) (by decide +kernel), List.mem_of_getElem? (i := 468) (by decide +kernel)⟩
theorem lw_p34 : lw_okq (⟨"StratumCounts$Comparison", "countFarWays", "()J"⟩, 5) := ⟨⟨by decide +kernel, by decide +kernel⟩, List.mem_of_getElem? (i := 195) (by decide +kernel), List.mem_of_getElem? (i := 477) (by decide +kernel), List.mem_of_getElem? (i := 478) (by decide +kernel)⟩
theorem lw_p35 : lw_okq (⟨"StratumCounts$Comparison", "apart", "(I)J"⟩, 5) := ⟨⟨by decide +kernel, by decide +kernel⟩, List.mem_of_getElem? (i := 195) (by decide +kernel), List.mem_of_getElem? (i := 481) (by decide +kernel), List.mem_of_getElem? (i := 482) (by decide +kernel)⟩
theorem lw_p36 : lw_okq (⟨"StratumCounts$Comparison", "countWays", "()J"⟩, 5) := ⟨⟨by decide +kernel, by decide +kernel⟩, List.mem_of_getElem? (i := 195) (by decide +kernel), List.mem_of_getElem? (i := 488) (by decide +kernel), List.mem_of_getElem? (i := 489) (by decide +kernel)⟩
theorem lw_p37 : lw_okq (⟨"StratumCounts$Strata", "merge", "(II)Z"⟩, 4) := ⟨⟨by decide +kernel, by decide +kernel⟩, List.mem_of_getElem? (i := 24) (by decide +kernel), List.mem_of_getElem? (i := 496) (by decide +kernel), List.mem_of_getElem? (i := 497) (by decide +kernel)⟩
theorem lw_p38 : lw_okq (⟨"StratumCounts$Bags", "move", "(II)V"⟩, 5) := ⟨⟨by decide +kernel, by decide +kernel⟩, List.mem_of_getElem? (i := 49) (by decide +kernel), List.mem_of_getElem? (i := 500) (by decide +kernel), List.mem_of_getElem? (i := 501) (by decide +kernel)⟩
theorem lw_p39 : lw_okq (⟨"StratumCounts$Repeats", "add", "(IIJ)I"⟩, 4) := ⟨⟨by decide +kernel, by decide +kernel⟩, List.mem_of_getElem? (i := 93) (by decide +kernel), List.mem_of_getElem? (i := 510) (by decide +kernel), List.mem_of_getElem? (i := 511) (by decide +kernel)⟩
theorem lw_p40 : lw_okq (⟨"StratumCounts$Repeats", "tellError", "(LStratumCounts$Bags;II)J"⟩, 4) := ⟨⟨by decide +kernel, by decide +kernel⟩, List.mem_of_getElem? (i := 93) (by decide +kernel), List.mem_of_getElem? (i := 518) (by decide +kernel), List.mem_of_getElem? (i := 519) (by decide +kernel)⟩
theorem lw_p41 : lw_okq (⟨"StratumCountsModel", "isHere", "(I)Z"⟩, 21) := ⟨⟨by decide +kernel, by decide +kernel⟩, List.mem_of_getElem? (i := 533) (by decide +kernel), List.mem_of_getElem? (i := 615) (by decide +kernel), List.mem_of_getElem? (i := 616) (by decide +kernel)⟩
theorem lw_p42 : lw_okq (⟨"StratumCountsModel", "isBag", "(I)Z"⟩, 21) := ⟨⟨by decide +kernel, by decide +kernel⟩, List.mem_of_getElem? (i := 533) (by decide +kernel), List.mem_of_getElem? (i := 628) (by decide +kernel), List.mem_of_getElem? (i := 629) (by decide +kernel)⟩
theorem lw_p43 : lw_okq (⟨"StratumCountsModel", "counts", "(I)Z"⟩, 21) := ⟨⟨by decide +kernel, by decide +kernel⟩, List.mem_of_getElem? (i := 533) (by decide +kernel), List.mem_of_getElem? (i := 658) (by decide +kernel), List.mem_of_getElem? (i := 659) (by decide +kernel)⟩
theorem lw_p44 : lw_okq (⟨"StratumCountsModel", "countOf", "(I)I"⟩, 21) := ⟨⟨by decide +kernel, by decide +kernel⟩, List.mem_of_getElem? (i := 533) (by decide +kernel), List.mem_of_getElem? (i := 662) (by decide +kernel), List.mem_of_getElem? (i := 663) (by decide +kernel)⟩
theorem lw_p45 : lw_okq (⟨"StratumCountsModel", "sumOf", "(II)J"⟩, 21) := ⟨⟨by decide +kernel, by decide +kernel⟩, List.mem_of_getElem? (i := 533) (by decide +kernel), List.mem_of_getElem? (i := 678) (by decide +kernel), List.mem_of_getElem? (i := 679) (by decide +kernel)⟩
theorem lw_p46 : lw_okq (⟨"StratumCountsModel", "allSizes", "()J"⟩, 21) := ⟨⟨by decide +kernel, by decide +kernel⟩, List.mem_of_getElem? (i := 533) (by decide +kernel), List.mem_of_getElem? (i := 682) (by decide +kernel), List.mem_of_getElem? (i := 683) (by decide +kernel)⟩
theorem lw_p47 : lw_okq (⟨"StratumCountsModel", "part", "(I)J"⟩, 21) := ⟨⟨by decide +kernel, by decide +kernel⟩, List.mem_of_getElem? (i := 533) (by decide +kernel), List.mem_of_getElem? (i := 686) (by decide +kernel), List.mem_of_getElem? (i := 687) (by decide +kernel)⟩
def lw_privs_3 : List (MethodName × Nat) := [(⟨"StratumCounts$Comparison", "gather", "(LStratumCounts$Bags;I)Z"⟩, 5), (⟨"StratumCounts$Comparison", "take", "(JI)V"⟩, 5), (⟨"StratumCounts$Comparison", "countFarWays", "()J"⟩, 5), (⟨"StratumCounts$Comparison", "apart", "(I)J"⟩, 5), (⟨"StratumCounts$Comparison", "countWays", "()J"⟩, 5), (⟨"StratumCounts$Strata", "merge", "(II)Z"⟩, 4), (⟨"StratumCounts$Bags", "move", "(II)V"⟩, 5), (⟨"StratumCounts$Repeats", "add", "(IIJ)I"⟩, 4), (⟨"StratumCounts$Repeats", "tellError", "(LStratumCounts$Bags;II)J"⟩, 4), (⟨"StratumCountsModel", "isHere", "(I)Z"⟩, 21), (⟨"StratumCountsModel", "isBag", "(I)Z"⟩, 21), (⟨"StratumCountsModel", "counts", "(I)Z"⟩, 21), (⟨"StratumCountsModel", "countOf", "(I)I"⟩, 21), (⟨"StratumCountsModel", "sumOf", "(II)J"⟩, 21), (⟨"StratumCountsModel", "allSizes", "()J"⟩, 21), (⟨"StratumCountsModel", "part", "(I)J"⟩, 21)]
theorem lw_r3 : ∀ q ∈ lw_privs_3, lw_okq q := List.forall_mem_cons.mpr ⟨lw_p32, List.forall_mem_cons.mpr ⟨lw_p33, List.forall_mem_cons.mpr ⟨lw_p34, List.forall_mem_cons.mpr ⟨lw_p35, List.forall_mem_cons.mpr ⟨lw_p36, List.forall_mem_cons.mpr ⟨lw_p37, List.forall_mem_cons.mpr ⟨lw_p38, List.forall_mem_cons.mpr ⟨lw_p39, List.forall_mem_cons.mpr ⟨lw_p40, List.forall_mem_cons.mpr ⟨lw_p41, List.forall_mem_cons.mpr ⟨lw_p42, List.forall_mem_cons.mpr ⟨lw_p43, List.forall_mem_cons.mpr ⟨lw_p44, List.forall_mem_cons.mpr ⟨lw_p45, List.forall_mem_cons.mpr ⟨lw_p46, List.forall_mem_cons.mpr ⟨lw_p47, fun _ h => absurd h List.not_mem_nil⟩⟩⟩⟩⟩⟩⟩⟩⟩⟩⟩⟩⟩⟩⟩⟩
theorem lw_p48 : lw_okq (⟨"StratumCountsModel", "hasSpread", "(I)Z"⟩, 21) := ⟨⟨by decide +kernel, by decide +kernel⟩, List.mem_of_getElem? (i := 533) (by decide +kernel), List.mem_of_getElem? (i := 694) (by decide +kernel), List.mem_of_getElem? (i := 695) (by decide +kernel)⟩
theorem lw_p49 : lw_okq (⟨"StratumCountsModel", "makeSpread", "(IZ)V"⟩, 21) := ⟨⟨by decide +kernel, by decide +kernel⟩, List.mem_of_getElem? (i := 533) (by decide +kernel), List.mem_of_getElem? (i := 698) (by decide +kernel), List.mem_of_getElem? (i := 699) (by decide +kernel)⟩
theorem lw_p50 : lw_okq (⟨"StratumCountsModel", "bagsOf", "(IZ)J"⟩, 21) := ⟨⟨by decide +kernel, by decide +kernel⟩, List.mem_of_getElem? (i := 533) (by decide +kernel), List.mem_of_getElem? (i := 702) (by decide +kernel), List.mem_of_getElem? (i := 703) (by decide +kernel)⟩
theorem lw_p51 : lw_okq (⟨"StratumCountsModel", "squaresOf", "(II)J"⟩, 21) := ⟨⟨by decide +kernel, by decide +kernel⟩, List.mem_of_getElem? (i := 533) (by decide +kernel), List.mem_of_getElem? (i := 706) (by decide +kernel), List.mem_of_getElem? (i := 707) (by decide +kernel)⟩
theorem lw_p52 : lw_okq (⟨"StratumCountsModel", "isOwn", "(I)Z"⟩, 21) := ⟨⟨by decide +kernel, by decide +kernel⟩, List.mem_of_getElem? (i := 533) (by decide +kernel), List.mem_of_getElem? (i := 716) (by decide +kernel), List.mem_of_getElem? (i := 717) (by decide +kernel)⟩
theorem lw_p53 : lw_okq (⟨"StratumCountsModel", "tryPlan", "(I)V"⟩, 21) := ⟨⟨by decide +kernel, by decide +kernel⟩, List.mem_of_getElem? (i := 533) (by decide +kernel), List.mem_of_getElem? (i := 720) (by decide +kernel), List.mem_of_getElem? (i := 721) (by decide +kernel)⟩
theorem lw_p54 : lw_okq (⟨"StratumCountsModel", "trialCost", "()J"⟩, 21) := ⟨⟨by decide +kernel, by decide +kernel⟩, List.mem_of_getElem? (i := 533) (by decide +kernel), List.mem_of_getElem? (i := 724) (by decide +kernel), List.mem_of_getElem? (i := 725) (by decide +kernel)⟩
theorem lw_p55 : lw_okq (⟨"StratumCountsModel", "bagsOfYear", "(I)I"⟩, 21) := ⟨⟨by decide +kernel, by decide +kernel⟩, List.mem_of_getElem? (i := 533) (by decide +kernel), List.mem_of_getElem? (i := 739) (by decide +kernel), List.mem_of_getElem? (i := 740) (by decide +kernel)⟩
theorem lw_p56 : lw_okq (⟨"StratumCountsModel", "apart", "(IIJJ)J"⟩, 21) := ⟨⟨by decide +kernel, by decide +kernel⟩, List.mem_of_getElem? (i := 533) (by decide +kernel), List.mem_of_getElem? (i := 743) (by decide +kernel), List.mem_of_getElem? (i := 744) (by decide +kernel)⟩
def lw_privs_4 : List (MethodName × Nat) := [(⟨"StratumCountsModel", "hasSpread", "(I)Z"⟩, 21), (⟨"StratumCountsModel", "makeSpread", "(IZ)V"⟩, 21), (⟨"StratumCountsModel", "bagsOf", "(IZ)J"⟩, 21), (⟨"StratumCountsModel", "squaresOf", "(II)J"⟩, 21), (⟨"StratumCountsModel", "isOwn", "(I)Z"⟩, 21), (⟨"StratumCountsModel", "tryPlan", "(I)V"⟩, 21), (⟨"StratumCountsModel", "trialCost", "()J"⟩, 21), (⟨"StratumCountsModel", "bagsOfYear", "(I)I"⟩, 21), (⟨"StratumCountsModel", "apart", "(IIJJ)J"⟩, 21)]
theorem lw_r4 : ∀ q ∈ lw_privs_4, lw_okq q := List.forall_mem_cons.mpr ⟨lw_p48, List.forall_mem_cons.mpr ⟨lw_p49, List.forall_mem_cons.mpr ⟨lw_p50, List.forall_mem_cons.mpr ⟨lw_p51, List.forall_mem_cons.mpr ⟨lw_p52, List.forall_mem_cons.mpr ⟨lw_p53, List.forall_mem_cons.mpr ⟨lw_p54, List.forall_mem_cons.mpr ⟨lw_p55, List.forall_mem_cons.mpr ⟨lw_p56, fun _ h => absurd h List.not_mem_nil⟩⟩⟩⟩⟩⟩⟩⟩⟩
def lw_privs : List (MethodName × Nat) := lw_privs_1 ++ (lw_privs_2 ++ (lw_privs_3 ++ (lw_privs_4)))
def lw_tbl : List Cond := k2_sels lw_privs ++ tables_1
theorem lw_privs_ok : ∀ q ∈ lw_privs, lw_okq q := by
  show ∀ q ∈ lw_privs_1 ++ (lw_privs_2 ++ (lw_privs_3 ++ (lw_privs_4))), lw_okq q
  exact List.forall_mem_append.mpr ⟨lw_r1, List.forall_mem_append.mpr ⟨lw_r2, List.forall_mem_append.mpr ⟨lw_r3, lw_r4⟩⟩⟩
end
section
/-! THE LAYER: worlds with nest words, entry, return and call rows in one piece each. -/
def cq_is (w : Cond) : Bool := match w with
  | .fieldLinkNest .. => true
  | .methodLinkNest .. => true
  | _ => false
def cq_N (nw : List Cond) (U : State) : Prop := ∀ w ∈ nw, va_Nw w U
theorem cq_N.warm {nw : List Cond} (hn : nw.all cq_is = true) {s U : State} (hW : s.WarmedH U.vm) (h : cq_N nw s) : cq_N nw U := by
  intro w hw
  have h1 := h w hw
  have h2 := List.all_eq_true.mp hn w hw
  cases w <;> first | exact va_Nw.warmF hW h1 | exact va_Nw.warmM hW h1 | (simp [cq_is] at h2)
theorem cq_N.same {nw : List Cond} (hn : nw.all cq_is = true) {s U : State} (hv : s.vm = U.vm) (h : cq_N nw s) : cq_N nw U := by
  intro w hw
  have h1 := h w hw
  have h2 := List.all_eq_true.mp hn w hw
  cases w <;> first | exact va_Nw.same rfl hv h1 | (simp [cq_is] at h2)
/-- tables and nest words -/
def cq_K (D : va_G) (cl : List vw_C) (tys : List (ClassId × FieldType)) (nw : List Cond) (U : State) : Prop := va_K D cl tys U ∧ nw.all cq_is = true ∧ cq_N nw U
theorem cq_K.warm {D : va_G} {cl : List vw_C} {tys : List (ClassId × FieldType)} {nw : List Cond} {s U : State} (hW : s.WarmedH U.vm) (h : cq_K D cl tys nw s) : cq_K D cl tys nw U := ⟨va_K.moved hW.alike h.1, h.2.1, h.2.2.warm h.2.1 hW⟩
theorem cq_K.same {D : va_G} {cl : List vw_C} {tys : List (ClassId × FieldType)} {nw : List Cond} {s U : State} (hv : s.vm = U.vm) (h : cq_K D cl tys nw s) : cq_K D cl tys nw U := ⟨va_K.moved (by rw [← hv]; exact Vm.Alike.refl s.vm) h.1, h.2.1, h.2.2.same h.2.1 hv⟩
def cq_Pre (D : va_G) (cl : List vw_C) (tys : List (ClassId × FieldType)) (nw : List Cond) (av : List Value) (ws : va_W) (sz : Nat) : Array Value → State → Prop :=
  va_Pc av (fun U => U.heap.size = sz ∧ va_P D cl ws U.heap ∧ cq_K D cl tys nw U ∧ va_D (fun _ => True) ws)
def cq_B (D : va_G) (cl : List vw_C) (ws : va_W) (sz : Nat) {S : Type} (wo : S → va_W) (u : S) (t : State) : Prop := va_P D cl (wo u) t.heap ∧ va_D (va_A ws sz) (wo u)
theorem cq_Pre.blind {D : va_G} {cl : List vw_C} {tys : List (ClassId × FieldType)} {nw : List Cond} {av : List Value} {ws : va_W} {sz : Nat} : FrameBlind (cq_Pre D cl tys nw av ws sz) := by
  intro a U g mk q
  obtain ⟨q0, q1, qP, qK, qD⟩ := q
  exact ⟨q0, q1, qP, cq_K.same (s := U) (U := U.calling g mk a) rfl qK, qD⟩
/-- contracts by what they answer -/
abbrev cq_i (l : Launch) (y : MethodName) (wy : List Cond) (rm : Room) (D : va_G) (cl : List vw_C) (tys : List (ClassId × FieldType)) (nw : List Cond) (av : List Value) (ws : va_W) (sz : Nat) {S : Type} (post : Int32 → S → Prop) (wo : S → va_W) (mc ms : Nat) : Prop :=
  Met l y wy rm (cq_Pre D cl tys nw av ws sz) (va_Qi post (cq_B D cl ws sz wo) (va_A ws sz)) mc ms (va_A ws sz)
abbrev cq_l (l : Launch) (y : MethodName) (wy : List Cond) (rm : Room) (D : va_G) (cl : List vw_C) (tys : List (ClassId × FieldType)) (nw : List Cond) (av : List Value) (ws : va_W) (sz : Nat) {S : Type} (post : Int64 → S → Prop) (wo : S → va_W) (mc ms : Nat) : Prop :=
  Met l y wy rm (cq_Pre D cl tys nw av ws sz) (va_Ql post (cq_B D cl ws sz wo) (va_A ws sz)) mc ms (va_A ws sz)
abbrev cq_v (l : Launch) (y : MethodName) (wy : List Cond) (rm : Room) (D : va_G) (cl : List vw_C) (tys : List (ClassId × FieldType)) (nw : List Cond) (av : List Value) (ws : va_W) (sz : Nat) {S : Type} (post : S → Prop) (wo : S → va_W) (mc ms : Nat) : Prop :=
  Met l y wy rm (cq_Pre D cl tys nw av ws sz) (va_Qv post (cq_B D cl ws sz wo) (va_A ws sz)) mc ms (va_A ws sz)
/-- what a body knows -/
def cq_At (p : Program) (s : State) (m : MethodId) (meth : Method) (c : Code) (y : MethodName) (wy : List Cond) (cc : ByteArray) (maxL : Nat) (ret : Option FieldType) (args : Array Value) : Prop :=
  p.tables.exec = Jvm.exec ∧ c.code = cc ∧ meth.sig.returnType = ret ∧ c.maxLocals = maxL ∧ s.vm.findClass y.cls = some m.cls ∧ (∀ w ∈ wy, w.before args s = true) ∧ meth.locks = false ∧ meth.name = y.name
theorem cq_enter {l : Launch} {y : MethodName} {wy wy' : List Cond} {rm : Room} {D : va_G} {cl : List vw_C} {tys : List (ClassId × FieldType)} {nw : List Cond} {av : List Value} {ws : va_W} {sz : Nat} {Qc : Array Value → State → Outcome → State → Prop} {mc ms : Nat} {free : Addr → Prop} {cc : ByteArray} {maxL : Nat} {ret : Option FieldType}
    (hy : plainName y.cls = true) (hw : wy = Cond.code y cc maxL ret :: wy') (hn : (lg_sl av).length ≤ maxL)
    (body : ∀ (p : Program) (e : Env) (s : State) (m : MethodId) (below : List Frame) (meth : Method) (c : Code) (A : Nat → Prop) (args : Array Value) (Q : State → Prop) (H : Heap), A = va_A ws sz → Q = MQ below Qc args s mc ms free → s.heap.size = sz → cq_At p s m meth c y wy cc maxL ret args → (∀ q : Nat, s.heap.size ≤ q → A q) → va_P D cl ws H → cq_K D cl tys nw s → va_D A ws → va_S A s.heap H [] → ∀ ls : Array Slot, lv_has ls maxL (lv_args 0 av) →
      W p l e rm s m args below meth c H [] 0 0 Q (F0 m 0 ls [])) : Met l y wy rm (cq_Pre D cl tys nw av ws sz) Qc mc ms free := by
  refine Met.ofW (cc := cc) (maxL := maxL) (ret := ret) hy hw ?_
  intro p e s m args below meth c s₁ B hml hv
  obtain ⟨rfl, hsz, hP, hK, hD0⟩ := hv
  rw [lg_entry_eq]
  refine body p e s m below meth c (va_A ws sz) _ _ _ rfl rfl hsz ⟨B.exec, B.bytes, B.returns, hml, findClass_of_methodNamed B.named, atoms_spec (ws := wy) B.pre, B.notSynchronized, (name_of_methodNamed B.named B.method).1⟩ (fun q h => Or.inr (by rw [← hsz]; exact h)) hP hK hD0.self va_S.rf _ (lv_entry av hn)
section CQ
variable {p : Program} {l : Launch} {e : Env} {R : Room} {s : State} {m : MethodId} {args : Array Value} {below : List Frame} {meth : Method} {c : Code} {H : Heap} {locs : List Loc} {cells slots : Nat} {Q : State → Prop}
variable {cc : ByteArray} {pc : Nat} {ls : Array Slot} {rest st0 : List Value} {D : va_G} {cl : List vw_C} {tys : List (ClassId × FieldType)} {nw : List Cond} {A : Nat → Prop} {ws wc wr : va_W} {sz mc ms : Nat} {H0 : Heap}
theorem cq_iret {S : Type} {post : Int32 → S → Prop} {wo : S → va_W} (hx : p.tables.exec = Jvm.exec) (hb : c.code = cc) (hr : meth.sig.returnType = some .int) (hlocks : meth.locks = false) (hAe : A = va_A ws sz) (hQ : Q = MQ below (va_Qi post (cq_B D cl ws sz wo) (va_A ws sz)) args s mc ms (va_A ws sz)) {v : Int32} (u : S) (hpost : post v u) (hP : va_P D cl (wo u) H) (hD : va_D A (wo u)) (hS : va_S A s.heap H locs) (hc : cells ≤ mc) (hs : slots ≤ ms) (hdg : decode cc pc = .ok (.ireturn, 1)) :
    W p l e R s m args below meth c H locs cells slots Q (F0 m pc ls [.int v]) := by
  subst hAe
  subst hQ
  refine W.widen hc hs ?_
  exact W.iret hx hb hr (fun t ht hW => ⟨⟨v, u, rfl, hpost, by rw [ht]; exact hP, hD⟩, hS.F ht⟩) hS.2.2 hdg
theorem cq_zret {S : Type} {post : Int32 → S → Prop} {wo : S → va_W} (hx : p.tables.exec = Jvm.exec) (hb : c.code = cc) (hr : meth.sig.returnType = some .boolean) (hlocks : meth.locks = false) (hAe : A = va_A ws sz) (hQ : Q = MQ below (va_Qi post (cq_B D cl ws sz wo) (va_A ws sz)) args s mc ms (va_A ws sz)) {v : Int32} (hn : narrow .boolean (.int v) = .int v) (u : S) (hpost : post v u) (hP : va_P D cl (wo u) H) (hD : va_D A (wo u)) (hS : va_S A s.heap H locs) (hc : cells ≤ mc) (hs : slots ≤ ms) (hdg : decode cc pc = .ok (.ireturn, 1)) :
    W p l e R s m args below meth c H locs cells slots Q (F0 m pc ls [.int v]) := by
  subst hAe
  subst hQ
  refine W.widen hc hs ?_
  exact W.zret hx hb hr hn (fun t ht hW => ⟨⟨v, u, rfl, hpost, by rw [ht]; exact hP, hD⟩, hS.F ht⟩) hS.2.2 hdg
theorem cq_lret {S : Type} {post : Int64 → S → Prop} {wo : S → va_W} (hx : p.tables.exec = Jvm.exec) (hb : c.code = cc) (hr : meth.sig.returnType = some .long) (hlocks : meth.locks = false) (hAe : A = va_A ws sz) (hQ : Q = MQ below (va_Ql post (cq_B D cl ws sz wo) (va_A ws sz)) args s mc ms (va_A ws sz)) {v : Int64} (u : S) (hpost : post v u) (hP : va_P D cl (wo u) H) (hD : va_D A (wo u)) (hS : va_S A s.heap H locs) (hc : cells ≤ mc) (hs : slots ≤ ms) (hdg : decode cc pc = .ok (.lreturn, 1)) :
    W p l e R s m args below meth c H locs cells slots Q (F0 m pc ls [.long v]) := by
  subst hAe
  subst hQ
  refine W.widen hc hs ?_
  exact W.lret hx hb hr (fun t ht hW => ⟨⟨v, u, rfl, hpost, by rw [ht]; exact hP, hD⟩, hS.F ht⟩) hS.2.2 hdg
theorem cq_vret {S : Type} {post : S → Prop} {wo : S → va_W} (hx : p.tables.exec = Jvm.exec) (hb : c.code = cc) (hr : meth.sig.returnType = none) (hlocks : meth.locks = false) (hAe : A = va_A ws sz) (hQ : Q = MQ below (va_Qv post (cq_B D cl ws sz wo) (va_A ws sz)) args s mc ms (va_A ws sz)) (u : S) (hpost : post u) (hP : va_P D cl (wo u) H) (hD : va_D A (wo u)) (hS : va_S A s.heap H locs) (hc : cells ≤ mc) (hs : slots ≤ ms) (hdg : decode cc pc = .ok (.return_, 1)) :
    W p l e R s m args below meth c H locs cells slots Q (F0 m pc ls []) := by
  subst hAe
  subst hQ
  refine W.widen hc hs ?_
  exact W.vret hx hb hr (fun t ht hW => ⟨⟨u, rfl, hpost, by rw [ht]; exact hP, hD⟩, hS.F ht⟩) hS.2.2 hdg
/-- a call's start, out of the world that stands -/
theorem cq_preS {av : List Value} (hK : cq_K D cl tys nw s) (hP : va_P D cl ws H) (hD : va_D A ws) (isC : List Nat) (hn : va_nd isC = true) (hC : isC.map (fun i => ws[i]?) = wc.map some) : PreS s H (cq_Pre D cl tys nw av wc H.size) av := by
  have hP' : va_P D cl wc H := by
    refine hP.sub isC ?_
    have h2 : ∀ (is : List Nat) (w : va_W), is.map (fun i => ws[i]?) = w.map some → is.filterMap (fun i => ws[i]?) = w := by
      intro is
      induction is with
      | nil =>
        intro w h
        cases w with
        | nil => rfl
        | cons x w => cases h
      | cons i is ih =>
        intro w h
        cases w with
        | nil => cases h
        | cons x w =>
          rw [List.map_cons, List.map_cons] at h
          injection h with e1 e2
          rw [List.filterMap_cons, e1]
          exact congrArg _ (ih w e2)
    exact h2 isC wc hC
  have hD' : va_D A wc := hD.sub isC hn hC
  exact ⟨cq_Pre.blind, fun U hU hW => ⟨rfl, by rw [hU], by rw [hU]; exact hP', hK.warm hW, hD'.weaken (fun _ _ _ _ => trivial)⟩⟩
theorem cq_preV {C : String} {b : Nat} {As : List Value} (hr : ∃ cellB : Cell, H[b]? = some cellB ∧ cellB.vm.isStatics = false ∧ s.vm.findClass C = some cellB.cls) (h : PreS s H (cq_Pre D cl tys nw (.ref b :: As) wc H.size) (.ref b :: As)) : PreV s H C b (cq_Pre D cl tys nw (.ref b :: As) wc H.size) As := ⟨h.1, hr, h.2⟩
theorem cq_calli {S : Type} {post : Int32 → S → Prop} {wo : S → va_W} {a : Array Value} (hr : va_Run p l e R s m args below meth c H locs cells slots mc ms (F0 m pc ls st0) rest (va_Qi post (cq_B D cl wc H.size wo) (va_A wc H.size) a) (va_A wc H.size))
    (hP : va_P D cl ws H) (hD : va_D A ws) (hS : va_S A H0 H locs) (hA : ∀ q, H0.size ≤ q → A q) (isC isR : List Nat) (hC : isC.map (fun i => ws[i]?) = wc.map some) (hR : isR.map (fun i => ws[i]?) = wr.map some) (hn : va_nd isR = true) (hdis : ∀ i ∈ isR, i ∉ isC)
    (kk : ∀ (r : Int32) (u : S) (H1 : Heap) (locs1 : List Loc), post r u → va_P D cl (wr ++ wo u) H1 → va_D A (wr ++ wo u) → va_S A H0 H1 locs1 → W p l e R s m args below meth c H1 locs1 (cells + mc) (slots + ms) Q (F0 m (pc + 3) ls (.int r :: rest))) : W p l e R s m args below meth c H locs cells slots Q (F0 m pc ls st0) := by
  have hF := va_free (wc := wc) hD hS hA isC hC
  refine va_calli hr hS (fun q _ h => hF q h) hF (fun r u t H1 locs1 ht hvm hw hB hz1 hk1 hS1 => ?_)
  obtain ⟨hP1, hD1⟩ := hB
  rw [ht] at hP1
  obtain ⟨hP2, hD2⟩ := va_join hP hD isC isR hC hR hn hdis hk1 hF hP1 hD1
  exact kk r u H1 locs1 hw hP2 hD2 hS1
theorem cq_calll {S : Type} {post : Int64 → S → Prop} {wo : S → va_W} {a : Array Value} (hr : va_Run p l e R s m args below meth c H locs cells slots mc ms (F0 m pc ls st0) rest (va_Ql post (cq_B D cl wc H.size wo) (va_A wc H.size) a) (va_A wc H.size))
    (hP : va_P D cl ws H) (hD : va_D A ws) (hS : va_S A H0 H locs) (hA : ∀ q, H0.size ≤ q → A q) (isC isR : List Nat) (hC : isC.map (fun i => ws[i]?) = wc.map some) (hR : isR.map (fun i => ws[i]?) = wr.map some) (hn : va_nd isR = true) (hdis : ∀ i ∈ isR, i ∉ isC)
    (kk : ∀ (r : Int64) (u : S) (H1 : Heap) (locs1 : List Loc), post r u → va_P D cl (wr ++ wo u) H1 → va_D A (wr ++ wo u) → va_S A H0 H1 locs1 → W p l e R s m args below meth c H1 locs1 (cells + mc) (slots + ms) Q (F0 m (pc + 3) ls (.long r :: rest))) : W p l e R s m args below meth c H locs cells slots Q (F0 m pc ls st0) := by
  have hF := va_free (wc := wc) hD hS hA isC hC
  refine va_calll hr hS (fun q _ h => hF q h) hF (fun r u t H1 locs1 ht hvm hw hB hz1 hk1 hS1 => ?_)
  obtain ⟨hP1, hD1⟩ := hB
  rw [ht] at hP1
  obtain ⟨hP2, hD2⟩ := va_join hP hD isC isR hC hR hn hdis hk1 hF hP1 hD1
  exact kk r u H1 locs1 hw hP2 hD2 hS1
theorem cq_callv {S : Type} {post : S → Prop} {wo : S → va_W} {a : Array Value} (hr : va_Run p l e R s m args below meth c H locs cells slots mc ms (F0 m pc ls st0) rest (va_Qv post (cq_B D cl wc H.size wo) (va_A wc H.size) a) (va_A wc H.size))
    (hP : va_P D cl ws H) (hD : va_D A ws) (hS : va_S A H0 H locs) (hA : ∀ q, H0.size ≤ q → A q) (isC isR : List Nat) (hC : isC.map (fun i => ws[i]?) = wc.map some) (hR : isR.map (fun i => ws[i]?) = wr.map some) (hn : va_nd isR = true) (hdis : ∀ i ∈ isR, i ∉ isC)
    (kk : ∀ (u : S) (H1 : Heap) (locs1 : List Loc), post u → va_P D cl (wr ++ wo u) H1 → va_D A (wr ++ wo u) → va_S A H0 H1 locs1 → W p l e R s m args below meth c H1 locs1 (cells + mc) (slots + ms) Q (F0 m (pc + 3) ls rest)) : W p l e R s m args below meth c H locs cells slots Q (F0 m pc ls st0) := by
  have hF := va_free (wc := wc) hD hS hA isC hC
  refine va_callv hr hS (fun q _ h => hF q h) hF (fun u t H1 locs1 ht hvm hw hB hz1 hk1 hS1 => ?_)
  obtain ⟨hP1, hD1⟩ := hB
  rw [ht] at hP1
  obtain ⟨hP2, hD2⟩ := va_join hP hD isC isR hC hR hn hdis hk1 hF hP1 hD1
  exact kk u H1 locs1 hw hP2 hD2 hS1
/-- the top of the stack by another name -/
theorem cq_ti {x y : Int32} (h : x = y) (k : W p l e R s m args below meth c H locs cells slots Q (F0 m pc ls (.int y :: rest))) : W p l e R s m args below meth c H locs cells slots Q (F0 m pc ls (.int x :: rest)) := h ▸ k
theorem cq_tl {x y : Int64} (h : x = y) (k : W p l e R s m args below meth c H locs cells slots Q (F0 m pc ls (.long y :: rest))) : W p l e R s m args below meth c H locs cells slots Q (F0 m pc ls (.long x :: rest)) := h ▸ k
/-- a new array of a known kind -/
theorem cq_newa (hexec : p.tables.exec = Jvm.exec) (hb : c.code = cc) {atype : ArrayType} (harr : (Cond.arrayClass (newarray.typeOf atype)).before args s = true) {ty : FieldType} (hty : newarray.typeOf atype = ty) (hK : cq_K D cl tys nw s) (hP : va_P D cl ws H) (hD : va_D A ws) (hS : va_S A H0 H locs) (hA : ∀ q, H0.size ≤ q → A q)
    (t0 : Nat) {cA : ClassId} (ht : tys[t0]? = some (cA, ty)) {n : Int32} {N' : Nat} {a0 : vp_A} (ha : ∀ cA : ClassId, vp_cell cA a0 = arrV cA N' (fun _ => defaultValue ty)) (hn : ¬ n < 0) (hN : n.toNatClampNeg = N') (hbytes : N' * componentBytes ty ≤ 536870912) (hcells : cells + 1 ≤ R.cells) (hslots : slots + N' ≤ R.slots) (hdg : decode cc pc = .ok (.newarray atype, 2))
    (kk : ∀ (q : Nat) (H1 : Heap), va_P D cl (ws ++ [(q, .inl (cA, a0))]) H1 → va_D A (ws ++ [(q, .inl (cA, a0))]) → va_S A H0 H1 locs →
      W p l e R s m args below meth c H1 locs (cells + 1) (slots + N') Q (F0 m (pc + 2) ls (.ref q :: rest))) : W p l e R s m args below meth c H locs cells slots Q (F0 m pc ls (.int n :: rest)) := by
  refine va_newa hexec hb harr hty hK.1 hP hD hS hA ha hn hN hbytes hcells hslots hdg (fun q cB H1 hK1 hP1 hD1 hS1 => ?_)
  have e1 := (hK1.2 tys.length (cB, ty) (by rw [List.getElem?_append_right (Nat.le_refl _), Nat.sub_self]; rfl)).2
  have e2 := (hK.1.2 t0 (cA, ty) ht).2
  have e3 : cB = cA := by
    have hne : ∀ C, ty ≠ .object C := by intro C h; rw [← hty] at h; cases atype <;> cases h
    cases ty with
    | object C => exact absurd rfl (hne C)
    | _ => exact Option.some.inj (e1.symm.trans e2)
  subst e3
  exact kk q H1 hP1 hD1 hS1
end CQ
/-! NUMBERS: every int is iZ of an integer, every long lZ of one; arrays hold functions of integers. -/
def iZ (z : Int) : Int32 := Int32.ofInt z
def lZ (z : Int) : Int64 := Int64.ofInt z
theorem iZ_of (x : Int32) : iZ x.toInt = x := Int32.ofInt_toInt x
theorem lZ_of (x : Int64) : lZ x.toInt = x := Int64.ofInt_toInt x
theorem iZ_toInt {z : Int} (h1 : -2147483648 ≤ z) (h2 : z < 2147483648) : (iZ z).toInt = z := Int32.toInt_ofInt_of_le (by omega) (by omega)
theorem lZ_toInt {z : Int} (h1 : -9223372036854775808 ≤ z) (h2 : z < 9223372036854775808) : (lZ z).toInt = z := Int64.toInt_ofInt_of_le (by omega) (by omega)
theorem iZ_b1 (x : Int32) : -2147483648 ≤ x.toInt := Int32.le_toInt x
theorem iZ_b2 (x : Int32) : x.toInt < 2147483648 := Int32.toInt_lt x
theorem lZ_b1 (x : Int64) : -9223372036854775808 ≤ x.toInt := Int64.le_toInt x
theorem lZ_b2 (x : Int64) : x.toInt < 9223372036854775808 := Int64.toInt_lt x
theorem iZ_add (a b : Int) : iZ a + iZ b = iZ (a + b) := (Int32.ofInt_add a b).symm
theorem iZ_sub (a b : Int) : iZ a - iZ b = iZ (a - b) := (Int32.ofInt_sub a b).symm
theorem iZ_mul (a b : Int) : iZ a * iZ b = iZ (a * b) := (Int32.ofInt_mul a b).symm
theorem lZ_add (a b : Int) : lZ a + lZ b = lZ (a + b) := (Int64.ofInt_add a b).symm
theorem lZ_sub (a b : Int) : lZ a - lZ b = lZ (a - b) := (Int64.ofInt_sub a b).symm
theorem lZ_mul (a b : Int) : lZ a * lZ b = lZ (a * b) := (Int64.ofInt_mul a b).symm
theorem lZ_neg (a : Int) : - lZ a = lZ (-a) := (Int64.ofInt_neg a).symm
theorem iZ_lt {a b : Int} (ha1 : -2147483648 ≤ a) (ha2 : a < 2147483648) (hb1 : -2147483648 ≤ b) (hb2 : b < 2147483648) : iZ a < iZ b ↔ a < b := by
  rw [Int32.lt_iff_toInt_lt, iZ_toInt ha1 ha2, iZ_toInt hb1 hb2]
theorem iZ_le {a b : Int} (ha1 : -2147483648 ≤ a) (ha2 : a < 2147483648) (hb1 : -2147483648 ≤ b) (hb2 : b < 2147483648) : iZ a ≤ iZ b ↔ a ≤ b := by
  rw [Int32.le_iff_toInt_le, iZ_toInt ha1 ha2, iZ_toInt hb1 hb2]
theorem iZ_eq {a b : Int} (ha1 : -2147483648 ≤ a) (ha2 : a < 2147483648) (hb1 : -2147483648 ≤ b) (hb2 : b < 2147483648) : iZ a = iZ b ↔ a = b := by
  rw [← Int32.toInt_inj, iZ_toInt ha1 ha2, iZ_toInt hb1 hb2]
theorem lZ_lt {a b : Int} (ha1 : -9223372036854775808 ≤ a) (ha2 : a < 9223372036854775808) (hb1 : -9223372036854775808 ≤ b) (hb2 : b < 9223372036854775808) : lZ a < lZ b ↔ a < b := by
  rw [Int64.lt_iff_toInt_lt, lZ_toInt ha1 ha2, lZ_toInt hb1 hb2]
theorem lZ_eq {a b : Int} (ha1 : -9223372036854775808 ≤ a) (ha2 : a < 9223372036854775808) (hb1 : -9223372036854775808 ≤ b) (hb2 : b < 9223372036854775808) : lZ a = lZ b ↔ a = b := by
  rw [← Int64.toInt_inj, lZ_toInt ha1 ha2, lZ_toInt hb1 hb2]
theorem iZ_0 : (0 : Int32) = iZ 0 := by decide
theorem iZ_clamp {z : Int} (h1 : 0 ≤ z) (h2 : z < 2147483648) : (iZ z).toNatClampNeg = z.toNat := by
  show (iZ z).toInt.toNat = z.toNat
  rw [iZ_toInt (by omega) h2]
theorem iZ_cast {z : Int} (h1 : 0 ≤ z) (h2 : z < 2147483648) : ((iZ z).toNatClampNeg : Int) = z := by rw [iZ_clamp h1 h2]; omega
theorem iZ_in {z : Int} {n : Nat} (h1 : 0 ≤ z) (h2 : z < n) (hn : n < 2147483648) : vp_in (iZ z) n := vp_in_iff.mpr (by rw [iZ_toInt (by omega) (by omega)]; exact ⟨h1, h2⟩)
theorem iZ_nN (n : Nat) : nI n = iZ n := by
  apply Int32.toBitVec_inj.mp
  simp [nI, iZ]
theorem lZ_nN (n : Nat) : lN n = lZ n := by
  apply Int64.toBitVec_inj.mp
  simp [lN, lZ]
theorem iZ_div {a b : Int} (ha : 0 ≤ a) (ha2 : a < 2147483648) (hb : 0 < b) (hb2 : b < 2147483648) : iZ a / iZ b = iZ (a / b) := by
  obtain ⟨n, rfl⟩ := Int.eq_ofNat_of_zero_le ha
  obtain ⟨k, rfl⟩ := Int.eq_ofNat_of_zero_le (Int.le_of_lt hb)
  rw [← iZ_nN, ← iZ_nN, pk_div (by omega) (by omega) (by omega), iZ_nN]
  rfl
theorem iZ_rem {a b : Int} (ha : 0 ≤ a) (ha2 : a < 2147483648) (hb : 0 < b) (hb2 : b < 2147483648) : iZ a - iZ a / iZ b * iZ b = iZ (a % b) := by
  rw [iZ_div ha ha2 hb hb2, iZ_mul, iZ_sub]
  congr 1
  have := Int.mul_ediv_add_emod a b
  rw [Int.mul_comm] at this
  omega
theorem lZ_div {a b : Int} (ha : 0 ≤ a) (ha2 : a < 9223372036854775808) (hb : 0 < b) (hb2 : b < 9223372036854775808) : lZ a / lZ b = lZ (a / b) := by
  obtain ⟨n, rfl⟩ := Int.eq_ofNat_of_zero_le ha
  obtain ⟨k, rfl⟩ := Int.eq_ofNat_of_zero_le (Int.le_of_lt hb)
  rw [← lZ_nN, ← lZ_nN, pk_lDiv (by omega) (by omega) (by omega), lZ_nN]
  rfl
theorem lZ_rem {a b : Int} (ha : 0 ≤ a) (ha2 : a < 9223372036854775808) (hb : 0 < b) (hb2 : b < 9223372036854775808) : lZ a - lZ a / lZ b * lZ b = lZ (a % b) := by
  rw [lZ_div ha ha2 hb hb2, lZ_mul, lZ_sub]
  congr 1
  have := Int.mul_ediv_add_emod a b
  rw [Int.mul_comm] at this
  omega
theorem iZ_l {z : Int} (h1 : -2147483648 ≤ z) (h2 : z < 2147483648) : (iZ z).toInt64 = lZ z := by
  apply Int64.toInt_inj.mp
  rw [Int32.toInt_toInt64, iZ_toInt h1 h2, lZ_toInt (by omega) (by omega)]
theorem lZ_i (z : Int) : (lZ z).toInt32 = iZ z := by
  apply Int32.toBitVec_inj.mp
  simp [lZ, iZ]
  
theorem lg_lt {x y : Int64} : lg_cmp x y < 0 ↔ x < y := by
  unfold lg_cmp
  by_cases h1 : x > y
  · have h2 : ¬ x < y := Int64.not_lt.mpr (Int64.le_of_lt h1)
    simp [h1, h2]
  · by_cases h2 : x = y
    · subst h2; simp
    · have h3 : x < y := by
        rcases Int64.lt_or_eq_of_le (Int64.not_lt.mp h1) with h | h
        · exact h
        · exact absurd h h2
      simp [h1, h2, h3]
theorem lg_eq {x y : Int64} : lg_cmp x y = 0 ↔ x = y := by
  unfold lg_cmp
  by_cases h1 : x > y
  · have h2 : ¬ x = y := fun e => by subst e; exact absurd h1 (Int64.lt_irrefl)
    simp [h1, h2]
  · by_cases h2 : x = y
    · simp [h2]
    · simp [h1, h2]
theorem lg_gt {x y : Int64} : 0 < lg_cmp x y ↔ y < x := by
  unfold lg_cmp
  by_cases h1 : x > y
  · simp [h1]
  · by_cases h2 : x = y
    · simp [h2]
    · simp [h1, h2]
theorem lg_ge {x y : Int64} : 0 ≤ lg_cmp x y ↔ ¬ x < y := by rw [← lg_lt, Int32.not_lt]
theorem lg_le {x y : Int64} : lg_cmp x y ≤ 0 ↔ ¬ y < x := by rw [← lg_gt, Int32.not_lt]
theorem lZ_nat (x : Int) : (lZ x).toUInt64.toNat = (x % 18446744073709551616).toNat := by
  show (BitVec.ofInt 64 x).toNat = _
  rw [BitVec.toNat_ofInt]
  rfl
theorem lZ_ush33 (x : Int) : ((lZ x).toUInt64 >>> ((iZ 33).toInt64.toUInt64 &&& Int64.toUInt64 63)).toInt64 = lZ (x % 18446744073709551616 / 8589934592) := by
  have h : ((iZ 33).toInt64.toUInt64 &&& Int64.toUInt64 63).toNat % 64 = 33 := by decide
  have e : (lZ x).toUInt64 >>> ((iZ 33).toInt64.toUInt64 &&& Int64.toUInt64 63) = (lZ (x % 18446744073709551616 / 8589934592)).toUInt64 := UInt64.toNat_inj.mp (by
    rw [UInt64.toNat_shiftRight, h, Nat.shiftRight_eq_div_pow, lZ_nat, lZ_nat]
    omega)
  rw [e]
  rfl
def aI (f : Int → Int) : Nat → Int32 := fun j => iZ (f j)
def aL (f : Int → Int) : Nat → Int64 := fun j => lZ (f j)
def pu (f : Int → Int) (k v : Int) : Int → Int := fun j => if j = k then v else f j
theorem pu_eq (f : Int → Int) (k v : Int) : pu f k v k = v := if_pos rfl
theorem pu_ne (f : Int → Int) {k v j : Int} (h : ¬ j = k) : pu f k v j = f j := if_neg h
theorem aI_get (f : Int → Int) {z : Int} (h1 : 0 ≤ z) (h2 : z < 2147483648) : aI f (iZ z).toNatClampNeg = iZ (f z) := by
  unfold aI; rw [iZ_cast h1 h2]
theorem aL_get (f : Int → Int) {z : Int} (h1 : 0 ≤ z) (h2 : z < 2147483648) : aL f (iZ z).toNatClampNeg = lZ (f z) := by
  unfold aL; rw [iZ_cast h1 h2]
theorem aI_set (f : Int → Int) {z v : Int} (h1 : 0 ≤ z) (h2 : z < 2147483648) : upd (aI f) (iZ z).toNatClampNeg (iZ v) = aI (pu f z v) := by
  funext j
  unfold upd aI pu
  have e := iZ_cast h1 h2
  by_cases h : j = (iZ z).toNatClampNeg
  · rw [if_pos h, if_pos (by rw [h, e])]
  · rw [if_neg h, if_neg (fun q => h (by omega))]
theorem aL_set (f : Int → Int) {z v : Int} (h1 : 0 ≤ z) (h2 : z < 2147483648) : vp_updL (aL f) (iZ z).toNatClampNeg (lZ v) = aL (pu f z v) := by
  funext j
  unfold vp_updL aL pu
  have e := iZ_cast h1 h2
  by_cases h : j = (iZ z).toNatClampNeg
  · rw [if_pos h, if_pos (by rw [h, e])]
  · rw [if_neg h, if_neg (fun q => h (by omega))]
theorem aI_0 : (fun _ => (0 : Int32)) = aI (fun _ => 0) := by funext j; exact iZ_0
theorem aL_0 : (fun _ => (0 : Int64)) = aL (fun _ => 0) := by funext j; show (0 : Int64) = lZ 0; decide
theorem bo_nar {v : Int} (h1 : 0 ≤ v) (h2 : v < 2) : vp_nar .boolean (iZ v) = iZ v := by
  rcases (show v = 0 ∨ v = 1 by omega) with rfl | rfl <;> decide
theorem bo_narr {v : Int} (h1 : 0 ≤ v) (h2 : v < 2) : narrow .boolean (.int (iZ v)) = .int (iZ v) := by
  rcases (show v = 0 ∨ v = 1 by omega) with rfl | rfl <;> decide
theorem bo_fits {v : Int} (h1 : 0 ≤ v) (h2 : v < 2) : fits .boolean (.int (iZ v)) = true := by
  rcases (show v = 0 ∨ v = 1 by omega) with rfl | rfl <;> decide
section NW
variable {p : Program} {l : Launch} {e : Env} {R : Room} {s : State} {m : MethodId} {args : Array Value} {below : List Frame} {meth : Method} {c : Code} {H : Heap} {locs : List Loc} {cells slots : Nat} {Q : State → Prop}
variable {cc : ByteArray} {pc : Nat} {ls : Array Slot} {rest : List Value} {D : va_G} {cl : List vw_C} {tys : List (ClassId × FieldType)} {nw : List Cond} {A : Nat → Prop} {ws : va_W} {H0 : Heap} {a : Nat}
theorem z_iadd (hx : p.tables.exec = Jvm.exec) (hb : c.code = cc) {x y : Int} (hdg : decode cc pc = .ok (.iadd, 1)) (k : W p l e R s m args below meth c H locs cells slots Q (F0 m (pc + 1) ls (.int (iZ (x + y)) :: rest))) : W p l e R s m args below meth c H locs cells slots Q (F0 m pc ls (.int (iZ y) :: .int (iZ x) :: rest)) := lv_iadd hx hb hdg (cq_ti (iZ_add x y) k)
theorem z_isub (hx : p.tables.exec = Jvm.exec) (hb : c.code = cc) {x y : Int} (hdg : decode cc pc = .ok (.isub, 1)) (k : W p l e R s m args below meth c H locs cells slots Q (F0 m (pc + 1) ls (.int (iZ (x - y)) :: rest))) : W p l e R s m args below meth c H locs cells slots Q (F0 m pc ls (.int (iZ y) :: .int (iZ x) :: rest)) := lv_isub hx hb hdg (cq_ti (iZ_sub x y) k)
theorem z_imul (hx : p.tables.exec = Jvm.exec) (hb : c.code = cc) {x y : Int} (hdg : decode cc pc = .ok (.imul, 1)) (k : W p l e R s m args below meth c H locs cells slots Q (F0 m (pc + 1) ls (.int (iZ (x * y)) :: rest))) : W p l e R s m args below meth c H locs cells slots Q (F0 m pc ls (.int (iZ y) :: .int (iZ x) :: rest)) := lv_imul hx hb hdg (cq_ti (iZ_mul x y) k)
theorem z_ladd (hx : p.tables.exec = Jvm.exec) (hb : c.code = cc) {x y : Int} (hdg : decode cc pc = .ok (.ladd, 1)) (k : W p l e R s m args below meth c H locs cells slots Q (F0 m (pc + 1) ls (.long (lZ (x + y)) :: rest))) : W p l e R s m args below meth c H locs cells slots Q (F0 m pc ls (.long (lZ y) :: .long (lZ x) :: rest)) := lv_ladd hx hb hdg (cq_tl (lZ_add x y) k)
theorem z_lsub (hx : p.tables.exec = Jvm.exec) (hb : c.code = cc) {x y : Int} (hdg : decode cc pc = .ok (.lsub, 1)) (k : W p l e R s m args below meth c H locs cells slots Q (F0 m (pc + 1) ls (.long (lZ (x - y)) :: rest))) : W p l e R s m args below meth c H locs cells slots Q (F0 m pc ls (.long (lZ y) :: .long (lZ x) :: rest)) := lv_lsub hx hb hdg (cq_tl (lZ_sub x y) k)
theorem z_lmul (hx : p.tables.exec = Jvm.exec) (hb : c.code = cc) {x y : Int} (hdg : decode cc pc = .ok (.lmul, 1)) (k : W p l e R s m args below meth c H locs cells slots Q (F0 m (pc + 1) ls (.long (lZ (x * y)) :: rest))) : W p l e R s m args below meth c H locs cells slots Q (F0 m pc ls (.long (lZ y) :: .long (lZ x) :: rest)) := lv_lmul hx hb hdg (cq_tl (lZ_mul x y) k)
theorem z_ldiv (hx : p.tables.exec = Jvm.exec) (hb : c.code = cc) {x y : Int} (h1 : 0 ≤ x) (h2 : x < 9223372036854775808) (h3 : 0 < y) (h4 : y < 9223372036854775808) (hdg : decode cc pc = .ok (.ldiv, 1)) (k : W p l e R s m args below meth c H locs cells slots Q (F0 m (pc + 1) ls (.long (lZ (x / y)) :: rest))) : W p l e R s m args below meth c H locs cells slots Q (F0 m pc ls (.long (lZ y) :: .long (lZ x) :: rest)) :=
  lv_ldiv hx hb hdg (fun q => absurd ((lZ_eq (a := y) (b := 0) (by omega) h4 (by omega) (by omega)).mp q) (by omega)) (cq_tl (lZ_div h1 h2 h3 h4) k)
theorem z_lrem (hx : p.tables.exec = Jvm.exec) (hb : c.code = cc) {x y : Int} (h1 : 0 ≤ x) (h2 : x < 9223372036854775808) (h3 : 0 < y) (h4 : y < 9223372036854775808) (hdg : decode cc pc = .ok (.lrem, 1)) (k : W p l e R s m args below meth c H locs cells slots Q (F0 m (pc + 1) ls (.long (lZ (x % y)) :: rest))) : W p l e R s m args below meth c H locs cells slots Q (F0 m pc ls (.long (lZ y) :: .long (lZ x) :: rest)) :=
  lv_lrem hx hb hdg (fun q => absurd ((lZ_eq (a := y) (b := 0) (by omega) h4 (by omega) (by omega)).mp q) (by omega)) (cq_tl (lZ_rem h1 h2 h3 h4) k)
theorem z_i2l (hx : p.tables.exec = Jvm.exec) (hb : c.code = cc) {x : Int} (h1 : -2147483648 ≤ x) (h2 : x < 2147483648) (hdg : decode cc pc = .ok (.i2l, 1)) (k : W p l e R s m args below meth c H locs cells slots Q (F0 m (pc + 1) ls (.long (lZ x) :: rest))) : W p l e R s m args below meth c H locs cells slots Q (F0 m pc ls (.int (iZ x) :: rest)) := lv_i2l hx hb hdg (iZ_l h1 h2) k
theorem z_l2i (hx : p.tables.exec = Jvm.exec) (hb : c.code = cc) {x : Int} (hdg : decode cc pc = .ok (.l2i, 1)) (k : W p l e R s m args below meth c H locs cells slots Q (F0 m (pc + 1) ls (.int (iZ x) :: rest))) : W p l e R s m args below meth c H locs cells slots Q (F0 m pc ls (.long (lZ x) :: rest)) := lv_l2i hx hb hdg (lZ_i x) k
theorem z_icmp_eq (hx : p.tables.exec = Jvm.exec) (hb : c.code = cc) {x y : Int} (h1 : -2147483648 ≤ x) (h2 : x < 2147483648) (h3 : -2147483648 ≤ y) (h4 : y < 2147483648) {off : Int} {tgt : Nat} (hdg : decode cc pc = .ok (.if_icmp .eq off, 3)) (ht : (pc : Int) + off = (tgt : Int)) (kt : x = y → W p l e R s m args below meth c H locs cells slots Q (F0 m tgt ls rest)) (kf : ¬ x = y → W p l e R s m args below meth c H locs cells slots Q (F0 m (pc + 3) ls rest)) : W p l e R s m args below meth c H locs cells slots Q (F0 m pc ls (.int (iZ y) :: .int (iZ x) :: rest)) := by
  have hi := iZ_eq h1 h2 h3 h4
  refine lv_icmp_eq hx hb hdg ht (fun q => kt ?_) (fun q => kf ?_)
  · exact hi.mp q
  · exact fun z => q (hi.mpr z)
theorem z_icmp_ne (hx : p.tables.exec = Jvm.exec) (hb : c.code = cc) {x y : Int} (h1 : -2147483648 ≤ x) (h2 : x < 2147483648) (h3 : -2147483648 ≤ y) (h4 : y < 2147483648) {off : Int} {tgt : Nat} (hdg : decode cc pc = .ok (.if_icmp .ne off, 3)) (ht : (pc : Int) + off = (tgt : Int)) (kt : ¬ x = y → W p l e R s m args below meth c H locs cells slots Q (F0 m tgt ls rest)) (kf : x = y → W p l e R s m args below meth c H locs cells slots Q (F0 m (pc + 3) ls rest)) : W p l e R s m args below meth c H locs cells slots Q (F0 m pc ls (.int (iZ y) :: .int (iZ x) :: rest)) := by
  have hi := iZ_eq h1 h2 h3 h4
  refine lv_icmp_ne hx hb hdg ht (fun q => kt ?_) (fun q => kf ?_)
  · exact fun z => q (hi.mpr z)
  · exact hi.mp q
theorem z_icmp_lt (hx : p.tables.exec = Jvm.exec) (hb : c.code = cc) {x y : Int} (h1 : -2147483648 ≤ x) (h2 : x < 2147483648) (h3 : -2147483648 ≤ y) (h4 : y < 2147483648) {off : Int} {tgt : Nat} (hdg : decode cc pc = .ok (.if_icmp .lt off, 3)) (ht : (pc : Int) + off = (tgt : Int)) (kt : x < y → W p l e R s m args below meth c H locs cells slots Q (F0 m tgt ls rest)) (kf : ¬ x < y → W p l e R s m args below meth c H locs cells slots Q (F0 m (pc + 3) ls rest)) : W p l e R s m args below meth c H locs cells slots Q (F0 m pc ls (.int (iZ y) :: .int (iZ x) :: rest)) := by
  have hi := iZ_lt h1 h2 h3 h4
  refine lv_icmp_lt hx hb hdg ht (fun q => kt ?_) (fun q => kf ?_)
  · exact hi.mp q
  · exact fun z => q (hi.mpr z)
theorem z_icmp_ge (hx : p.tables.exec = Jvm.exec) (hb : c.code = cc) {x y : Int} (h1 : -2147483648 ≤ x) (h2 : x < 2147483648) (h3 : -2147483648 ≤ y) (h4 : y < 2147483648) {off : Int} {tgt : Nat} (hdg : decode cc pc = .ok (.if_icmp .ge off, 3)) (ht : (pc : Int) + off = (tgt : Int)) (kt : ¬ x < y → W p l e R s m args below meth c H locs cells slots Q (F0 m tgt ls rest)) (kf : x < y → W p l e R s m args below meth c H locs cells slots Q (F0 m (pc + 3) ls rest)) : W p l e R s m args below meth c H locs cells slots Q (F0 m pc ls (.int (iZ y) :: .int (iZ x) :: rest)) := by
  have hi := iZ_lt h1 h2 h3 h4
  refine lv_icmp_ge hx hb hdg ht (fun q => kt ?_) (fun q => kf ?_)
  · exact fun z => Int32.not_lt.mpr q (hi.mpr z)
  · exact hi.mp (Int32.not_le.mp q)
theorem z_icmp_gt (hx : p.tables.exec = Jvm.exec) (hb : c.code = cc) {x y : Int} (h1 : -2147483648 ≤ x) (h2 : x < 2147483648) (h3 : -2147483648 ≤ y) (h4 : y < 2147483648) {off : Int} {tgt : Nat} (hdg : decode cc pc = .ok (.if_icmp .gt off, 3)) (ht : (pc : Int) + off = (tgt : Int)) (kt : y < x → W p l e R s m args below meth c H locs cells slots Q (F0 m tgt ls rest)) (kf : ¬ y < x → W p l e R s m args below meth c H locs cells slots Q (F0 m (pc + 3) ls rest)) : W p l e R s m args below meth c H locs cells slots Q (F0 m pc ls (.int (iZ y) :: .int (iZ x) :: rest)) := by
  have hi := iZ_lt h3 h4 h1 h2
  refine lv_icmp_gt hx hb hdg ht (fun q => kt ?_) (fun q => kf ?_)
  · exact hi.mp q
  · exact fun z => q (hi.mpr z)
theorem z_icmp_le (hx : p.tables.exec = Jvm.exec) (hb : c.code = cc) {x y : Int} (h1 : -2147483648 ≤ x) (h2 : x < 2147483648) (h3 : -2147483648 ≤ y) (h4 : y < 2147483648) {off : Int} {tgt : Nat} (hdg : decode cc pc = .ok (.if_icmp .le off, 3)) (ht : (pc : Int) + off = (tgt : Int)) (kt : ¬ y < x → W p l e R s m args below meth c H locs cells slots Q (F0 m tgt ls rest)) (kf : y < x → W p l e R s m args below meth c H locs cells slots Q (F0 m (pc + 3) ls rest)) : W p l e R s m args below meth c H locs cells slots Q (F0 m pc ls (.int (iZ y) :: .int (iZ x) :: rest)) := by
  have hi := iZ_lt h3 h4 h1 h2
  refine lv_icmp_le hx hb hdg ht (fun q => kt ?_) (fun q => kf ?_)
  · exact fun z => Int32.not_lt.mpr q (hi.mpr z)
  · exact hi.mp (Int32.not_le.mp q)
theorem z_if_eq (hx : p.tables.exec = Jvm.exec) (hb : c.code = cc) {x : Int} (h1 : -2147483648 ≤ x) (h2 : x < 2147483648) {off : Int} {tgt : Nat} (hdg : decode cc pc = .ok (.ifCond .eq off, 3)) (ht : (pc : Int) + off = (tgt : Int)) (kt : x = 0 → W p l e R s m args below meth c H locs cells slots Q (F0 m tgt ls rest)) (kf : ¬ x = 0 → W p l e R s m args below meth c H locs cells slots Q (F0 m (pc + 3) ls rest)) : W p l e R s m args below meth c H locs cells slots Q (F0 m pc ls (.int (iZ x) :: rest)) := by
  have hi : iZ x = iZ 0 ↔ x = 0 := iZ_eq h1 h2 (by omega) (by omega)
  rw [← iZ_0] at hi
  refine lv_if_eq hx hb hdg ht (fun q => kt ?_) (fun q => kf ?_)
  · exact hi.mp q
  · exact fun z => q (hi.mpr z)
theorem z_if_ne (hx : p.tables.exec = Jvm.exec) (hb : c.code = cc) {x : Int} (h1 : -2147483648 ≤ x) (h2 : x < 2147483648) {off : Int} {tgt : Nat} (hdg : decode cc pc = .ok (.ifCond .ne off, 3)) (ht : (pc : Int) + off = (tgt : Int)) (kt : ¬ x = 0 → W p l e R s m args below meth c H locs cells slots Q (F0 m tgt ls rest)) (kf : x = 0 → W p l e R s m args below meth c H locs cells slots Q (F0 m (pc + 3) ls rest)) : W p l e R s m args below meth c H locs cells slots Q (F0 m pc ls (.int (iZ x) :: rest)) := by
  have hi : iZ x = iZ 0 ↔ x = 0 := iZ_eq h1 h2 (by omega) (by omega)
  rw [← iZ_0] at hi
  refine lv_if_ne hx hb hdg ht (fun q => kt ?_) (fun q => kf ?_)
  · exact fun z => q (hi.mpr z)
  · exact hi.mp q
theorem z_if_lt (hx : p.tables.exec = Jvm.exec) (hb : c.code = cc) {x : Int} (h1 : -2147483648 ≤ x) (h2 : x < 2147483648) {off : Int} {tgt : Nat} (hdg : decode cc pc = .ok (.ifCond .lt off, 3)) (ht : (pc : Int) + off = (tgt : Int)) (kt : x < 0 → W p l e R s m args below meth c H locs cells slots Q (F0 m tgt ls rest)) (kf : ¬ x < 0 → W p l e R s m args below meth c H locs cells slots Q (F0 m (pc + 3) ls rest)) : W p l e R s m args below meth c H locs cells slots Q (F0 m pc ls (.int (iZ x) :: rest)) := by
  have hi : iZ x < iZ 0 ↔ x < 0 := iZ_lt h1 h2 (by omega) (by omega)
  rw [← iZ_0] at hi
  refine lv_if_lt hx hb hdg ht (fun q => kt ?_) (fun q => kf ?_)
  · exact hi.mp q
  · exact fun z => q (hi.mpr z)
theorem z_if_ge (hx : p.tables.exec = Jvm.exec) (hb : c.code = cc) {x : Int} (h1 : -2147483648 ≤ x) (h2 : x < 2147483648) {off : Int} {tgt : Nat} (hdg : decode cc pc = .ok (.ifCond .ge off, 3)) (ht : (pc : Int) + off = (tgt : Int)) (kt : ¬ x < 0 → W p l e R s m args below meth c H locs cells slots Q (F0 m tgt ls rest)) (kf : x < 0 → W p l e R s m args below meth c H locs cells slots Q (F0 m (pc + 3) ls rest)) : W p l e R s m args below meth c H locs cells slots Q (F0 m pc ls (.int (iZ x) :: rest)) := by
  have hi : iZ x < iZ 0 ↔ x < 0 := iZ_lt h1 h2 (by omega) (by omega)
  rw [← iZ_0] at hi
  refine lv_if_ge hx hb hdg ht (fun q => kt ?_) (fun q => kf ?_)
  · exact fun z => Int32.not_lt.mpr q (hi.mpr z)
  · exact hi.mp (Int32.not_le.mp q)
theorem z_if_gt (hx : p.tables.exec = Jvm.exec) (hb : c.code = cc) {x : Int} (h1 : -2147483648 ≤ x) (h2 : x < 2147483648) {off : Int} {tgt : Nat} (hdg : decode cc pc = .ok (.ifCond .gt off, 3)) (ht : (pc : Int) + off = (tgt : Int)) (kt : 0 < x → W p l e R s m args below meth c H locs cells slots Q (F0 m tgt ls rest)) (kf : ¬ 0 < x → W p l e R s m args below meth c H locs cells slots Q (F0 m (pc + 3) ls rest)) : W p l e R s m args below meth c H locs cells slots Q (F0 m pc ls (.int (iZ x) :: rest)) := by
  have hi : iZ 0 < iZ x ↔ 0 < x := iZ_lt (by omega) (by omega) h1 h2
  rw [← iZ_0] at hi
  refine lv_if_gt hx hb hdg ht (fun q => kt ?_) (fun q => kf ?_)
  · exact hi.mp q
  · exact fun z => q (hi.mpr z)
theorem z_if_le (hx : p.tables.exec = Jvm.exec) (hb : c.code = cc) {x : Int} (h1 : -2147483648 ≤ x) (h2 : x < 2147483648) {off : Int} {tgt : Nat} (hdg : decode cc pc = .ok (.ifCond .le off, 3)) (ht : (pc : Int) + off = (tgt : Int)) (kt : ¬ 0 < x → W p l e R s m args below meth c H locs cells slots Q (F0 m tgt ls rest)) (kf : 0 < x → W p l e R s m args below meth c H locs cells slots Q (F0 m (pc + 3) ls rest)) : W p l e R s m args below meth c H locs cells slots Q (F0 m pc ls (.int (iZ x) :: rest)) := by
  have hi : iZ 0 < iZ x ↔ 0 < x := iZ_lt (by omega) (by omega) h1 h2
  rw [← iZ_0] at hi
  refine lv_if_le hx hb hdg ht (fun q => kt ?_) (fun q => kf ?_)
  · exact fun z => Int32.not_lt.mpr q (hi.mpr z)
  · exact hi.mp (Int32.not_le.mp q)
theorem z_lcmp_eq (hx : p.tables.exec = Jvm.exec) (hb : c.code = cc) {x y : Int} (h1 : -9223372036854775808 ≤ x) (h2 : x < 9223372036854775808) (h3 : -9223372036854775808 ≤ y) (h4 : y < 9223372036854775808) {off : Int} {tgt : Nat} (hd0 : decode cc pc = .ok (.lcmp, 1)) (hdg : decode cc (pc + 1) = .ok (.ifCond .eq off, 3)) (ht : ((pc + 1 : Nat) : Int) + off = (tgt : Int)) (kt : x = y → W p l e R s m args below meth c H locs cells slots Q (F0 m tgt ls rest)) (kf : ¬ x = y → W p l e R s m args below meth c H locs cells slots Q (F0 m (pc + 4) ls rest)) : W p l e R s m args below meth c H locs cells slots Q (F0 m pc ls (.long (lZ y) :: .long (lZ x) :: rest)) := by
  have hi := lZ_eq h1 h2 h3 h4
  refine W.lcmp hx hb hd0 ?_
  refine lv_if_eq hx hb hdg ht (fun q => kt ?_) (fun q => kf ?_)
  · exact hi.mp (lg_eq.mp q)
  · exact fun z => q (lg_eq.mpr (hi.mpr z))
theorem z_lcmp_ne (hx : p.tables.exec = Jvm.exec) (hb : c.code = cc) {x y : Int} (h1 : -9223372036854775808 ≤ x) (h2 : x < 9223372036854775808) (h3 : -9223372036854775808 ≤ y) (h4 : y < 9223372036854775808) {off : Int} {tgt : Nat} (hd0 : decode cc pc = .ok (.lcmp, 1)) (hdg : decode cc (pc + 1) = .ok (.ifCond .ne off, 3)) (ht : ((pc + 1 : Nat) : Int) + off = (tgt : Int)) (kt : ¬ x = y → W p l e R s m args below meth c H locs cells slots Q (F0 m tgt ls rest)) (kf : x = y → W p l e R s m args below meth c H locs cells slots Q (F0 m (pc + 4) ls rest)) : W p l e R s m args below meth c H locs cells slots Q (F0 m pc ls (.long (lZ y) :: .long (lZ x) :: rest)) := by
  have hi := lZ_eq h1 h2 h3 h4
  refine W.lcmp hx hb hd0 ?_
  refine lv_if_ne hx hb hdg ht (fun q => kt ?_) (fun q => kf ?_)
  · exact fun z => q (lg_eq.mpr (hi.mpr z))
  · exact hi.mp (lg_eq.mp q)
theorem z_lcmp_lt (hx : p.tables.exec = Jvm.exec) (hb : c.code = cc) {x y : Int} (h1 : -9223372036854775808 ≤ x) (h2 : x < 9223372036854775808) (h3 : -9223372036854775808 ≤ y) (h4 : y < 9223372036854775808) {off : Int} {tgt : Nat} (hd0 : decode cc pc = .ok (.lcmp, 1)) (hdg : decode cc (pc + 1) = .ok (.ifCond .lt off, 3)) (ht : ((pc + 1 : Nat) : Int) + off = (tgt : Int)) (kt : x < y → W p l e R s m args below meth c H locs cells slots Q (F0 m tgt ls rest)) (kf : ¬ x < y → W p l e R s m args below meth c H locs cells slots Q (F0 m (pc + 4) ls rest)) : W p l e R s m args below meth c H locs cells slots Q (F0 m pc ls (.long (lZ y) :: .long (lZ x) :: rest)) := by
  have hi := lZ_lt h1 h2 h3 h4
  refine W.lcmp hx hb hd0 ?_
  refine lv_if_lt hx hb hdg ht (fun q => kt ?_) (fun q => kf ?_)
  · exact hi.mp (lg_lt.mp q)
  · exact fun z => q (lg_lt.mpr (hi.mpr z))
theorem z_lcmp_ge (hx : p.tables.exec = Jvm.exec) (hb : c.code = cc) {x y : Int} (h1 : -9223372036854775808 ≤ x) (h2 : x < 9223372036854775808) (h3 : -9223372036854775808 ≤ y) (h4 : y < 9223372036854775808) {off : Int} {tgt : Nat} (hd0 : decode cc pc = .ok (.lcmp, 1)) (hdg : decode cc (pc + 1) = .ok (.ifCond .ge off, 3)) (ht : ((pc + 1 : Nat) : Int) + off = (tgt : Int)) (kt : ¬ x < y → W p l e R s m args below meth c H locs cells slots Q (F0 m tgt ls rest)) (kf : x < y → W p l e R s m args below meth c H locs cells slots Q (F0 m (pc + 4) ls rest)) : W p l e R s m args below meth c H locs cells slots Q (F0 m pc ls (.long (lZ y) :: .long (lZ x) :: rest)) := by
  have hi := lZ_lt h1 h2 h3 h4
  refine W.lcmp hx hb hd0 ?_
  refine lv_if_ge hx hb hdg ht (fun q => kt ?_) (fun q => kf ?_)
  · exact fun z => (lg_ge.mp q) (hi.mpr z)
  · exact hi.mp (Classical.not_not.mp (fun z => q (lg_ge.mpr z)))
theorem z_lcmp_gt (hx : p.tables.exec = Jvm.exec) (hb : c.code = cc) {x y : Int} (h1 : -9223372036854775808 ≤ x) (h2 : x < 9223372036854775808) (h3 : -9223372036854775808 ≤ y) (h4 : y < 9223372036854775808) {off : Int} {tgt : Nat} (hd0 : decode cc pc = .ok (.lcmp, 1)) (hdg : decode cc (pc + 1) = .ok (.ifCond .gt off, 3)) (ht : ((pc + 1 : Nat) : Int) + off = (tgt : Int)) (kt : y < x → W p l e R s m args below meth c H locs cells slots Q (F0 m tgt ls rest)) (kf : ¬ y < x → W p l e R s m args below meth c H locs cells slots Q (F0 m (pc + 4) ls rest)) : W p l e R s m args below meth c H locs cells slots Q (F0 m pc ls (.long (lZ y) :: .long (lZ x) :: rest)) := by
  have hi := lZ_lt h3 h4 h1 h2
  refine W.lcmp hx hb hd0 ?_
  refine lv_if_gt hx hb hdg ht (fun q => kt ?_) (fun q => kf ?_)
  · exact hi.mp (lg_gt.mp q)
  · exact fun z => q (lg_gt.mpr (hi.mpr z))
theorem z_lcmp_le (hx : p.tables.exec = Jvm.exec) (hb : c.code = cc) {x y : Int} (h1 : -9223372036854775808 ≤ x) (h2 : x < 9223372036854775808) (h3 : -9223372036854775808 ≤ y) (h4 : y < 9223372036854775808) {off : Int} {tgt : Nat} (hd0 : decode cc pc = .ok (.lcmp, 1)) (hdg : decode cc (pc + 1) = .ok (.ifCond .le off, 3)) (ht : ((pc + 1 : Nat) : Int) + off = (tgt : Int)) (kt : ¬ y < x → W p l e R s m args below meth c H locs cells slots Q (F0 m tgt ls rest)) (kf : y < x → W p l e R s m args below meth c H locs cells slots Q (F0 m (pc + 4) ls rest)) : W p l e R s m args below meth c H locs cells slots Q (F0 m pc ls (.long (lZ y) :: .long (lZ x) :: rest)) := by
  have hi := lZ_lt h3 h4 h1 h2
  refine W.lcmp hx hb hd0 ?_
  refine lv_if_le hx hb hdg ht (fun q => kt ?_) (fun q => kf ?_)
  · exact fun z => (lg_le.mp q) (hi.mpr z)
  · exact hi.mp (Classical.not_not.mp (fun z => q (lg_le.mpr z)))
theorem z_iald (hx : p.tables.exec = Jvm.exec) (hb : c.code = cc) (hK : cq_K D cl tys nw s) (hP : va_P D cl ws H) (q0 t0 : Nat) {cA : ClassId} {n : Nat} {f : Int → Int} (ha : ws[q0]? = some (a, .inl (cA, n, .inl (aI f)))) (ht : tys[t0]? = some (cA, .int)) {i : Int} (h1 : 0 ≤ i) (h2 : i < (n : Int)) (hn : n < 2147483648) (hdg : decode cc pc = .ok (.iaload, 1))
    (kk : W p l e R s m args below meth c H locs cells slots Q (F0 m (pc + 1) ls (.int (iZ (f i)) :: rest))) : W p l e R s m args below meth c H locs cells slots Q (F0 m pc ls (.int (iZ i) :: .ref a :: rest)) :=
  va_iald hx hb hK.1 hP q0 t0 ha ht (iZ_in h1 h2 hn) hdg (cq_ti (aI_get f h1 (by omega)) kk)
theorem z_zald (hx : p.tables.exec = Jvm.exec) (hb : c.code = cc) (hK : cq_K D cl tys nw s) (hP : va_P D cl ws H) (q0 t0 : Nat) {cA : ClassId} {n : Nat} {f : Int → Int} (ha : ws[q0]? = some (a, .inl (cA, n, .inl (aI f)))) (ht : tys[t0]? = some (cA, .boolean)) {i : Int} (h1 : 0 ≤ i) (h2 : i < (n : Int)) (hn : n < 2147483648) (hdg : decode cc pc = .ok (.baload, 1))
    (kk : W p l e R s m args below meth c H locs cells slots Q (F0 m (pc + 1) ls (.int (iZ (f i)) :: rest))) : W p l e R s m args below meth c H locs cells slots Q (F0 m pc ls (.int (iZ i) :: .ref a :: rest)) :=
  va_zald hx hb hK.1 hP q0 t0 ha ht (iZ_in h1 h2 hn) hdg (cq_ti (aI_get f h1 (by omega)) kk)
theorem z_lald (hx : p.tables.exec = Jvm.exec) (hb : c.code = cc) (hK : cq_K D cl tys nw s) (hP : va_P D cl ws H) (q0 t0 : Nat) {cA : ClassId} {n : Nat} {f : Int → Int} (ha : ws[q0]? = some (a, .inl (cA, n, .inr (.inl (aL f))))) (ht : tys[t0]? = some (cA, .long)) {i : Int} (h1 : 0 ≤ i) (h2 : i < (n : Int)) (hn : n < 2147483648) (hdg : decode cc pc = .ok (.laload, 1))
    (kk : W p l e R s m args below meth c H locs cells slots Q (F0 m (pc + 1) ls (.long (lZ (f i)) :: rest))) : W p l e R s m args below meth c H locs cells slots Q (F0 m pc ls (.int (iZ i) :: .ref a :: rest)) :=
  va_lald hx hb hK.1 hP q0 t0 ha ht (iZ_in h1 h2 hn) hdg (cq_tl (aL_get f h1 (by omega)) kk)
theorem z_iast (hx : p.tables.exec = Jvm.exec) (hb : c.code = cc) (hK : cq_K D cl tys nw s) (hP : va_P D cl ws H) (hD : va_D A ws) (hS : va_S A H0 H locs) (q0 t0 : Nat) {cA : ClassId} {n : Nat} {f : Int → Int} (ha : ws[q0]? = some (a, .inl (cA, n, .inl (aI f)))) (ht : tys[t0]? = some (cA, .int)) {i x : Int} (h1 : 0 ≤ i) (h2 : i < (n : Int)) (hn : n < 2147483648) (hdg : decode cc pc = .ok (.iastore, 1))
    (kk : ∀ (H1 : Heap) (locs1 : List Loc), va_P D cl (ws.set q0 (a, .inl (cA, n, .inl (aI (pu f i x))))) H1 → va_D A (ws.set q0 (a, .inl (cA, n, .inl (aI (pu f i x))))) → va_S A H0 H1 locs1 → W p l e R s m args below meth c H1 locs1 cells slots Q (F0 m (pc + 1) ls rest)) : W p l e R s m args below meth c H locs cells slots Q (F0 m pc ls (.int (iZ x) :: .int (iZ i) :: .ref a :: rest)) := by
  refine va_iast hx hb hK.1 hP hD hS q0 t0 ha ht (iZ_in h1 h2 hn) hdg (fun H1 locs1 hP1 hD1 hS1 => ?_)
  rw [aI_set f h1 (by omega)] at hP1 hD1
  exact kk H1 locs1 hP1 hD1 hS1
theorem z_zast (hx : p.tables.exec = Jvm.exec) (hb : c.code = cc) (hK : cq_K D cl tys nw s) (hP : va_P D cl ws H) (hD : va_D A ws) (hS : va_S A H0 H locs) (q0 t0 : Nat) {cA : ClassId} {n : Nat} {f : Int → Int} (ha : ws[q0]? = some (a, .inl (cA, n, .inl (aI f)))) (ht : tys[t0]? = some (cA, .boolean)) {i x : Int} (h1 : 0 ≤ i) (h2 : i < (n : Int)) (hn : n < 2147483648) (h5 : 0 ≤ x) (h6 : x < 2) (hdg : decode cc pc = .ok (.bastore, 1))
    (kk : ∀ (H1 : Heap) (locs1 : List Loc), va_P D cl (ws.set q0 (a, .inl (cA, n, .inl (aI (pu f i x))))) H1 → va_D A (ws.set q0 (a, .inl (cA, n, .inl (aI (pu f i x))))) → va_S A H0 H1 locs1 → W p l e R s m args below meth c H1 locs1 cells slots Q (F0 m (pc + 1) ls rest)) : W p l e R s m args below meth c H locs cells slots Q (F0 m pc ls (.int (iZ x) :: .int (iZ i) :: .ref a :: rest)) := by
  refine va_zast hx hb hK.1 hP hD hS q0 t0 ha ht (iZ_in h1 h2 hn) hdg (fun H1 locs1 hP1 hD1 hS1 => ?_)
  rw [bo_nar h5 h6, aI_set f h1 (by omega)] at hP1 hD1
  exact kk H1 locs1 hP1 hD1 hS1
theorem z_last (hx : p.tables.exec = Jvm.exec) (hb : c.code = cc) (hK : cq_K D cl tys nw s) (hP : va_P D cl ws H) (hD : va_D A ws) (hS : va_S A H0 H locs) (q0 t0 : Nat) {cA : ClassId} {n : Nat} {f : Int → Int} (ha : ws[q0]? = some (a, .inl (cA, n, .inr (.inl (aL f))))) (ht : tys[t0]? = some (cA, .long)) {i x : Int} (h1 : 0 ≤ i) (h2 : i < (n : Int)) (hn : n < 2147483648) (hdg : decode cc pc = .ok (.lastore, 1))
    (kk : ∀ (H1 : Heap) (locs1 : List Loc), va_P D cl (ws.set q0 (a, .inl (cA, n, .inr (.inl (aL (pu f i x)))))) H1 → va_D A (ws.set q0 (a, .inl (cA, n, .inr (.inl (aL (pu f i x)))))) → va_S A H0 H1 locs1 → W p l e R s m args below meth c H1 locs1 cells slots Q (F0 m (pc + 1) ls rest)) : W p l e R s m args below meth c H locs cells slots Q (F0 m pc ls (.long (lZ x) :: .int (iZ i) :: .ref a :: rest)) := by
  refine va_last hx hb hK.1 hP hD hS q0 t0 ha ht (iZ_in h1 h2 hn) hdg (fun H1 locs1 hP1 hD1 hS1 => ?_)
  rw [aL_set f h1 (by omega)] at hP1 hD1
  exact kk H1 locs1 hP1 hD1 hS1
theorem z_lushr33 (hx : p.tables.exec = Jvm.exec) (hb : c.code = cc) {x : Int} (hdg : decode cc pc = .ok (.lushr, 1)) (k : W p l e R s m args below meth c H locs cells slots Q (F0 m (pc + 1) ls (.long (lZ (x % 18446744073709551616 / 8589934592)) :: rest))) : W p l e R s m args below meth c H locs cells slots Q (F0 m pc ls (.int (iZ 33) :: .long (lZ x) :: rest)) := lv_lushr hx hb hdg (lZ_ush33 x) k
end NW
end
section
/-! PURE ROWS: sums up to an integer, Euclid's steps, greatest shared divisors of integers. -/
def sN (g : Int → Int) : Nat → Int
  | 0 => 0
  | k + 1 => sN g k + g k
def sZ (g : Int → Int) (n : Int) : Int := sN g n.toNat
theorem sZ_0 (g : Int → Int) : sZ g 0 = 0 := rfl
theorem sZ_s (g : Int → Int) {i : Int} (h : 0 ≤ i) : sZ g (i + 1) = sZ g i + g i := by
  unfold sZ
  have e : (i + 1).toNat = i.toNat + 1 := by omega
  rw [e]
  show sN g i.toNat + g (i.toNat : Int) = _
  rw [Int.toNat_of_nonneg h]
theorem sZ_c {f g : Int → Int} {n : Int} (h : ∀ j, 0 ≤ j → j < n → f j = g j) : sZ f n = sZ g n := by
  unfold sZ
  have : ∀ k : Nat, (k : Int) ≤ n → sN f k = sN g k := by
    intro k
    induction k with
    | zero => intro _; rfl
    | succ k ih =>
      intro hk
      show sN f k + f k = sN g k + g k
      rw [ih (by omega), h k (by omega) (by omega)]
  by_cases hn : 0 ≤ n
  · exact this _ (by omega)
  · have : n.toNat = 0 := by omega
    rw [this]; rfl
theorem sZ_nn {g : Int → Int} (n : Int) (h : ∀ j, 0 ≤ g j) : 0 ≤ sZ g n := by
  unfold sZ
  induction n.toNat with
  | zero => exact Int.le_refl 0
  | succ k ih =>
    show 0 ≤ sN g k + g k
    have := h k
    omega
theorem sZ_le {g : Int → Int} {n : Int} (B : Int) (hn : 0 ≤ n) (h : ∀ j, g j ≤ B) : sZ g n ≤ B * n := by
  unfold sZ
  have : ∀ k : Nat, sN g k ≤ B * k := by
    intro k
    induction k with
    | zero => simp [sN]
    | succ k ih =>
      have h1 := h k
      show sN g k + g k ≤ B * ((k : Int) + 1)
      rw [Int.mul_add]
      omega
  have h2 := this n.toNat
  rwa [Int.toNat_of_nonneg hn] at h2
def eu : Nat → Int × Int → Int × Int
  | 0, x => x
  | k + 1, x => if x.2 = 0 then x else eu k (x.2, x.1 % x.2)
theorem eu_s {k : Nat} {g h : Int} (hh : ¬ h = 0) : eu (k + 1) (g, h) = eu k (h, g % h) := by
  show (if h = 0 then (g, h) else eu k (h, g % h)) = _
  rw [if_neg hh]
theorem eu_n (k : Nat) (g : Int) : eu k (g, 0) = (g, 0) := by
  cases k with
  | zero => rfl
  | succ k => rfl
def fb : Nat → Nat × Nat
  | 0 => (0, 1)
  | k + 1 => ((fb k).2, (fb k).1 + (fb k).2)
theorem eu_zero : ∀ (k : Nat), (∀ g h : Int, 0 ≤ h → h < ((fb k).2 : Int) → (eu k (g, h)).2 = 0) ∧ ∀ g h : Int, 0 ≤ h → h < ((fb (k + 1)).2 : Int) → (eu (k + 1) (g, h)).2 = 0 := by
  intro k
  induction k with
  | zero =>
    refine ⟨fun g h h1 h2 => ?_, fun g h h1 h2 => ?_⟩
    · have e : ((fb 0).2 : Int) = 1 := by decide
      rw [e] at h2
      show h = 0
      omega
    · have e : ((fb (0 + 1)).2 : Int) = 1 := by decide
      rw [e] at h2
      have h3 : h = 0 := by omega
      subst h3
      rw [eu_n]
  | succ k ih =>
    refine ⟨ih.2, fun g h h1 h2 => ?_⟩
    by_cases hh : h = 0
    · subst hh; rw [eu_n]
    · rw [eu_s hh]
      have b1 : 0 ≤ g % h := Int.emod_nonneg _ hh
      have b2 : g % h < h := Int.emod_lt_of_pos _ (by omega)
      by_cases hc : g % h < ((fb (k + 1)).2 : Int)
      · exact ih.2 h (g % h) b1 hc
      · have e1 : ((fb (k + 1 + 1)).2 : Int) = ((fb k).2 : Int) + ((fb (k + 1)).2 : Int) := rfl
        rw [e1] at h2
        have hne : ¬ g % h = 0 := by
          intro z
          have p1 : ∀ j : Nat, 0 < (fb j).2 := by
            intro j
            have : 0 < (fb j).2 ∧ 0 ≤ (fb j).1 := by
              induction j with
              | zero => decide
              | succ j ih => exact ⟨by show 0 < (fb j).1 + (fb j).2; omega, Nat.zero_le _⟩
            exact this.1
          have := p1 (k + 1)
          omega
        rw [eu_s hne]
        have c1 : h % (g % h) ≤ h - g % h := by
          have c2 := Int.mul_ediv_add_emod h (g % h)
          have c3 : 1 ≤ h / (g % h) := by
            rw [Int.le_ediv_iff_mul_le (by omega)]; omega
          have c4 : g % h ≤ (g % h) * (h / (g % h)) := by
            have := Int.mul_le_mul_of_nonneg_left c3 b1
            omega
          omega
        exact ih.1 (g % h) (h % (g % h)) (Int.emod_nonneg _ hne) (by omega)
theorem eu_100 (g : Int) {h : Int} (h1 : 0 ≤ h) (h2 : h < 9223372036854775808) : (eu 100 (g, h)).2 = 0 := by
  refine (eu_zero 100).1 g h h1 ?_
  have : (9223372036854775808 : Int) ≤ ((fb 100).2 : Int) := by decide +kernel
  omega
theorem gc_step (g h : Int) : Int.gcd h (g % h) = Int.gcd g h := by
  rw [Int.emod_def, Int.gcd_sub_mul_left_right, Int.gcd_comm]
theorem pu_upto {f g : Int → Int} {i v : Int} (hf : ∀ j, 0 ≤ j → j < i → f j = g j) (hv : v = g i) : ∀ j, 0 ≤ j → j < i + 1 → pu f i v j = g j := by
  intro j h1 h2
  by_cases h : j = i
  · subst h; rw [pu_eq, hv]
  · rw [pu_ne f h]; exact hf j h1 (by omega)
theorem pu_all {f : Int → Int} {i v lo hi : Int} (hf : ∀ j, lo ≤ f j ∧ f j ≤ hi) (h1 : lo ≤ v) (h2 : v ≤ hi) : ∀ j, lo ≤ pu f i v j ∧ pu f i v j ≤ hi := by
  intro j
  by_cases h : j = i
  · subst h; rw [pu_eq]; exact ⟨h1, h2⟩
  · rw [pu_ne f h]; exact hf j
theorem gs_end {g h a b : Int} (h0 : 0 ≤ g) (hG : Int.gcd g h = Int.gcd a b) (hz : h = 0) : g = (Int.gcd a b : Int) := by
  subst hz
  rw [← hG, Int.gcd_zero_right]
  omega
theorem gs_h {g h i : Int} (hE : (eu (100 - i).toNat (g, h)).2 = 0) (hi : 100 ≤ i) : h = 0 := by
  have e : (100 - i).toNat = 0 := by omega
  rw [e] at hE
  exact hE
theorem gs_E {g h i : Int} (hE : (eu (100 - i).toNat (g, h)).2 = 0) (hh : ¬ h = 0) (hi : i < 100) : (eu (100 - (i + 1)).toNat (h, g % h)).2 = 0 := by
  have e : (100 - i).toNat = (100 - (i + 1)).toNat + 1 := by omega
  rw [e, eu_s hh] at hE
  exact hE
theorem gs_lt {g h : Int} (h0 : 0 ≤ h) (h2 : h < 9223372036854775808) (hh : ¬ h = 0) : g % h < 9223372036854775808 := by
  have := Int.emod_lt_of_pos g (show 0 < h by omega)
  omega
theorem gc_bd {a b : Int} (ha : 1 ≤ a) : 1 ≤ (Int.gcd a b : Int) ∧ (Int.gcd a b : Int) ≤ a := by
  have h1 : 0 < Int.gcd a b := Int.gcd_pos_of_ne_zero_left _ (by omega)
  have h2 : (Int.gcd a b : Int) ≤ a := Int.le_of_dvd (by omega) (Int.gcd_dvd_left ..)
  omega
theorem gc_bd2 {a b : Int} (hb : 1 ≤ b) : 1 ≤ (Int.gcd a b : Int) ∧ (Int.gcd a b : Int) ≤ b := by
  rw [Int.gcd_comm]; exact gc_bd hb
def mv (f : Int → Int) (n a b : Int) : Int → Int := fun j => if 0 ≤ j ∧ j < n ∧ f j = a then b else f j
theorem mv_0 {f : Int → Int} {a b : Int} : f = mv f 0 a b := by
  funext j
  unfold mv
  rw [if_neg (by omega)]
theorem mv_hit {f g : Int → Int} {i a b : Int} (h : g = mv f i a b) (hi : 0 ≤ i) (hc : g i = a) : pu g i b = mv f (i + 1) a b := by
  have e : f i = a := by rw [h] at hc; unfold mv at hc; rwa [if_neg (by omega)] at hc
  funext j
  unfold pu
  by_cases hj : j = i
  · subst hj; rw [if_pos rfl]; unfold mv; rw [if_pos ⟨hi, by omega, e⟩]
  · rw [if_neg hj, h]
    unfold mv
    by_cases h1 : 0 ≤ j ∧ j < i ∧ f j = a
    · rw [if_pos h1, if_pos ⟨h1.1, by omega, h1.2.2⟩]
    · rw [if_neg h1, if_neg (fun q => h1 ⟨q.1, by omega, q.2.2⟩)]
theorem mv_miss {f g : Int → Int} {i a b : Int} (h : g = mv f i a b) (hi : 0 ≤ i) (hc : ¬ g i = a) : g = mv f (i + 1) a b := by
  have e : ¬ f i = a := by rw [h] at hc; unfold mv at hc; rwa [if_neg (by omega)] at hc
  rw [h]
  funext j
  unfold mv
  by_cases h1 : 0 ≤ j ∧ j < i ∧ f j = a
  · rw [if_pos h1, if_pos ⟨h1.1, by omega, h1.2.2⟩]
  · rw [if_neg h1, if_neg (fun q => h1 ⟨q.1, by
      have : ¬ j = i := fun z => e (z ▸ q.2.2)
      omega, q.2.2⟩)]
theorem mv_end {f g : Int → Int} {i n a b : Int} (h : g = mv f i a b) (hi : i = n) : g = mv f n a b := hi ▸ h
def sd (z : Int) : Int := z * 6364136223846793005 + 1442695040888963407
def rnd (z b : Int) : Int := (sd z % 18446744073709551616 / 8589934592) % b
theorem rnd_b (z b : Int) (h : 1 ≤ b) : 0 ≤ rnd z b ∧ rnd z b < b := ⟨Int.emod_nonneg _ (by omega), Int.emod_lt_of_pos _ (by omega)⟩
def ini (f : Int → Int) (st i : Int) : Int → Int := fun j => if st ≤ j ∧ j < st + i then j - st else f j
theorem ini_0 {f : Int → Int} {st : Int} : f = ini f st 0 := by
  funext j; unfold ini; rw [if_neg (by omega)]
theorem ini_s {f g : Int → Int} {st i : Int} (h : g = ini f st i) (hi : 0 ≤ i) : pu g (st + i) i = ini f st (i + 1) := by
  subst h
  funext j
  unfold pu ini
  by_cases h1 : j = st + i
  · rw [if_pos h1, if_pos (by omega)]; omega
  · rw [if_neg h1]
    by_cases h2 : st ≤ j ∧ j < st + i
    · rw [if_pos h2, if_pos (by omega)]
    · rw [if_neg h2, if_neg (by omega)]
def drS (st size i : Int) (x : (Int → Int) × Int) : (Int → Int) × Int := (pu (pu x.1 (st + i) (x.1 (st + i + rnd x.2 (size - i)))) (st + i + rnd x.2 (size - i)) (x.1 (st + i)), sd x.2)
def drN (st size : Int) : Nat → (Int → Int) × Int → (Int → Int) × Int
  | 0, x => x
  | k + 1, x => drS st size k (drN st size k x)
theorem ini_d {f g : Int → Int} {st i size sd0 : Int} (h : g = ini f st i) (hi : i = size) : (g, sd0) = drN st size (0 : Int).toNat (ini f st size, sd0) := by
  subst hi; subst h; rfl
theorem dr_s {st size i seed : Int} {f : Int → Int} {x : (Int → Int) × Int} (h : (f, seed) = drN st size i.toNat x) (hi : 0 ≤ i) : (pu (pu f (st + i) (f (st + i + rnd seed (size - i)))) (st + i + rnd seed (size - i)) (f (st + i)), sd seed) = drN st size (i + 1).toNat x := by
  have e : (i + 1).toNat = i.toNat + 1 := by omega
  rw [e]
  show _ = drS st size (i.toNat : Int) (drN st size i.toNat x)
  rw [← h, Int.toNat_of_nonneg hi]
  rfl
theorem dr_end {st size i n : Int} {y x : (Int → Int) × Int} (h : y = drN st size i.toNat x) (hi : i = n) : y = drN st size n.toNat x := hi ▸ h
def erq (so ki fo gr : Int → Int) (k : Int) : Int → Int := fun j => if ki j = k then (fo j - gr (so j * 3 + k)) * (fo j - gr (so j * 3 + k)) else 0
def erc (ki : Int → Int) (k : Int) : Int → Int := fun j => if ki j = k then 1 else 0
def telv (a b p : Int) : Int := (if p = 0 then a else b) / (Int.gcd a b : Int)
def ert (sq tm p : Int) : Int := if 0 < tm then telv sq (2 * tm) p else -1
theorem erq_1 {so ki fo gr : Int → Int} {k i sq : Int} (h : sq = sZ (erq so ki fo gr k) i) (hi : 0 ≤ i) (hc : ki i = k) : sq + (fo i - gr (so i * 3 + k)) * (fo i - gr (so i * 3 + k)) = sZ (erq so ki fo gr k) (i + 1) := by
  rw [sZ_s _ hi, ← h]; show _ = sq + erq so ki fo gr k i; unfold erq; rw [if_pos hc]
theorem erq_0 {so ki fo gr : Int → Int} {k i sq : Int} (h : sq = sZ (erq so ki fo gr k) i) (hi : 0 ≤ i) (hc : ¬ ki i = k) : sq = sZ (erq so ki fo gr k) (i + 1) := by
  rw [sZ_s _ hi, ← h]; show _ = sq + erq so ki fo gr k i; unfold erq; rw [if_neg hc]; omega
theorem erc_1 {ki : Int → Int} {k i tm : Int} (h : tm = sZ (erc ki k) i) (hi : 0 ≤ i) (hc : ki i = k) : tm + 1 = sZ (erc ki k) (i + 1) := by
  rw [sZ_s _ hi, ← h]; show _ = tm + erc ki k i; unfold erc; rw [if_pos hc]
theorem erc_0 {ki : Int → Int} {k i tm : Int} (h : tm = sZ (erc ki k) i) (hi : 0 ≤ i) (hc : ¬ ki i = k) : tm = sZ (erc ki k) (i + 1) := by
  rw [sZ_s _ hi, ← h]; show _ = tm + erc ki k i; unfold erc; rw [if_neg hc]; omega
theorem sq_le {x B : Int} (hB : 0 ≤ B) (h1 : -B ≤ x) (h2 : x ≤ B) : 0 ≤ x * x ∧ x * x ≤ B * B := by
  rcases Int.le_total 0 x with h | h
  · exact ⟨Int.mul_nonneg h h, Int.mul_le_mul h2 h2 h hB⟩
  · have e : x * x = (-x) * (-x) := by rw [Int.neg_mul_neg]
    rw [e]
    exact ⟨Int.mul_nonneg (by omega) (by omega), Int.mul_le_mul (by omega) (by omega) (by omega) hB⟩
theorem erq_b {so ki fo gr : Int → Int} {k i sq : Int} (h : sq = sZ (erq so ki fo gr k) i) (hi : 0 ≤ i) (hi2 : i ≤ 40) (hf : ∀ j, 0 ≤ fo j ∧ fo j ≤ 10000) (hg : ∀ j, 0 ≤ gr j ∧ gr j ≤ 10000) : 0 ≤ sq ∧ sq ≤ 4000000000 := by
  have b : ∀ j, 0 ≤ erq so ki fo gr k j ∧ erq so ki fo gr k j ≤ 100000000 := by
    intro j
    unfold erq
    by_cases hc : ki j = k
    · rw [if_pos hc]
      have f1 := hf j
      have g1 := hg (so j * 3 + k)
      exact sq_le (B := 10000) (by omega) (by omega) (by omega)
    · rw [if_neg hc]; omega
  have l1 := sZ_nn (g := erq so ki fo gr k) i (fun j => (b j).1)
  have l2 := sZ_le (g := erq so ki fo gr k) 100000000 hi (fun j => (b j).2)
  omega
theorem erc_b {ki : Int → Int} {k i tm : Int} (h : tm = sZ (erc ki k) i) (hi : 0 ≤ i) (hi2 : i ≤ 40) : 0 ≤ tm ∧ tm ≤ 40 := by
  have b : ∀ j, 0 ≤ erc ki k j ∧ erc ki k j ≤ 1 := by
    intro j
    unfold erc
    by_cases hc : ki j = k
    · rw [if_pos hc]; omega
    · rw [if_neg hc]; omega
  have l1 := sZ_nn (g := erc ki k) i (fun j => (b j).1)
  have l2 := sZ_le (g := erc ki k) 1 hi (fun j => (b j).2)
  omega
theorem ert_1 {a b : Int → Int} {sq tm i n p : Int} (h1 : sq = sZ a i) (h2 : tm = sZ b i) (hi : i = n) (ht : 0 < tm) : (if p = 0 then sq else 2 * tm) / (Int.gcd sq (2 * tm) : Int) = ert (sZ a n) (sZ b n) p := by
  subst hi; rw [← h1, ← h2]; unfold ert; rw [if_pos ht]; rfl
theorem ert_0 {a b : Int → Int} {tm i n p : Int} (h2 : tm = sZ b i) (hi : i = n) (ht : ¬ 0 < tm) : -1 = ert (sZ a n) (sZ b n) p := by
  subst hi; rw [← h2]; unfold ert; rw [if_neg ht]
theorem sz_step {g : Int → Int} {i x : Int} (h : x = sZ g i) (hi : 0 ≤ i) : x + g i = sZ g (i + 1) := by rw [sZ_s _ hi, ← h]
theorem sz_end {g : Int → Int} {i n x : Int} (h : x = sZ g i) (hi : i = n) : x = sZ g n := hi ▸ h
def lc (a b : Int) : Int := a / (Int.gcd a b : Int) * b
def cmN (f : Int → Int) : Nat → Int
  | 0 => 1
  | k + 1 => lc (cmN f k) (f k)
def cm (f : Int → Int) (i : Int) : Int := cmN f i.toNat
theorem cm_s {f : Int → Int} {i x : Int} (h : x = cm f i) (hi : 0 ≤ i) : x / (Int.gcd x (f i) : Int) * f i = cm f (i + 1) := by
  subst h
  unfold cm
  have e : (i + 1).toNat = i.toNat + 1 := by omega
  rw [e]
  show _ = lc (cmN f i.toNat) (f (i.toNat : Int))
  rw [Int.toNat_of_nonneg hi]
  rfl
theorem cm_end {f : Int → Int} {i n x : Int} (h : x = cm f i) (hi : i = n) : x = cm f n := hi ▸ h
theorem lc_b {a b B : Int} (ha : 1 ≤ a) (haB : a ≤ B) (hb : 1 ≤ b) (hb2 : b ≤ 2000) : 1 ≤ lc a b ∧ lc a b ≤ B * 2000 := by
  unfold lc
  have g := gc_bd (b := b) ha
  have q1 : 1 ≤ a / (Int.gcd a b : Int) := by rw [Int.le_ediv_iff_mul_le (by omega)]; omega
  have q2 : a / (Int.gcd a b : Int) ≤ a := Int.ediv_le_self _ (by omega)
  have m1 : 1 * 1 ≤ a / (Int.gcd a b : Int) * b := Int.mul_le_mul q1 hb (by omega) (by omega)
  have m2 : a / (Int.gcd a b : Int) * b ≤ B * 2000 := Int.mul_le_mul (by omega) hb2 (by omega) (by omega)
  omega
theorem cm_b {f : Int → Int} {i x : Int} (h : x = cm f i) (hi : 0 ≤ i) (hi2 : i ≤ 4) (hf : ∀ j, 0 ≤ j → j < 4 → 1 ≤ f j ∧ f j ≤ 2000) : 1 ≤ x ∧ x ≤ 16000000000000 := by
  subst h
  have f0 := hf 0 (by omega) (by omega)
  have f1 := hf 1 (by omega) (by omega)
  have f2 := hf 2 (by omega) (by omega)
  have f3 := hf 3 (by omega) (by omega)
  have c0 : cm f 0 = 1 := rfl
  have c1 : cm f 1 = lc 1 (f 0) := rfl
  have c2 : cm f 2 = lc (cm f 1) (f 1) := rfl
  have c3 : cm f 3 = lc (cm f 2) (f 2) := rfl
  have c4 : cm f 4 = lc (cm f 3) (f 3) := rfl
  have b1 := lc_b (a := 1) (B := 1) (by omega) (by omega) f0.1 f0.2
  rw [← c1] at b1
  have b2 := lc_b b1.1 b1.2 f1.1 f1.2
  rw [← c2] at b2
  have b3 := lc_b b2.1 b2.2 f2.1 f2.2
  rw [← c3] at b3
  have b4 := lc_b b3.1 b3.2 f3.1 f3.2
  rw [← c4] at b4
  rcases (show i = 0 ∨ i = 1 ∨ i = 2 ∨ i = 3 ∨ i = 4 by omega) with rfl | rfl | rfl | rfl | rfl <;> omega
def gn (ho lo : Int → Int) (z : Int) : Int → Int := fun b => if ho b = z ∧ lo b = 0 then 1 else 0
def gm_ (ho lo gr : Int → Int) (k z : Int) : Int → Int := fun b => if ho b = z ∧ lo b = 0 then gr (b * 3 + k) else 0
def gq (ho lo gr : Int → Int) (k z : Int) : Int → Int := fun b => if ho b = z ∧ lo b = 0 then gr (b * 3 + k) * gr (b * 3 + k) else 0
theorem gn_1 {ho lo : Int → Int} {z i x : Int} (h : x = sZ (gn ho lo z) i) (hi : 0 ≤ i) (h1 : ho i = z) (h2 : lo i = 0) : x + 1 = sZ (gn ho lo z) (i + 1) := by
  rw [← sz_step h hi]; unfold gn; rw [if_pos ⟨h1, h2⟩]
theorem gn_0 {ho lo : Int → Int} {z i x : Int} (h : x = sZ (gn ho lo z) i) (hi : 0 ≤ i) (h1 : ¬ ho i = z ∨ ¬ lo i = 0) : x = sZ (gn ho lo z) (i + 1) := by
  rw [← sz_step h hi]; unfold gn; rw [if_neg (by omega)]; omega
theorem gm_1 {ho lo gr : Int → Int} {k z i x : Int} (h : x = sZ (gm_ ho lo gr k z) i) (hi : 0 ≤ i) (h1 : ho i = z) (h2 : lo i = 0) : x + gr (i * 3 + k) = sZ (gm_ ho lo gr k z) (i + 1) := by
  rw [← sz_step h hi]; unfold gm_; rw [if_pos ⟨h1, h2⟩]
theorem gm_0 {ho lo gr : Int → Int} {k z i x : Int} (h : x = sZ (gm_ ho lo gr k z) i) (hi : 0 ≤ i) (h1 : ¬ ho i = z ∨ ¬ lo i = 0) : x = sZ (gm_ ho lo gr k z) (i + 1) := by
  rw [← sz_step h hi]; unfold gm_; rw [if_neg (by omega)]; omega
theorem gq_1 {ho lo gr : Int → Int} {k z i x : Int} (h : x = sZ (gq ho lo gr k z) i) (hi : 0 ≤ i) (h1 : ho i = z) (h2 : lo i = 0) : x + gr (i * 3 + k) * gr (i * 3 + k) = sZ (gq ho lo gr k z) (i + 1) := by
  rw [← sz_step h hi]; unfold gq; rw [if_pos ⟨h1, h2⟩]
theorem gq_0 {ho lo gr : Int → Int} {k z i x : Int} (h : x = sZ (gq ho lo gr k z) i) (hi : 0 ≤ i) (h1 : ¬ ho i = z ∨ ¬ lo i = 0) : x = sZ (gq ho lo gr k z) (i + 1) := by
  rw [← sz_step h hi]; unfold gq; rw [if_neg (by omega)]; omega
theorem gt_n {f : Int → Int} {g : Int → Int} {z x i n : Int} (h : x = sZ g i) (hi : i = n) : pu f z x = pu f z (sZ g n) := by rw [h, hi]
theorem gt_s {f : Int → Int} {g1 g2 g3 : Int → Int} {z x1 x2 x3 i n : Int} (h1 : x1 = sZ g1 i) (h3 : x3 = sZ g3 i) (h2 : x2 = sZ g2 i) (hi : i = n) : pu f z (x1 * x3 - x2 * x2) = pu f z (sZ g1 n * sZ g3 n - sZ g2 n * sZ g2 n) := by rw [h1, h2, h3, hi]
def gc (ho lo : Int → Int) (n : Int) : Int → Int := fun z => if 0 < sZ (gn ho lo z) n then 1 else 0
def gt (ho lo : Int → Int) (n : Int) (sz : Int → Int) : Int → Int := fun z => if 0 < sZ (gn ho lo z) n then sz z else 0
theorem gc_1 {ho lo : Int → Int} {n i x : Int} (h : x = sZ (gc ho lo n) i) (hi : 0 ≤ i) (hc : 0 < sZ (gn ho lo i) n) : x + 1 = sZ (gc ho lo n) (i + 1) := by
  rw [← sz_step h hi]; unfold gc; rw [if_pos hc]
theorem gc_0 {ho lo : Int → Int} {n i x : Int} (h : x = sZ (gc ho lo n) i) (hi : 0 ≤ i) (hc : ¬ 0 < sZ (gn ho lo i) n) : x = sZ (gc ho lo n) (i + 1) := by
  rw [← sz_step h hi]; unfold gc; rw [if_neg hc]; omega
theorem gt_1 {ho lo sz : Int → Int} {n i x : Int} (h : x = sZ (gt ho lo n sz) i) (hi : 0 ≤ i) (hc : 0 < sZ (gn ho lo i) n) : x + sz i = sZ (gt ho lo n sz) (i + 1) := by
  rw [← sz_step h hi]; unfold gt; rw [if_pos hc]
theorem gt_0 {ho lo sz : Int → Int} {n i x : Int} (h : x = sZ (gt ho lo n sz) i) (hi : 0 ≤ i) (hc : ¬ 0 < sZ (gn ho lo i) n) : x = sZ (gt ho lo n sz) (i + 1) := by
  rw [← sz_step h hi]; unfold gt; rw [if_neg hc]; omega
theorem up_0 (f g : Int → Int) : ∀ j : Int, 0 ≤ j → j < 0 → f j = g j := fun j h1 h2 => absurd h2 (by omega)
theorem up_end {f g : Int → Int} {i n : Int} (h : ∀ j : Int, 0 ≤ j → j < i → f j = g j) (hi : i = n) : ∀ j : Int, 0 ≤ j → j < n → f j = g j := hi ▸ h
theorem up_all {q : Int → Prop} {i n : Int} (h : ∀ j : Int, 0 ≤ j → j < i → q j) (hi : i = n) : ∀ j : Int, 0 ≤ j → j < n → q j := hi ▸ h
theorem up_no {f : Int → Int} {i v : Int} (h : ∀ j : Int, 0 ≤ j → j < i → ¬ f j = v) (hc : ¬ f i = v) : ∀ j : Int, 0 ≤ j → j < i + 1 → ¬ f j = v := by
  intro j h1 h2
  by_cases e : j = i
  · subst e; exact hc
  · exact h j h1 (by omega)
theorem gn_b (ho lo : Int → Int) (z : Int) {n : Int} (hn : 0 ≤ n) (hn2 : n ≤ 12) : 0 ≤ sZ (gn ho lo z) n ∧ sZ (gn ho lo z) n ≤ 12 := by
  have b : ∀ j, 0 ≤ gn ho lo z j ∧ gn ho lo z j ≤ 1 := by
    intro j
    unfold gn
    by_cases hc : ho j = z ∧ lo j = 0
    · rw [if_pos hc]; omega
    · rw [if_neg hc]; omega
  have l1 := sZ_nn (g := gn ho lo z) n (fun j => (b j).1)
  have l2 := sZ_le (g := gn ho lo z) 1 hn (fun j => (b j).2)
  omega
end
section
/-! PURE ROWS: fractions of strata brought to one denominator. -/
def tA (t : Int) (q a : Int → Int) (i : Int) : Int → Int := fun j => if j < i ∧ t < q j then a j else 0
def tB (t : Int) (q b : Int → Int) (i : Int) : Int → Int := fun j => if j < i ∧ t < q j then b j else 1
def mnC (t : Int) (q b : Int → Int) : Int := cm (tB t q b 4) 4
def mnO (t : Int) (q a b : Int → Int) : Int := sZ (fun j => tA t q a 4 j * (mnC t q b / tB t q b 4 j)) 4
theorem tA_0 {t : Int} {q a f : Int → Int} (h : ∀ j, 0 ≤ j → j < 4 → f j = 0) : ∀ j, 0 ≤ j → j < 4 → f j = tA t q a 0 j := by
  intro j h1 h2; unfold tA; rw [if_neg (by omega)]; exact h j h1 h2
theorem tB_0 {t : Int} {q b f : Int → Int} (h : ∀ j, 0 ≤ j → j < 4 → f j = 1) : ∀ j, 0 ≤ j → j < 4 → f j = tB t q b 0 j := by
  intro j h1 h2; unfold tB; rw [if_neg (by omega)]; exact h j h1 h2
theorem tA_hit {t i : Int} {q a f : Int → Int} (h : ∀ j, 0 ≤ j → j < 4 → f j = tA t q a i j) (hc : t < q i) : ∀ j, 0 ≤ j → j < 4 → pu f i (a i) j = tA t q a (i + 1) j := by
  intro j h1 h2
  by_cases e : j = i
  · subst e; rw [pu_eq]; unfold tA; rw [if_pos ⟨by omega, hc⟩]
  · rw [pu_ne _ e, h j h1 h2]
    unfold tA
    by_cases c : j < i ∧ t < q j
    · rw [if_pos c, if_pos ⟨by omega, c.2⟩]
    · rw [if_neg c, if_neg (fun z => c ⟨by omega, z.2⟩)]
theorem tA_miss {t i : Int} {q a f : Int → Int} (h : ∀ j, 0 ≤ j → j < 4 → f j = tA t q a i j) (hc : ¬ t < q i) : ∀ j, 0 ≤ j → j < 4 → f j = tA t q a (i + 1) j := by
  intro j h1 h2
  rw [h j h1 h2]
  unfold tA
  by_cases c : j < i ∧ t < q j
  · rw [if_pos c, if_pos ⟨by omega, c.2⟩]
  · rw [if_neg c, if_neg (fun z => c ⟨by
      have : ¬ j = i := fun e => hc (e ▸ z.2)
      omega, z.2⟩)]
theorem tB_hit {t i : Int} {q b f : Int → Int} (h : ∀ j, 0 ≤ j → j < 4 → f j = tB t q b i j) (hc : t < q i) : ∀ j, 0 ≤ j → j < 4 → pu f i (b i) j = tB t q b (i + 1) j := by
  intro j h1 h2
  by_cases e : j = i
  · subst e; rw [pu_eq]; unfold tB; rw [if_pos ⟨by omega, hc⟩]
  · rw [pu_ne _ e, h j h1 h2]
    unfold tB
    by_cases c : j < i ∧ t < q j
    · rw [if_pos c, if_pos ⟨by omega, c.2⟩]
    · rw [if_neg c, if_neg (fun z => c ⟨by omega, z.2⟩)]
theorem tB_miss {t i : Int} {q b f : Int → Int} (h : ∀ j, 0 ≤ j → j < 4 → f j = tB t q b i j) (hc : ¬ t < q i) : ∀ j, 0 ≤ j → j < 4 → f j = tB t q b (i + 1) j := by
  intro j h1 h2
  rw [h j h1 h2]
  unfold tB
  by_cases c : j < i ∧ t < q j
  · rw [if_pos c, if_pos ⟨by omega, c.2⟩]
  · rw [if_neg c, if_neg (fun z => c ⟨by
      have : ¬ j = i := fun e => hc (e ▸ z.2)
      omega, z.2⟩)]
theorem cm_c {f g : Int → Int} (h : ∀ j, 0 ≤ j → j < 4 → f j = g j) : cm f 4 = cm g 4 := by
  show lc (lc (lc (lc 1 (f 0)) (f 1)) (f 2)) (f 3) = lc (lc (lc (lc 1 (g 0)) (g 1)) (g 2)) (g 3)
  rw [h 0 (by omega) (by omega), h 1 (by omega) (by omega), h 2 (by omega) (by omega), h 3 (by omega) (by omega)]
theorem mn_end {t i : Int} {q a b ab be : Int → Int} (hA : ∀ j, 0 ≤ j → j < 4 → ab j = tA t q a i j) (hB : ∀ j, 0 ≤ j → j < 4 → be j = tB t q b i j) (hi : i = 4) : sZ (fun j => ab j * (cm be 4 / be j)) 4 = mnO t q a b ∧ cm be 4 = mnC t q b := by
  subst hi
  have e : cm be 4 = mnC t q b := cm_c hB
  refine ⟨?_, e⟩
  rw [e]
  exact sZ_c (fun j h1 h2 => by rw [hA j h1 h2, hB j h1 h2])
theorem mul_bd {a b A B : Int} (h1 : 0 ≤ a) (h2 : a ≤ A) (h3 : 0 ≤ b) (h4 : b ≤ B) : 0 ≤ a * b ∧ a * b ≤ A * B := ⟨Int.mul_nonneg h1 h3, Int.mul_le_mul h2 h4 h3 (by omega)⟩
theorem mul_bd1 {a b A B : Int} (h1 : 1 ≤ a) (h2 : a ≤ A) (h3 : 1 ≤ b) (h4 : b ≤ B) : 1 ≤ a * b ∧ a * b ≤ A * B := ⟨by have := Int.mul_le_mul h1 h3 (by omega) (show (0 : Int) ≤ a by omega); omega, Int.mul_le_mul h2 h4 (by omega) (by omega)⟩
theorem tB_b12 {i : Int} {q be : Int → Int} (hB : ∀ j, 0 ≤ j → j < 4 → be j = tB 0 q q i j) (hq : ∀ j, 0 ≤ j → j < 4 → 0 ≤ q j ∧ q j ≤ 12) : ∀ j, 0 ≤ j → j < 4 → 1 ≤ be j ∧ be j ≤ 12 := by
  intro j h1 h2
  rw [hB j h1 h2]
  have := hq j h1 h2
  unfold tB
  by_cases c : j < i ∧ 0 < q j
  · rw [if_pos c]; omega
  · rw [if_neg c]; omega
theorem up_2000 {be : Int → Int} {B : Int} (h : ∀ j, 0 ≤ j → j < 4 → 1 ≤ be j ∧ be j ≤ B) (hB : B ≤ 2000) : ∀ j, 0 ≤ j → j < 4 → 1 ≤ be j ∧ be j ≤ 2000 := by
  intro j h1 h2; have := h j h1 h2; omega
theorem lc_m {a b : Int} (ha : 1 ≤ a) (hb : 1 ≤ b) : 1 ≤ lc a b ∧ lc a b ≤ a * b := by
  unfold lc
  have g := gc_bd (b := b) ha
  have q1 : 1 ≤ a / (Int.gcd a b : Int) := by rw [Int.le_ediv_iff_mul_le (by omega)]; omega
  have q2 : a / (Int.gcd a b : Int) ≤ a := Int.ediv_le_self _ (by omega)
  have m1 : 1 * 1 ≤ a / (Int.gcd a b : Int) * b := Int.mul_le_mul q1 hb (by omega) (by omega)
  exact ⟨by omega, Int.mul_le_mul_of_nonneg_right q2 (by omega)⟩
theorem cm_m {f : Int → Int} (h : ∀ j, 0 ≤ j → j < 4 → 1 ≤ f j) : 1 ≤ cm f 4 ∧ cm f 4 ≤ f 0 * f 1 * f 2 * f 3 := by
  show 1 ≤ lc (lc (lc (lc 1 (f 0)) (f 1)) (f 2)) (f 3) ∧ lc (lc (lc (lc 1 (f 0)) (f 1)) (f 2)) (f 3) ≤ _
  have f0 := h 0 (by omega) (by omega)
  have f1 := h 1 (by omega) (by omega)
  have f2 := h 2 (by omega) (by omega)
  have f3 := h 3 (by omega) (by omega)
  have b1 := lc_m (a := 1) (by omega) f0
  have b2 := lc_m b1.1 f1
  have b3 := lc_m b2.1 f2
  have b4 := lc_m b3.1 f3
  refine ⟨b4.1, ?_⟩
  have c1 : lc 1 (f 0) ≤ f 0 := by omega
  have c2 : lc (lc 1 (f 0)) (f 1) ≤ f 0 * f 1 := Int.le_trans b2.2 (Int.mul_le_mul_of_nonneg_right c1 (by omega))
  have c3 : lc (lc (lc 1 (f 0)) (f 1)) (f 2) ≤ f 0 * f 1 * f 2 := Int.le_trans b3.2 (Int.mul_le_mul_of_nonneg_right c2 (by omega))
  exact Int.le_trans b4.2 (Int.mul_le_mul_of_nonneg_right c3 (by omega))
theorem cm_b12 {be : Int → Int} (h : ∀ j, 0 ≤ j → j < 4 → 1 ≤ be j ∧ be j ≤ 12) : 1 ≤ cm be 4 ∧ cm be 4 ≤ 20736 := by
  have m := cm_m (fun j h1 h2 => (h j h1 h2).1)
  have f0 := h 0 (by omega) (by omega)
  have f1 := h 1 (by omega) (by omega)
  have f2 := h 2 (by omega) (by omega)
  have f3 := h 3 (by omega) (by omega)
  have p1 := mul_bd1 f0.1 f0.2 f1.1 f1.2
  have p2 := mul_bd1 p1.1 p1.2 f2.1 f2.2
  have p3 := mul_bd1 p2.1 p2.2 f3.1 f3.2
  omega
theorem s4 (f : Int → Int) : sZ f 4 = f 0 + f 1 + f 2 + f 3 := by
  show 0 + f 0 + f 1 + f 2 + f 3 = _
  omega
theorem s4_bd {f : Int → Int} {B : Int} (h : ∀ j, 0 ≤ j → j < 4 → 0 ≤ f j ∧ f j ≤ B) : 0 ≤ sZ f 4 ∧ sZ f 4 ≤ 4 * B := by
  have f0 := h 0 (by omega) (by omega)
  have f1 := h 1 (by omega) (by omega)
  have f2 := h 2 (by omega) (by omega)
  have f3 := h 3 (by omega) (by omega)
  rw [s4]; omega
theorem div_bd {c b : Int} (hc : 0 ≤ c) (hb : 1 ≤ b) : 0 ≤ c / b ∧ c / b ≤ c := ⟨Int.ediv_nonneg hc (by omega), Int.ediv_le_self _ hc⟩
theorem mn_sb {i : Int} {q sz sm ab be : Int → Int} (hA : ∀ j, 0 ≤ j → j < 4 → ab j = tA 0 q (fun j => sz j * sm j) i j) (hb : ∀ j, 0 ≤ j → j < 4 → 1 ≤ be j ∧ be j ≤ 12) (hsz : ∀ j, 0 ≤ j → j < 4 → 0 ≤ sz j ∧ sz j ≤ 100) (hsm : ∀ j, 0 ≤ j → j < 4 → 0 ≤ sm j ∧ sm j ≤ 120000) (hc : 1 ≤ cm be 4 ∧ cm be 4 ≤ 20736) : 0 ≤ sZ (fun j => ab j * (cm be 4 / be j)) 4 ∧ sZ (fun j => ab j * (cm be 4 / be j)) 4 ≤ 4 * (12000000 * 20736) := by
  refine s4_bd (fun j h1 h2 => ?_)
  have a1 : 0 ≤ ab j ∧ ab j ≤ 12000000 := by
    rw [hA j h1 h2]
    unfold tA
    by_cases c : j < i ∧ 0 < q j
    · rw [if_pos c]
      dsimp only
      have := mul_bd (hsz j h1 h2).1 (hsz j h1 h2).2 (hsm j h1 h2).1 (hsm j h1 h2).2
      omega
    · rw [if_neg c]; omega
  have d1 := div_bd (c := cm be 4) (by omega) (hb j h1 h2).1
  exact mul_bd a1.1 a1.2 d1.1 (by omega)
theorem ws_bd {s c n : Int} (hs : 0 ≤ s ∧ s ≤ 100) (hc : 0 ≤ c ∧ c ≤ n * n * 100000000) (hn : 0 ≤ n ∧ n ≤ 12) : 0 ≤ s * s * c ∧ s * s * c ≤ 10000 * (n * n * 100000000) ∧ s * s * c ≤ 144000000000000 := by
  have m1 := mul_bd hs.1 hs.2 hs.1 hs.2
  have m2 := mul_bd m1.1 m1.2 hc.1 hc.2
  have m3 := mul_bd hn.1 hn.2 hn.1 hn.2
  omega
theorem np_bd {n : Int} (hn : 0 ≤ n ∧ n ≤ 12) (h : 1 < n) : 1 ≤ n * (n * (n - 1)) ∧ n * (n * (n - 1)) ≤ 1584 ∧ n * n ≤ n * (n * (n - 1)) := by
  rcases (show n = 2 ∨ n = 3 ∨ n = 4 ∨ n = 5 ∨ n = 6 ∨ n = 7 ∨ n = 8 ∨ n = 9 ∨ n = 10 ∨ n = 11 ∨ n = 12 by omega) with rfl | rfl | rfl | rfl | rfl | rfl | rfl | rfl | rfl | rfl | rfl <;> decide
theorem tB_bp {i : Int} {q be : Int → Int} (hB : ∀ j, 0 ≤ j → j < 4 → be j = tB 1 q (fun j => q j * (q j * (q j - 1))) i j) (hq : ∀ j, 0 ≤ j → j < 4 → 0 ≤ q j ∧ q j ≤ 12) : ∀ j, 0 ≤ j → j < 4 → 1 ≤ be j ∧ be j ≤ 2000 := by
  intro j h1 h2
  rw [hB j h1 h2]
  unfold tB
  by_cases c : j < i ∧ 1 < q j
  · rw [if_pos c]
    dsimp only
    have := np_bd (hq j h1 h2) c.2
    omega
  · rw [if_neg c]; omega
theorem sp_sb {i : Int} {q sz sc ab be : Int → Int} (hA : ∀ j, 0 ≤ j → j < 4 → ab j = tA 1 q (fun j => sz j * sz j * sc j) i j) (hB : ∀ j, 0 ≤ j → j < 4 → be j = tB 1 q (fun j => q j * (q j * (q j - 1))) i j) (hi : i = 4) (hsz : ∀ j, 0 ≤ j → j < 4 → 0 ≤ sz j ∧ sz j ≤ 100) (hq : ∀ j, 0 ≤ j → j < 4 → 0 ≤ q j ∧ q j ≤ 12) (hsc : ∀ j, 0 ≤ j → j < 4 → 0 ≤ sc j ∧ sc j ≤ q j * q j * 100000000) (hc1 : 1 ≤ cm be 4) (hc : cm be 4 ≤ 110592) : 0 ≤ sZ (fun j => ab j * (cm be 4 / be j)) 4 ∧ sZ (fun j => ab j * (cm be 4 / be j)) 4 ≤ 4 * (1000000000000 * 110592) := by
  refine s4_bd (fun j h1 h2 => ?_)
  rw [hA j h1 h2, hB j h1 h2]
  unfold tA tB
  by_cases c : j < i ∧ 1 < q j
  · rw [if_pos c, if_pos c]
    dsimp only
    have n1 := np_bd (hq j h1 h2) c.2
    have w1 := ws_bd (hsz j h1 h2) (hsc j h1 h2) (hq j h1 h2)
    have d1 := div_bd (c := cm be 4) (b := q j * (q j * (q j - 1))) (by omega) n1.1
    have d2 : (cm be 4 / (q j * (q j * (q j - 1)))) * (q j * (q j * (q j - 1))) ≤ cm be 4 := Int.ediv_mul_le _ (by omega)
    refine ⟨Int.mul_nonneg w1.1 d1.1, ?_⟩
    have e1 := Int.mul_le_mul_of_nonneg_right w1.2.1 d1.1
    have e2 := Int.mul_le_mul_of_nonneg_right n1.2.2 d1.1
    have e3 : q j * (q j * (q j - 1)) * (cm be 4 / (q j * (q j * (q j - 1)))) ≤ cm be 4 := by rw [Int.mul_comm]; exact d2
    have e4 : 10000 * (q j * q j * 100000000) * (cm be 4 / (q j * (q j * (q j - 1)))) = 1000000000000 * (q j * q j * (cm be 4 / (q j * (q j * (q j - 1))))) := by
      rw [show 10000 * (q j * q j * 100000000) = 1000000000000 * (q j * q j) by omega, Int.mul_assoc]
    omega
  · rw [if_neg c, if_neg c]; omega
theorem tt_bd {c t : Int} (h1 : 1 ≤ c) (h2 : c ≤ 110592) (ht : 1 ≤ t ∧ t ≤ 400) : 1 ≤ c * t * t ∧ c * t * t ≤ 110592 * 400 * 400 := by
  have m := mul_bd1 h1 h2 ht.1 ht.2
  exact mul_bd1 m.1 m.2 ht.1 ht.2
end
section
/-! PURE ROWS: bits, powers of two, ways to part. -/
def p2 (n : Int) : Int := 2 ^ n.toNat
def bi (z j : Int) : Int := z / p2 j % 2
def pcn (z n : Int) : Int := sZ (bi z) n
theorem p2_s {n : Int} (h : 0 ≤ n) : p2 (n + 1) = 2 * p2 n := by
  unfold p2
  have e : (n + 1).toNat = n.toNat + 1 := by omega
  rw [e, Int.pow_succ]; omega
theorem p2_pos (n : Int) : 1 ≤ p2 n := by
  unfold p2
  have : 0 < (2 : Int) ^ n.toNat := Int.pow_pos (by omega)
  omega
theorem p2_le {n k : Int} (h0 : 0 ≤ n) (h : n ≤ k) : p2 n ≤ p2 k := by
  obtain ⟨d, hd⟩ : ∃ d : Nat, k = n + d := ⟨(k - n).toNat, by omega⟩
  subst hd
  induction d with
  | zero => simp
  | succ d ih =>
    have e : n + ((d + 1 : Nat) : Int) = n + (d : Int) + 1 := by omega
    rw [e, p2_s (by omega)]
    have := ih (by omega)
    have := p2_pos (n + d)
    omega
theorem p2_12 {n : Int} (h0 : 0 ≤ n) (h : n ≤ 12) : 1 ≤ p2 n ∧ p2 n ≤ 4096 := ⟨p2_pos n, Int.le_trans (p2_le h0 h) (by decide)⟩
theorem p2_10 {n : Int} (h0 : 0 ≤ n) (h : n ≤ 10) : 1 ≤ p2 n ∧ p2 n ≤ 1024 := ⟨p2_pos n, Int.le_trans (p2_le h0 h) (by decide)⟩
theorem bi_b (z j : Int) : 0 ≤ bi z j ∧ bi z j ≤ 1 := by unfold bi; omega
theorem sh_l : ∀ n, n < 32 → ((nI n &&& 31).toBitVec.smod 32).toNat = n := by decide +kernel
theorem sh_p2 {n : Int} (h0 : 0 ≤ n) (h : n ≤ 12) : iZ 1 <<< (iZ n &&& 31) = iZ (p2 n) := by
  obtain ⟨k, rfl⟩ := Int.eq_ofNat_of_zero_le h0
  have e := pk_shlN (n := 1) (nI k &&& 31) k (sh_l k (by omega)) (by
    have : 2 ^ k ≤ 2 ^ 12 := Nat.pow_le_pow_right (by decide) (by omega)
    omega)
  rw [iZ_nN, iZ_nN, iZ_nN] at e
  show iZ ((1 : Nat) : Int) <<< (iZ (k : Int) &&& 31) = _
  rw [e]
  congr 1
  unfold p2
  simp
theorem sh_bit {w i : Int} (h0 : 0 ≤ w) (h1 : w < 4096) (h2 : 0 ≤ i) (h3 : i < 12) : (iZ w >>> (iZ i &&& 31)) &&& iZ 1 = iZ (bi w i) := by
  obtain ⟨k, rfl⟩ := Int.eq_ofNat_of_zero_le h2
  obtain ⟨n, rfl⟩ := Int.eq_ofNat_of_zero_le h0
  have e := pk_shrN (n := n) (by omega) (nI k &&& 31) k (sh_l k (by omega))
  have hd : n / 2 ^ k ≤ n := Nat.div_le_self _ _
  have e2 := pk_andN (n := n / 2 ^ k) (by omega) (m := nI 1) 1 (by decide)
  rw [← e, iZ_nN, iZ_nN, iZ_nN, iZ_nN] at e2
  show (iZ (n : Int) >>> (iZ (k : Int) &&& 31)) &&& iZ ((1 : Nat) : Int) = _
  rw [e2]
  rfl
theorem or_b {a b : Nat} : nI a ||| nI b = nI (a ||| b) := by
  apply Int32.toBitVec_inj.mp
  show BitVec.ofNat 32 a ||| BitVec.ofNat 32 b = BitVec.ofNat 32 (a ||| b)
  rw [BitVec.ofNat_or]
theorem or_p2 {a n : Int} (h0 : 0 ≤ a) (h1 : a < p2 n) (h2 : 0 ≤ n) (h3 : n ≤ 12) : iZ a ||| (iZ 1 <<< (iZ n &&& 31)) = iZ (a + p2 n) := by
  rw [sh_p2 h2 h3]
  obtain ⟨k, rfl⟩ := Int.eq_ofNat_of_zero_le h2
  obtain ⟨m, rfl⟩ := Int.eq_ofNat_of_zero_le h0
  have e : p2 (k : Int) = ((2 ^ k : Nat) : Int) := by unfold p2; simp
  rw [e] at h1 ⊢
  rw [← iZ_nN, ← iZ_nN, or_b, Nat.or_comm]
  have h4 := Nat.two_pow_add_eq_or_of_lt (b := m) (i := k) (by omega) 1
  rw [Nat.mul_one] at h4
  rw [← h4, iZ_nN]
  congr 1
  omega
def bcx (x : Int32) : Int32 :=
  let a := x - ((x.toUInt32 >>> ((iZ 1).toUInt32 &&& Int32.toUInt32 31)).toInt32 &&& (iZ 1431655765))
  let b := (a &&& (iZ 858993459)) + ((a.toUInt32 >>> ((iZ 2).toUInt32 &&& Int32.toUInt32 31)).toInt32 &&& (iZ 858993459))
  let d := (b + (b.toUInt32 >>> ((iZ 4).toUInt32 &&& Int32.toUInt32 31)).toInt32) &&& (iZ 252645135)
  let g := d + (d.toUInt32 >>> ((iZ 8).toUInt32 &&& Int32.toUInt32 31)).toInt32
  let h := g + (g.toUInt32 >>> ((iZ 16).toUInt32 &&& Int32.toUInt32 31)).toInt32
  h &&& (iZ 63)
theorem bcx_k : ∀ k : Nat, k < 1024 → bcx (iZ k) = iZ (pcn k 10) := by decide +kernel
theorem bcx_ok {z : Int} (h0 : 0 ≤ z) (h1 : z < 1024) : bcx (iZ z) = iZ (pcn z 10) := by
  obtain ⟨k, rfl⟩ := Int.eq_ofNat_of_zero_le h0
  exact bcx_k k (by omega)
theorem abs_l {e : Int} (h1 : -9223372036854775808 ≤ e) (h2 : e < 9223372036854775808) : (if 0 < lZ e then lZ e else - lZ e) = lZ (if 0 < e then e else -e) := by
  have h := lZ_lt (a := 0) (b := e) (by omega) (by omega) h1 h2
  have e0 : (0 : Int64) = lZ 0 := by decide
  rw [e0]
  by_cases c : 0 < e
  · rw [if_pos (h.mpr c), if_pos c]
  · rw [if_neg (fun z => c (h.mp z)), if_neg c, lZ_neg]
def cN (lo : Int → Int) (k : Int) : Int := sZ (fun b => if lo b = 0 then 1 else 0) k
def cT (lo gr : Int → Int) (kd k : Int) : Int := sZ (fun b => if lo b = 0 then gr (b * 3 + kd) else 0) k
def cA (lo da : Int → Int) (k : Int) : Int := sZ (fun b => if lo b = 0 ∧ da b = 0 then p2 (cN lo b) else 0) k
theorem cN_1 {lo : Int → Int} {i x : Int} (h : x = cN lo i) (hi : 0 ≤ i) (hc : lo i = 0) : x + 1 = cN lo (i + 1) := by
  unfold cN; rw [sZ_s _ hi]; try dsimp only
  rw [if_pos hc, h]; rfl
theorem cN_0 {lo : Int → Int} {i x : Int} (h : x = cN lo i) (hi : 0 ≤ i) (hc : ¬ lo i = 0) : x = cN lo (i + 1) := by
  unfold cN; rw [sZ_s _ hi]; try dsimp only
  rw [if_neg hc, h]; unfold cN; omega
theorem cT_1 {lo gr : Int → Int} {kd i x : Int} (h : x = cT lo gr kd i) (hi : 0 ≤ i) (hc : lo i = 0) : x + gr (i * 3 + kd) = cT lo gr kd (i + 1) := by
  unfold cT; rw [sZ_s _ hi]; try dsimp only
  rw [if_pos hc, h]; rfl
theorem cT_0 {lo gr : Int → Int} {kd i x : Int} (h : x = cT lo gr kd i) (hi : 0 ≤ i) (hc : ¬ lo i = 0) : x = cT lo gr kd (i + 1) := by
  unfold cT; rw [sZ_s _ hi]; try dsimp only
  rw [if_neg hc, h]; unfold cT; omega
theorem cA_1 {lo da : Int → Int} {i x y : Int} (h : x = cA lo da i) (hn : y = cN lo i) (hi : 0 ≤ i) (hc : lo i = 0) : (if da i = 0 then x + p2 y else x) = cA lo da (i + 1) := by
  unfold cA; rw [sZ_s _ hi]; try dsimp only
  by_cases c : da i = 0
  · rw [if_pos c, if_pos ⟨hc, c⟩, h, hn]; rfl
  · rw [if_neg c, if_neg (fun z => c z.2), h]; unfold cA; omega
theorem cA_0 {lo da : Int → Int} {i x : Int} (h : x = cA lo da i) (hi : 0 ≤ i) (hc : ¬ lo i = 0) : x = cA lo da (i + 1) := by
  unfold cA; rw [sZ_s _ hi]; try dsimp only
  rw [if_neg (fun z => hc z.1), h]; unfold cA; omega
theorem cN_b {lo : Int → Int} {k : Int} (h : 0 ≤ k) : 0 ≤ cN lo k ∧ cN lo k ≤ k := by
  unfold cN
  have b : ∀ j, 0 ≤ (fun b => if lo b = 0 then (1 : Int) else 0) j ∧ (fun b => if lo b = 0 then (1 : Int) else 0) j ≤ 1 := by
    intro j; try dsimp only
    by_cases c : lo j = 0
    · rw [if_pos c]; omega
    · rw [if_neg c]; omega
  have l1 := sZ_nn k (fun j => (b j).1)
  have l2 := sZ_le 1 h (fun j => (b j).2)
  omega
theorem cA_b {lo da : Int → Int} {k : Int} (h : 0 ≤ k) : 0 ≤ cA lo da k ∧ cA lo da k < p2 (cN lo k) := by
  obtain ⟨n, rfl⟩ := Int.eq_ofNat_of_zero_le h
  induction n with
  | zero => exact ⟨Int.le_refl _, show (0 : Int) < 1 by omega⟩
  | succ n ih =>
    have ih := ih (by omega)
    have hn : (0 : Int) ≤ (n : Int) := by omega
    have cb := cN_b (lo := lo) hn
    have e : ((n + 1 : Nat) : Int) = (n : Int) + 1 := by omega
    rw [e]
    by_cases c : lo n = 0
    · rw [← cN_1 rfl hn c, ← cA_1 rfl rfl hn c, p2_s cb.1]
      by_cases d : da n = 0
      · rw [if_pos d]; omega
      · rw [if_neg d]; omega
    · rw [← cN_0 rfl hn c, ← cA_0 rfl hn c]; exact ih
def apv (g : Int → Int) (w n f t : Int) : Int := (fun e : Int => if 0 < e then e else -e) (sZ (fun j => if bi w j = 1 then g j else 0) n * (n - f) - (t - sZ (fun j => if bi w j = 1 then g j else 0) n) * f)
theorem ap_1 {g : Int → Int} {w i x : Int} (h : x = sZ (fun j => if bi w j = 1 then g j else 0) i) (hi : 0 ≤ i) (hc : bi w i = 1) : x + g i = sZ (fun j => if bi w j = 1 then g j else 0) (i + 1) := by
  rw [sZ_s _ hi, ← h]; try dsimp only
  rw [if_pos hc]
theorem ap_0 {g : Int → Int} {w i x : Int} (h : x = sZ (fun j => if bi w j = 1 then g j else 0) i) (hi : 0 ≤ i) (hc : ¬ bi w i = 1) : x = sZ (fun j => if bi w j = 1 then g j else 0) (i + 1) := by
  rw [sZ_s _ hi, ← h]; try dsimp only
  rw [if_neg hc]; omega
theorem ap_b {g : Int → Int} {w i x : Int} (h : x = sZ (fun j => if bi w j = 1 then g j else 0) i) (hi : 0 ≤ i) (hi2 : i ≤ 10) (hg : ∀ j, 0 ≤ g j ∧ g j ≤ 10000) : 0 ≤ x ∧ x ≤ 100000 := by
  have b : ∀ j, 0 ≤ (fun j => if bi w j = 1 then g j else 0) j ∧ (fun j => if bi w j = 1 then g j else 0) j ≤ 10000 := by
    intro j; try dsimp only
    have := hg j
    by_cases c : bi w j = 1
    · rw [if_pos c]; omega
    · rw [if_neg c]; omega
  have l1 := sZ_nn i (fun j => (b j).1)
  have l2 := sZ_le 10000 hi (fun j => (b j).2)
  omega
theorem ap_end {g : Int → Int} {w i n f t x : Int} (h : x = sZ (fun j => if bi w j = 1 then g j else 0) i) (hi : i = n) : (if 0 < x * (n - f) - (t - x) * f then x * (n - f) - (t - x) * f else -(x * (n - f) - (t - x) * f)) = apv g w n f t := by
  subst hi; rw [h]; rfl
theorem ap_bd {x n f t : Int} (hx : 0 ≤ x ∧ x ≤ 100000) (hn : 0 ≤ n ∧ n ≤ 10) (hf : 0 ≤ f ∧ f ≤ 10) (ht : 0 ≤ t ∧ t ≤ 200000) : -10000000 ≤ x * (n - f) - (t - x) * f ∧ x * (n - f) - (t - x) * f ≤ 10000000 := by
  have a1 := mul_bd hx.1 hx.2 hn.1 hn.2
  have a2 := mul_bd hx.1 hx.2 hf.1 hf.2
  have a3 := mul_bd ht.1 ht.2 hf.1 hf.2
  rw [Int.mul_sub, Int.sub_mul]
  omega
theorem apv_b {g : Int → Int} {w n f t : Int} (hn : 0 ≤ n ∧ n ≤ 10) (hf : 0 ≤ f ∧ f ≤ 10) (ht : 0 ≤ t ∧ t ≤ 200000) (hg : ∀ j, 0 ≤ g j ∧ g j ≤ 10000) : 0 ≤ apv g w n f t ∧ apv g w n f t ≤ 10000000 := by
  have hx := ap_b (g := g) (w := w) (x := sZ (fun j => if bi w j = 1 then g j else 0) n) rfl hn.1 hn.2 hg
  have hb := ap_bd hx hn hf ht
  rw [← ap_end (g := g) (w := w) (f := f) (t := t) (n := n) rfl rfl]
  by_cases c : 0 < sZ (fun j => if bi w j = 1 then g j else 0) n * (n - f) - (t - sZ (fun j => if bi w j = 1 then g j else 0) n) * f
  · rw [if_pos c]; omega
  · rw [if_neg c]; omega
theorem wy_1 {q : Int → Prop} [DecidablePred q] {i x : Int} (h : x = sZ (fun w => if q w then 1 else 0) i) (hi : 0 ≤ i) (hc : q i) : x + 1 = sZ (fun w => if q w then 1 else 0) (i + 1) := by
  rw [sZ_s _ hi, ← h]; try dsimp only
  rw [if_pos hc]
theorem wy_0 {q : Int → Prop} [DecidablePred q] {i x : Int} (h : x = sZ (fun w => if q w then 1 else 0) i) (hi : 0 ≤ i) (hc : ¬ q i) : x = sZ (fun w => if q w then 1 else 0) (i + 1) := by
  rw [sZ_s _ hi, ← h]; try dsimp only
  rw [if_neg hc]; omega
theorem pcn_b {z n : Int} (h : 0 ≤ n) : 0 ≤ pcn z n ∧ pcn z n ≤ n := by
  unfold pcn
  have l1 := sZ_nn (g := bi z) n (fun j => (bi_b z j).1)
  have l2 := sZ_le (g := bi z) 1 h (fun j => (bi_b z j).2)
  omega
theorem cN_mono {lo : Int → Int} {i k : Int} (hi : 0 ≤ i) (h : i ≤ k) : cN lo i ≤ cN lo k := by
  obtain ⟨d, hd⟩ : ∃ d : Nat, k = i + d := ⟨(k - i).toNat, by omega⟩
  subst hd
  induction d with
  | zero => simp
  | succ d ih =>
    have e : i + ((d + 1 : Nat) : Int) = i + (d : Int) + 1 := by omega
    rw [e]
    have ih := ih (by omega)
    by_cases c : lo (i + d) = 0
    · rw [← cN_1 rfl (by omega) c]; omega
    · rw [← cN_0 rfl (by omega) c]; exact ih
theorem cN_ov {lo : Int → Int} {i n x : Int} (h : x = cN lo i) (hi : 0 ≤ i) (hc : lo i = 0) (hn : i < n) (hx : ¬ x < 10) : 10 < cN lo n := by
  have h1 := cN_1 h hi hc
  have h2 := cN_mono (lo := lo) (i := i + 1) (k := n) (by omega) (by omega)
  omega
theorem cg_le {lo : Int → Int} {i n x : Int} (h : x = cN lo i) (hi : i = n) (hx : x ≤ 10) : cN lo n ≤ 10 := by subst hi; omega
theorem cg_eq {lo : Int → Int} {i n x : Int} (h : x = cN lo i) (hi : i = n) : x = cN lo n := hi ▸ h
theorem cg_eqA {lo da : Int → Int} {i n x : Int} (h : x = cA lo da i) (hi : i = n) : x = cA lo da n := hi ▸ h
theorem cg_eqT {lo gr : Int → Int} {kd i n x : Int} (h : x = cT lo gr kd i) (hi : i = n) : x = cT lo gr kd n := hi ▸ h
theorem cg_eqF {lo da : Int → Int} {i n x : Int} (h : x = cA lo da i) (hi : i = n) : pcn x 10 = pcn (cA lo da n) 10 := by subst hi; rw [h]
theorem up_all3 {q r : Int → Prop} {i n : Int} (h : ∀ j : Int, 0 ≤ j → j < i → q j → r j) (hi : i = n) : ∀ j : Int, 0 ≤ j → j < n → q j → r j := hi ▸ h
theorem cg_or1 {lo : Int → Int} {i n x f : Int} (h : x = cN lo i) (hi : i = n) (h1 : 0 < f) (h2 : f < x) : (1 = (1 : Int) ∧ 0 < f ∧ f < cN lo n) ∨ ((1 : Int) = 0 ∧ ¬ (0 < f ∧ f < cN lo n)) := by subst hi; exact Or.inl ⟨rfl, h1, by omega⟩
theorem cg_or0 {lo : Int → Int} {i n x f : Int} (h : x = cN lo i) (hi : i = n) (h1 : ¬ (0 < f ∧ f < x)) : ((0 : Int) = 1 ∧ 0 < f ∧ f < cN lo n) ∨ ((0 : Int) = 0 ∧ ¬ (0 < f ∧ f < cN lo n)) := by subst hi; exact Or.inr ⟨rfl, by omega⟩
theorem cN_lt {lo : Int → Int} {b i : Int} (hb : 0 ≤ b) (h : b < i) (hc : lo b = 0) : cN lo b < cN lo i := by
  have h1 := cN_1 (lo := lo) (i := b) rfl hb hc
  have h2 := cN_mono (lo := lo) (i := b + 1) (k := i) (by omega) (by omega)
  omega
theorem cg_hit {lo gm gr : Int → Int} {kd i x : Int} (h : ∀ b, 0 ≤ b → b < i → lo b = 0 → gm (cN lo b) = gr (b * 3 + kd)) (hx : x = cN lo i) (hi : 0 ≤ i) (hc : lo i = 0) : ∀ b, 0 ≤ b → b < i + 1 → lo b = 0 → pu gm x (gr (i * 3 + kd)) (cN lo b) = gr (b * 3 + kd) := by
  intro b h1 h2 h3
  by_cases e : b = i
  · subst e; rw [hx, pu_eq]
  · have := cN_lt (lo := lo) (b := b) (i := i) h1 (by omega) h3
    rw [pu_ne _ (by omega)]
    exact h b h1 (by omega) h3
theorem cg_miss {lo gm gr : Int → Int} {kd i : Int} (h : ∀ b, 0 ≤ b → b < i → lo b = 0 → gm (cN lo b) = gr (b * 3 + kd)) (hc : ¬ lo i = 0) : ∀ b, 0 ≤ b → b < i + 1 → lo b = 0 → gm (cN lo b) = gr (b * 3 + kd) := by
  intro b h1 h2 h3
  have : ¬ b = i := fun e => hc (e ▸ h3)
  exact h b h1 (by omega) h3
def cp4 (f g : Int → Int) : Int → Int := fun j => if 0 ≤ j ∧ j < 4 then f j else g j
end
section
/-! PURE ROWS: plans, as the search of the class has them. -/
theorem cpy4 (f g : Int → Int) : va_cpy (aI f) (aI g) (iZ 0).toNatClampNeg (iZ 0).toNatClampNeg (iZ 4).toNatClampNeg = aI (cp4 f g) := by
  have e0 : (iZ 0).toNatClampNeg = 0 := by decide
  have e4 : (iZ 4).toNatClampNeg = 4 := by decide
  rw [e0, e4]
  funext j
  unfold aI cp4
  by_cases h : j < 4
  · rw [pk_cpy_in (by omega) (by omega), if_pos (by omega)]
    congr 2
    omega
  · rw [pk_cpy_out (by omega), if_neg (by omega)]
def odN (f m : Int → Int) : Nat → (Int → Int) → Int × (Int → Int)
  | 0, t => (0, t)
  | k + 1, t => if t k < m k then (1, pu t k (t k + 1)) else odN f m k (pu t k (f k))
theorem od_yes {f m t : Int → Int} {i : Int} {x : Int × (Int → Int)} (h : odN f m (i + 1).toNat t = x) (hi : 0 ≤ i) (hc : t i < m i) : (1, pu t i (t i + 1)) = x := by
  have e : (i + 1).toNat = i.toNat + 1 := by omega
  rw [← h, e]
  show _ = if t (i.toNat : Int) < m (i.toNat : Int) then (1, pu t (i.toNat : Int) (t (i.toNat : Int) + 1)) else _
  rw [Int.toNat_of_nonneg hi, if_pos hc]
theorem od_no {f m t : Int → Int} {i : Int} {x : Int × (Int → Int)} (h : odN f m (i + 1).toNat t = x) (hi : 0 ≤ i) (hc : ¬ t i < m i) : odN f m (i - 1 + 1).toNat (pu t i (f i)) = x := by
  have e : (i + 1).toNat = i.toNat + 1 := by omega
  have e2 : (i - 1 + 1).toNat = i.toNat := by omega
  rw [← h, e, e2]
  show _ = if t (i.toNat : Int) < m (i.toNat : Int) then _ else odN f m i.toNat (pu t (i.toNat : Int) (f (i.toNat : Int)))
  rw [Int.toNat_of_nonneg hi, if_neg hc]
theorem od_z {f m t : Int → Int} {i : Int} {x : Int × (Int → Int)} (h : odN f m (i + 1).toNat t = x) (hi : i < 0) : (0, t) = x := by
  have e : (i + 1).toNat = 0 := by omega
  rw [← h, e]; rfl
theorem pu_r4 {f : Int → Int} {i v lo hi : Int} (hf : ∀ j, 0 ≤ j → j < 4 → lo ≤ f j ∧ f j ≤ hi) (h1 : lo ≤ v) (h2 : v ≤ hi) : ∀ j, 0 ≤ j → j < 4 → lo ≤ pu f i v j ∧ pu f i v j ≤ hi := by
  intro j a b
  by_cases h : j = i
  · subst h; rw [pu_eq]; exact ⟨h1, h2⟩
  · rw [pu_ne f h]; exact hf j a b
theorem od_rng {f m : Int → Int} (hf : ∀ j, 0 ≤ j → j < 4 → 0 ≤ f j ∧ f j ≤ 6) (hm : ∀ j, 0 ≤ j → j < 4 → 0 ≤ m j ∧ m j ≤ 6) : ∀ (k : Nat) (t : Int → Int), k ≤ 4 → (∀ j, 0 ≤ j → j < 4 → 0 ≤ t j ∧ t j ≤ 6) → (∀ j, 0 ≤ j → j < 4 → 0 ≤ (odN f m k t).2 j ∧ (odN f m k t).2 j ≤ 6) ∧ 0 ≤ (odN f m k t).1 ∧ (odN f m k t).1 ≤ 1 := by
  intro k
  induction k with
  | zero => intro t _ h; exact ⟨h, show (0 : Int) ≤ 0 by omega, show (0 : Int) ≤ 1 by omega⟩
  | succ k ih =>
    intro t hk h
    show (∀ j, 0 ≤ j → j < 4 → 0 ≤ (if t k < m k then ((1 : Int), pu t k (t k + 1)) else odN f m k (pu t k (f k))).2 j ∧ (if t k < m k then ((1 : Int), pu t k (t k + 1)) else odN f m k (pu t k (f k))).2 j ≤ 6) ∧ 0 ≤ (if t k < m k then ((1 : Int), pu t k (t k + 1)) else odN f m k (pu t k (f k))).1 ∧ (if t k < m k then ((1 : Int), pu t k (t k + 1)) else odN f m k (pu t k (f k))).1 ≤ 1
    have tk := h k (by omega) (by omega)
    have mk := hm k (by omega) (by omega)
    have fk := hf k (by omega) (by omega)
    by_cases c : t k < m k
    · rw [if_pos c]; exact ⟨pu_r4 h (by omega) (by omega), show (0 : Int) ≤ 1 by omega, show (1 : Int) ≤ 1 by omega⟩
    · rw [if_neg c]; exact ih _ (by omega) (pu_r4 h fk.1 fk.2)
def ncost (co t : Int → Int) : Int := sZ (fun j => t j * co j) 4
def nsum (bu t : Int → Int) : Int := sZ (fun j => if 0 < t j then bu j / t j else 0) 4
def csx (co bu : Int → Int) (li : Int) (t : Int → Int) (x : Int × Int × (Int → Int)) : Int × Int × (Int → Int) := if ncost co t < x.2.1 ∧ nsum bu t ≤ li then (1, ncost co t, cp4 t x.2.2) else x
def rn (f m co bu : Int → Int) (li : Int) : Nat → (Int → Int) → Int × Int × (Int → Int) → Int × Int × (Int → Int)
  | 0, _, x => x
  | k + 1, t, x => if (odN f m 4 t).1 = 0 then csx co bu li t x else rn f m co bu li k (odN f m 4 t).2 (csx co bu li t x)
theorem rn_go {f m co bu t : Int → Int} {li i : Int} {x y z : Int × Int × (Int → Int)} (h : rn f m co bu li (1296 - i).toNat t x = z) (hi : i < 1296) (hx : y = csx co bu li t x) (hc : ¬ (odN f m 4 t).1 = 0) : rn f m co bu li (1296 - (i + 1)).toNat (odN f m 4 t).2 y = z := by
  have e : (1296 - i).toNat = (1296 - (i + 1)).toNat + 1 := by omega
  rw [← h, e, hx]
  show _ = if (odN f m 4 t).1 = 0 then _ else rn f m co bu li (1296 - (i + 1)).toNat (odN f m 4 t).2 (csx co bu li t x)
  rw [if_neg hc]
theorem rn_st {f m co bu t : Int → Int} {li i : Int} {x y z : Int × Int × (Int → Int)} (h : rn f m co bu li (1296 - i).toNat t x = z) (hi : i < 1296) (hx : y = csx co bu li t x) (hc : (odN f m 4 t).1 = 0) : y = z := by
  have e : (1296 - i).toNat = (1296 - (i + 1)).toNat + 1 := by omega
  rw [← h, e, hx]
  show _ = if (odN f m 4 t).1 = 0 then csx co bu li t x else _
  rw [if_pos hc]
theorem rn_end {f m co bu t : Int → Int} {li i : Int} {x z : Int × Int × (Int → Int)} (h : rn f m co bu li (1296 - i).toNat t x = z) (hi : ¬ i < 1296) : x = z := by
  have e : (1296 - i).toNat = 0 := by omega
  rw [← h, e]; rfl
theorem nc_1 {co t : Int → Int} {i x : Int} (h : x = sZ (fun j => t j * co j) i) (hi : 0 ≤ i) : x + t i * co i = sZ (fun j => t j * co j) (i + 1) := sz_step (g := fun j => t j * co j) h hi
theorem nc_b {co t : Int → Int} {i x : Int} (h : x = sZ (fun j => t j * co j) i) (hi : 0 ≤ i) (hi2 : i ≤ 4) (ht : ∀ j, 0 ≤ j → j < 4 → 0 ≤ t j ∧ t j ≤ 6) (hc : ∀ j, 0 ≤ j → j < 4 → 0 ≤ co j ∧ co j ≤ 100000) : 0 ≤ x ∧ x ≤ 2400000 := by
  have m : ∀ j, 0 ≤ j → j < 4 → 0 ≤ t j * co j ∧ t j * co j ≤ 600000 := fun j h1 h2 => mul_bd (ht j h1 h2).1 (ht j h1 h2).2 (hc j h1 h2).1 (hc j h1 h2).2
  have m0 := m 0 (by omega) (by omega)
  have m1 := m 1 (by omega) (by omega)
  have m2 := m 2 (by omega) (by omega)
  have m3 := m 3 (by omega) (by omega)
  have e0 : sZ (fun j => t j * co j) 0 = 0 := rfl
  have e1 : sZ (fun j => t j * co j) 1 = 0 + t 0 * co 0 := rfl
  have e2 : sZ (fun j => t j * co j) 2 = 0 + t 0 * co 0 + t 1 * co 1 := rfl
  have e3 : sZ (fun j => t j * co j) 3 = 0 + t 0 * co 0 + t 1 * co 1 + t 2 * co 2 := rfl
  have e4 : sZ (fun j => t j * co j) 4 = 0 + t 0 * co 0 + t 1 * co 1 + t 2 * co 2 + t 3 * co 3 := rfl
  rcases (show i = 0 ∨ i = 1 ∨ i = 2 ∨ i = 3 ∨ i = 4 by omega) with rfl | rfl | rfl | rfl | rfl <;> omega
theorem ns_1 {bu t : Int → Int} {i x : Int} (h : x = sZ (fun j => if 0 < t j then bu j / t j else 0) i) (hi : 0 ≤ i) (hc : 0 < t i) : x + bu i / t i = sZ (fun j => if 0 < t j then bu j / t j else 0) (i + 1) := by
  rw [sZ_s _ hi, ← h]; try dsimp only
  rw [if_pos hc]
theorem ns_0 {bu t : Int → Int} {i x : Int} (h : x = sZ (fun j => if 0 < t j then bu j / t j else 0) i) (hi : 0 ≤ i) (hc : ¬ 0 < t i) : x = sZ (fun j => if 0 < t j then bu j / t j else 0) (i + 1) := by
  rw [sZ_s _ hi, ← h]; try dsimp only
  rw [if_neg hc]; omega
theorem ns_b {bu t : Int → Int} {i x : Int} (h : x = sZ (fun j => if 0 < t j then bu j / t j else 0) i) (hi : 0 ≤ i) (hi2 : i ≤ 4) (hb : ∀ j, 0 ≤ j → j < 4 → 0 ≤ bu j ∧ bu j ≤ 100000000000000000) : 0 ≤ x ∧ x ≤ 400000000000000000 := by
  have m : ∀ j, 0 ≤ j → j < 4 → 0 ≤ (if 0 < t j then bu j / t j else 0) ∧ (if 0 < t j then bu j / t j else 0) ≤ 100000000000000000 := by
    intro j h1 h2
    have b := hb j h1 h2
    by_cases c : 0 < t j
    · rw [if_pos c]
      have d := div_bd (c := bu j) (b := t j) b.1 (by omega)
      omega
    · rw [if_neg c]; omega
  have m0 := m 0 (by omega) (by omega)
  have m1 := m 1 (by omega) (by omega)
  have m2 := m 2 (by omega) (by omega)
  have m3 := m 3 (by omega) (by omega)
  have e1 : sZ (fun j => if 0 < t j then bu j / t j else 0) 1 = 0 + (if 0 < t 0 then bu 0 / t 0 else 0) := rfl
  have e2 : sZ (fun j => if 0 < t j then bu j / t j else 0) 2 = 0 + (if 0 < t 0 then bu 0 / t 0 else 0) + (if 0 < t 1 then bu 1 / t 1 else 0) := rfl
  have e3 : sZ (fun j => if 0 < t j then bu j / t j else 0) 3 = 0 + (if 0 < t 0 then bu 0 / t 0 else 0) + (if 0 < t 1 then bu 1 / t 1 else 0) + (if 0 < t 2 then bu 2 / t 2 else 0) := rfl
  have e4 : sZ (fun j => if 0 < t j then bu j / t j else 0) 4 = 0 + (if 0 < t 0 then bu 0 / t 0 else 0) + (if 0 < t 1 then bu 1 / t 1 else 0) + (if 0 < t 2 then bu 2 / t 2 else 0) + (if 0 < t 3 then bu 3 / t 3 else 0) := rfl
  generalize (if 0 < t 0 then bu 0 / t 0 else 0) = a0 at *
  generalize (if 0 < t 1 then bu 1 / t 1 else 0) = a1 at *
  generalize (if 0 < t 2 then bu 2 / t 2 else 0) = a2 at *
  generalize (if 0 < t 3 then bu 3 / t 3 else 0) = a3 at *
  rcases (show i = 0 ∨ i = 1 ∨ i = 2 ∨ i = 3 ∨ i = 4 by omega) with rfl | rfl | rfl | rfl | rfl
  · have e0 : sZ (fun j => if 0 < t j then bu j / t j else 0) 0 = 0 := rfl
    omega
  · omega
  · omega
  · omega
  · omega
theorem cp4_r {f g : Int → Int} {lo hi : Int} (hf : ∀ j, 0 ≤ j → j < 4 → lo ≤ f j ∧ f j ≤ hi) : ∀ j, 0 ≤ j → j < 4 → lo ≤ cp4 f g j ∧ cp4 f g j ≤ hi := by
  intro j h1 h2; unfold cp4; rw [if_pos ⟨h1, h2⟩]; exact hf j h1 h2
theorem csx_y {co bu t h : Int → Int} {li ho ch x y : Int} (hx : x = ncost co t) (hy : y = nsum bu t) (h1 : x < ch) (h2 : y ≤ li) : (1, x, cp4 t h) = csx co bu li t (ho, ch, h) := by
  unfold csx; rw [if_pos ⟨hx ▸ h1, hy ▸ h2⟩, hx]
theorem csx_n {co bu t h : Int → Int} {li ho ch x : Int} (hx : x = ncost co t) (h1 : ¬ x < ch) : (ho, ch, h) = csx co bu li t (ho, ch, h) := by
  unfold csx; rw [if_neg (fun z => h1 (hx ▸ z.1))]
theorem csx_n2 {co bu t h : Int → Int} {li ho ch y : Int} (hy : y = nsum bu t) (h1 : ¬ y ≤ li) : (ho, ch, h) = csx co bu li t (ho, ch, h) := by
  unfold csx; rw [if_neg (fun z => h1 (hy ▸ z.2))]
theorem csx_b {co bu t h : Int → Int} {li ho ch ho2 ch2 : Int} {h2 : Int → Int} (hq : (ho2, ch2, h2) = csx co bu li t (ho, ch, h)) (hho : 0 ≤ ho ∧ ho ≤ 1) (hch : 0 ≤ ch ∧ ch ≤ 9223372036854775807) (hn : 0 ≤ ncost co t) : (0 ≤ ho2 ∧ ho2 ≤ 1) ∧ 0 ≤ ch2 ∧ ch2 ≤ 9223372036854775807 := by
  unfold csx at hq
  by_cases c : ncost co t < (ho, ch, h).2.1 ∧ nsum bu t ≤ li
  · rw [if_pos c] at hq
    have c1 : ncost co t < ch := c.1
    injection hq with e1 e2
    injection e2 with e3 e4
    subst e1; subst e3; subst e4
    omega
  · rw [if_neg c] at hq
    injection hq with e1 e2
    injection e2 with e3 e4
    omega
theorem pp_bd {n : Int} (hn : 0 ≤ n ∧ n ≤ 12) (h : 1 < n) : 1 ≤ n * (n - 1) ∧ n * (n - 1) ≤ 132 ∧ n * n ≤ 2 * (n * (n - 1)) := by
  rcases (show n = 2 ∨ n = 3 ∨ n = 4 ∨ n = 5 ∨ n = 6 ∨ n = 7 ∨ n = 8 ∨ n = 9 ∨ n = 10 ∨ n = 11 ∨ n = 12 by omega) with rfl | rfl | rfl | rfl | rfl | rfl | rfl | rfl | rfl | rfl | rfl <;> decide
theorem tB_pp {i : Int} {q be : Int → Int} (hB : ∀ j, 0 ≤ j → j < 4 → be j = tB 1 q (fun j => q j * (q j - 1)) i j) (hq : ∀ j, 0 ≤ j → j < 4 → 0 ≤ q j ∧ q j ≤ 12) : ∀ j, 0 ≤ j → j < 4 → 1 ≤ be j ∧ be j ≤ 2000 := by
  intro j h1 h2
  rw [hB j h1 h2]
  unfold tB
  by_cases c : j < i ∧ 1 < q j
  · rw [if_pos c]
    dsimp only
    have := pp_bd (hq j h1 h2) c.2
    omega
  · rw [if_neg c]; omega
def bur (q sz sc : Int → Int) : Int → Int := fun j => 60 * (tA 1 q (fun j => sz j * sz j * sc j) 4 j * (mnC 1 q (fun j => q j * (q j - 1)) / tB 1 q (fun j => q j * (q j - 1)) 4 j))
theorem bur_b {q sz sc : Int → Int} (hsz : ∀ j, 0 ≤ j → j < 4 → 0 ≤ sz j ∧ sz j ≤ 100) (hq : ∀ j, 0 ≤ j → j < 4 → 0 ≤ q j ∧ q j ≤ 12) (hsc : ∀ j, 0 ≤ j → j < 4 → 0 ≤ sc j ∧ sc j ≤ q j * q j * 100000000) (hc1 : 1 ≤ mnC 1 q (fun j => q j * (q j - 1))) (hc : mnC 1 q (fun j => q j * (q j - 1)) ≤ 420) : ∀ j, 0 ≤ j → j < 4 → 0 ≤ bur q sz sc j ∧ bur q sz sc j ≤ 100000000000000000 := by
  intro j h1 h2
  unfold bur
  generalize mnC 1 q (fun j => q j * (q j - 1)) = M at *
  unfold tA tB
  by_cases c : j < 4 ∧ 1 < q j
  · rw [if_pos c, if_pos c]
    dsimp only
    have n1 := pp_bd (hq j h1 h2) c.2
    have w1 := ws_bd (hsz j h1 h2) (hsc j h1 h2) (hq j h1 h2)
    have d1 := div_bd (c := M) (b := q j * (q j - 1)) (by omega) n1.1
    have d2 : (M / (q j * (q j - 1))) * (q j * (q j - 1)) ≤ M := Int.ediv_mul_le _ (by omega)
    have p1 := Int.mul_nonneg w1.1 d1.1
    have e1 := Int.mul_le_mul_of_nonneg_right w1.2.1 d1.1
    have e2 := Int.mul_le_mul_of_nonneg_right n1.2.2 d1.1
    have e3 : q j * (q j - 1) * (M / (q j * (q j - 1))) ≤ M := by rw [Int.mul_comm]; exact d2
    have e4 : 10000 * (q j * q j * 100000000) * (M / (q j * (q j - 1))) = 1000000000000 * (q j * q j * (M / (q j * (q j - 1)))) := by
      rw [show 10000 * (q j * q j * 100000000) = 1000000000000 * (q j * q j) by omega, Int.mul_assoc]
    have e5 : 2 * (q j * (q j - 1)) * (M / (q j * (q j - 1))) = 2 * (q j * (q j - 1) * (M / (q j * (q j - 1)))) := by rw [Int.mul_assoc]
    omega
  · rw [if_neg c, if_neg c]; omega
theorem lim_b {a t c : Int} (ha : 0 ≤ a ∧ a ≤ 1000000000) (ht : 0 ≤ t ∧ t ≤ 400) (hc : 1 ≤ c ∧ c ≤ 420) : 0 ≤ a * t * t * c * 60 ∧ a * t * t * c * 60 ≤ 4032000000000000000 ∧ 0 ≤ a * t * t * c ∧ a * t * t * c ≤ 67200000000000000 ∧ 0 ≤ a * t * t ∧ a * t * t ≤ 160000000000000 ∧ 0 ≤ a * t ∧ a * t ≤ 400000000000 := by
  have m1 := mul_bd ha.1 ha.2 ht.1 ht.2
  have m2 := mul_bd m1.1 m1.2 ht.1 ht.2
  have m3 := mul_bd m2.1 m2.2 (show (0 : Int) ≤ c by omega) hc.2
  omega
theorem rn_go2 {f m co bu t tr2 : Int → Int} {li i rv : Int} {x y z : Int × Int × (Int → Int)} (h : rn f m co bu li (1296 - i).toNat t x = z) (hi : i < 1296) (hx : y = csx co bu li t x) (ho : (rv, tr2) = odN f m 4 t) (hc : ¬ rv = 0) : rn f m co bu li (1296 - (i + 1)).toNat tr2 y = z := by
  have := rn_go h hi hx (by rw [← ho]; exact hc)
  rwa [← ho] at this
theorem rn_st2 {f m co bu t tr2 : Int → Int} {li i rv : Int} {x y z : Int × Int × (Int → Int)} (h : rn f m co bu li (1296 - i).toNat t x = z) (hi : i < 1296) (hx : y = csx co bu li t x) (ho : (rv, tr2) = odN f m 4 t) (hc : rv = 0) : y = z := rn_st h hi hx (by rw [← ho]; exact hc)
theorem br_eq {q sz sc ab be : Int → Int} {i : Int} (hA : ∀ j, 0 ≤ j → j < 4 → ab j = tA 1 q (fun j => sz j * sz j * sc j) 4 j) (hB : ∀ j, 0 ≤ j → j < 4 → be j = tB 1 q (fun j => q j * (q j - 1)) 4 j) (hE : cm be 4 = mnC 1 q (fun j => q j * (q j - 1))) (h1 : 0 ≤ i) (h2 : i < 4) : 60 * (ab i * (cm be 4 / be i)) = bur q sz sc i := by
  rw [hE, hA i h1 h2, hB i h1 h2]; rfl
end
section
def RBg : String := "StratumCounts$Bags"
def RCp : String := "StratumCounts$Comparison"
def RDr : String := "StratumCounts$Draws"
def RFg : String := "StratumCounts$Figures"
def RPl : String := "StratumCounts$Planner"
def RRp : String := "StratumCounts$Repeats"
def RSt : String := "StratumCounts$Strata"
def RTm : String := "StratumCounts$Terms"
def RSc : String := "StratumCounts"
def RMd : String := "StratumCountsModel"
def RLw : String := "StratumCountsLaw"
def RJI : String := "java/lang/Integer"
def RJA : String := "java/util/Arrays"
def RJM : String := "java/lang/Math"
def RJS : String := "java/lang/System"
def TBg : u_T := fun k => match k with
  | 0 => ("StratumCounts$Bags", "homes", "[I", true)
  | 1 => ("StratumCounts$Bags", "dates", "[I", true)
  | 2 => ("StratumCounts$Bags", "lost", "[Z", true)
  | 3 => ("StratumCounts$Bags", "grams", "[J", true)
  | _ => ("StratumCounts$Bags", "made", "I", false)
def tyBg : Nat → FieldType := fun k => match k with
  | 0 => .array .int
  | 1 => .array .int
  | 2 => .array .boolean
  | 3 => .array .long
  | _ => .int
theorem nmBg : ∀ a, a < 5 → ∀ b, b < 5 → a ≠ b → (TBg a).2.1 ≠ (TBg b).2.1 := by decide +kernel
theorem tyBg_ok : ∀ k, k < 5 → parseFieldDescriptor (TBg k).2.2.1 = some (tyBg k) := by decide +kernel
def TCp : u_T := fun k => match k with
  | 0 => ("StratumCounts$Comparison", "grams", "[J", true)
  | 1 => ("StratumCounts$Comparison", "number", "I", false)
  | 2 => ("StratumCounts$Comparison", "firsts", "I", false)
  | 3 => ("StratumCounts$Comparison", "actual", "I", false)
  | _ => ("StratumCounts$Comparison", "total", "J", false)
def tyCp : Nat → FieldType := fun k => match k with
  | 0 => .array .long
  | 1 => .int
  | 2 => .int
  | 3 => .int
  | _ => .long
theorem nmCp : ∀ a, a < 5 → ∀ b, b < 5 → a ≠ b → (TCp a).2.1 ≠ (TCp b).2.1 := by decide +kernel
theorem tyCp_ok : ∀ k, k < 5 → parseFieldDescriptor (TCp k).2.2.1 = some (tyCp k) := by decide +kernel
def TDr : u_T := fun k => match k with
  | 0 => ("StratumCounts$Draws", "lists", "[I", true)
  | 1 => ("StratumCounts$Draws", "lengths", "[I", true)
  | _ => ("StratumCounts$Draws", "seed", "J", false)
def tyDr : Nat → FieldType := fun k => match k with
  | 0 => .array .int
  | 1 => .array .int
  | _ => .long
theorem nmDr : ∀ a, a < 3 → ∀ b, b < 3 → a ≠ b → (TDr a).2.1 ≠ (TDr b).2.1 := by decide +kernel
theorem tyDr_ok : ∀ k, k < 3 → parseFieldDescriptor (TDr k).2.2.1 = some (tyDr k) := by decide +kernel
def TFg : u_T := fun k => match k with
  | 0 => ("StratumCounts$Figures", "sizes", "[J", true)
  | 1 => ("StratumCounts$Figures", "numbers", "[J", true)
  | 2 => ("StratumCounts$Figures", "sums", "[J", true)
  | 3 => ("StratumCounts$Figures", "scatters", "[J", true)
  | 4 => ("StratumCounts$Figures", "terms", "LStratumCounts$Terms;", true)
  | 5 => ("StratumCounts$Figures", "counted", "I", false)
  | _ => ("StratumCounts$Figures", "total", "J", false)
def tyFg : Nat → FieldType := fun k => match k with
  | 0 => .array .long
  | 1 => .array .long
  | 2 => .array .long
  | 3 => .array .long
  | 4 => .object "StratumCounts$Terms"
  | 5 => .int
  | _ => .long
theorem nmFg : ∀ a, a < 7 → ∀ b, b < 7 → a ≠ b → (TFg a).2.1 ≠ (TFg b).2.1 := by decide +kernel
theorem tyFg_ok : ∀ k, k < 7 → parseFieldDescriptor (TFg k).2.2.1 = some (tyFg k) := by decide +kernel
def TPl : u_T := fun k => match k with
  | 0 => ("StratumCounts$Planner", "held", "[I", true)
  | 1 => ("StratumCounts$Planner", "trial", "[I", true)
  | 2 => ("StratumCounts$Planner", "fewest", "[I", true)
  | 3 => ("StratumCounts$Planner", "most", "[I", true)
  | 4 => ("StratumCounts$Planner", "costs", "[J", true)
  | 5 => ("StratumCounts$Planner", "burdens", "[J", true)
  | 6 => ("StratumCounts$Planner", "terms", "LStratumCounts$Terms;", true)
  | 7 => ("StratumCounts$Planner", "holds", "Z", false)
  | 8 => ("StratumCounts$Planner", "limit", "J", false)
  | _ => ("StratumCounts$Planner", "cheapest", "J", false)
def tyPl : Nat → FieldType := fun k => match k with
  | 0 => .array .int
  | 1 => .array .int
  | 2 => .array .int
  | 3 => .array .int
  | 4 => .array .long
  | 5 => .array .long
  | 6 => .object "StratumCounts$Terms"
  | 7 => .boolean
  | 8 => .long
  | _ => .long
theorem nmPl : ∀ a, a < 10 → ∀ b, b < 10 → a ≠ b → (TPl a).2.1 ≠ (TPl b).2.1 := by decide +kernel
theorem tyPl_ok : ∀ k, k < 10 → parseFieldDescriptor (TPl k).2.2.1 = some (tyPl k) := by decide +kernel
def TRp : u_T := fun k => match k with
  | 0 => ("StratumCounts$Repeats", "sorted", "[I", true)
  | 1 => ("StratumCounts$Repeats", "kinds", "[I", true)
  | 2 => ("StratumCounts$Repeats", "found", "[J", true)
  | _ => ("StratumCounts$Repeats", "made", "I", false)
def tyRp : Nat → FieldType := fun k => match k with
  | 0 => .array .int
  | 1 => .array .int
  | 2 => .array .long
  | _ => .int
theorem nmRp : ∀ a, a < 4 → ∀ b, b < 4 → a ≠ b → (TRp a).2.1 ≠ (TRp b).2.1 := by decide +kernel
theorem tyRp_ok : ∀ k, k < 4 → parseFieldDescriptor (TRp k).2.2.1 = some (tyRp k) := by decide +kernel
def TSt : u_T := fun k => match k with
  | 0 => ("StratumCounts$Strata", "sizes", "[I", true)
  | 1 => ("StratumCounts$Strata", "costs", "[J", true)
  | 2 => ("StratumCounts$Strata", "gone", "[Z", true)
  | _ => ("StratumCounts$Strata", "made", "I", false)
def tySt : Nat → FieldType := fun k => match k with
  | 0 => .array .int
  | 1 => .array .long
  | 2 => .array .boolean
  | _ => .int
theorem nmSt : ∀ a, a < 4 → ∀ b, b < 4 → a ≠ b → (TSt a).2.1 ≠ (TSt b).2.1 := by decide +kernel
theorem tySt_ok : ∀ k, k < 4 → parseFieldDescriptor (TSt k).2.2.1 = some (tySt k) := by decide +kernel
def TTm : u_T := fun k => match k with
  | 0 => ("StratumCounts$Terms", "aboves", "[J", true)
  | _ => ("StratumCounts$Terms", "belows", "[J", true)
def tyTm : Nat → FieldType := fun k => match k with
  | 0 => .array .long
  | _ => .array .long
theorem nmTm : ∀ a, a < 2 → ∀ b, b < 2 → a ≠ b → (TTm a).2.1 ≠ (TTm b).2.1 := by decide +kernel
theorem tyTm_ok : ∀ k, k < 2 → parseFieldDescriptor (TTm k).2.2.1 = some (tyTm k) := by decide +kernel
def TSc : u_T := fun k => match k with
  | 0 => ("StratumCounts", "strata", "LStratumCounts$Strata;", true)
  | 1 => ("StratumCounts", "bags", "LStratumCounts$Bags;", true)
  | 2 => ("StratumCounts", "draws", "LStratumCounts$Draws;", true)
  | 3 => ("StratumCounts", "repeats", "LStratumCounts$Repeats;", true)
  | 4 => ("StratumCounts", "figures", "LStratumCounts$Figures;", true)
  | 5 => ("StratumCounts", "planner", "LStratumCounts$Planner;", true)
  | _ => ("StratumCounts", "comparison", "LStratumCounts$Comparison;", true)
def tySc : Nat → FieldType := fun k => match k with
  | 0 => .object "StratumCounts$Strata"
  | 1 => .object "StratumCounts$Bags"
  | 2 => .object "StratumCounts$Draws"
  | 3 => .object "StratumCounts$Repeats"
  | 4 => .object "StratumCounts$Figures"
  | 5 => .object "StratumCounts$Planner"
  | _ => .object "StratumCounts$Comparison"
theorem nmSc : ∀ a, a < 7 → ∀ b, b < 7 → a ≠ b → (TSc a).2.1 ≠ (TSc b).2.1 := by decide +kernel
theorem tySc_ok : ∀ k, k < 7 → parseFieldDescriptor (TSc k).2.2.1 = some (tySc k) := by decide +kernel
def TMd : u_T := fun k => match k with
  | 0 => ("StratumCountsModel", "seed", "J", false)
  | 1 => ("StratumCountsModel", "strata", "I", false)
  | 2 => ("StratumCountsModel", "sizes", "[I", true)
  | 3 => ("StratumCountsModel", "costs", "[J", true)
  | 4 => ("StratumCountsModel", "gone", "[Z", true)
  | 5 => ("StratumCountsModel", "drawn", "[I", true)
  | 6 => ("StratumCountsModel", "drawnCounts", "[I", true)
  | 7 => ("StratumCountsModel", "bags", "I", false)
  | 8 => ("StratumCountsModel", "owners", "[I", true)
  | 9 => ("StratumCountsModel", "years", "[I", true)
  | 10 => ("StratumCountsModel", "missing", "[Z", true)
  | 11 => ("StratumCountsModel", "grams", "[J", true)
  | 12 => ("StratumCountsModel", "hasPlan", "Z", false)
  | 13 => ("StratumCountsModel", "planned", "[I", true)
  | 14 => ("StratumCountsModel", "again", "I", false)
  | 15 => ("StratumCountsModel", "againBag", "[I", true)
  | 16 => ("StratumCountsModel", "againKind", "[I", true)
  | 17 => ("StratumCountsModel", "againGrams", "[J", true)
  | 18 => ("StratumCountsModel", "over", "J", false)
  | 19 => ("StratumCountsModel", "under", "J", false)
  | _ => ("StratumCountsModel", "trial", "[I", true)
def tyMd : Nat → FieldType := fun k => match k with
  | 0 => .long
  | 1 => .int
  | 2 => .array .int
  | 3 => .array .long
  | 4 => .array .boolean
  | 5 => .array .int
  | 6 => .array .int
  | 7 => .int
  | 8 => .array .int
  | 9 => .array .int
  | 10 => .array .boolean
  | 11 => .array .long
  | 12 => .boolean
  | 13 => .array .int
  | 14 => .int
  | 15 => .array .int
  | 16 => .array .int
  | 17 => .array .long
  | 18 => .long
  | 19 => .long
  | _ => .array .int
theorem nmMd : ∀ a, a < 21 → ∀ b, b < 21 → a ≠ b → (TMd a).2.1 ≠ (TMd b).2.1 := by decide +kernel
theorem tyMd_ok : ∀ k, k < 21 → parseFieldDescriptor (TMd k).2.2.1 = some (tyMd k) := by decide +kernel
abbrev clAll : List vw_C := [(RBg, TBg, 5), (RCp, TCp, 5), (RDr, TDr, 3), (RFg, TFg, 7), (RPl, TPl, 10), (RRp, TRp, 4), (RSt, TSt, 4), (RTm, TTm, 2), (RSc, TSc, 7), (RMd, TMd, 21)]
abbrev cBg_init : ByteArray := prog_2_method_1_code
def yBg_init : MethodName := ⟨RBg, "<init>", "()V"⟩
abbrev cBg_has : ByteArray := prog_2_method_2_code
def yBg_has : MethodName := ⟨RBg, "has", "(I)Z"⟩
abbrev cBg_add : ByteArray := prog_2_method_3_code
def yBg_add : MethodName := ⟨RBg, "add", "(I)I"⟩
abbrev cBg_setGrams : ByteArray := prog_2_method_4_code
def yBg_setGrams : MethodName := ⟨RBg, "setGrams", "(IIJ)Z"⟩
abbrev cBg_setYear : ByteArray := prog_2_method_5_code
def yBg_setYear : MethodName := ⟨RBg, "setYear", "(II)Z"⟩
abbrev cBg_lose : ByteArray := prog_2_method_6_code
def yBg_lose : MethodName := ⟨RBg, "lose", "(I)Z"⟩
abbrev cBg_move : ByteArray := prog_2_method_7_code
def yBg_move : MethodName := ⟨RBg, "move", "(II)V"⟩
abbrev cBg_gramsOf : ByteArray := prog_2_method_8_code
def yBg_gramsOf : MethodName := ⟨RBg, "gramsOf", "(II)J"⟩
abbrev cCp_init : ByteArray := prog_3_method_1_code
def yCp_init : MethodName := ⟨RCp, "<init>", "()V"⟩
abbrev cCp_gather : ByteArray := prog_3_method_2_code
def yCp_gather : MethodName := ⟨RCp, "gather", "(LStratumCounts$Bags;I)Z"⟩
abbrev cCp_take : ByteArray := prog_3_method_3_code
def yCp_take : MethodName := ⟨RCp, "take", "(JI)V"⟩
abbrev cCp_countWays : ByteArray := prog_3_method_4_code
def yCp_countWays : MethodName := ⟨RCp, "countWays", "()J"⟩
abbrev cCp_countFarWays : ByteArray := prog_3_method_5_code
def yCp_countFarWays : MethodName := ⟨RCp, "countFarWays", "()J"⟩
abbrev cCp_apart : ByteArray := prog_3_method_6_code
def yCp_apart : MethodName := ⟨RCp, "apart", "(I)J"⟩
abbrev cDr_init : ByteArray := prog_4_method_1_code
def yDr_init : MethodName := ⟨RDr, "<init>", "(J)V"⟩
abbrev cDr_take : ByteArray := prog_4_method_2_code
def yDr_take : MethodName := ⟨RDr, "take", "(III)I"⟩
abbrev cDr_nextBelow : ByteArray := prog_4_method_3_code
def yDr_nextBelow : MethodName := ⟨RDr, "nextBelow", "(I)I"⟩
abbrev cDr_swap : ByteArray := prog_4_method_4_code
def yDr_swap : MethodName := ⟨RDr, "swap", "(II)V"⟩
abbrev cDr_taken : ByteArray := prog_4_method_5_code
def yDr_taken : MethodName := ⟨RDr, "taken", "(II)I"⟩
abbrev cFg_init : ByteArray := prog_5_method_1_code
def yFg_init : MethodName := ⟨RFg, "<init>", "()V"⟩
abbrev cFg_gather : ByteArray := prog_5_method_2_code
def yFg_gather : MethodName := ⟨RFg, "gather", "(LStratumCounts$Strata;LStratumCounts$Bags;I)V"⟩
abbrev cFg_gatherOne : ByteArray := prog_5_method_3_code
def yFg_gatherOne : MethodName := ⟨RFg, "gatherOne", "(ILStratumCounts$Bags;I)V"⟩
abbrev cFg_haveSpread : ByteArray := prog_5_method_4_code
def yFg_haveSpread : MethodName := ⟨RFg, "haveSpread", "()Z"⟩
abbrev cFg_tellMean : ByteArray := prog_5_method_5_code
def yFg_tellMean : MethodName := ⟨RFg, "tellMean", "(I)J"⟩
abbrev cFg_tellSpread : ByteArray := prog_5_method_6_code
def yFg_tellSpread : MethodName := ⟨RFg, "tellSpread", "(I)J"⟩
abbrev cFg_weighedScatter : ByteArray := prog_5_method_7_code
def yFg_weighedScatter : MethodName := ⟨RFg, "weighedScatter", "(I)J"⟩
abbrev cFg_pairs : ByteArray := prog_5_method_8_code
def yFg_pairs : MethodName := ⟨RFg, "pairs", "(I)J"⟩
abbrev cPl_init : ByteArray := prog_6_method_1_code
def yPl_init : MethodName := ⟨RPl, "<init>", "()V"⟩
abbrev cPl_heldBags : ByteArray := prog_6_method_2_code
def yPl_heldBags : MethodName := ⟨RPl, "heldBags", "(I)I"⟩
abbrev cPl_prepare : ByteArray := prog_6_method_3_code
def yPl_prepare : MethodName := ⟨RPl, "prepare", "(LStratumCounts$Figures;LStratumCounts$Strata;JJ)V"⟩
abbrev cPl_findCheapest : ByteArray := prog_6_method_4_code
def yPl_findCheapest : MethodName := ⟨RPl, "findCheapest", "()J"⟩
abbrev cPl_considerTrial : ByteArray := prog_6_method_5_code
def yPl_considerTrial : MethodName := ⟨RPl, "considerTrial", "()V"⟩
abbrev cPl_isNearEnough : ByteArray := prog_6_method_6_code
def yPl_isNearEnough : MethodName := ⟨RPl, "isNearEnough", "()Z"⟩
abbrev cPl_stepTrial : ByteArray := prog_6_method_7_code
def yPl_stepTrial : MethodName := ⟨RPl, "stepTrial", "()Z"⟩
abbrev cRp_init : ByteArray := prog_7_method_1_code
def yRp_init : MethodName := ⟨RRp, "<init>", "()V"⟩
abbrev cRp_add : ByteArray := prog_7_method_2_code
def yRp_add : MethodName := ⟨RRp, "add", "(IIJ)I"⟩
abbrev cRp_tellError : ByteArray := prog_7_method_3_code
def yRp_tellError : MethodName := ⟨RRp, "tellError", "(LStratumCounts$Bags;II)J"⟩
abbrev cSt_init : ByteArray := prog_8_method_1_code
def ySt_init : MethodName := ⟨RSt, "<init>", "()V"⟩
abbrev cSt_has : ByteArray := prog_8_method_2_code
def ySt_has : MethodName := ⟨RSt, "has", "(I)Z"⟩
abbrev cSt_stands : ByteArray := prog_8_method_3_code
def ySt_stands : MethodName := ⟨RSt, "stands", "(I)Z"⟩
abbrev cSt_add : ByteArray := prog_8_method_4_code
def ySt_add : MethodName := ⟨RSt, "add", "(I)I"⟩
abbrev cSt_setCost : ByteArray := prog_8_method_5_code
def ySt_setCost : MethodName := ⟨RSt, "setCost", "(IJ)Z"⟩
abbrev cSt_merge : ByteArray := prog_8_method_6_code
def ySt_merge : MethodName := ⟨RSt, "merge", "(II)Z"⟩
abbrev cTm_init : ByteArray := prog_9_method_1_code
def yTm_init : MethodName := ⟨RTm, "<init>", "()V"⟩
abbrev cTm_clear : ByteArray := prog_9_method_2_code
def yTm_clear : MethodName := ⟨RTm, "clear", "()V"⟩
abbrev cTm_set : ByteArray := prog_9_method_3_code
def yTm_set : MethodName := ⟨RTm, "set", "(IJJ)V"⟩
abbrev cTm_common : ByteArray := prog_9_method_4_code
def yTm_common : MethodName := ⟨RTm, "common", "()J"⟩
abbrev cTm_scaled : ByteArray := prog_9_method_5_code
def yTm_scaled : MethodName := ⟨RTm, "scaled", "(IJ)J"⟩
abbrev cTm_sum : ByteArray := prog_9_method_6_code
def yTm_sum : MethodName := ⟨RTm, "sum", "(J)J"⟩
abbrev cSc_init : ByteArray := prog_1_method_1_code
def ySc_init : MethodName := ⟨RSc, "<init>", "(J)V"⟩
abbrev cSc_stratum : ByteArray := prog_1_method_2_code
def ySc_stratum : MethodName := ⟨RSc, "stratum", "(I)I"⟩
abbrev cSc_cost : ByteArray := prog_1_method_3_code
def ySc_cost : MethodName := ⟨RSc, "cost", "(IJ)Z"⟩
abbrev cSc_bag : ByteArray := prog_1_method_4_code
def ySc_bag : MethodName := ⟨RSc, "bag", "(I)I"⟩
abbrev cSc_weight : ByteArray := prog_1_method_5_code
def ySc_weight : MethodName := ⟨RSc, "weight", "(IIJ)Z"⟩
abbrev cSc_year : ByteArray := prog_1_method_6_code
def ySc_year : MethodName := ⟨RSc, "year", "(II)Z"⟩
abbrev cSc_missing : ByteArray := prog_1_method_7_code
def ySc_missing : MethodName := ⟨RSc, "missing", "(I)Z"⟩
abbrev cSc_draw : ByteArray := prog_1_method_8_code
def ySc_draw : MethodName := ⟨RSc, "draw", "(II)I"⟩
abbrev cSc_drawn : ByteArray := prog_1_method_9_code
def ySc_drawn : MethodName := ⟨RSc, "drawn", "(II)I"⟩
abbrev cSc_mean : ByteArray := prog_1_method_10_code
def ySc_mean : MethodName := ⟨RSc, "mean", "(II)J"⟩
abbrev cSc_spread : ByteArray := prog_1_method_11_code
def ySc_spread : MethodName := ⟨RSc, "spread", "(II)J"⟩
abbrev cSc_plan : ByteArray := prog_1_method_12_code
def ySc_plan : MethodName := ⟨RSc, "plan", "(IJJ)J"⟩
abbrev cSc_planned : ByteArray := prog_1_method_13_code
def ySc_planned : MethodName := ⟨RSc, "planned", "(I)I"⟩
abbrev cSc_compared : ByteArray := prog_1_method_14_code
def ySc_compared : MethodName := ⟨RSc, "compared", "(II)J"⟩
abbrev cSc_joined : ByteArray := prog_1_method_15_code
def ySc_joined : MethodName := ⟨RSc, "joined", "(II)Z"⟩
abbrev cSc_repeat : ByteArray := prog_1_method_16_code
def ySc_repeat : MethodName := ⟨RSc, "repeat", "(IIJ)I"⟩
abbrev cSc_error : ByteArray := prog_1_method_17_code
def ySc_error : MethodName := ⟨RSc, "error", "(II)J"⟩
abbrev cSc_counting : ByteArray := prog_1_method_18_code
def ySc_counting : MethodName := ⟨RSc, "counting", "()I"⟩
abbrev cSc_isKind : ByteArray := prog_1_method_19_code
def ySc_isKind : MethodName := ⟨RSc, "isKind", "(I)Z"⟩
abbrev cSc_isPart : ByteArray := prog_1_method_20_code
def ySc_isPart : MethodName := ⟨RSc, "isPart", "(I)Z"⟩
abbrev cSc_isGrams : ByteArray := prog_1_method_21_code
def ySc_isGrams : MethodName := ⟨RSc, "isGrams", "(J)Z"⟩
abbrev cSc_greatestShared : ByteArray := prog_1_method_22_code
def ySc_greatestShared : MethodName := ⟨RSc, "greatestShared", "(JJ)J"⟩
abbrev cSc_leastCommon : ByteArray := prog_1_method_23_code
def ySc_leastCommon : MethodName := ⟨RSc, "leastCommon", "(JJ)J"⟩
abbrev cSc_tell : ByteArray := prog_1_method_24_code
def ySc_tell : MethodName := ⟨RSc, "tell", "(JJI)J"⟩
abbrev cLw_cell : ByteArray := method_2_code
def yLw_cell : MethodName := ⟨RLw, "cell", "([II)I"⟩
abbrev cMd_init : ByteArray := prog_11_method_1_code
def yMd_init : MethodName := ⟨RMd, "<init>", "(J)V"⟩
abbrev cMd_isIn : ByteArray := prog_11_method_3_code
def yMd_isIn : MethodName := ⟨RMd, "isIn", "(JJJ)Z"⟩
abbrev cMd_isHere : ByteArray := prog_11_method_4_code
def yMd_isHere : MethodName := ⟨RMd, "isHere", "(I)Z"⟩
abbrev cMd_isBag : ByteArray := prog_11_method_5_code
def yMd_isBag : MethodName := ⟨RMd, "isBag", "(I)Z"⟩
abbrev cMd_isKind : ByteArray := prog_11_method_6_code
def yMd_isKind : MethodName := ⟨RMd, "isKind", "(I)Z"⟩
abbrev cMd_stratum : ByteArray := prog_11_method_7_code
def yMd_stratum : MethodName := ⟨RMd, "stratum", "(I)I"⟩
abbrev cMd_cost : ByteArray := prog_11_method_8_code
def yMd_cost : MethodName := ⟨RMd, "cost", "(IJ)Z"⟩
abbrev cMd_bag : ByteArray := prog_11_method_9_code
def yMd_bag : MethodName := ⟨RMd, "bag", "(I)I"⟩
abbrev cMd_weight : ByteArray := prog_11_method_10_code
def yMd_weight : MethodName := ⟨RMd, "weight", "(IIJ)Z"⟩
abbrev cMd_year : ByteArray := prog_11_method_11_code
def yMd_year : MethodName := ⟨RMd, "year", "(II)Z"⟩
abbrev cMd_missing : ByteArray := prog_11_method_12_code
def yMd_missing : MethodName := ⟨RMd, "missing", "(I)Z"⟩
abbrev cMd_draw : ByteArray := prog_11_method_13_code
def yMd_draw : MethodName := ⟨RMd, "draw", "(II)I"⟩
abbrev cMd_drawn : ByteArray := prog_11_method_14_code
def yMd_drawn : MethodName := ⟨RMd, "drawn", "(II)I"⟩
abbrev cMd_countOf : ByteArray := prog_11_method_15_code
def yMd_countOf : MethodName := ⟨RMd, "countOf", "(I)I"⟩
abbrev cMd_counts : ByteArray := prog_11_method_16_code
def yMd_counts : MethodName := ⟨RMd, "counts", "(I)Z"⟩
abbrev cMd_sumOf : ByteArray := prog_11_method_17_code
def yMd_sumOf : MethodName := ⟨RMd, "sumOf", "(II)J"⟩
abbrev cMd_squaresOf : ByteArray := prog_11_method_18_code
def yMd_squaresOf : MethodName := ⟨RMd, "squaresOf", "(II)J"⟩
abbrev cMd_counting : ByteArray := prog_11_method_19_code
def yMd_counting : MethodName := ⟨RMd, "counting", "()I"⟩
abbrev cMd_allSizes : ByteArray := prog_11_method_20_code
def yMd_allSizes : MethodName := ⟨RMd, "allSizes", "()J"⟩
abbrev cMd_common : ByteArray := prog_11_method_21_code
def yMd_common : MethodName := ⟨RMd, "common", "(JJ)J"⟩
abbrev cMd_multiple : ByteArray := prog_11_method_22_code
def yMd_multiple : MethodName := ⟨RMd, "multiple", "(JJ)J"⟩
abbrev cMd_part : ByteArray := prog_11_method_23_code
def yMd_part : MethodName := ⟨RMd, "part", "(I)J"⟩
abbrev cMd_mean : ByteArray := prog_11_method_24_code
def yMd_mean : MethodName := ⟨RMd, "mean", "(II)J"⟩
abbrev cMd_hasSpread : ByteArray := prog_11_method_25_code
def yMd_hasSpread : MethodName := ⟨RMd, "hasSpread", "(I)Z"⟩
abbrev cMd_bagsOf : ByteArray := prog_11_method_26_code
def yMd_bagsOf : MethodName := ⟨RMd, "bagsOf", "(IZ)J"⟩
abbrev cMd_makeSpread : ByteArray := prog_11_method_27_code
def yMd_makeSpread : MethodName := ⟨RMd, "makeSpread", "(IZ)V"⟩
abbrev cMd_spread : ByteArray := prog_11_method_28_code
def yMd_spread : MethodName := ⟨RMd, "spread", "(II)J"⟩
abbrev cMd_isAtMost : ByteArray := prog_11_method_29_code
def yMd_isAtMost : MethodName := ⟨RMd, "isAtMost", "(JJJJ)Z"⟩
abbrev cMd_trialCost : ByteArray := prog_11_method_30_code
def yMd_trialCost : MethodName := ⟨RMd, "trialCost", "()J"⟩
abbrev cMd_tryPlan : ByteArray := prog_11_method_31_code
def yMd_tryPlan : MethodName := ⟨RMd, "tryPlan", "(I)V"⟩
abbrev cMd_isOwn : ByteArray := prog_11_method_32_code
def yMd_isOwn : MethodName := ⟨RMd, "isOwn", "(I)Z"⟩
abbrev cMd_plan : ByteArray := prog_11_method_33_code
def yMd_plan : MethodName := ⟨RMd, "plan", "(IJJ)J"⟩
abbrev cMd_planned : ByteArray := prog_11_method_34_code
def yMd_planned : MethodName := ⟨RMd, "planned", "(I)I"⟩
abbrev cMd_bagsOfYear : ByteArray := prog_11_method_35_code
def yMd_bagsOfYear : MethodName := ⟨RMd, "bagsOfYear", "(I)I"⟩
abbrev cMd_apart : ByteArray := prog_11_method_36_code
def yMd_apart : MethodName := ⟨RMd, "apart", "(IIJJ)J"⟩
abbrev cMd_compared : ByteArray := prog_11_method_37_code
def yMd_compared : MethodName := ⟨RMd, "compared", "(II)J"⟩
abbrev cMd_joined : ByteArray := prog_11_method_38_code
def yMd_joined : MethodName := ⟨RMd, "joined", "(II)Z"⟩
abbrev cMd_repeat : ByteArray := prog_11_method_39_code
def yMd_repeat : MethodName := ⟨RMd, "repeat", "(IIJ)I"⟩
abbrev cMd_error : ByteArray := prog_11_method_40_code
def yMd_error : MethodName := ⟨RMd, "error", "(II)J"⟩
abbrev cJI_bitCount : ByteArray := prog_12_method_49_code
def yJI_bitCount : MethodName := ⟨RJI, "bitCount", "(I)I"⟩
abbrev cJA_fill : ByteArray := prog_15_method_101_code
def yJA_fill : MethodName := ⟨RJA, "fill", "([JJ)V"⟩
def wsAll_0 : List Cond := [.selects RSt ySt_add ySt_add, .selects RSt ySt_setCost ySt_setCost, .selects RSt ySt_stands ySt_stands, .selects RSt ySt_has ySt_has, .selects RBg yBg_add yBg_add, .selects RBg yBg_setGrams yBg_setGrams, .selects RBg yBg_has yBg_has, .selects RBg yBg_setYear yBg_setYear, .selects RBg yBg_lose yBg_lose, .selects RDr yDr_take yDr_take, .selects RDr yDr_nextBelow yDr_nextBelow, .selects RDr yDr_swap yDr_swap, .selects RDr yDr_taken yDr_taken, .selects RFg yFg_gather yFg_gather, .selects RFg yFg_gatherOne yFg_gatherOne, .selects RBg yBg_gramsOf yBg_gramsOf, .selects RFg yFg_tellMean yFg_tellMean, .selects RTm yTm_clear yTm_clear, .selects RTm yTm_set yTm_set, .selects RTm yTm_common yTm_common, .selects RTm yTm_sum yTm_sum, .selects RTm yTm_scaled yTm_scaled, .selects RFg yFg_haveSpread yFg_haveSpread, .selects RFg yFg_tellSpread yFg_tellSpread, .selects RFg yFg_weighedScatter yFg_weighedScatter, .selects RFg yFg_pairs yFg_pairs, .selects RPl yPl_prepare yPl_prepare, .selects RPl yPl_findCheapest yPl_findCheapest, .selects RPl yPl_considerTrial yPl_considerTrial, .selects RPl yPl_isNearEnough yPl_isNearEnough, .selects RPl yPl_stepTrial yPl_stepTrial, .selects RPl yPl_heldBags yPl_heldBags, .selects RCp yCp_gather yCp_gather, .selects RCp yCp_take yCp_take, .selects RCp yCp_countFarWays yCp_countFarWays, .selects RCp yCp_apart yCp_apart, .selects RCp yCp_countWays yCp_countWays, .selects RSt ySt_merge ySt_merge, .selects RBg yBg_move yBg_move, .selects RRp yRp_add yRp_add]
def wsAll_1 : List Cond := [.selects RRp yRp_tellError yRp_tellError, .selects RMd yMd_isHere yMd_isHere, .selects RMd yMd_isBag yMd_isBag, .selects RMd yMd_counts yMd_counts, .selects RMd yMd_countOf yMd_countOf, .selects RMd yMd_sumOf yMd_sumOf, .selects RMd yMd_allSizes yMd_allSizes, .selects RMd yMd_part yMd_part, .selects RMd yMd_hasSpread yMd_hasSpread, .selects RMd yMd_makeSpread yMd_makeSpread, .selects RMd yMd_bagsOf yMd_bagsOf, .selects RMd yMd_squaresOf yMd_squaresOf, .selects RMd yMd_isOwn yMd_isOwn, .selects RMd yMd_tryPlan yMd_tryPlan, .selects RMd yMd_trialCost yMd_trialCost, .selects RMd yMd_bagsOfYear yMd_bagsOfYear, .selects RMd yMd_apart yMd_apart, .initialized RLw, .initialized RSc, .initialized RSt, .initialized RBg, .initialized RDr, .initialized RRp, .initialized RFg, .initialized RTm, .initialized RPl, .initialized RCp, .initialized RMd, .initialized RJA, .initialized RJS, .initialized RJI, .initialized RJM, .classLink RLw 7 RSc, .instantiable RSc 7, .methodLink RLw 15 ySc_init, .instanceMethod ySc_init, .code ySc_init prog_1_method_1_code 3 none, .methodLink RSc 1 objectInit, .instanceMethod objectInit, .code objectInit object_method_1_code 1 none]
def wsAll_2 : List Cond := [.classLink RSc 7 RSt, .instantiable RSt 4, .instanceMethod ySt_init, .code ySt_init prog_8_method_1_code 1 none, .methodLink RSt 3 objectInit, .fieldLink RSt 9 "StratumCounts$Strata" "sizes" "[I", .fieldLink RSt 15 "StratumCounts$Strata" "costs" "[J", .fieldLink RSt 19 "StratumCounts$Strata" "gone" "[Z", .fieldLink RSt 23 "StratumCounts$Strata" "made" "I", .laysFinal "StratumCounts$Strata" "StratumCounts$Strata" "sizes" "[I", .laysFinal "StratumCounts$Strata" "StratumCounts$Strata" "costs" "[J", .laysFinal "StratumCounts$Strata" "StratumCounts$Strata" "gone" "[Z", .lays "StratumCounts$Strata" "StratumCounts$Strata" "made" "I", .arrayClass .int, .arrayClass .long, .arrayClass .boolean, .classLink RSc 16 RBg, .instantiable RBg 5, .instanceMethod yBg_init, .code yBg_init prog_2_method_1_code 1 none, .methodLink RBg 3 objectInit, .fieldLink RBg 9 "StratumCounts$Bags" "homes" "[I", .fieldLink RBg 15 "StratumCounts$Bags" "dates" "[I", .fieldLink RBg 18 "StratumCounts$Bags" "lost" "[Z", .fieldLink RBg 22 "StratumCounts$Bags" "grams" "[J", .fieldLink RBg 26 "StratumCounts$Bags" "made" "I", .laysFinal "StratumCounts$Bags" "StratumCounts$Bags" "homes" "[I", .laysFinal "StratumCounts$Bags" "StratumCounts$Bags" "dates" "[I", .laysFinal "StratumCounts$Bags" "StratumCounts$Bags" "lost" "[Z", .laysFinal "StratumCounts$Bags" "StratumCounts$Bags" "grams" "[J", .lays "StratumCounts$Bags" "StratumCounts$Bags" "made" "I", .classLink RSc 23 RDr, .instantiable RDr 3, .instanceMethod yDr_init, .code yDr_init prog_4_method_1_code 3 none, .methodLink RDr 3 objectInit, .fieldLink RDr 9 "StratumCounts$Draws" "lists" "[I", .fieldLink RDr 15 "StratumCounts$Draws" "lengths" "[I", .fieldLink RDr 18 "StratumCounts$Draws" "seed" "J", .laysFinal "StratumCounts$Draws" "StratumCounts$Draws" "lists" "[I"]
def wsAll_3 : List Cond := [.laysFinal "StratumCounts$Draws" "StratumCounts$Draws" "lengths" "[I", .lays "StratumCounts$Draws" "StratumCounts$Draws" "seed" "J", .classLink RSc 32 RRp, .instantiable RRp 4, .instanceMethod yRp_init, .code yRp_init prog_7_method_1_code 1 none, .methodLink RRp 3 objectInit, .fieldLink RRp 9 "StratumCounts$Repeats" "sorted" "[I", .fieldLink RRp 15 "StratumCounts$Repeats" "kinds" "[I", .fieldLink RRp 18 "StratumCounts$Repeats" "found" "[J", .fieldLink RRp 22 "StratumCounts$Repeats" "made" "I", .laysFinal "StratumCounts$Repeats" "StratumCounts$Repeats" "sorted" "[I", .laysFinal "StratumCounts$Repeats" "StratumCounts$Repeats" "kinds" "[I", .laysFinal "StratumCounts$Repeats" "StratumCounts$Repeats" "found" "[J", .lays "StratumCounts$Repeats" "StratumCounts$Repeats" "made" "I", .classLink RSc 39 RFg, .instantiable RFg 7, .instanceMethod yFg_init, .code yFg_init prog_5_method_1_code 1 none, .methodLink RFg 3 objectInit, .classLink RFg 24 RTm, .instantiable RTm 2, .instanceMethod yTm_init, .code yTm_init prog_9_method_1_code 1 none, .methodLink RTm 3 objectInit, .fieldLink RTm 9 "StratumCounts$Terms" "aboves" "[J", .fieldLink RTm 15 "StratumCounts$Terms" "belows" "[J", .laysFinal "StratumCounts$Terms" "StratumCounts$Terms" "aboves" "[J", .laysFinal "StratumCounts$Terms" "StratumCounts$Terms" "belows" "[J", .fieldLink RFg 9 "StratumCounts$Figures" "sizes" "[J", .fieldLink RFg 15 "StratumCounts$Figures" "numbers" "[J", .fieldLink RFg 18 "StratumCounts$Figures" "sums" "[J", .fieldLink RFg 21 "StratumCounts$Figures" "scatters" "[J", .fieldLink RFg 27 "StratumCounts$Figures" "terms" "LStratumCounts$Terms;", .fieldLink RFg 31 "StratumCounts$Figures" "counted" "I", .fieldLink RFg 35 "StratumCounts$Figures" "total" "J", .laysFinal "StratumCounts$Figures" "StratumCounts$Figures" "sizes" "[J", .laysFinal "StratumCounts$Figures" "StratumCounts$Figures" "numbers" "[J", .laysFinal "StratumCounts$Figures" "StratumCounts$Figures" "sums" "[J", .laysFinal "StratumCounts$Figures" "StratumCounts$Figures" "scatters" "[J"]
def wsAll_4 : List Cond := [.laysFinal "StratumCounts$Figures" "StratumCounts$Figures" "terms" "LStratumCounts$Terms;", .lays "StratumCounts$Figures" "StratumCounts$Figures" "counted" "I", .lays "StratumCounts$Figures" "StratumCounts$Figures" "total" "J", .classLink RSc 46 RPl, .instantiable RPl 10, .instanceMethod yPl_init, .code yPl_init prog_6_method_1_code 1 none, .methodLink RPl 3 objectInit, .classLink RPl 31 RTm, .fieldLink RPl 9 "StratumCounts$Planner" "held" "[I", .fieldLink RPl 15 "StratumCounts$Planner" "trial" "[I", .fieldLink RPl 18 "StratumCounts$Planner" "fewest" "[I", .fieldLink RPl 21 "StratumCounts$Planner" "most" "[I", .fieldLink RPl 24 "StratumCounts$Planner" "costs" "[J", .fieldLink RPl 28 "StratumCounts$Planner" "burdens" "[J", .fieldLink RPl 34 "StratumCounts$Planner" "terms" "LStratumCounts$Terms;", .fieldLink RPl 38 "StratumCounts$Planner" "holds" "Z", .fieldLink RPl 78 "StratumCounts$Planner" "limit" "J", .fieldLink RPl 85 "StratumCounts$Planner" "cheapest" "J", .laysFinal "StratumCounts$Planner" "StratumCounts$Planner" "held" "[I", .laysFinal "StratumCounts$Planner" "StratumCounts$Planner" "trial" "[I", .laysFinal "StratumCounts$Planner" "StratumCounts$Planner" "fewest" "[I", .laysFinal "StratumCounts$Planner" "StratumCounts$Planner" "most" "[I", .laysFinal "StratumCounts$Planner" "StratumCounts$Planner" "costs" "[J", .laysFinal "StratumCounts$Planner" "StratumCounts$Planner" "burdens" "[J", .laysFinal "StratumCounts$Planner" "StratumCounts$Planner" "terms" "LStratumCounts$Terms;", .lays "StratumCounts$Planner" "StratumCounts$Planner" "holds" "Z", .lays "StratumCounts$Planner" "StratumCounts$Planner" "limit" "J", .lays "StratumCounts$Planner" "StratumCounts$Planner" "cheapest" "J", .classLink RSc 53 RCp, .instantiable RCp 5, .instanceMethod yCp_init, .code yCp_init prog_3_method_1_code 1 none, .methodLink RCp 3 objectInit, .fieldLink RCp 9 "StratumCounts$Comparison" "grams" "[J", .fieldLink RCp 15 "StratumCounts$Comparison" "number" "I", .fieldLink RCp 53 "StratumCounts$Comparison" "firsts" "I", .fieldLink RCp 19 "StratumCounts$Comparison" "actual" "I", .fieldLink RCp 22 "StratumCounts$Comparison" "total" "J", .laysFinal "StratumCounts$Comparison" "StratumCounts$Comparison" "grams" "[J"]
def wsAll_5 : List Cond := [.lays "StratumCounts$Comparison" "StratumCounts$Comparison" "number" "I", .lays "StratumCounts$Comparison" "StratumCounts$Comparison" "firsts" "I", .lays "StratumCounts$Comparison" "StratumCounts$Comparison" "actual" "I", .lays "StratumCounts$Comparison" "StratumCounts$Comparison" "total" "J", .fieldLink RSc 10 "StratumCounts" "strata" "LStratumCounts$Strata;", .fieldLink RSc 19 "StratumCounts" "bags" "LStratumCounts$Bags;", .fieldLink RSc 28 "StratumCounts" "draws" "LStratumCounts$Draws;", .fieldLink RSc 35 "StratumCounts" "repeats" "LStratumCounts$Repeats;", .fieldLink RSc 42 "StratumCounts" "figures" "LStratumCounts$Figures;", .fieldLink RSc 49 "StratumCounts" "planner" "LStratumCounts$Planner;", .fieldLink RSc 56 "StratumCounts" "comparison" "LStratumCounts$Comparison;", .laysFinal "StratumCounts" "StratumCounts" "strata" "LStratumCounts$Strata;", .laysFinal "StratumCounts" "StratumCounts" "bags" "LStratumCounts$Bags;", .laysFinal "StratumCounts" "StratumCounts" "draws" "LStratumCounts$Draws;", .laysFinal "StratumCounts" "StratumCounts" "repeats" "LStratumCounts$Repeats;", .laysFinal "StratumCounts" "StratumCounts" "figures" "LStratumCounts$Figures;", .laysFinal "StratumCounts" "StratumCounts" "planner" "LStratumCounts$Planner;", .laysFinal "StratumCounts" "StratumCounts" "comparison" "LStratumCounts$Comparison;", .methodLink RLw 21 ySc_stratum, .instanceMethod ySc_stratum, .selects RSc ySc_stratum ySc_stratum, .code ySc_stratum prog_1_method_2_code 2 (some .int), .instanceMethod ySt_add, .code ySt_add prog_8_method_4_code 3 (some .int), .methodLink RLw 28 ySc_cost, .instanceMethod ySc_cost, .selects RSc ySc_cost ySc_cost, .code ySc_cost prog_1_method_3_code 4 (some .boolean), .instanceMethod ySt_setCost, .code ySt_setCost prog_8_method_5_code 4 (some .boolean), .methodLink RSt 31 ySt_stands, .instanceMethod ySt_stands, .code ySt_stands prog_8_method_3_code 2 (some .boolean), .methodLink RSt 27 ySt_has, .instanceMethod ySt_has, .code ySt_has prog_8_method_2_code 2 (some .boolean), .constantLong RSt 34 (lZ (100000)), .methodLink RLw 33 ySc_bag, .instanceMethod ySc_bag, .selects RSc ySc_bag ySc_bag]
def wsAll_6 : List Cond := [.code ySc_bag prog_1_method_4_code 2 (some .int), .instanceMethod yBg_add, .code yBg_add prog_2_method_3_code 3 (some .int), .methodLink RLw 37 ySc_weight, .instanceMethod ySc_weight, .selects RSc ySc_weight ySc_weight, .code ySc_weight prog_1_method_5_code 5 (some .boolean), .instanceMethod yBg_setGrams, .code yBg_setGrams prog_2_method_4_code 5 (some .boolean), .methodLink RBg 30 yBg_has, .instanceMethod yBg_has, .code yBg_has prog_2_method_2_code 2 (some .boolean), .static ySc_isKind, .code ySc_isKind prog_1_method_19_code 1 (some .boolean), .static ySc_isGrams, .code ySc_isGrams prog_1_method_21_code 2 (some .boolean), .constantLong RSc 169 (lZ (10000)), .methodLink RLw 42 ySc_year, .instanceMethod ySc_year, .selects RSc ySc_year ySc_year, .code ySc_year prog_1_method_6_code 3 (some .boolean), .instanceMethod yBg_setYear, .code yBg_setYear prog_2_method_5_code 3 (some .boolean), .methodLink RLw 47 ySc_missing, .instanceMethod ySc_missing, .selects RSc ySc_missing ySc_missing, .code ySc_missing prog_1_method_7_code 2 (some .boolean), .instanceMethod yBg_lose, .code yBg_lose prog_2_method_6_code 2 (some .boolean), .methodLink RLw 52 ySc_draw, .instanceMethod ySc_draw, .selects RSc ySc_draw ySc_draw, .code ySc_draw prog_1_method_8_code 3 (some .int), .instanceMethod yDr_take, .code yDr_take prog_4_method_2_code 6 (some .int), .methodLink RDr 22 yDr_nextBelow, .instanceMethod yDr_nextBelow, .code yDr_nextBelow prog_4_method_3_code 2 (some .int), .constantLong RDr 30 (lZ (6364136223846793005)), .constantLong RDr 32 (lZ (1442695040888963407))]
def wsAll_7 : List Cond := [.methodLink RDr 26 yDr_swap, .instanceMethod yDr_swap, .code yDr_swap prog_4_method_4_code 4 none, .methodLink RLw 57 ySc_drawn, .instanceMethod ySc_drawn, .selects RSc ySc_drawn ySc_drawn, .code ySc_drawn prog_1_method_9_code 3 (some .int), .instanceMethod yDr_taken, .code yDr_taken prog_4_method_5_code 3 (some .int), .methodLink RLw 61 ySc_mean, .instanceMethod ySc_mean, .selects RSc ySc_mean ySc_mean, .code ySc_mean prog_1_method_10_code 3 (some .long), .methodLink RSc 99 ySc_isKind, .methodLink RSc 102 ySc_isPart, .static ySc_isPart, .code ySc_isPart prog_1_method_20_code 1 (some .boolean), .constantLong RSc 105 (lZ (-1)), .instanceMethod yFg_gather, .code yFg_gather prog_5_method_2_code 5 none, .methodLink RFg 39 yFg_gatherOne, .instanceMethod yFg_gatherOne, .code yFg_gatherOne prog_5_method_3_code 13 none, .instanceMethod yBg_gramsOf, .code yBg_gramsOf prog_2_method_8_code 3 (some .long), .instanceMethod yFg_tellMean, .code yFg_tellMean prog_5_method_5_code 4 (some .long), .instanceMethod yTm_clear, .code yTm_clear prog_9_method_2_code 1 none, .methodLink RTm 18 yJA_fill, .static yJA_fill, .code yJA_fill prog_15_method_101_code 5 none, .instanceMethod yTm_set, .code yTm_set prog_9_method_3_code 6 none, .instanceMethod yTm_common, .code yTm_common prog_9_method_4_code 4 (some .long), .static ySc_leastCommon, .code ySc_leastCommon prog_1_method_23_code 6 (some .long), .methodLink RSc 171 ySc_greatestShared, .static ySc_greatestShared]
def wsAll_8 : List Cond := [.code ySc_greatestShared prog_1_method_22_code 11 (some .long), .instanceMethod yTm_sum, .code yTm_sum prog_9_method_6_code 6 (some .long), .methodLink RTm 28 yTm_scaled, .instanceMethod yTm_scaled, .code yTm_scaled prog_9_method_5_code 4 (some .long), .static ySc_tell, .code ySc_tell prog_1_method_24_code 7 (some .long), .methodLink RLw 66 ySc_spread, .instanceMethod ySc_spread, .selects RSc ySc_spread ySc_spread, .code ySc_spread prog_1_method_11_code 3 (some .long), .instanceMethod yFg_haveSpread, .code yFg_haveSpread prog_5_method_4_code 2 (some .boolean), .instanceMethod yFg_tellSpread, .code yFg_tellSpread prog_5_method_6_code 4 (some .long), .methodLink RFg 83 yFg_weighedScatter, .instanceMethod yFg_weighedScatter, .code yFg_weighedScatter prog_5_method_7_code 2 (some .long), .methodLink RFg 87 yFg_pairs, .instanceMethod yFg_pairs, .code yFg_pairs prog_5_method_8_code 2 (some .long), .methodLink RLw 70 ySc_plan, .instanceMethod ySc_plan, .selects RSc ySc_plan ySc_plan, .code ySc_plan prog_1_method_12_code 6 (some .long), .constantLong RSc 126 (lZ (1000000000)), .constantLong RSc 128 (lZ (1000)), .instanceMethod yPl_prepare, .code yPl_prepare prog_6_method_3_code 11 none, .constantLong RPl 68 (lZ (60)), .instanceMethod yPl_findCheapest, .code yPl_findCheapest prog_6_method_4_code 2 (some .long), .constantLong RPl 83 (lZ (9223372036854775807)), .methodLink RPl 88 arraycopyName, .static arraycopyName, .native arraycopyName, .methodLink RPl 94 yPl_considerTrial, .instanceMethod yPl_considerTrial, .code yPl_considerTrial prog_6_method_5_code 4 none]
def wsAll_9 : List Cond := [.methodLink RPl 103 yPl_isNearEnough, .instanceMethod yPl_isNearEnough, .code yPl_isNearEnough prog_6_method_6_code 4 (some .boolean), .methodLink RPl 97 yPl_stepTrial, .instanceMethod yPl_stepTrial, .code yPl_stepTrial prog_6_method_7_code 2 (some .boolean), .constantLong RPl 101 (lZ (-1)), .methodLink RLw 75 ySc_planned, .instanceMethod ySc_planned, .selects RSc ySc_planned ySc_planned, .code ySc_planned prog_1_method_13_code 2 (some .int), .instanceMethod yPl_heldBags, .code yPl_heldBags prog_6_method_2_code 2 (some .int), .methodLink RLw 79 ySc_compared, .instanceMethod ySc_compared, .selects RSc ySc_compared ySc_compared, .code ySc_compared prog_1_method_14_code 3 (some .long), .instanceMethod yCp_gather, .code yCp_gather prog_3_method_2_code 4 (some .boolean), .methodLink RCp 43 yCp_take, .instanceMethod yCp_take, .code yCp_take prog_3_method_3_code 4 none, .methodLink RCp 47 yJI_bitCount, .static yJI_bitCount, .code yJI_bitCount prog_12_method_49_code 1 (some .int), .constant RJI 265 (iZ (1431655765)), .constant RJI 266 (iZ (858993459)), .constant RJI 267 (iZ (252645135)), .instanceMethod yCp_countFarWays, .code yCp_countFarWays prog_3_method_5_code 6 (some .long), .methodLink RCp 56 yCp_apart, .instanceMethod yCp_apart, .code yCp_apart prog_3_method_6_code 5 (some .long), .methodLink RCp 60 Lib.MathLoose.abs_long.x, .static Lib.MathLoose.abs_long.x, .code Lib.MathLoose.abs_long.x prog_13_method_61_code 2 (some .long), .instanceMethod yCp_countWays, .code yCp_countWays prog_3_method_4_code 4 (some .long), .methodLink RLw 83 ySc_joined, .instanceMethod ySc_joined]
def wsAll_10 : List Cond := [.selects RSc ySc_joined ySc_joined, .code ySc_joined prog_1_method_15_code 3 (some .boolean), .instanceMethod ySt_merge, .code ySt_merge prog_8_method_6_code 4 (some .boolean), .instanceMethod yBg_move, .code yBg_move prog_2_method_7_code 4 none, .methodLink RLw 87 ySc_repeat, .instanceMethod ySc_repeat, .selects RSc ySc_repeat ySc_repeat, .code ySc_repeat prog_1_method_16_code 5 (some .int), .methodLink RSc 158 ySc_isGrams, .instanceMethod yRp_add, .code yRp_add prog_7_method_2_code 5 (some .int), .methodLink RLw 92 ySc_error, .instanceMethod ySc_error, .selects RSc ySc_error ySc_error, .code ySc_error prog_1_method_17_code 3 (some .long), .instanceMethod yRp_tellError, .code yRp_tellError prog_7_method_3_code 11 (some .long), .constantLong RRp 32 (lZ (2)), .constantLong RRp 38 (lZ (-1)), .methodLink RLw 96 ySc_counting, .instanceMethod ySc_counting, .selects RSc ySc_counting ySc_counting, .code ySc_counting prog_1_method_18_code 1 (some .int), .methodLink RLw 9 yLw_cell, .static yLw_cell, .code yLw_cell method_2_code 2 (some .int), .classLink RLw 18 RMd, .instantiable RMd 21, .methodLink RLw 20 yMd_init, .instanceMethod yMd_init, .code yMd_init prog_11_method_1_code 3 none, .methodLink RMd 1 objectInit, .fieldLink RMd 54 "StratumCountsModel" "seed" "J", .fieldLink RMd 58 "StratumCountsModel" "strata" "I", .fieldLink RMd 7 "StratumCountsModel" "sizes" "[I", .fieldLink RMd 13 "StratumCountsModel" "costs" "[J", .fieldLink RMd 17 "StratumCountsModel" "gone" "[Z", .fieldLink RMd 21 "StratumCountsModel" "drawn" "[I"]
def wsAll_11 : List Cond := [.fieldLink RMd 24 "StratumCountsModel" "drawnCounts" "[I", .fieldLink RMd 62 "StratumCountsModel" "bags" "I", .fieldLink RMd 27 "StratumCountsModel" "owners" "[I", .fieldLink RMd 30 "StratumCountsModel" "years" "[I", .fieldLink RMd 33 "StratumCountsModel" "missing" "[Z", .fieldLink RMd 36 "StratumCountsModel" "grams" "[J", .fieldLink RMd 145 "StratumCountsModel" "hasPlan" "Z", .fieldLink RMd 39 "StratumCountsModel" "planned" "[I", .fieldLink RMd 170 "StratumCountsModel" "again" "I", .fieldLink RMd 42 "StratumCountsModel" "againBag" "[I", .fieldLink RMd 45 "StratumCountsModel" "againKind" "[I", .fieldLink RMd 48 "StratumCountsModel" "againGrams" "[J", .fieldLink RMd 100 "StratumCountsModel" "over" "J", .fieldLink RMd 103 "StratumCountsModel" "under" "J", .fieldLink RMd 51 "StratumCountsModel" "trial" "[I", .lays "StratumCountsModel" "StratumCountsModel" "seed" "J", .lays "StratumCountsModel" "StratumCountsModel" "strata" "I", .laysFinal "StratumCountsModel" "StratumCountsModel" "sizes" "[I", .laysFinal "StratumCountsModel" "StratumCountsModel" "costs" "[J", .laysFinal "StratumCountsModel" "StratumCountsModel" "gone" "[Z", .laysFinal "StratumCountsModel" "StratumCountsModel" "drawn" "[I", .laysFinal "StratumCountsModel" "StratumCountsModel" "drawnCounts" "[I", .lays "StratumCountsModel" "StratumCountsModel" "bags" "I", .laysFinal "StratumCountsModel" "StratumCountsModel" "owners" "[I", .laysFinal "StratumCountsModel" "StratumCountsModel" "years" "[I", .laysFinal "StratumCountsModel" "StratumCountsModel" "missing" "[Z", .laysFinal "StratumCountsModel" "StratumCountsModel" "grams" "[J", .lays "StratumCountsModel" "StratumCountsModel" "hasPlan" "Z", .laysFinal "StratumCountsModel" "StratumCountsModel" "planned" "[I", .lays "StratumCountsModel" "StratumCountsModel" "again" "I", .laysFinal "StratumCountsModel" "StratumCountsModel" "againBag" "[I", .laysFinal "StratumCountsModel" "StratumCountsModel" "againKind" "[I", .laysFinal "StratumCountsModel" "StratumCountsModel" "againGrams" "[J", .lays "StratumCountsModel" "StratumCountsModel" "over" "J", .lays "StratumCountsModel" "StratumCountsModel" "under" "J", .laysFinal "StratumCountsModel" "StratumCountsModel" "trial" "[I", .methodLink RLw 25 yMd_stratum, .instanceMethod yMd_stratum, .selects RMd yMd_stratum yMd_stratum, .code yMd_stratum prog_11_method_7_code 2 (some .int)]
def wsAll_12 : List Cond := [.constantLong RMd 65 (lZ (100)), .methodLink RMd 67 yMd_isIn, .static yMd_isIn, .code yMd_isIn prog_11_method_3_code 6 (some .boolean), .methodLink RLw 32 yMd_cost, .instanceMethod yMd_cost, .selects RMd yMd_cost yMd_cost, .code yMd_cost prog_11_method_8_code 4 (some .boolean), .methodLink RMd 71 yMd_isHere, .instanceMethod yMd_isHere, .code yMd_isHere prog_11_method_4_code 2 (some .boolean), .constantLong RMd 75 (lZ (100000)), .methodLink RLw 36 yMd_bag, .instanceMethod yMd_bag, .selects RMd yMd_bag yMd_bag, .code yMd_bag prog_11_method_9_code 2 (some .int), .methodLink RLw 41 yMd_weight, .instanceMethod yMd_weight, .selects RMd yMd_weight yMd_weight, .code yMd_weight prog_11_method_10_code 5 (some .boolean), .methodLink RMd 77 yMd_isBag, .instanceMethod yMd_isBag, .code yMd_isBag prog_11_method_5_code 2 (some .boolean), .methodLink RMd 80 yMd_isKind, .static yMd_isKind, .code yMd_isKind prog_11_method_6_code 1 (some .boolean), .constantLong RMd 83 (lZ (10000)), .methodLink RLw 46 yMd_year, .instanceMethod yMd_year, .selects RMd yMd_year yMd_year, .code yMd_year prog_11_method_11_code 3 (some .boolean), .methodLink RLw 51 yMd_missing, .instanceMethod yMd_missing, .selects RMd yMd_missing yMd_missing, .code yMd_missing prog_11_method_12_code 2 (some .boolean), .methodLink RLw 56 yMd_draw, .instanceMethod yMd_draw, .selects RMd yMd_draw yMd_draw, .code yMd_draw prog_11_method_13_code 6 (some .int), .constantLong RMd 85 (lZ (6364136223846793005))]
def wsAll_13 : List Cond := [.constantLong RMd 87 (lZ (1442695040888963407)), .methodLink RLw 60 yMd_drawn, .instanceMethod yMd_drawn, .selects RMd yMd_drawn yMd_drawn, .code yMd_drawn prog_11_method_14_code 3 (some .int), .methodLink RLw 100 yMd_counting, .instanceMethod yMd_counting, .selects RMd yMd_counting yMd_counting, .code yMd_counting prog_11_method_19_code 3 (some .int), .methodLink RMd 93 yMd_counts, .instanceMethod yMd_counts, .code yMd_counts prog_11_method_16_code 2 (some .boolean), .methodLink RMd 89 yMd_countOf, .instanceMethod yMd_countOf, .code yMd_countOf prog_11_method_15_code 4 (some .int), .methodLink RLw 65 yMd_mean, .instanceMethod yMd_mean, .selects RMd yMd_mean yMd_mean, .code yMd_mean prog_11_method_24_code 6 (some .long), .methodLink RMd 106 yMd_counting, .constantLong RMd 110 (lZ (-1)), .methodLink RMd 112 yMd_multiple, .static yMd_multiple, .code yMd_multiple prog_11_method_22_code 4 (some .long), .methodLink RMd 96 yMd_common, .static yMd_common, .code yMd_common prog_11_method_21_code 10 (some .long), .methodLink RMd 115 yMd_sumOf, .instanceMethod yMd_sumOf, .code yMd_sumOf prog_11_method_17_code 6 (some .long), .methodLink RMd 119 yMd_allSizes, .instanceMethod yMd_allSizes, .code yMd_allSizes prog_11_method_20_code 4 (some .long), .methodLink RMd 123 yMd_part, .instanceMethod yMd_part, .code yMd_part prog_11_method_23_code 4 (some .long), .methodLink RLw 69 yMd_spread, .instanceMethod yMd_spread, .selects RMd yMd_spread yMd_spread, .code yMd_spread prog_11_method_28_code 3 (some .long)]
def wsAll_14 : List Cond := [.methodLink RMd 134 yMd_hasSpread, .instanceMethod yMd_hasSpread, .code yMd_hasSpread prog_11_method_25_code 4 (some .boolean), .methodLink RMd 137 yMd_makeSpread, .instanceMethod yMd_makeSpread, .code yMd_makeSpread prog_11_method_27_code 10 none, .methodLink RMd 127 yMd_bagsOf, .instanceMethod yMd_bagsOf, .code yMd_bagsOf prog_11_method_26_code 3 (some .long), .methodLink RMd 131 yMd_squaresOf, .instanceMethod yMd_squaresOf, .code yMd_squaresOf prog_11_method_18_code 8 (some .long), .methodLink RLw 74 yMd_plan, .instanceMethod yMd_plan, .selects RMd yMd_plan yMd_plan, .code yMd_plan prog_11_method_33_code 10 (some .long), .constantLong RMd 141 (lZ (1000000000)), .constantLong RMd 143 (lZ (1000)), .methodLink RMd 149 yMd_isOwn, .instanceMethod yMd_isOwn, .code yMd_isOwn prog_11_method_32_code 5 (some .boolean), .methodLink RMd 152 yMd_tryPlan, .instanceMethod yMd_tryPlan, .code yMd_tryPlan prog_11_method_31_code 4 none, .methodLink RMd 156 yMd_trialCost, .instanceMethod yMd_trialCost, .code yMd_trialCost prog_11_method_30_code 4 (some .long), .methodLink RMd 159 yMd_isAtMost, .static yMd_isAtMost, .code yMd_isAtMost prog_11_method_29_code 27 (some .boolean), .methodLink RLw 78 yMd_planned, .instanceMethod yMd_planned, .selects RMd yMd_planned yMd_planned, .code yMd_planned prog_11_method_34_code 2 (some .int), .methodLink RLw 82 yMd_compared, .instanceMethod yMd_compared, .selects RMd yMd_compared yMd_compared, .code yMd_compared prog_11_method_37_code 16 (some .long), .methodLink RMd 163 yMd_bagsOfYear, .instanceMethod yMd_bagsOfYear]
def wsAll_15 : List Cond := [.code yMd_bagsOfYear prog_11_method_35_code 4 (some .int), .methodLink RMd 166 yMd_apart, .instanceMethod yMd_apart, .code yMd_apart prog_11_method_36_code 15 (some .long), .methodLink RLw 86 yMd_joined, .instanceMethod yMd_joined, .selects RMd yMd_joined yMd_joined, .code yMd_joined prog_11_method_38_code 4 (some .boolean), .methodLink RLw 91 yMd_repeat, .instanceMethod yMd_repeat, .selects RMd yMd_repeat yMd_repeat, .code yMd_repeat prog_11_method_39_code 5 (some .int), .methodLink RLw 95 yMd_error, .instanceMethod yMd_error, .selects RMd yMd_error yMd_error, .code yMd_error prog_11_method_40_code 6 (some .long), .constantLong RMd 173 (lZ (2)), .constantLong RLw 26 (lZ (4294967295))]
def wsAll : List Cond := wsAll_0 ++ (wsAll_1 ++ (wsAll_2 ++ (wsAll_3 ++ (wsAll_4 ++ (wsAll_5 ++ (wsAll_6 ++ (wsAll_7 ++ (wsAll_8 ++ (wsAll_9 ++ (wsAll_10 ++ (wsAll_11 ++ (wsAll_12 ++ (wsAll_13 ++ (wsAll_14 ++ (wsAll_15)))))))))))))))
def nwAll : List Cond := [.methodLinkNest RSc 9 ySt_init "StratumCounts", .fieldLinkNest RFg 43 "StratumCounts$Strata" "sizes" "[I" "StratumCounts", .fieldLinkNest RSc 84 "StratumCounts$Strata" "sizes" "[I" "StratumCounts", .fieldLinkNest RPl 50 "StratumCounts$Strata" "costs" "[J" "StratumCounts", .methodLinkNest RSc 18 yBg_init "StratumCounts", .fieldLinkNest RFg 53 "StratumCounts$Bags" "homes" "[I" "StratumCounts", .fieldLinkNest RCp 39 "StratumCounts$Bags" "dates" "[I" "StratumCounts", .fieldLinkNest RCp 31 "StratumCounts$Bags" "lost" "[Z" "StratumCounts", .fieldLinkNest RFg 56 "StratumCounts$Bags" "lost" "[Z" "StratumCounts", .fieldLinkNest RCp 26 "StratumCounts$Bags" "made" "I" "StratumCounts", .fieldLinkNest RFg 48 "StratumCounts$Bags" "made" "I" "StratumCounts", .methodLinkNest RSc 25 yDr_init "StratumCounts", .methodLinkNest RSc 34 yRp_init "StratumCounts", .methodLinkNest RSc 41 yFg_init "StratumCounts", .methodLinkNest RFg 26 yTm_init "StratumCounts", .fieldLinkNest RPl 45 "StratumCounts$Figures" "numbers" "[J" "StratumCounts", .fieldLinkNest RSc 111 "StratumCounts$Figures" "counted" "I" "StratumCounts", .fieldLinkNest RPl 74 "StratumCounts$Figures" "total" "J" "StratumCounts", .methodLinkNest RSc 48 yPl_init "StratumCounts", .methodLinkNest RPl 33 yTm_init "StratumCounts", .methodLinkNest RSc 55 yCp_init "StratumCounts", .methodLinkNest RSc 60 ySt_add "StratumCounts", .methodLinkNest RSc 64 ySt_setCost "StratumCounts", .methodLinkNest RSc 68 ySt_stands "StratumCounts", .methodLinkNest RSc 72 yBg_add "StratumCounts", .methodLinkNest RSc 73 yBg_setGrams "StratumCounts", .methodLinkNest RBg 34 ySc_isKind "StratumCounts", .methodLinkNest RBg 37 ySc_isGrams "StratumCounts", .methodLinkNest RSc 77 yBg_setYear "StratumCounts", .methodLinkNest RSc 81 yBg_lose "StratumCounts", .methodLinkNest RSc 88 yDr_take "StratumCounts", .methodLinkNest RSc 92 ySt_has "StratumCounts", .methodLinkNest RSc 95 yDr_taken "StratumCounts", .methodLinkNest RSc 107 yFg_gather "StratumCounts", .methodLinkNest RFg 60 yBg_gramsOf "StratumCounts", .methodLinkNest RSc 115 yFg_tellMean "StratumCounts", .methodLinkNest RFg 64 yTm_clear "StratumCounts", .methodLinkNest RFg 67 yTm_set "StratumCounts", .methodLinkNest RFg 71 yTm_common "StratumCounts", .methodLinkNest RTm 24 ySc_leastCommon "StratumCounts", .methodLinkNest RFg 75 yTm_sum "StratumCounts", .methodLinkNest RFg 79 ySc_tell "StratumCounts", .methodLinkNest RSc 119 yFg_haveSpread "StratumCounts", .methodLinkNest RSc 123 yFg_tellSpread "StratumCounts", .methodLinkNest RSc 130 yPl_prepare "StratumCounts", .methodLinkNest RPl 42 yTm_clear "StratumCounts", .methodLinkNest RPl 53 yFg_weighedScatter "StratumCounts", .methodLinkNest RPl 57 yFg_pairs "StratumCounts", .methodLinkNest RPl 60 yTm_set "StratumCounts", .methodLinkNest RPl 64 yTm_common "StratumCounts", .methodLinkNest RPl 70 yTm_scaled "StratumCounts", .methodLinkNest RSc 134 yPl_findCheapest "StratumCounts", .methodLinkNest RSc 138 yPl_heldBags "StratumCounts", .methodLinkNest RSc 141 yCp_gather "StratumCounts", .methodLinkNest RCp 35 yBg_gramsOf "StratumCounts", .methodLinkNest RSc 144 yCp_countFarWays "StratumCounts", .methodLinkNest RSc 147 yCp_countWays "StratumCounts", .methodLinkNest RSc 150 ySt_merge "StratumCounts", .methodLinkNest RSc 153 yBg_move "StratumCounts", .methodLinkNest RSc 157 yBg_has "StratumCounts", .methodLinkNest RSc 162 yRp_add "StratumCounts", .methodLinkNest RSc 165 yRp_tellError "StratumCounts", .methodLinkNest RRp 26 yBg_gramsOf "StratumCounts", .methodLinkNest RRp 34 ySc_tell "StratumCounts"]
theorem wsAll_c0 : ∀ w ∈ wsAll_0, w ∈ wsAll := fun w h => List.mem_append_left _ h
theorem wsAll_c1 : ∀ w ∈ wsAll_1, w ∈ wsAll := fun w h => List.mem_append_right _ (List.mem_append_left _ h)
theorem wsAll_c2 : ∀ w ∈ wsAll_2, w ∈ wsAll := fun w h => List.mem_append_right _ (List.mem_append_right _ (List.mem_append_left _ h))
theorem wsAll_c3 : ∀ w ∈ wsAll_3, w ∈ wsAll := fun w h => List.mem_append_right _ (List.mem_append_right _ (List.mem_append_right _ (List.mem_append_left _ h)))
theorem wsAll_c4 : ∀ w ∈ wsAll_4, w ∈ wsAll := fun w h => List.mem_append_right _ (List.mem_append_right _ (List.mem_append_right _ (List.mem_append_right _ (List.mem_append_left _ h))))
theorem wsAll_c5 : ∀ w ∈ wsAll_5, w ∈ wsAll := fun w h => List.mem_append_right _ (List.mem_append_right _ (List.mem_append_right _ (List.mem_append_right _ (List.mem_append_right _ (List.mem_append_left _ h)))))
theorem wsAll_c6 : ∀ w ∈ wsAll_6, w ∈ wsAll := fun w h => List.mem_append_right _ (List.mem_append_right _ (List.mem_append_right _ (List.mem_append_right _ (List.mem_append_right _ (List.mem_append_right _ (List.mem_append_left _ h))))))
theorem wsAll_c7 : ∀ w ∈ wsAll_7, w ∈ wsAll := fun w h => List.mem_append_right _ (List.mem_append_right _ (List.mem_append_right _ (List.mem_append_right _ (List.mem_append_right _ (List.mem_append_right _ (List.mem_append_right _ (List.mem_append_left _ h)))))))
theorem wsAll_c8 : ∀ w ∈ wsAll_8, w ∈ wsAll := fun w h => List.mem_append_right _ (List.mem_append_right _ (List.mem_append_right _ (List.mem_append_right _ (List.mem_append_right _ (List.mem_append_right _ (List.mem_append_right _ (List.mem_append_right _ (List.mem_append_left _ h))))))))
theorem wsAll_c9 : ∀ w ∈ wsAll_9, w ∈ wsAll := fun w h => List.mem_append_right _ (List.mem_append_right _ (List.mem_append_right _ (List.mem_append_right _ (List.mem_append_right _ (List.mem_append_right _ (List.mem_append_right _ (List.mem_append_right _ (List.mem_append_right _ (List.mem_append_left _ h)))))))))
theorem wsAll_c10 : ∀ w ∈ wsAll_10, w ∈ wsAll := fun w h => List.mem_append_right _ (List.mem_append_right _ (List.mem_append_right _ (List.mem_append_right _ (List.mem_append_right _ (List.mem_append_right _ (List.mem_append_right _ (List.mem_append_right _ (List.mem_append_right _ (List.mem_append_right _ (List.mem_append_left _ h))))))))))
theorem wsAll_c11 : ∀ w ∈ wsAll_11, w ∈ wsAll := fun w h => List.mem_append_right _ (List.mem_append_right _ (List.mem_append_right _ (List.mem_append_right _ (List.mem_append_right _ (List.mem_append_right _ (List.mem_append_right _ (List.mem_append_right _ (List.mem_append_right _ (List.mem_append_right _ (List.mem_append_right _ (List.mem_append_left _ h)))))))))))
theorem wsAll_c12 : ∀ w ∈ wsAll_12, w ∈ wsAll := fun w h => List.mem_append_right _ (List.mem_append_right _ (List.mem_append_right _ (List.mem_append_right _ (List.mem_append_right _ (List.mem_append_right _ (List.mem_append_right _ (List.mem_append_right _ (List.mem_append_right _ (List.mem_append_right _ (List.mem_append_right _ (List.mem_append_right _ (List.mem_append_left _ h))))))))))))
theorem wsAll_c13 : ∀ w ∈ wsAll_13, w ∈ wsAll := fun w h => List.mem_append_right _ (List.mem_append_right _ (List.mem_append_right _ (List.mem_append_right _ (List.mem_append_right _ (List.mem_append_right _ (List.mem_append_right _ (List.mem_append_right _ (List.mem_append_right _ (List.mem_append_right _ (List.mem_append_right _ (List.mem_append_right _ (List.mem_append_right _ (List.mem_append_left _ h)))))))))))))
theorem wsAll_c14 : ∀ w ∈ wsAll_14, w ∈ wsAll := fun w h => List.mem_append_right _ (List.mem_append_right _ (List.mem_append_right _ (List.mem_append_right _ (List.mem_append_right _ (List.mem_append_right _ (List.mem_append_right _ (List.mem_append_right _ (List.mem_append_right _ (List.mem_append_right _ (List.mem_append_right _ (List.mem_append_right _ (List.mem_append_right _ (List.mem_append_right _ (List.mem_append_left _ h))))))))))))))
theorem wsAll_c15 : ∀ w ∈ wsAll_15, w ∈ wsAll := fun w h => List.mem_append_right _ (List.mem_append_right _ (List.mem_append_right _ (List.mem_append_right _ (List.mem_append_right _ (List.mem_append_right _ (List.mem_append_right _ (List.mem_append_right _ (List.mem_append_right _ (List.mem_append_right _ (List.mem_append_right _ (List.mem_append_right _ (List.mem_append_right _ (List.mem_append_right _ (List.mem_append_right _ (h)))))))))))))))
theorem g0 : .selects RSt ySt_add ySt_add ∈ wsAll := wsAll_c0 _ (List.mem_of_getElem? (i := 0) rfl)
theorem g1 : .selects RSt ySt_setCost ySt_setCost ∈ wsAll := wsAll_c0 _ (List.mem_of_getElem? (i := 1) rfl)
theorem g2 : .selects RSt ySt_stands ySt_stands ∈ wsAll := wsAll_c0 _ (List.mem_of_getElem? (i := 2) rfl)
theorem g3 : .selects RSt ySt_has ySt_has ∈ wsAll := wsAll_c0 _ (List.mem_of_getElem? (i := 3) rfl)
theorem g4 : .selects RBg yBg_add yBg_add ∈ wsAll := wsAll_c0 _ (List.mem_of_getElem? (i := 4) rfl)
theorem g5 : .selects RBg yBg_setGrams yBg_setGrams ∈ wsAll := wsAll_c0 _ (List.mem_of_getElem? (i := 5) rfl)
theorem g6 : .selects RBg yBg_has yBg_has ∈ wsAll := wsAll_c0 _ (List.mem_of_getElem? (i := 6) rfl)
theorem g7 : .selects RBg yBg_setYear yBg_setYear ∈ wsAll := wsAll_c0 _ (List.mem_of_getElem? (i := 7) rfl)
theorem g8 : .selects RBg yBg_lose yBg_lose ∈ wsAll := wsAll_c0 _ (List.mem_of_getElem? (i := 8) rfl)
theorem g9 : .selects RDr yDr_take yDr_take ∈ wsAll := wsAll_c0 _ (List.mem_of_getElem? (i := 9) rfl)
theorem g10 : .selects RDr yDr_nextBelow yDr_nextBelow ∈ wsAll := wsAll_c0 _ (List.mem_of_getElem? (i := 10) rfl)
theorem g11 : .selects RDr yDr_swap yDr_swap ∈ wsAll := wsAll_c0 _ (List.mem_of_getElem? (i := 11) rfl)
theorem g12 : .selects RDr yDr_taken yDr_taken ∈ wsAll := wsAll_c0 _ (List.mem_of_getElem? (i := 12) rfl)
theorem g13 : .selects RFg yFg_gather yFg_gather ∈ wsAll := wsAll_c0 _ (List.mem_of_getElem? (i := 13) rfl)
theorem g14 : .selects RFg yFg_gatherOne yFg_gatherOne ∈ wsAll := wsAll_c0 _ (List.mem_of_getElem? (i := 14) rfl)
theorem g15 : .selects RBg yBg_gramsOf yBg_gramsOf ∈ wsAll := wsAll_c0 _ (List.mem_of_getElem? (i := 15) rfl)
theorem g16 : .selects RFg yFg_tellMean yFg_tellMean ∈ wsAll := wsAll_c0 _ (List.mem_of_getElem? (i := 16) rfl)
theorem g17 : .selects RTm yTm_clear yTm_clear ∈ wsAll := wsAll_c0 _ (List.mem_of_getElem? (i := 17) rfl)
theorem g18 : .selects RTm yTm_set yTm_set ∈ wsAll := wsAll_c0 _ (List.mem_of_getElem? (i := 18) rfl)
theorem g19 : .selects RTm yTm_common yTm_common ∈ wsAll := wsAll_c0 _ (List.mem_of_getElem? (i := 19) rfl)
theorem g20 : .selects RTm yTm_sum yTm_sum ∈ wsAll := wsAll_c0 _ (List.mem_of_getElem? (i := 20) rfl)
theorem g21 : .selects RTm yTm_scaled yTm_scaled ∈ wsAll := wsAll_c0 _ (List.mem_of_getElem? (i := 21) rfl)
theorem g22 : .selects RFg yFg_haveSpread yFg_haveSpread ∈ wsAll := wsAll_c0 _ (List.mem_of_getElem? (i := 22) rfl)
theorem g23 : .selects RFg yFg_tellSpread yFg_tellSpread ∈ wsAll := wsAll_c0 _ (List.mem_of_getElem? (i := 23) rfl)
theorem g24 : .selects RFg yFg_weighedScatter yFg_weighedScatter ∈ wsAll := wsAll_c0 _ (List.mem_of_getElem? (i := 24) rfl)
theorem g25 : .selects RFg yFg_pairs yFg_pairs ∈ wsAll := wsAll_c0 _ (List.mem_of_getElem? (i := 25) rfl)
theorem g26 : .selects RPl yPl_prepare yPl_prepare ∈ wsAll := wsAll_c0 _ (List.mem_of_getElem? (i := 26) rfl)
theorem g27 : .selects RPl yPl_findCheapest yPl_findCheapest ∈ wsAll := wsAll_c0 _ (List.mem_of_getElem? (i := 27) rfl)
theorem g28 : .selects RPl yPl_considerTrial yPl_considerTrial ∈ wsAll := wsAll_c0 _ (List.mem_of_getElem? (i := 28) rfl)
theorem g29 : .selects RPl yPl_isNearEnough yPl_isNearEnough ∈ wsAll := wsAll_c0 _ (List.mem_of_getElem? (i := 29) rfl)
theorem g30 : .selects RPl yPl_stepTrial yPl_stepTrial ∈ wsAll := wsAll_c0 _ (List.mem_of_getElem? (i := 30) rfl)
theorem g31 : .selects RPl yPl_heldBags yPl_heldBags ∈ wsAll := wsAll_c0 _ (List.mem_of_getElem? (i := 31) rfl)
theorem g32 : .selects RCp yCp_gather yCp_gather ∈ wsAll := wsAll_c0 _ (List.mem_of_getElem? (i := 32) rfl)
theorem g33 : .selects RCp yCp_take yCp_take ∈ wsAll := wsAll_c0 _ (List.mem_of_getElem? (i := 33) rfl)
theorem g34 : .selects RCp yCp_countFarWays yCp_countFarWays ∈ wsAll := wsAll_c0 _ (List.mem_of_getElem? (i := 34) rfl)
theorem g35 : .selects RCp yCp_apart yCp_apart ∈ wsAll := wsAll_c0 _ (List.mem_of_getElem? (i := 35) rfl)
theorem g36 : .selects RCp yCp_countWays yCp_countWays ∈ wsAll := wsAll_c0 _ (List.mem_of_getElem? (i := 36) rfl)
theorem g37 : .selects RSt ySt_merge ySt_merge ∈ wsAll := wsAll_c0 _ (List.mem_of_getElem? (i := 37) rfl)
theorem g38 : .selects RBg yBg_move yBg_move ∈ wsAll := wsAll_c0 _ (List.mem_of_getElem? (i := 38) rfl)
theorem g39 : .selects RRp yRp_add yRp_add ∈ wsAll := wsAll_c0 _ (List.mem_of_getElem? (i := 39) rfl)
theorem g40 : .selects RRp yRp_tellError yRp_tellError ∈ wsAll := wsAll_c1 _ (List.mem_of_getElem? (i := 0) rfl)
theorem g41 : .selects RMd yMd_isHere yMd_isHere ∈ wsAll := wsAll_c1 _ (List.mem_of_getElem? (i := 1) rfl)
theorem g42 : .selects RMd yMd_isBag yMd_isBag ∈ wsAll := wsAll_c1 _ (List.mem_of_getElem? (i := 2) rfl)
theorem g43 : .selects RMd yMd_counts yMd_counts ∈ wsAll := wsAll_c1 _ (List.mem_of_getElem? (i := 3) rfl)
theorem g44 : .selects RMd yMd_countOf yMd_countOf ∈ wsAll := wsAll_c1 _ (List.mem_of_getElem? (i := 4) rfl)
theorem g45 : .selects RMd yMd_sumOf yMd_sumOf ∈ wsAll := wsAll_c1 _ (List.mem_of_getElem? (i := 5) rfl)
theorem g46 : .selects RMd yMd_allSizes yMd_allSizes ∈ wsAll := wsAll_c1 _ (List.mem_of_getElem? (i := 6) rfl)
theorem g47 : .selects RMd yMd_part yMd_part ∈ wsAll := wsAll_c1 _ (List.mem_of_getElem? (i := 7) rfl)
theorem g48 : .selects RMd yMd_hasSpread yMd_hasSpread ∈ wsAll := wsAll_c1 _ (List.mem_of_getElem? (i := 8) rfl)
theorem g49 : .selects RMd yMd_makeSpread yMd_makeSpread ∈ wsAll := wsAll_c1 _ (List.mem_of_getElem? (i := 9) rfl)
theorem g50 : .selects RMd yMd_bagsOf yMd_bagsOf ∈ wsAll := wsAll_c1 _ (List.mem_of_getElem? (i := 10) rfl)
theorem g51 : .selects RMd yMd_squaresOf yMd_squaresOf ∈ wsAll := wsAll_c1 _ (List.mem_of_getElem? (i := 11) rfl)
theorem g52 : .selects RMd yMd_isOwn yMd_isOwn ∈ wsAll := wsAll_c1 _ (List.mem_of_getElem? (i := 12) rfl)
theorem g53 : .selects RMd yMd_tryPlan yMd_tryPlan ∈ wsAll := wsAll_c1 _ (List.mem_of_getElem? (i := 13) rfl)
theorem g54 : .selects RMd yMd_trialCost yMd_trialCost ∈ wsAll := wsAll_c1 _ (List.mem_of_getElem? (i := 14) rfl)
theorem g55 : .selects RMd yMd_bagsOfYear yMd_bagsOfYear ∈ wsAll := wsAll_c1 _ (List.mem_of_getElem? (i := 15) rfl)
theorem g56 : .selects RMd yMd_apart yMd_apart ∈ wsAll := wsAll_c1 _ (List.mem_of_getElem? (i := 16) rfl)
theorem g57 : .initialized RLw ∈ wsAll := wsAll_c1 _ (List.mem_of_getElem? (i := 17) rfl)
theorem g58 : .initialized RSc ∈ wsAll := wsAll_c1 _ (List.mem_of_getElem? (i := 18) rfl)
theorem g59 : .initialized RSt ∈ wsAll := wsAll_c1 _ (List.mem_of_getElem? (i := 19) rfl)
theorem g60 : .initialized RBg ∈ wsAll := wsAll_c1 _ (List.mem_of_getElem? (i := 20) rfl)
theorem g61 : .initialized RDr ∈ wsAll := wsAll_c1 _ (List.mem_of_getElem? (i := 21) rfl)
theorem g62 : .initialized RRp ∈ wsAll := wsAll_c1 _ (List.mem_of_getElem? (i := 22) rfl)
theorem g63 : .initialized RFg ∈ wsAll := wsAll_c1 _ (List.mem_of_getElem? (i := 23) rfl)
theorem g64 : .initialized RTm ∈ wsAll := wsAll_c1 _ (List.mem_of_getElem? (i := 24) rfl)
theorem g65 : .initialized RPl ∈ wsAll := wsAll_c1 _ (List.mem_of_getElem? (i := 25) rfl)
theorem g66 : .initialized RCp ∈ wsAll := wsAll_c1 _ (List.mem_of_getElem? (i := 26) rfl)
theorem g67 : .initialized RMd ∈ wsAll := wsAll_c1 _ (List.mem_of_getElem? (i := 27) rfl)
theorem g68 : .initialized RJA ∈ wsAll := wsAll_c1 _ (List.mem_of_getElem? (i := 28) rfl)
theorem g69 : .initialized RJS ∈ wsAll := wsAll_c1 _ (List.mem_of_getElem? (i := 29) rfl)
theorem g70 : .initialized RJI ∈ wsAll := wsAll_c1 _ (List.mem_of_getElem? (i := 30) rfl)
theorem g71 : .initialized RJM ∈ wsAll := wsAll_c1 _ (List.mem_of_getElem? (i := 31) rfl)
theorem g72 : .classLink RLw 7 RSc ∈ wsAll := wsAll_c1 _ (List.mem_of_getElem? (i := 32) rfl)
theorem g73 : .instantiable RSc 7 ∈ wsAll := wsAll_c1 _ (List.mem_of_getElem? (i := 33) rfl)
theorem g74 : .methodLink RLw 15 ySc_init ∈ wsAll := wsAll_c1 _ (List.mem_of_getElem? (i := 34) rfl)
theorem g75 : .instanceMethod ySc_init ∈ wsAll := wsAll_c1 _ (List.mem_of_getElem? (i := 35) rfl)
theorem g76 : .code ySc_init prog_1_method_1_code 3 none ∈ wsAll := wsAll_c1 _ (List.mem_of_getElem? (i := 36) rfl)
theorem g77 : .methodLink RSc 1 objectInit ∈ wsAll := wsAll_c1 _ (List.mem_of_getElem? (i := 37) rfl)
theorem g78 : .instanceMethod objectInit ∈ wsAll := wsAll_c1 _ (List.mem_of_getElem? (i := 38) rfl)
theorem g79 : .code objectInit object_method_1_code 1 none ∈ wsAll := wsAll_c1 _ (List.mem_of_getElem? (i := 39) rfl)
theorem g80 : .classLink RSc 7 RSt ∈ wsAll := wsAll_c2 _ (List.mem_of_getElem? (i := 0) rfl)
theorem g81 : .instantiable RSt 4 ∈ wsAll := wsAll_c2 _ (List.mem_of_getElem? (i := 1) rfl)
theorem g82 : .instanceMethod ySt_init ∈ wsAll := wsAll_c2 _ (List.mem_of_getElem? (i := 2) rfl)
theorem g83 : .code ySt_init prog_8_method_1_code 1 none ∈ wsAll := wsAll_c2 _ (List.mem_of_getElem? (i := 3) rfl)
theorem g84 : .methodLink RSt 3 objectInit ∈ wsAll := wsAll_c2 _ (List.mem_of_getElem? (i := 4) rfl)
theorem g85 : .fieldLink RSt 9 "StratumCounts$Strata" "sizes" "[I" ∈ wsAll := wsAll_c2 _ (List.mem_of_getElem? (i := 5) rfl)
theorem g86 : .fieldLink RSt 15 "StratumCounts$Strata" "costs" "[J" ∈ wsAll := wsAll_c2 _ (List.mem_of_getElem? (i := 6) rfl)
theorem g87 : .fieldLink RSt 19 "StratumCounts$Strata" "gone" "[Z" ∈ wsAll := wsAll_c2 _ (List.mem_of_getElem? (i := 7) rfl)
theorem g88 : .fieldLink RSt 23 "StratumCounts$Strata" "made" "I" ∈ wsAll := wsAll_c2 _ (List.mem_of_getElem? (i := 8) rfl)
theorem g89 : .laysFinal "StratumCounts$Strata" "StratumCounts$Strata" "sizes" "[I" ∈ wsAll := wsAll_c2 _ (List.mem_of_getElem? (i := 9) rfl)
theorem g90 : .laysFinal "StratumCounts$Strata" "StratumCounts$Strata" "costs" "[J" ∈ wsAll := wsAll_c2 _ (List.mem_of_getElem? (i := 10) rfl)
theorem g91 : .laysFinal "StratumCounts$Strata" "StratumCounts$Strata" "gone" "[Z" ∈ wsAll := wsAll_c2 _ (List.mem_of_getElem? (i := 11) rfl)
theorem g92 : .lays "StratumCounts$Strata" "StratumCounts$Strata" "made" "I" ∈ wsAll := wsAll_c2 _ (List.mem_of_getElem? (i := 12) rfl)
theorem g93 : .arrayClass .int ∈ wsAll := wsAll_c2 _ (List.mem_of_getElem? (i := 13) rfl)
theorem g94 : .arrayClass .long ∈ wsAll := wsAll_c2 _ (List.mem_of_getElem? (i := 14) rfl)
theorem g95 : .arrayClass .boolean ∈ wsAll := wsAll_c2 _ (List.mem_of_getElem? (i := 15) rfl)
theorem g96 : .classLink RSc 16 RBg ∈ wsAll := wsAll_c2 _ (List.mem_of_getElem? (i := 16) rfl)
theorem g97 : .instantiable RBg 5 ∈ wsAll := wsAll_c2 _ (List.mem_of_getElem? (i := 17) rfl)
theorem g98 : .instanceMethod yBg_init ∈ wsAll := wsAll_c2 _ (List.mem_of_getElem? (i := 18) rfl)
theorem g99 : .code yBg_init prog_2_method_1_code 1 none ∈ wsAll := wsAll_c2 _ (List.mem_of_getElem? (i := 19) rfl)
theorem g100 : .methodLink RBg 3 objectInit ∈ wsAll := wsAll_c2 _ (List.mem_of_getElem? (i := 20) rfl)
theorem g101 : .fieldLink RBg 9 "StratumCounts$Bags" "homes" "[I" ∈ wsAll := wsAll_c2 _ (List.mem_of_getElem? (i := 21) rfl)
theorem g102 : .fieldLink RBg 15 "StratumCounts$Bags" "dates" "[I" ∈ wsAll := wsAll_c2 _ (List.mem_of_getElem? (i := 22) rfl)
theorem g103 : .fieldLink RBg 18 "StratumCounts$Bags" "lost" "[Z" ∈ wsAll := wsAll_c2 _ (List.mem_of_getElem? (i := 23) rfl)
theorem g104 : .fieldLink RBg 22 "StratumCounts$Bags" "grams" "[J" ∈ wsAll := wsAll_c2 _ (List.mem_of_getElem? (i := 24) rfl)
theorem g105 : .fieldLink RBg 26 "StratumCounts$Bags" "made" "I" ∈ wsAll := wsAll_c2 _ (List.mem_of_getElem? (i := 25) rfl)
theorem g106 : .laysFinal "StratumCounts$Bags" "StratumCounts$Bags" "homes" "[I" ∈ wsAll := wsAll_c2 _ (List.mem_of_getElem? (i := 26) rfl)
theorem g107 : .laysFinal "StratumCounts$Bags" "StratumCounts$Bags" "dates" "[I" ∈ wsAll := wsAll_c2 _ (List.mem_of_getElem? (i := 27) rfl)
theorem g108 : .laysFinal "StratumCounts$Bags" "StratumCounts$Bags" "lost" "[Z" ∈ wsAll := wsAll_c2 _ (List.mem_of_getElem? (i := 28) rfl)
theorem g109 : .laysFinal "StratumCounts$Bags" "StratumCounts$Bags" "grams" "[J" ∈ wsAll := wsAll_c2 _ (List.mem_of_getElem? (i := 29) rfl)
theorem g110 : .lays "StratumCounts$Bags" "StratumCounts$Bags" "made" "I" ∈ wsAll := wsAll_c2 _ (List.mem_of_getElem? (i := 30) rfl)
theorem g111 : .classLink RSc 23 RDr ∈ wsAll := wsAll_c2 _ (List.mem_of_getElem? (i := 31) rfl)
theorem g112 : .instantiable RDr 3 ∈ wsAll := wsAll_c2 _ (List.mem_of_getElem? (i := 32) rfl)
theorem g113 : .instanceMethod yDr_init ∈ wsAll := wsAll_c2 _ (List.mem_of_getElem? (i := 33) rfl)
theorem g114 : .code yDr_init prog_4_method_1_code 3 none ∈ wsAll := wsAll_c2 _ (List.mem_of_getElem? (i := 34) rfl)
theorem g115 : .methodLink RDr 3 objectInit ∈ wsAll := wsAll_c2 _ (List.mem_of_getElem? (i := 35) rfl)
theorem g116 : .fieldLink RDr 9 "StratumCounts$Draws" "lists" "[I" ∈ wsAll := wsAll_c2 _ (List.mem_of_getElem? (i := 36) rfl)
theorem g117 : .fieldLink RDr 15 "StratumCounts$Draws" "lengths" "[I" ∈ wsAll := wsAll_c2 _ (List.mem_of_getElem? (i := 37) rfl)
theorem g118 : .fieldLink RDr 18 "StratumCounts$Draws" "seed" "J" ∈ wsAll := wsAll_c2 _ (List.mem_of_getElem? (i := 38) rfl)
theorem g119 : .laysFinal "StratumCounts$Draws" "StratumCounts$Draws" "lists" "[I" ∈ wsAll := wsAll_c2 _ (List.mem_of_getElem? (i := 39) rfl)
theorem g120 : .laysFinal "StratumCounts$Draws" "StratumCounts$Draws" "lengths" "[I" ∈ wsAll := wsAll_c3 _ (List.mem_of_getElem? (i := 0) rfl)
theorem g121 : .lays "StratumCounts$Draws" "StratumCounts$Draws" "seed" "J" ∈ wsAll := wsAll_c3 _ (List.mem_of_getElem? (i := 1) rfl)
theorem g122 : .classLink RSc 32 RRp ∈ wsAll := wsAll_c3 _ (List.mem_of_getElem? (i := 2) rfl)
theorem g123 : .instantiable RRp 4 ∈ wsAll := wsAll_c3 _ (List.mem_of_getElem? (i := 3) rfl)
theorem g124 : .instanceMethod yRp_init ∈ wsAll := wsAll_c3 _ (List.mem_of_getElem? (i := 4) rfl)
theorem g125 : .code yRp_init prog_7_method_1_code 1 none ∈ wsAll := wsAll_c3 _ (List.mem_of_getElem? (i := 5) rfl)
theorem g126 : .methodLink RRp 3 objectInit ∈ wsAll := wsAll_c3 _ (List.mem_of_getElem? (i := 6) rfl)
theorem g127 : .fieldLink RRp 9 "StratumCounts$Repeats" "sorted" "[I" ∈ wsAll := wsAll_c3 _ (List.mem_of_getElem? (i := 7) rfl)
theorem g128 : .fieldLink RRp 15 "StratumCounts$Repeats" "kinds" "[I" ∈ wsAll := wsAll_c3 _ (List.mem_of_getElem? (i := 8) rfl)
theorem g129 : .fieldLink RRp 18 "StratumCounts$Repeats" "found" "[J" ∈ wsAll := wsAll_c3 _ (List.mem_of_getElem? (i := 9) rfl)
theorem g130 : .fieldLink RRp 22 "StratumCounts$Repeats" "made" "I" ∈ wsAll := wsAll_c3 _ (List.mem_of_getElem? (i := 10) rfl)
theorem g131 : .laysFinal "StratumCounts$Repeats" "StratumCounts$Repeats" "sorted" "[I" ∈ wsAll := wsAll_c3 _ (List.mem_of_getElem? (i := 11) rfl)
theorem g132 : .laysFinal "StratumCounts$Repeats" "StratumCounts$Repeats" "kinds" "[I" ∈ wsAll := wsAll_c3 _ (List.mem_of_getElem? (i := 12) rfl)
theorem g133 : .laysFinal "StratumCounts$Repeats" "StratumCounts$Repeats" "found" "[J" ∈ wsAll := wsAll_c3 _ (List.mem_of_getElem? (i := 13) rfl)
theorem g134 : .lays "StratumCounts$Repeats" "StratumCounts$Repeats" "made" "I" ∈ wsAll := wsAll_c3 _ (List.mem_of_getElem? (i := 14) rfl)
theorem g135 : .classLink RSc 39 RFg ∈ wsAll := wsAll_c3 _ (List.mem_of_getElem? (i := 15) rfl)
theorem g136 : .instantiable RFg 7 ∈ wsAll := wsAll_c3 _ (List.mem_of_getElem? (i := 16) rfl)
theorem g137 : .instanceMethod yFg_init ∈ wsAll := wsAll_c3 _ (List.mem_of_getElem? (i := 17) rfl)
theorem g138 : .code yFg_init prog_5_method_1_code 1 none ∈ wsAll := wsAll_c3 _ (List.mem_of_getElem? (i := 18) rfl)
theorem g139 : .methodLink RFg 3 objectInit ∈ wsAll := wsAll_c3 _ (List.mem_of_getElem? (i := 19) rfl)
theorem g140 : .classLink RFg 24 RTm ∈ wsAll := wsAll_c3 _ (List.mem_of_getElem? (i := 20) rfl)
theorem g141 : .instantiable RTm 2 ∈ wsAll := wsAll_c3 _ (List.mem_of_getElem? (i := 21) rfl)
theorem g142 : .instanceMethod yTm_init ∈ wsAll := wsAll_c3 _ (List.mem_of_getElem? (i := 22) rfl)
theorem g143 : .code yTm_init prog_9_method_1_code 1 none ∈ wsAll := wsAll_c3 _ (List.mem_of_getElem? (i := 23) rfl)
theorem g144 : .methodLink RTm 3 objectInit ∈ wsAll := wsAll_c3 _ (List.mem_of_getElem? (i := 24) rfl)
theorem g145 : .fieldLink RTm 9 "StratumCounts$Terms" "aboves" "[J" ∈ wsAll := wsAll_c3 _ (List.mem_of_getElem? (i := 25) rfl)
theorem g146 : .fieldLink RTm 15 "StratumCounts$Terms" "belows" "[J" ∈ wsAll := wsAll_c3 _ (List.mem_of_getElem? (i := 26) rfl)
theorem g147 : .laysFinal "StratumCounts$Terms" "StratumCounts$Terms" "aboves" "[J" ∈ wsAll := wsAll_c3 _ (List.mem_of_getElem? (i := 27) rfl)
theorem g148 : .laysFinal "StratumCounts$Terms" "StratumCounts$Terms" "belows" "[J" ∈ wsAll := wsAll_c3 _ (List.mem_of_getElem? (i := 28) rfl)
theorem g149 : .fieldLink RFg 9 "StratumCounts$Figures" "sizes" "[J" ∈ wsAll := wsAll_c3 _ (List.mem_of_getElem? (i := 29) rfl)
theorem g150 : .fieldLink RFg 15 "StratumCounts$Figures" "numbers" "[J" ∈ wsAll := wsAll_c3 _ (List.mem_of_getElem? (i := 30) rfl)
theorem g151 : .fieldLink RFg 18 "StratumCounts$Figures" "sums" "[J" ∈ wsAll := wsAll_c3 _ (List.mem_of_getElem? (i := 31) rfl)
theorem g152 : .fieldLink RFg 21 "StratumCounts$Figures" "scatters" "[J" ∈ wsAll := wsAll_c3 _ (List.mem_of_getElem? (i := 32) rfl)
theorem g153 : .fieldLink RFg 27 "StratumCounts$Figures" "terms" "LStratumCounts$Terms;" ∈ wsAll := wsAll_c3 _ (List.mem_of_getElem? (i := 33) rfl)
theorem g154 : .fieldLink RFg 31 "StratumCounts$Figures" "counted" "I" ∈ wsAll := wsAll_c3 _ (List.mem_of_getElem? (i := 34) rfl)
theorem g155 : .fieldLink RFg 35 "StratumCounts$Figures" "total" "J" ∈ wsAll := wsAll_c3 _ (List.mem_of_getElem? (i := 35) rfl)
theorem g156 : .laysFinal "StratumCounts$Figures" "StratumCounts$Figures" "sizes" "[J" ∈ wsAll := wsAll_c3 _ (List.mem_of_getElem? (i := 36) rfl)
theorem g157 : .laysFinal "StratumCounts$Figures" "StratumCounts$Figures" "numbers" "[J" ∈ wsAll := wsAll_c3 _ (List.mem_of_getElem? (i := 37) rfl)
theorem g158 : .laysFinal "StratumCounts$Figures" "StratumCounts$Figures" "sums" "[J" ∈ wsAll := wsAll_c3 _ (List.mem_of_getElem? (i := 38) rfl)
theorem g159 : .laysFinal "StratumCounts$Figures" "StratumCounts$Figures" "scatters" "[J" ∈ wsAll := wsAll_c3 _ (List.mem_of_getElem? (i := 39) rfl)
theorem g160 : .laysFinal "StratumCounts$Figures" "StratumCounts$Figures" "terms" "LStratumCounts$Terms;" ∈ wsAll := wsAll_c4 _ (List.mem_of_getElem? (i := 0) rfl)
theorem g161 : .lays "StratumCounts$Figures" "StratumCounts$Figures" "counted" "I" ∈ wsAll := wsAll_c4 _ (List.mem_of_getElem? (i := 1) rfl)
theorem g162 : .lays "StratumCounts$Figures" "StratumCounts$Figures" "total" "J" ∈ wsAll := wsAll_c4 _ (List.mem_of_getElem? (i := 2) rfl)
theorem g163 : .classLink RSc 46 RPl ∈ wsAll := wsAll_c4 _ (List.mem_of_getElem? (i := 3) rfl)
theorem g164 : .instantiable RPl 10 ∈ wsAll := wsAll_c4 _ (List.mem_of_getElem? (i := 4) rfl)
theorem g165 : .instanceMethod yPl_init ∈ wsAll := wsAll_c4 _ (List.mem_of_getElem? (i := 5) rfl)
theorem g166 : .code yPl_init prog_6_method_1_code 1 none ∈ wsAll := wsAll_c4 _ (List.mem_of_getElem? (i := 6) rfl)
theorem g167 : .methodLink RPl 3 objectInit ∈ wsAll := wsAll_c4 _ (List.mem_of_getElem? (i := 7) rfl)
theorem g168 : .classLink RPl 31 RTm ∈ wsAll := wsAll_c4 _ (List.mem_of_getElem? (i := 8) rfl)
theorem g169 : .fieldLink RPl 9 "StratumCounts$Planner" "held" "[I" ∈ wsAll := wsAll_c4 _ (List.mem_of_getElem? (i := 9) rfl)
theorem g170 : .fieldLink RPl 15 "StratumCounts$Planner" "trial" "[I" ∈ wsAll := wsAll_c4 _ (List.mem_of_getElem? (i := 10) rfl)
theorem g171 : .fieldLink RPl 18 "StratumCounts$Planner" "fewest" "[I" ∈ wsAll := wsAll_c4 _ (List.mem_of_getElem? (i := 11) rfl)
theorem g172 : .fieldLink RPl 21 "StratumCounts$Planner" "most" "[I" ∈ wsAll := wsAll_c4 _ (List.mem_of_getElem? (i := 12) rfl)
theorem g173 : .fieldLink RPl 24 "StratumCounts$Planner" "costs" "[J" ∈ wsAll := wsAll_c4 _ (List.mem_of_getElem? (i := 13) rfl)
theorem g174 : .fieldLink RPl 28 "StratumCounts$Planner" "burdens" "[J" ∈ wsAll := wsAll_c4 _ (List.mem_of_getElem? (i := 14) rfl)
theorem g175 : .fieldLink RPl 34 "StratumCounts$Planner" "terms" "LStratumCounts$Terms;" ∈ wsAll := wsAll_c4 _ (List.mem_of_getElem? (i := 15) rfl)
theorem g176 : .fieldLink RPl 38 "StratumCounts$Planner" "holds" "Z" ∈ wsAll := wsAll_c4 _ (List.mem_of_getElem? (i := 16) rfl)
theorem g177 : .fieldLink RPl 78 "StratumCounts$Planner" "limit" "J" ∈ wsAll := wsAll_c4 _ (List.mem_of_getElem? (i := 17) rfl)
theorem g178 : .fieldLink RPl 85 "StratumCounts$Planner" "cheapest" "J" ∈ wsAll := wsAll_c4 _ (List.mem_of_getElem? (i := 18) rfl)
theorem g179 : .laysFinal "StratumCounts$Planner" "StratumCounts$Planner" "held" "[I" ∈ wsAll := wsAll_c4 _ (List.mem_of_getElem? (i := 19) rfl)
theorem g180 : .laysFinal "StratumCounts$Planner" "StratumCounts$Planner" "trial" "[I" ∈ wsAll := wsAll_c4 _ (List.mem_of_getElem? (i := 20) rfl)
theorem g181 : .laysFinal "StratumCounts$Planner" "StratumCounts$Planner" "fewest" "[I" ∈ wsAll := wsAll_c4 _ (List.mem_of_getElem? (i := 21) rfl)
theorem g182 : .laysFinal "StratumCounts$Planner" "StratumCounts$Planner" "most" "[I" ∈ wsAll := wsAll_c4 _ (List.mem_of_getElem? (i := 22) rfl)
theorem g183 : .laysFinal "StratumCounts$Planner" "StratumCounts$Planner" "costs" "[J" ∈ wsAll := wsAll_c4 _ (List.mem_of_getElem? (i := 23) rfl)
theorem g184 : .laysFinal "StratumCounts$Planner" "StratumCounts$Planner" "burdens" "[J" ∈ wsAll := wsAll_c4 _ (List.mem_of_getElem? (i := 24) rfl)
theorem g185 : .laysFinal "StratumCounts$Planner" "StratumCounts$Planner" "terms" "LStratumCounts$Terms;" ∈ wsAll := wsAll_c4 _ (List.mem_of_getElem? (i := 25) rfl)
theorem g186 : .lays "StratumCounts$Planner" "StratumCounts$Planner" "holds" "Z" ∈ wsAll := wsAll_c4 _ (List.mem_of_getElem? (i := 26) rfl)
theorem g187 : .lays "StratumCounts$Planner" "StratumCounts$Planner" "limit" "J" ∈ wsAll := wsAll_c4 _ (List.mem_of_getElem? (i := 27) rfl)
theorem g188 : .lays "StratumCounts$Planner" "StratumCounts$Planner" "cheapest" "J" ∈ wsAll := wsAll_c4 _ (List.mem_of_getElem? (i := 28) rfl)
theorem g189 : .classLink RSc 53 RCp ∈ wsAll := wsAll_c4 _ (List.mem_of_getElem? (i := 29) rfl)
theorem g190 : .instantiable RCp 5 ∈ wsAll := wsAll_c4 _ (List.mem_of_getElem? (i := 30) rfl)
theorem g191 : .instanceMethod yCp_init ∈ wsAll := wsAll_c4 _ (List.mem_of_getElem? (i := 31) rfl)
theorem g192 : .code yCp_init prog_3_method_1_code 1 none ∈ wsAll := wsAll_c4 _ (List.mem_of_getElem? (i := 32) rfl)
theorem g193 : .methodLink RCp 3 objectInit ∈ wsAll := wsAll_c4 _ (List.mem_of_getElem? (i := 33) rfl)
theorem g194 : .fieldLink RCp 9 "StratumCounts$Comparison" "grams" "[J" ∈ wsAll := wsAll_c4 _ (List.mem_of_getElem? (i := 34) rfl)
theorem g195 : .fieldLink RCp 15 "StratumCounts$Comparison" "number" "I" ∈ wsAll := wsAll_c4 _ (List.mem_of_getElem? (i := 35) rfl)
theorem g196 : .fieldLink RCp 53 "StratumCounts$Comparison" "firsts" "I" ∈ wsAll := wsAll_c4 _ (List.mem_of_getElem? (i := 36) rfl)
theorem g197 : .fieldLink RCp 19 "StratumCounts$Comparison" "actual" "I" ∈ wsAll := wsAll_c4 _ (List.mem_of_getElem? (i := 37) rfl)
theorem g198 : .fieldLink RCp 22 "StratumCounts$Comparison" "total" "J" ∈ wsAll := wsAll_c4 _ (List.mem_of_getElem? (i := 38) rfl)
theorem g199 : .laysFinal "StratumCounts$Comparison" "StratumCounts$Comparison" "grams" "[J" ∈ wsAll := wsAll_c4 _ (List.mem_of_getElem? (i := 39) rfl)
theorem g200 : .lays "StratumCounts$Comparison" "StratumCounts$Comparison" "number" "I" ∈ wsAll := wsAll_c5 _ (List.mem_of_getElem? (i := 0) rfl)
theorem g201 : .lays "StratumCounts$Comparison" "StratumCounts$Comparison" "firsts" "I" ∈ wsAll := wsAll_c5 _ (List.mem_of_getElem? (i := 1) rfl)
theorem g202 : .lays "StratumCounts$Comparison" "StratumCounts$Comparison" "actual" "I" ∈ wsAll := wsAll_c5 _ (List.mem_of_getElem? (i := 2) rfl)
theorem g203 : .lays "StratumCounts$Comparison" "StratumCounts$Comparison" "total" "J" ∈ wsAll := wsAll_c5 _ (List.mem_of_getElem? (i := 3) rfl)
theorem g204 : .fieldLink RSc 10 "StratumCounts" "strata" "LStratumCounts$Strata;" ∈ wsAll := wsAll_c5 _ (List.mem_of_getElem? (i := 4) rfl)
theorem g205 : .fieldLink RSc 19 "StratumCounts" "bags" "LStratumCounts$Bags;" ∈ wsAll := wsAll_c5 _ (List.mem_of_getElem? (i := 5) rfl)
theorem g206 : .fieldLink RSc 28 "StratumCounts" "draws" "LStratumCounts$Draws;" ∈ wsAll := wsAll_c5 _ (List.mem_of_getElem? (i := 6) rfl)
theorem g207 : .fieldLink RSc 35 "StratumCounts" "repeats" "LStratumCounts$Repeats;" ∈ wsAll := wsAll_c5 _ (List.mem_of_getElem? (i := 7) rfl)
theorem g208 : .fieldLink RSc 42 "StratumCounts" "figures" "LStratumCounts$Figures;" ∈ wsAll := wsAll_c5 _ (List.mem_of_getElem? (i := 8) rfl)
theorem g209 : .fieldLink RSc 49 "StratumCounts" "planner" "LStratumCounts$Planner;" ∈ wsAll := wsAll_c5 _ (List.mem_of_getElem? (i := 9) rfl)
theorem g210 : .fieldLink RSc 56 "StratumCounts" "comparison" "LStratumCounts$Comparison;" ∈ wsAll := wsAll_c5 _ (List.mem_of_getElem? (i := 10) rfl)
theorem g211 : .laysFinal "StratumCounts" "StratumCounts" "strata" "LStratumCounts$Strata;" ∈ wsAll := wsAll_c5 _ (List.mem_of_getElem? (i := 11) rfl)
theorem g212 : .laysFinal "StratumCounts" "StratumCounts" "bags" "LStratumCounts$Bags;" ∈ wsAll := wsAll_c5 _ (List.mem_of_getElem? (i := 12) rfl)
theorem g213 : .laysFinal "StratumCounts" "StratumCounts" "draws" "LStratumCounts$Draws;" ∈ wsAll := wsAll_c5 _ (List.mem_of_getElem? (i := 13) rfl)
theorem g214 : .laysFinal "StratumCounts" "StratumCounts" "repeats" "LStratumCounts$Repeats;" ∈ wsAll := wsAll_c5 _ (List.mem_of_getElem? (i := 14) rfl)
theorem g215 : .laysFinal "StratumCounts" "StratumCounts" "figures" "LStratumCounts$Figures;" ∈ wsAll := wsAll_c5 _ (List.mem_of_getElem? (i := 15) rfl)
theorem g216 : .laysFinal "StratumCounts" "StratumCounts" "planner" "LStratumCounts$Planner;" ∈ wsAll := wsAll_c5 _ (List.mem_of_getElem? (i := 16) rfl)
theorem g217 : .laysFinal "StratumCounts" "StratumCounts" "comparison" "LStratumCounts$Comparison;" ∈ wsAll := wsAll_c5 _ (List.mem_of_getElem? (i := 17) rfl)
theorem g218 : .methodLink RLw 21 ySc_stratum ∈ wsAll := wsAll_c5 _ (List.mem_of_getElem? (i := 18) rfl)
theorem g219 : .instanceMethod ySc_stratum ∈ wsAll := wsAll_c5 _ (List.mem_of_getElem? (i := 19) rfl)
theorem g220 : .selects RSc ySc_stratum ySc_stratum ∈ wsAll := wsAll_c5 _ (List.mem_of_getElem? (i := 20) rfl)
theorem g221 : .code ySc_stratum prog_1_method_2_code 2 (some .int) ∈ wsAll := wsAll_c5 _ (List.mem_of_getElem? (i := 21) rfl)
theorem g222 : .instanceMethod ySt_add ∈ wsAll := wsAll_c5 _ (List.mem_of_getElem? (i := 22) rfl)
theorem g223 : .code ySt_add prog_8_method_4_code 3 (some .int) ∈ wsAll := wsAll_c5 _ (List.mem_of_getElem? (i := 23) rfl)
theorem g224 : .methodLink RLw 28 ySc_cost ∈ wsAll := wsAll_c5 _ (List.mem_of_getElem? (i := 24) rfl)
theorem g225 : .instanceMethod ySc_cost ∈ wsAll := wsAll_c5 _ (List.mem_of_getElem? (i := 25) rfl)
theorem g226 : .selects RSc ySc_cost ySc_cost ∈ wsAll := wsAll_c5 _ (List.mem_of_getElem? (i := 26) rfl)
theorem g227 : .code ySc_cost prog_1_method_3_code 4 (some .boolean) ∈ wsAll := wsAll_c5 _ (List.mem_of_getElem? (i := 27) rfl)
theorem g228 : .instanceMethod ySt_setCost ∈ wsAll := wsAll_c5 _ (List.mem_of_getElem? (i := 28) rfl)
theorem g229 : .code ySt_setCost prog_8_method_5_code 4 (some .boolean) ∈ wsAll := wsAll_c5 _ (List.mem_of_getElem? (i := 29) rfl)
theorem g230 : .methodLink RSt 31 ySt_stands ∈ wsAll := wsAll_c5 _ (List.mem_of_getElem? (i := 30) rfl)
theorem g231 : .instanceMethod ySt_stands ∈ wsAll := wsAll_c5 _ (List.mem_of_getElem? (i := 31) rfl)
theorem g232 : .code ySt_stands prog_8_method_3_code 2 (some .boolean) ∈ wsAll := wsAll_c5 _ (List.mem_of_getElem? (i := 32) rfl)
theorem g233 : .methodLink RSt 27 ySt_has ∈ wsAll := wsAll_c5 _ (List.mem_of_getElem? (i := 33) rfl)
theorem g234 : .instanceMethod ySt_has ∈ wsAll := wsAll_c5 _ (List.mem_of_getElem? (i := 34) rfl)
theorem g235 : .code ySt_has prog_8_method_2_code 2 (some .boolean) ∈ wsAll := wsAll_c5 _ (List.mem_of_getElem? (i := 35) rfl)
theorem g236 : .constantLong RSt 34 (lZ (100000)) ∈ wsAll := wsAll_c5 _ (List.mem_of_getElem? (i := 36) rfl)
theorem g237 : .methodLink RLw 33 ySc_bag ∈ wsAll := wsAll_c5 _ (List.mem_of_getElem? (i := 37) rfl)
theorem g238 : .instanceMethod ySc_bag ∈ wsAll := wsAll_c5 _ (List.mem_of_getElem? (i := 38) rfl)
theorem g239 : .selects RSc ySc_bag ySc_bag ∈ wsAll := wsAll_c5 _ (List.mem_of_getElem? (i := 39) rfl)
theorem g240 : .code ySc_bag prog_1_method_4_code 2 (some .int) ∈ wsAll := wsAll_c6 _ (List.mem_of_getElem? (i := 0) rfl)
theorem g241 : .instanceMethod yBg_add ∈ wsAll := wsAll_c6 _ (List.mem_of_getElem? (i := 1) rfl)
theorem g242 : .code yBg_add prog_2_method_3_code 3 (some .int) ∈ wsAll := wsAll_c6 _ (List.mem_of_getElem? (i := 2) rfl)
theorem g243 : .methodLink RLw 37 ySc_weight ∈ wsAll := wsAll_c6 _ (List.mem_of_getElem? (i := 3) rfl)
theorem g244 : .instanceMethod ySc_weight ∈ wsAll := wsAll_c6 _ (List.mem_of_getElem? (i := 4) rfl)
theorem g245 : .selects RSc ySc_weight ySc_weight ∈ wsAll := wsAll_c6 _ (List.mem_of_getElem? (i := 5) rfl)
theorem g246 : .code ySc_weight prog_1_method_5_code 5 (some .boolean) ∈ wsAll := wsAll_c6 _ (List.mem_of_getElem? (i := 6) rfl)
theorem g247 : .instanceMethod yBg_setGrams ∈ wsAll := wsAll_c6 _ (List.mem_of_getElem? (i := 7) rfl)
theorem g248 : .code yBg_setGrams prog_2_method_4_code 5 (some .boolean) ∈ wsAll := wsAll_c6 _ (List.mem_of_getElem? (i := 8) rfl)
theorem g249 : .methodLink RBg 30 yBg_has ∈ wsAll := wsAll_c6 _ (List.mem_of_getElem? (i := 9) rfl)
theorem g250 : .instanceMethod yBg_has ∈ wsAll := wsAll_c6 _ (List.mem_of_getElem? (i := 10) rfl)
theorem g251 : .code yBg_has prog_2_method_2_code 2 (some .boolean) ∈ wsAll := wsAll_c6 _ (List.mem_of_getElem? (i := 11) rfl)
theorem g252 : .static ySc_isKind ∈ wsAll := wsAll_c6 _ (List.mem_of_getElem? (i := 12) rfl)
theorem g253 : .code ySc_isKind prog_1_method_19_code 1 (some .boolean) ∈ wsAll := wsAll_c6 _ (List.mem_of_getElem? (i := 13) rfl)
theorem g254 : .static ySc_isGrams ∈ wsAll := wsAll_c6 _ (List.mem_of_getElem? (i := 14) rfl)
theorem g255 : .code ySc_isGrams prog_1_method_21_code 2 (some .boolean) ∈ wsAll := wsAll_c6 _ (List.mem_of_getElem? (i := 15) rfl)
theorem g256 : .constantLong RSc 169 (lZ (10000)) ∈ wsAll := wsAll_c6 _ (List.mem_of_getElem? (i := 16) rfl)
theorem g257 : .methodLink RLw 42 ySc_year ∈ wsAll := wsAll_c6 _ (List.mem_of_getElem? (i := 17) rfl)
theorem g258 : .instanceMethod ySc_year ∈ wsAll := wsAll_c6 _ (List.mem_of_getElem? (i := 18) rfl)
theorem g259 : .selects RSc ySc_year ySc_year ∈ wsAll := wsAll_c6 _ (List.mem_of_getElem? (i := 19) rfl)
theorem g260 : .code ySc_year prog_1_method_6_code 3 (some .boolean) ∈ wsAll := wsAll_c6 _ (List.mem_of_getElem? (i := 20) rfl)
theorem g261 : .instanceMethod yBg_setYear ∈ wsAll := wsAll_c6 _ (List.mem_of_getElem? (i := 21) rfl)
theorem g262 : .code yBg_setYear prog_2_method_5_code 3 (some .boolean) ∈ wsAll := wsAll_c6 _ (List.mem_of_getElem? (i := 22) rfl)
theorem g263 : .methodLink RLw 47 ySc_missing ∈ wsAll := wsAll_c6 _ (List.mem_of_getElem? (i := 23) rfl)
theorem g264 : .instanceMethod ySc_missing ∈ wsAll := wsAll_c6 _ (List.mem_of_getElem? (i := 24) rfl)
theorem g265 : .selects RSc ySc_missing ySc_missing ∈ wsAll := wsAll_c6 _ (List.mem_of_getElem? (i := 25) rfl)
theorem g266 : .code ySc_missing prog_1_method_7_code 2 (some .boolean) ∈ wsAll := wsAll_c6 _ (List.mem_of_getElem? (i := 26) rfl)
theorem g267 : .instanceMethod yBg_lose ∈ wsAll := wsAll_c6 _ (List.mem_of_getElem? (i := 27) rfl)
theorem g268 : .code yBg_lose prog_2_method_6_code 2 (some .boolean) ∈ wsAll := wsAll_c6 _ (List.mem_of_getElem? (i := 28) rfl)
theorem g269 : .methodLink RLw 52 ySc_draw ∈ wsAll := wsAll_c6 _ (List.mem_of_getElem? (i := 29) rfl)
theorem g270 : .instanceMethod ySc_draw ∈ wsAll := wsAll_c6 _ (List.mem_of_getElem? (i := 30) rfl)
theorem g271 : .selects RSc ySc_draw ySc_draw ∈ wsAll := wsAll_c6 _ (List.mem_of_getElem? (i := 31) rfl)
theorem g272 : .code ySc_draw prog_1_method_8_code 3 (some .int) ∈ wsAll := wsAll_c6 _ (List.mem_of_getElem? (i := 32) rfl)
theorem g273 : .instanceMethod yDr_take ∈ wsAll := wsAll_c6 _ (List.mem_of_getElem? (i := 33) rfl)
theorem g274 : .code yDr_take prog_4_method_2_code 6 (some .int) ∈ wsAll := wsAll_c6 _ (List.mem_of_getElem? (i := 34) rfl)
theorem g275 : .methodLink RDr 22 yDr_nextBelow ∈ wsAll := wsAll_c6 _ (List.mem_of_getElem? (i := 35) rfl)
theorem g276 : .instanceMethod yDr_nextBelow ∈ wsAll := wsAll_c6 _ (List.mem_of_getElem? (i := 36) rfl)
theorem g277 : .code yDr_nextBelow prog_4_method_3_code 2 (some .int) ∈ wsAll := wsAll_c6 _ (List.mem_of_getElem? (i := 37) rfl)
theorem g278 : .constantLong RDr 30 (lZ (6364136223846793005)) ∈ wsAll := wsAll_c6 _ (List.mem_of_getElem? (i := 38) rfl)
theorem g279 : .constantLong RDr 32 (lZ (1442695040888963407)) ∈ wsAll := wsAll_c6 _ (List.mem_of_getElem? (i := 39) rfl)
theorem g280 : .methodLink RDr 26 yDr_swap ∈ wsAll := wsAll_c7 _ (List.mem_of_getElem? (i := 0) rfl)
theorem g281 : .instanceMethod yDr_swap ∈ wsAll := wsAll_c7 _ (List.mem_of_getElem? (i := 1) rfl)
theorem g282 : .code yDr_swap prog_4_method_4_code 4 none ∈ wsAll := wsAll_c7 _ (List.mem_of_getElem? (i := 2) rfl)
theorem g283 : .methodLink RLw 57 ySc_drawn ∈ wsAll := wsAll_c7 _ (List.mem_of_getElem? (i := 3) rfl)
theorem g284 : .instanceMethod ySc_drawn ∈ wsAll := wsAll_c7 _ (List.mem_of_getElem? (i := 4) rfl)
theorem g285 : .selects RSc ySc_drawn ySc_drawn ∈ wsAll := wsAll_c7 _ (List.mem_of_getElem? (i := 5) rfl)
theorem g286 : .code ySc_drawn prog_1_method_9_code 3 (some .int) ∈ wsAll := wsAll_c7 _ (List.mem_of_getElem? (i := 6) rfl)
theorem g287 : .instanceMethod yDr_taken ∈ wsAll := wsAll_c7 _ (List.mem_of_getElem? (i := 7) rfl)
theorem g288 : .code yDr_taken prog_4_method_5_code 3 (some .int) ∈ wsAll := wsAll_c7 _ (List.mem_of_getElem? (i := 8) rfl)
theorem g289 : .methodLink RLw 61 ySc_mean ∈ wsAll := wsAll_c7 _ (List.mem_of_getElem? (i := 9) rfl)
theorem g290 : .instanceMethod ySc_mean ∈ wsAll := wsAll_c7 _ (List.mem_of_getElem? (i := 10) rfl)
theorem g291 : .selects RSc ySc_mean ySc_mean ∈ wsAll := wsAll_c7 _ (List.mem_of_getElem? (i := 11) rfl)
theorem g292 : .code ySc_mean prog_1_method_10_code 3 (some .long) ∈ wsAll := wsAll_c7 _ (List.mem_of_getElem? (i := 12) rfl)
theorem g293 : .methodLink RSc 99 ySc_isKind ∈ wsAll := wsAll_c7 _ (List.mem_of_getElem? (i := 13) rfl)
theorem g294 : .methodLink RSc 102 ySc_isPart ∈ wsAll := wsAll_c7 _ (List.mem_of_getElem? (i := 14) rfl)
theorem g295 : .static ySc_isPart ∈ wsAll := wsAll_c7 _ (List.mem_of_getElem? (i := 15) rfl)
theorem g296 : .code ySc_isPart prog_1_method_20_code 1 (some .boolean) ∈ wsAll := wsAll_c7 _ (List.mem_of_getElem? (i := 16) rfl)
theorem g297 : .constantLong RSc 105 (lZ (-1)) ∈ wsAll := wsAll_c7 _ (List.mem_of_getElem? (i := 17) rfl)
theorem g298 : .instanceMethod yFg_gather ∈ wsAll := wsAll_c7 _ (List.mem_of_getElem? (i := 18) rfl)
theorem g299 : .code yFg_gather prog_5_method_2_code 5 none ∈ wsAll := wsAll_c7 _ (List.mem_of_getElem? (i := 19) rfl)
theorem g300 : .methodLink RFg 39 yFg_gatherOne ∈ wsAll := wsAll_c7 _ (List.mem_of_getElem? (i := 20) rfl)
theorem g301 : .instanceMethod yFg_gatherOne ∈ wsAll := wsAll_c7 _ (List.mem_of_getElem? (i := 21) rfl)
theorem g302 : .code yFg_gatherOne prog_5_method_3_code 13 none ∈ wsAll := wsAll_c7 _ (List.mem_of_getElem? (i := 22) rfl)
theorem g303 : .instanceMethod yBg_gramsOf ∈ wsAll := wsAll_c7 _ (List.mem_of_getElem? (i := 23) rfl)
theorem g304 : .code yBg_gramsOf prog_2_method_8_code 3 (some .long) ∈ wsAll := wsAll_c7 _ (List.mem_of_getElem? (i := 24) rfl)
theorem g305 : .instanceMethod yFg_tellMean ∈ wsAll := wsAll_c7 _ (List.mem_of_getElem? (i := 25) rfl)
theorem g306 : .code yFg_tellMean prog_5_method_5_code 4 (some .long) ∈ wsAll := wsAll_c7 _ (List.mem_of_getElem? (i := 26) rfl)
theorem g307 : .instanceMethod yTm_clear ∈ wsAll := wsAll_c7 _ (List.mem_of_getElem? (i := 27) rfl)
theorem g308 : .code yTm_clear prog_9_method_2_code 1 none ∈ wsAll := wsAll_c7 _ (List.mem_of_getElem? (i := 28) rfl)
theorem g309 : .methodLink RTm 18 yJA_fill ∈ wsAll := wsAll_c7 _ (List.mem_of_getElem? (i := 29) rfl)
theorem g310 : .static yJA_fill ∈ wsAll := wsAll_c7 _ (List.mem_of_getElem? (i := 30) rfl)
theorem g311 : .code yJA_fill prog_15_method_101_code 5 none ∈ wsAll := wsAll_c7 _ (List.mem_of_getElem? (i := 31) rfl)
theorem g312 : .instanceMethod yTm_set ∈ wsAll := wsAll_c7 _ (List.mem_of_getElem? (i := 32) rfl)
theorem g313 : .code yTm_set prog_9_method_3_code 6 none ∈ wsAll := wsAll_c7 _ (List.mem_of_getElem? (i := 33) rfl)
theorem g314 : .instanceMethod yTm_common ∈ wsAll := wsAll_c7 _ (List.mem_of_getElem? (i := 34) rfl)
theorem g315 : .code yTm_common prog_9_method_4_code 4 (some .long) ∈ wsAll := wsAll_c7 _ (List.mem_of_getElem? (i := 35) rfl)
theorem g316 : .static ySc_leastCommon ∈ wsAll := wsAll_c7 _ (List.mem_of_getElem? (i := 36) rfl)
theorem g317 : .code ySc_leastCommon prog_1_method_23_code 6 (some .long) ∈ wsAll := wsAll_c7 _ (List.mem_of_getElem? (i := 37) rfl)
theorem g318 : .methodLink RSc 171 ySc_greatestShared ∈ wsAll := wsAll_c7 _ (List.mem_of_getElem? (i := 38) rfl)
theorem g319 : .static ySc_greatestShared ∈ wsAll := wsAll_c7 _ (List.mem_of_getElem? (i := 39) rfl)
theorem g320 : .code ySc_greatestShared prog_1_method_22_code 11 (some .long) ∈ wsAll := wsAll_c8 _ (List.mem_of_getElem? (i := 0) rfl)
theorem g321 : .instanceMethod yTm_sum ∈ wsAll := wsAll_c8 _ (List.mem_of_getElem? (i := 1) rfl)
theorem g322 : .code yTm_sum prog_9_method_6_code 6 (some .long) ∈ wsAll := wsAll_c8 _ (List.mem_of_getElem? (i := 2) rfl)
theorem g323 : .methodLink RTm 28 yTm_scaled ∈ wsAll := wsAll_c8 _ (List.mem_of_getElem? (i := 3) rfl)
theorem g324 : .instanceMethod yTm_scaled ∈ wsAll := wsAll_c8 _ (List.mem_of_getElem? (i := 4) rfl)
theorem g325 : .code yTm_scaled prog_9_method_5_code 4 (some .long) ∈ wsAll := wsAll_c8 _ (List.mem_of_getElem? (i := 5) rfl)
theorem g326 : .static ySc_tell ∈ wsAll := wsAll_c8 _ (List.mem_of_getElem? (i := 6) rfl)
theorem g327 : .code ySc_tell prog_1_method_24_code 7 (some .long) ∈ wsAll := wsAll_c8 _ (List.mem_of_getElem? (i := 7) rfl)
theorem g328 : .methodLink RLw 66 ySc_spread ∈ wsAll := wsAll_c8 _ (List.mem_of_getElem? (i := 8) rfl)
theorem g329 : .instanceMethod ySc_spread ∈ wsAll := wsAll_c8 _ (List.mem_of_getElem? (i := 9) rfl)
theorem g330 : .selects RSc ySc_spread ySc_spread ∈ wsAll := wsAll_c8 _ (List.mem_of_getElem? (i := 10) rfl)
theorem g331 : .code ySc_spread prog_1_method_11_code 3 (some .long) ∈ wsAll := wsAll_c8 _ (List.mem_of_getElem? (i := 11) rfl)
theorem g332 : .instanceMethod yFg_haveSpread ∈ wsAll := wsAll_c8 _ (List.mem_of_getElem? (i := 12) rfl)
theorem g333 : .code yFg_haveSpread prog_5_method_4_code 2 (some .boolean) ∈ wsAll := wsAll_c8 _ (List.mem_of_getElem? (i := 13) rfl)
theorem g334 : .instanceMethod yFg_tellSpread ∈ wsAll := wsAll_c8 _ (List.mem_of_getElem? (i := 14) rfl)
theorem g335 : .code yFg_tellSpread prog_5_method_6_code 4 (some .long) ∈ wsAll := wsAll_c8 _ (List.mem_of_getElem? (i := 15) rfl)
theorem g336 : .methodLink RFg 83 yFg_weighedScatter ∈ wsAll := wsAll_c8 _ (List.mem_of_getElem? (i := 16) rfl)
theorem g337 : .instanceMethod yFg_weighedScatter ∈ wsAll := wsAll_c8 _ (List.mem_of_getElem? (i := 17) rfl)
theorem g338 : .code yFg_weighedScatter prog_5_method_7_code 2 (some .long) ∈ wsAll := wsAll_c8 _ (List.mem_of_getElem? (i := 18) rfl)
theorem g339 : .methodLink RFg 87 yFg_pairs ∈ wsAll := wsAll_c8 _ (List.mem_of_getElem? (i := 19) rfl)
theorem g340 : .instanceMethod yFg_pairs ∈ wsAll := wsAll_c8 _ (List.mem_of_getElem? (i := 20) rfl)
theorem g341 : .code yFg_pairs prog_5_method_8_code 2 (some .long) ∈ wsAll := wsAll_c8 _ (List.mem_of_getElem? (i := 21) rfl)
theorem g342 : .methodLink RLw 70 ySc_plan ∈ wsAll := wsAll_c8 _ (List.mem_of_getElem? (i := 22) rfl)
theorem g343 : .instanceMethod ySc_plan ∈ wsAll := wsAll_c8 _ (List.mem_of_getElem? (i := 23) rfl)
theorem g344 : .selects RSc ySc_plan ySc_plan ∈ wsAll := wsAll_c8 _ (List.mem_of_getElem? (i := 24) rfl)
theorem g345 : .code ySc_plan prog_1_method_12_code 6 (some .long) ∈ wsAll := wsAll_c8 _ (List.mem_of_getElem? (i := 25) rfl)
theorem g346 : .constantLong RSc 126 (lZ (1000000000)) ∈ wsAll := wsAll_c8 _ (List.mem_of_getElem? (i := 26) rfl)
theorem g347 : .constantLong RSc 128 (lZ (1000)) ∈ wsAll := wsAll_c8 _ (List.mem_of_getElem? (i := 27) rfl)
theorem g348 : .instanceMethod yPl_prepare ∈ wsAll := wsAll_c8 _ (List.mem_of_getElem? (i := 28) rfl)
theorem g349 : .code yPl_prepare prog_6_method_3_code 11 none ∈ wsAll := wsAll_c8 _ (List.mem_of_getElem? (i := 29) rfl)
theorem g350 : .constantLong RPl 68 (lZ (60)) ∈ wsAll := wsAll_c8 _ (List.mem_of_getElem? (i := 30) rfl)
theorem g351 : .instanceMethod yPl_findCheapest ∈ wsAll := wsAll_c8 _ (List.mem_of_getElem? (i := 31) rfl)
theorem g352 : .code yPl_findCheapest prog_6_method_4_code 2 (some .long) ∈ wsAll := wsAll_c8 _ (List.mem_of_getElem? (i := 32) rfl)
theorem g353 : .constantLong RPl 83 (lZ (9223372036854775807)) ∈ wsAll := wsAll_c8 _ (List.mem_of_getElem? (i := 33) rfl)
theorem g354 : .methodLink RPl 88 arraycopyName ∈ wsAll := wsAll_c8 _ (List.mem_of_getElem? (i := 34) rfl)
theorem g355 : .static arraycopyName ∈ wsAll := wsAll_c8 _ (List.mem_of_getElem? (i := 35) rfl)
theorem g356 : .native arraycopyName ∈ wsAll := wsAll_c8 _ (List.mem_of_getElem? (i := 36) rfl)
theorem g357 : .methodLink RPl 94 yPl_considerTrial ∈ wsAll := wsAll_c8 _ (List.mem_of_getElem? (i := 37) rfl)
theorem g358 : .instanceMethod yPl_considerTrial ∈ wsAll := wsAll_c8 _ (List.mem_of_getElem? (i := 38) rfl)
theorem g359 : .code yPl_considerTrial prog_6_method_5_code 4 none ∈ wsAll := wsAll_c8 _ (List.mem_of_getElem? (i := 39) rfl)
theorem g360 : .methodLink RPl 103 yPl_isNearEnough ∈ wsAll := wsAll_c9 _ (List.mem_of_getElem? (i := 0) rfl)
theorem g361 : .instanceMethod yPl_isNearEnough ∈ wsAll := wsAll_c9 _ (List.mem_of_getElem? (i := 1) rfl)
theorem g362 : .code yPl_isNearEnough prog_6_method_6_code 4 (some .boolean) ∈ wsAll := wsAll_c9 _ (List.mem_of_getElem? (i := 2) rfl)
theorem g363 : .methodLink RPl 97 yPl_stepTrial ∈ wsAll := wsAll_c9 _ (List.mem_of_getElem? (i := 3) rfl)
theorem g364 : .instanceMethod yPl_stepTrial ∈ wsAll := wsAll_c9 _ (List.mem_of_getElem? (i := 4) rfl)
theorem g365 : .code yPl_stepTrial prog_6_method_7_code 2 (some .boolean) ∈ wsAll := wsAll_c9 _ (List.mem_of_getElem? (i := 5) rfl)
theorem g366 : .constantLong RPl 101 (lZ (-1)) ∈ wsAll := wsAll_c9 _ (List.mem_of_getElem? (i := 6) rfl)
theorem g367 : .methodLink RLw 75 ySc_planned ∈ wsAll := wsAll_c9 _ (List.mem_of_getElem? (i := 7) rfl)
theorem g368 : .instanceMethod ySc_planned ∈ wsAll := wsAll_c9 _ (List.mem_of_getElem? (i := 8) rfl)
theorem g369 : .selects RSc ySc_planned ySc_planned ∈ wsAll := wsAll_c9 _ (List.mem_of_getElem? (i := 9) rfl)
theorem g370 : .code ySc_planned prog_1_method_13_code 2 (some .int) ∈ wsAll := wsAll_c9 _ (List.mem_of_getElem? (i := 10) rfl)
theorem g371 : .instanceMethod yPl_heldBags ∈ wsAll := wsAll_c9 _ (List.mem_of_getElem? (i := 11) rfl)
theorem g372 : .code yPl_heldBags prog_6_method_2_code 2 (some .int) ∈ wsAll := wsAll_c9 _ (List.mem_of_getElem? (i := 12) rfl)
theorem g373 : .methodLink RLw 79 ySc_compared ∈ wsAll := wsAll_c9 _ (List.mem_of_getElem? (i := 13) rfl)
theorem g374 : .instanceMethod ySc_compared ∈ wsAll := wsAll_c9 _ (List.mem_of_getElem? (i := 14) rfl)
theorem g375 : .selects RSc ySc_compared ySc_compared ∈ wsAll := wsAll_c9 _ (List.mem_of_getElem? (i := 15) rfl)
theorem g376 : .code ySc_compared prog_1_method_14_code 3 (some .long) ∈ wsAll := wsAll_c9 _ (List.mem_of_getElem? (i := 16) rfl)
theorem g377 : .instanceMethod yCp_gather ∈ wsAll := wsAll_c9 _ (List.mem_of_getElem? (i := 17) rfl)
theorem g378 : .code yCp_gather prog_3_method_2_code 4 (some .boolean) ∈ wsAll := wsAll_c9 _ (List.mem_of_getElem? (i := 18) rfl)
theorem g379 : .methodLink RCp 43 yCp_take ∈ wsAll := wsAll_c9 _ (List.mem_of_getElem? (i := 19) rfl)
theorem g380 : .instanceMethod yCp_take ∈ wsAll := wsAll_c9 _ (List.mem_of_getElem? (i := 20) rfl)
theorem g381 : .code yCp_take prog_3_method_3_code 4 none ∈ wsAll := wsAll_c9 _ (List.mem_of_getElem? (i := 21) rfl)
theorem g382 : .methodLink RCp 47 yJI_bitCount ∈ wsAll := wsAll_c9 _ (List.mem_of_getElem? (i := 22) rfl)
theorem g383 : .static yJI_bitCount ∈ wsAll := wsAll_c9 _ (List.mem_of_getElem? (i := 23) rfl)
theorem g384 : .code yJI_bitCount prog_12_method_49_code 1 (some .int) ∈ wsAll := wsAll_c9 _ (List.mem_of_getElem? (i := 24) rfl)
theorem g385 : .constant RJI 265 (iZ (1431655765)) ∈ wsAll := wsAll_c9 _ (List.mem_of_getElem? (i := 25) rfl)
theorem g386 : .constant RJI 266 (iZ (858993459)) ∈ wsAll := wsAll_c9 _ (List.mem_of_getElem? (i := 26) rfl)
theorem g387 : .constant RJI 267 (iZ (252645135)) ∈ wsAll := wsAll_c9 _ (List.mem_of_getElem? (i := 27) rfl)
theorem g388 : .instanceMethod yCp_countFarWays ∈ wsAll := wsAll_c9 _ (List.mem_of_getElem? (i := 28) rfl)
theorem g389 : .code yCp_countFarWays prog_3_method_5_code 6 (some .long) ∈ wsAll := wsAll_c9 _ (List.mem_of_getElem? (i := 29) rfl)
theorem g390 : .methodLink RCp 56 yCp_apart ∈ wsAll := wsAll_c9 _ (List.mem_of_getElem? (i := 30) rfl)
theorem g391 : .instanceMethod yCp_apart ∈ wsAll := wsAll_c9 _ (List.mem_of_getElem? (i := 31) rfl)
theorem g392 : .code yCp_apart prog_3_method_6_code 5 (some .long) ∈ wsAll := wsAll_c9 _ (List.mem_of_getElem? (i := 32) rfl)
theorem g393 : .methodLink RCp 60 Lib.MathLoose.abs_long.x ∈ wsAll := wsAll_c9 _ (List.mem_of_getElem? (i := 33) rfl)
theorem g394 : .static Lib.MathLoose.abs_long.x ∈ wsAll := wsAll_c9 _ (List.mem_of_getElem? (i := 34) rfl)
theorem g395 : .code Lib.MathLoose.abs_long.x prog_13_method_61_code 2 (some .long) ∈ wsAll := wsAll_c9 _ (List.mem_of_getElem? (i := 35) rfl)
theorem g396 : .instanceMethod yCp_countWays ∈ wsAll := wsAll_c9 _ (List.mem_of_getElem? (i := 36) rfl)
theorem g397 : .code yCp_countWays prog_3_method_4_code 4 (some .long) ∈ wsAll := wsAll_c9 _ (List.mem_of_getElem? (i := 37) rfl)
theorem g398 : .methodLink RLw 83 ySc_joined ∈ wsAll := wsAll_c9 _ (List.mem_of_getElem? (i := 38) rfl)
theorem g399 : .instanceMethod ySc_joined ∈ wsAll := wsAll_c9 _ (List.mem_of_getElem? (i := 39) rfl)
theorem g400 : .selects RSc ySc_joined ySc_joined ∈ wsAll := wsAll_c10 _ (List.mem_of_getElem? (i := 0) rfl)
theorem g401 : .code ySc_joined prog_1_method_15_code 3 (some .boolean) ∈ wsAll := wsAll_c10 _ (List.mem_of_getElem? (i := 1) rfl)
theorem g402 : .instanceMethod ySt_merge ∈ wsAll := wsAll_c10 _ (List.mem_of_getElem? (i := 2) rfl)
theorem g403 : .code ySt_merge prog_8_method_6_code 4 (some .boolean) ∈ wsAll := wsAll_c10 _ (List.mem_of_getElem? (i := 3) rfl)
theorem g404 : .instanceMethod yBg_move ∈ wsAll := wsAll_c10 _ (List.mem_of_getElem? (i := 4) rfl)
theorem g405 : .code yBg_move prog_2_method_7_code 4 none ∈ wsAll := wsAll_c10 _ (List.mem_of_getElem? (i := 5) rfl)
theorem g406 : .methodLink RLw 87 ySc_repeat ∈ wsAll := wsAll_c10 _ (List.mem_of_getElem? (i := 6) rfl)
theorem g407 : .instanceMethod ySc_repeat ∈ wsAll := wsAll_c10 _ (List.mem_of_getElem? (i := 7) rfl)
theorem g408 : .selects RSc ySc_repeat ySc_repeat ∈ wsAll := wsAll_c10 _ (List.mem_of_getElem? (i := 8) rfl)
theorem g409 : .code ySc_repeat prog_1_method_16_code 5 (some .int) ∈ wsAll := wsAll_c10 _ (List.mem_of_getElem? (i := 9) rfl)
theorem g410 : .methodLink RSc 158 ySc_isGrams ∈ wsAll := wsAll_c10 _ (List.mem_of_getElem? (i := 10) rfl)
theorem g411 : .instanceMethod yRp_add ∈ wsAll := wsAll_c10 _ (List.mem_of_getElem? (i := 11) rfl)
theorem g412 : .code yRp_add prog_7_method_2_code 5 (some .int) ∈ wsAll := wsAll_c10 _ (List.mem_of_getElem? (i := 12) rfl)
theorem g413 : .methodLink RLw 92 ySc_error ∈ wsAll := wsAll_c10 _ (List.mem_of_getElem? (i := 13) rfl)
theorem g414 : .instanceMethod ySc_error ∈ wsAll := wsAll_c10 _ (List.mem_of_getElem? (i := 14) rfl)
theorem g415 : .selects RSc ySc_error ySc_error ∈ wsAll := wsAll_c10 _ (List.mem_of_getElem? (i := 15) rfl)
theorem g416 : .code ySc_error prog_1_method_17_code 3 (some .long) ∈ wsAll := wsAll_c10 _ (List.mem_of_getElem? (i := 16) rfl)
theorem g417 : .instanceMethod yRp_tellError ∈ wsAll := wsAll_c10 _ (List.mem_of_getElem? (i := 17) rfl)
theorem g418 : .code yRp_tellError prog_7_method_3_code 11 (some .long) ∈ wsAll := wsAll_c10 _ (List.mem_of_getElem? (i := 18) rfl)
theorem g419 : .constantLong RRp 32 (lZ (2)) ∈ wsAll := wsAll_c10 _ (List.mem_of_getElem? (i := 19) rfl)
theorem g420 : .constantLong RRp 38 (lZ (-1)) ∈ wsAll := wsAll_c10 _ (List.mem_of_getElem? (i := 20) rfl)
theorem g421 : .methodLink RLw 96 ySc_counting ∈ wsAll := wsAll_c10 _ (List.mem_of_getElem? (i := 21) rfl)
theorem g422 : .instanceMethod ySc_counting ∈ wsAll := wsAll_c10 _ (List.mem_of_getElem? (i := 22) rfl)
theorem g423 : .selects RSc ySc_counting ySc_counting ∈ wsAll := wsAll_c10 _ (List.mem_of_getElem? (i := 23) rfl)
theorem g424 : .code ySc_counting prog_1_method_18_code 1 (some .int) ∈ wsAll := wsAll_c10 _ (List.mem_of_getElem? (i := 24) rfl)
theorem g425 : .methodLink RLw 9 yLw_cell ∈ wsAll := wsAll_c10 _ (List.mem_of_getElem? (i := 25) rfl)
theorem g426 : .static yLw_cell ∈ wsAll := wsAll_c10 _ (List.mem_of_getElem? (i := 26) rfl)
theorem g427 : .code yLw_cell method_2_code 2 (some .int) ∈ wsAll := wsAll_c10 _ (List.mem_of_getElem? (i := 27) rfl)
theorem g428 : .classLink RLw 18 RMd ∈ wsAll := wsAll_c10 _ (List.mem_of_getElem? (i := 28) rfl)
theorem g429 : .instantiable RMd 21 ∈ wsAll := wsAll_c10 _ (List.mem_of_getElem? (i := 29) rfl)
theorem g430 : .methodLink RLw 20 yMd_init ∈ wsAll := wsAll_c10 _ (List.mem_of_getElem? (i := 30) rfl)
theorem g431 : .instanceMethod yMd_init ∈ wsAll := wsAll_c10 _ (List.mem_of_getElem? (i := 31) rfl)
theorem g432 : .code yMd_init prog_11_method_1_code 3 none ∈ wsAll := wsAll_c10 _ (List.mem_of_getElem? (i := 32) rfl)
theorem g433 : .methodLink RMd 1 objectInit ∈ wsAll := wsAll_c10 _ (List.mem_of_getElem? (i := 33) rfl)
theorem g434 : .fieldLink RMd 54 "StratumCountsModel" "seed" "J" ∈ wsAll := wsAll_c10 _ (List.mem_of_getElem? (i := 34) rfl)
theorem g435 : .fieldLink RMd 58 "StratumCountsModel" "strata" "I" ∈ wsAll := wsAll_c10 _ (List.mem_of_getElem? (i := 35) rfl)
theorem g436 : .fieldLink RMd 7 "StratumCountsModel" "sizes" "[I" ∈ wsAll := wsAll_c10 _ (List.mem_of_getElem? (i := 36) rfl)
theorem g437 : .fieldLink RMd 13 "StratumCountsModel" "costs" "[J" ∈ wsAll := wsAll_c10 _ (List.mem_of_getElem? (i := 37) rfl)
theorem g438 : .fieldLink RMd 17 "StratumCountsModel" "gone" "[Z" ∈ wsAll := wsAll_c10 _ (List.mem_of_getElem? (i := 38) rfl)
theorem g439 : .fieldLink RMd 21 "StratumCountsModel" "drawn" "[I" ∈ wsAll := wsAll_c10 _ (List.mem_of_getElem? (i := 39) rfl)
theorem g440 : .fieldLink RMd 24 "StratumCountsModel" "drawnCounts" "[I" ∈ wsAll := wsAll_c11 _ (List.mem_of_getElem? (i := 0) rfl)
theorem g441 : .fieldLink RMd 62 "StratumCountsModel" "bags" "I" ∈ wsAll := wsAll_c11 _ (List.mem_of_getElem? (i := 1) rfl)
theorem g442 : .fieldLink RMd 27 "StratumCountsModel" "owners" "[I" ∈ wsAll := wsAll_c11 _ (List.mem_of_getElem? (i := 2) rfl)
theorem g443 : .fieldLink RMd 30 "StratumCountsModel" "years" "[I" ∈ wsAll := wsAll_c11 _ (List.mem_of_getElem? (i := 3) rfl)
theorem g444 : .fieldLink RMd 33 "StratumCountsModel" "missing" "[Z" ∈ wsAll := wsAll_c11 _ (List.mem_of_getElem? (i := 4) rfl)
theorem g445 : .fieldLink RMd 36 "StratumCountsModel" "grams" "[J" ∈ wsAll := wsAll_c11 _ (List.mem_of_getElem? (i := 5) rfl)
theorem g446 : .fieldLink RMd 145 "StratumCountsModel" "hasPlan" "Z" ∈ wsAll := wsAll_c11 _ (List.mem_of_getElem? (i := 6) rfl)
theorem g447 : .fieldLink RMd 39 "StratumCountsModel" "planned" "[I" ∈ wsAll := wsAll_c11 _ (List.mem_of_getElem? (i := 7) rfl)
theorem g448 : .fieldLink RMd 170 "StratumCountsModel" "again" "I" ∈ wsAll := wsAll_c11 _ (List.mem_of_getElem? (i := 8) rfl)
theorem g449 : .fieldLink RMd 42 "StratumCountsModel" "againBag" "[I" ∈ wsAll := wsAll_c11 _ (List.mem_of_getElem? (i := 9) rfl)
theorem g450 : .fieldLink RMd 45 "StratumCountsModel" "againKind" "[I" ∈ wsAll := wsAll_c11 _ (List.mem_of_getElem? (i := 10) rfl)
theorem g451 : .fieldLink RMd 48 "StratumCountsModel" "againGrams" "[J" ∈ wsAll := wsAll_c11 _ (List.mem_of_getElem? (i := 11) rfl)
theorem g452 : .fieldLink RMd 100 "StratumCountsModel" "over" "J" ∈ wsAll := wsAll_c11 _ (List.mem_of_getElem? (i := 12) rfl)
theorem g453 : .fieldLink RMd 103 "StratumCountsModel" "under" "J" ∈ wsAll := wsAll_c11 _ (List.mem_of_getElem? (i := 13) rfl)
theorem g454 : .fieldLink RMd 51 "StratumCountsModel" "trial" "[I" ∈ wsAll := wsAll_c11 _ (List.mem_of_getElem? (i := 14) rfl)
theorem g455 : .lays "StratumCountsModel" "StratumCountsModel" "seed" "J" ∈ wsAll := wsAll_c11 _ (List.mem_of_getElem? (i := 15) rfl)
theorem g456 : .lays "StratumCountsModel" "StratumCountsModel" "strata" "I" ∈ wsAll := wsAll_c11 _ (List.mem_of_getElem? (i := 16) rfl)
theorem g457 : .laysFinal "StratumCountsModel" "StratumCountsModel" "sizes" "[I" ∈ wsAll := wsAll_c11 _ (List.mem_of_getElem? (i := 17) rfl)
theorem g458 : .laysFinal "StratumCountsModel" "StratumCountsModel" "costs" "[J" ∈ wsAll := wsAll_c11 _ (List.mem_of_getElem? (i := 18) rfl)
theorem g459 : .laysFinal "StratumCountsModel" "StratumCountsModel" "gone" "[Z" ∈ wsAll := wsAll_c11 _ (List.mem_of_getElem? (i := 19) rfl)
theorem g460 : .laysFinal "StratumCountsModel" "StratumCountsModel" "drawn" "[I" ∈ wsAll := wsAll_c11 _ (List.mem_of_getElem? (i := 20) rfl)
theorem g461 : .laysFinal "StratumCountsModel" "StratumCountsModel" "drawnCounts" "[I" ∈ wsAll := wsAll_c11 _ (List.mem_of_getElem? (i := 21) rfl)
theorem g462 : .lays "StratumCountsModel" "StratumCountsModel" "bags" "I" ∈ wsAll := wsAll_c11 _ (List.mem_of_getElem? (i := 22) rfl)
theorem g463 : .laysFinal "StratumCountsModel" "StratumCountsModel" "owners" "[I" ∈ wsAll := wsAll_c11 _ (List.mem_of_getElem? (i := 23) rfl)
theorem g464 : .laysFinal "StratumCountsModel" "StratumCountsModel" "years" "[I" ∈ wsAll := wsAll_c11 _ (List.mem_of_getElem? (i := 24) rfl)
theorem g465 : .laysFinal "StratumCountsModel" "StratumCountsModel" "missing" "[Z" ∈ wsAll := wsAll_c11 _ (List.mem_of_getElem? (i := 25) rfl)
theorem g466 : .laysFinal "StratumCountsModel" "StratumCountsModel" "grams" "[J" ∈ wsAll := wsAll_c11 _ (List.mem_of_getElem? (i := 26) rfl)
theorem g467 : .lays "StratumCountsModel" "StratumCountsModel" "hasPlan" "Z" ∈ wsAll := wsAll_c11 _ (List.mem_of_getElem? (i := 27) rfl)
theorem g468 : .laysFinal "StratumCountsModel" "StratumCountsModel" "planned" "[I" ∈ wsAll := wsAll_c11 _ (List.mem_of_getElem? (i := 28) rfl)
theorem g469 : .lays "StratumCountsModel" "StratumCountsModel" "again" "I" ∈ wsAll := wsAll_c11 _ (List.mem_of_getElem? (i := 29) rfl)
theorem g470 : .laysFinal "StratumCountsModel" "StratumCountsModel" "againBag" "[I" ∈ wsAll := wsAll_c11 _ (List.mem_of_getElem? (i := 30) rfl)
theorem g471 : .laysFinal "StratumCountsModel" "StratumCountsModel" "againKind" "[I" ∈ wsAll := wsAll_c11 _ (List.mem_of_getElem? (i := 31) rfl)
theorem g472 : .laysFinal "StratumCountsModel" "StratumCountsModel" "againGrams" "[J" ∈ wsAll := wsAll_c11 _ (List.mem_of_getElem? (i := 32) rfl)
theorem g473 : .lays "StratumCountsModel" "StratumCountsModel" "over" "J" ∈ wsAll := wsAll_c11 _ (List.mem_of_getElem? (i := 33) rfl)
theorem g474 : .lays "StratumCountsModel" "StratumCountsModel" "under" "J" ∈ wsAll := wsAll_c11 _ (List.mem_of_getElem? (i := 34) rfl)
theorem g475 : .laysFinal "StratumCountsModel" "StratumCountsModel" "trial" "[I" ∈ wsAll := wsAll_c11 _ (List.mem_of_getElem? (i := 35) rfl)
theorem g476 : .methodLink RLw 25 yMd_stratum ∈ wsAll := wsAll_c11 _ (List.mem_of_getElem? (i := 36) rfl)
theorem g477 : .instanceMethod yMd_stratum ∈ wsAll := wsAll_c11 _ (List.mem_of_getElem? (i := 37) rfl)
theorem g478 : .selects RMd yMd_stratum yMd_stratum ∈ wsAll := wsAll_c11 _ (List.mem_of_getElem? (i := 38) rfl)
theorem g479 : .code yMd_stratum prog_11_method_7_code 2 (some .int) ∈ wsAll := wsAll_c11 _ (List.mem_of_getElem? (i := 39) rfl)
theorem g480 : .constantLong RMd 65 (lZ (100)) ∈ wsAll := wsAll_c12 _ (List.mem_of_getElem? (i := 0) rfl)
theorem g481 : .methodLink RMd 67 yMd_isIn ∈ wsAll := wsAll_c12 _ (List.mem_of_getElem? (i := 1) rfl)
theorem g482 : .static yMd_isIn ∈ wsAll := wsAll_c12 _ (List.mem_of_getElem? (i := 2) rfl)
theorem g483 : .code yMd_isIn prog_11_method_3_code 6 (some .boolean) ∈ wsAll := wsAll_c12 _ (List.mem_of_getElem? (i := 3) rfl)
theorem g484 : .methodLink RLw 32 yMd_cost ∈ wsAll := wsAll_c12 _ (List.mem_of_getElem? (i := 4) rfl)
theorem g485 : .instanceMethod yMd_cost ∈ wsAll := wsAll_c12 _ (List.mem_of_getElem? (i := 5) rfl)
theorem g486 : .selects RMd yMd_cost yMd_cost ∈ wsAll := wsAll_c12 _ (List.mem_of_getElem? (i := 6) rfl)
theorem g487 : .code yMd_cost prog_11_method_8_code 4 (some .boolean) ∈ wsAll := wsAll_c12 _ (List.mem_of_getElem? (i := 7) rfl)
theorem g488 : .methodLink RMd 71 yMd_isHere ∈ wsAll := wsAll_c12 _ (List.mem_of_getElem? (i := 8) rfl)
theorem g489 : .instanceMethod yMd_isHere ∈ wsAll := wsAll_c12 _ (List.mem_of_getElem? (i := 9) rfl)
theorem g490 : .code yMd_isHere prog_11_method_4_code 2 (some .boolean) ∈ wsAll := wsAll_c12 _ (List.mem_of_getElem? (i := 10) rfl)
theorem g491 : .constantLong RMd 75 (lZ (100000)) ∈ wsAll := wsAll_c12 _ (List.mem_of_getElem? (i := 11) rfl)
theorem g492 : .methodLink RLw 36 yMd_bag ∈ wsAll := wsAll_c12 _ (List.mem_of_getElem? (i := 12) rfl)
theorem g493 : .instanceMethod yMd_bag ∈ wsAll := wsAll_c12 _ (List.mem_of_getElem? (i := 13) rfl)
theorem g494 : .selects RMd yMd_bag yMd_bag ∈ wsAll := wsAll_c12 _ (List.mem_of_getElem? (i := 14) rfl)
theorem g495 : .code yMd_bag prog_11_method_9_code 2 (some .int) ∈ wsAll := wsAll_c12 _ (List.mem_of_getElem? (i := 15) rfl)
theorem g496 : .methodLink RLw 41 yMd_weight ∈ wsAll := wsAll_c12 _ (List.mem_of_getElem? (i := 16) rfl)
theorem g497 : .instanceMethod yMd_weight ∈ wsAll := wsAll_c12 _ (List.mem_of_getElem? (i := 17) rfl)
theorem g498 : .selects RMd yMd_weight yMd_weight ∈ wsAll := wsAll_c12 _ (List.mem_of_getElem? (i := 18) rfl)
theorem g499 : .code yMd_weight prog_11_method_10_code 5 (some .boolean) ∈ wsAll := wsAll_c12 _ (List.mem_of_getElem? (i := 19) rfl)
theorem g500 : .methodLink RMd 77 yMd_isBag ∈ wsAll := wsAll_c12 _ (List.mem_of_getElem? (i := 20) rfl)
theorem g501 : .instanceMethod yMd_isBag ∈ wsAll := wsAll_c12 _ (List.mem_of_getElem? (i := 21) rfl)
theorem g502 : .code yMd_isBag prog_11_method_5_code 2 (some .boolean) ∈ wsAll := wsAll_c12 _ (List.mem_of_getElem? (i := 22) rfl)
theorem g503 : .methodLink RMd 80 yMd_isKind ∈ wsAll := wsAll_c12 _ (List.mem_of_getElem? (i := 23) rfl)
theorem g504 : .static yMd_isKind ∈ wsAll := wsAll_c12 _ (List.mem_of_getElem? (i := 24) rfl)
theorem g505 : .code yMd_isKind prog_11_method_6_code 1 (some .boolean) ∈ wsAll := wsAll_c12 _ (List.mem_of_getElem? (i := 25) rfl)
theorem g506 : .constantLong RMd 83 (lZ (10000)) ∈ wsAll := wsAll_c12 _ (List.mem_of_getElem? (i := 26) rfl)
theorem g507 : .methodLink RLw 46 yMd_year ∈ wsAll := wsAll_c12 _ (List.mem_of_getElem? (i := 27) rfl)
theorem g508 : .instanceMethod yMd_year ∈ wsAll := wsAll_c12 _ (List.mem_of_getElem? (i := 28) rfl)
theorem g509 : .selects RMd yMd_year yMd_year ∈ wsAll := wsAll_c12 _ (List.mem_of_getElem? (i := 29) rfl)
theorem g510 : .code yMd_year prog_11_method_11_code 3 (some .boolean) ∈ wsAll := wsAll_c12 _ (List.mem_of_getElem? (i := 30) rfl)
theorem g511 : .methodLink RLw 51 yMd_missing ∈ wsAll := wsAll_c12 _ (List.mem_of_getElem? (i := 31) rfl)
theorem g512 : .instanceMethod yMd_missing ∈ wsAll := wsAll_c12 _ (List.mem_of_getElem? (i := 32) rfl)
theorem g513 : .selects RMd yMd_missing yMd_missing ∈ wsAll := wsAll_c12 _ (List.mem_of_getElem? (i := 33) rfl)
theorem g514 : .code yMd_missing prog_11_method_12_code 2 (some .boolean) ∈ wsAll := wsAll_c12 _ (List.mem_of_getElem? (i := 34) rfl)
theorem g515 : .methodLink RLw 56 yMd_draw ∈ wsAll := wsAll_c12 _ (List.mem_of_getElem? (i := 35) rfl)
theorem g516 : .instanceMethod yMd_draw ∈ wsAll := wsAll_c12 _ (List.mem_of_getElem? (i := 36) rfl)
theorem g517 : .selects RMd yMd_draw yMd_draw ∈ wsAll := wsAll_c12 _ (List.mem_of_getElem? (i := 37) rfl)
theorem g518 : .code yMd_draw prog_11_method_13_code 6 (some .int) ∈ wsAll := wsAll_c12 _ (List.mem_of_getElem? (i := 38) rfl)
theorem g519 : .constantLong RMd 85 (lZ (6364136223846793005)) ∈ wsAll := wsAll_c12 _ (List.mem_of_getElem? (i := 39) rfl)
theorem g520 : .constantLong RMd 87 (lZ (1442695040888963407)) ∈ wsAll := wsAll_c13 _ (List.mem_of_getElem? (i := 0) rfl)
theorem g521 : .methodLink RLw 60 yMd_drawn ∈ wsAll := wsAll_c13 _ (List.mem_of_getElem? (i := 1) rfl)
theorem g522 : .instanceMethod yMd_drawn ∈ wsAll := wsAll_c13 _ (List.mem_of_getElem? (i := 2) rfl)
theorem g523 : .selects RMd yMd_drawn yMd_drawn ∈ wsAll := wsAll_c13 _ (List.mem_of_getElem? (i := 3) rfl)
theorem g524 : .code yMd_drawn prog_11_method_14_code 3 (some .int) ∈ wsAll := wsAll_c13 _ (List.mem_of_getElem? (i := 4) rfl)
theorem g525 : .methodLink RLw 100 yMd_counting ∈ wsAll := wsAll_c13 _ (List.mem_of_getElem? (i := 5) rfl)
theorem g526 : .instanceMethod yMd_counting ∈ wsAll := wsAll_c13 _ (List.mem_of_getElem? (i := 6) rfl)
theorem g527 : .selects RMd yMd_counting yMd_counting ∈ wsAll := wsAll_c13 _ (List.mem_of_getElem? (i := 7) rfl)
theorem g528 : .code yMd_counting prog_11_method_19_code 3 (some .int) ∈ wsAll := wsAll_c13 _ (List.mem_of_getElem? (i := 8) rfl)
theorem g529 : .methodLink RMd 93 yMd_counts ∈ wsAll := wsAll_c13 _ (List.mem_of_getElem? (i := 9) rfl)
theorem g530 : .instanceMethod yMd_counts ∈ wsAll := wsAll_c13 _ (List.mem_of_getElem? (i := 10) rfl)
theorem g531 : .code yMd_counts prog_11_method_16_code 2 (some .boolean) ∈ wsAll := wsAll_c13 _ (List.mem_of_getElem? (i := 11) rfl)
theorem g532 : .methodLink RMd 89 yMd_countOf ∈ wsAll := wsAll_c13 _ (List.mem_of_getElem? (i := 12) rfl)
theorem g533 : .instanceMethod yMd_countOf ∈ wsAll := wsAll_c13 _ (List.mem_of_getElem? (i := 13) rfl)
theorem g534 : .code yMd_countOf prog_11_method_15_code 4 (some .int) ∈ wsAll := wsAll_c13 _ (List.mem_of_getElem? (i := 14) rfl)
theorem g535 : .methodLink RLw 65 yMd_mean ∈ wsAll := wsAll_c13 _ (List.mem_of_getElem? (i := 15) rfl)
theorem g536 : .instanceMethod yMd_mean ∈ wsAll := wsAll_c13 _ (List.mem_of_getElem? (i := 16) rfl)
theorem g537 : .selects RMd yMd_mean yMd_mean ∈ wsAll := wsAll_c13 _ (List.mem_of_getElem? (i := 17) rfl)
theorem g538 : .code yMd_mean prog_11_method_24_code 6 (some .long) ∈ wsAll := wsAll_c13 _ (List.mem_of_getElem? (i := 18) rfl)
theorem g539 : .methodLink RMd 106 yMd_counting ∈ wsAll := wsAll_c13 _ (List.mem_of_getElem? (i := 19) rfl)
theorem g540 : .constantLong RMd 110 (lZ (-1)) ∈ wsAll := wsAll_c13 _ (List.mem_of_getElem? (i := 20) rfl)
theorem g541 : .methodLink RMd 112 yMd_multiple ∈ wsAll := wsAll_c13 _ (List.mem_of_getElem? (i := 21) rfl)
theorem g542 : .static yMd_multiple ∈ wsAll := wsAll_c13 _ (List.mem_of_getElem? (i := 22) rfl)
theorem g543 : .code yMd_multiple prog_11_method_22_code 4 (some .long) ∈ wsAll := wsAll_c13 _ (List.mem_of_getElem? (i := 23) rfl)
theorem g544 : .methodLink RMd 96 yMd_common ∈ wsAll := wsAll_c13 _ (List.mem_of_getElem? (i := 24) rfl)
theorem g545 : .static yMd_common ∈ wsAll := wsAll_c13 _ (List.mem_of_getElem? (i := 25) rfl)
theorem g546 : .code yMd_common prog_11_method_21_code 10 (some .long) ∈ wsAll := wsAll_c13 _ (List.mem_of_getElem? (i := 26) rfl)
theorem g547 : .methodLink RMd 115 yMd_sumOf ∈ wsAll := wsAll_c13 _ (List.mem_of_getElem? (i := 27) rfl)
theorem g548 : .instanceMethod yMd_sumOf ∈ wsAll := wsAll_c13 _ (List.mem_of_getElem? (i := 28) rfl)
theorem g549 : .code yMd_sumOf prog_11_method_17_code 6 (some .long) ∈ wsAll := wsAll_c13 _ (List.mem_of_getElem? (i := 29) rfl)
theorem g550 : .methodLink RMd 119 yMd_allSizes ∈ wsAll := wsAll_c13 _ (List.mem_of_getElem? (i := 30) rfl)
theorem g551 : .instanceMethod yMd_allSizes ∈ wsAll := wsAll_c13 _ (List.mem_of_getElem? (i := 31) rfl)
theorem g552 : .code yMd_allSizes prog_11_method_20_code 4 (some .long) ∈ wsAll := wsAll_c13 _ (List.mem_of_getElem? (i := 32) rfl)
theorem g553 : .methodLink RMd 123 yMd_part ∈ wsAll := wsAll_c13 _ (List.mem_of_getElem? (i := 33) rfl)
theorem g554 : .instanceMethod yMd_part ∈ wsAll := wsAll_c13 _ (List.mem_of_getElem? (i := 34) rfl)
theorem g555 : .code yMd_part prog_11_method_23_code 4 (some .long) ∈ wsAll := wsAll_c13 _ (List.mem_of_getElem? (i := 35) rfl)
theorem g556 : .methodLink RLw 69 yMd_spread ∈ wsAll := wsAll_c13 _ (List.mem_of_getElem? (i := 36) rfl)
theorem g557 : .instanceMethod yMd_spread ∈ wsAll := wsAll_c13 _ (List.mem_of_getElem? (i := 37) rfl)
theorem g558 : .selects RMd yMd_spread yMd_spread ∈ wsAll := wsAll_c13 _ (List.mem_of_getElem? (i := 38) rfl)
theorem g559 : .code yMd_spread prog_11_method_28_code 3 (some .long) ∈ wsAll := wsAll_c13 _ (List.mem_of_getElem? (i := 39) rfl)
theorem g560 : .methodLink RMd 134 yMd_hasSpread ∈ wsAll := wsAll_c14 _ (List.mem_of_getElem? (i := 0) rfl)
theorem g561 : .instanceMethod yMd_hasSpread ∈ wsAll := wsAll_c14 _ (List.mem_of_getElem? (i := 1) rfl)
theorem g562 : .code yMd_hasSpread prog_11_method_25_code 4 (some .boolean) ∈ wsAll := wsAll_c14 _ (List.mem_of_getElem? (i := 2) rfl)
theorem g563 : .methodLink RMd 137 yMd_makeSpread ∈ wsAll := wsAll_c14 _ (List.mem_of_getElem? (i := 3) rfl)
theorem g564 : .instanceMethod yMd_makeSpread ∈ wsAll := wsAll_c14 _ (List.mem_of_getElem? (i := 4) rfl)
theorem g565 : .code yMd_makeSpread prog_11_method_27_code 10 none ∈ wsAll := wsAll_c14 _ (List.mem_of_getElem? (i := 5) rfl)
theorem g566 : .methodLink RMd 127 yMd_bagsOf ∈ wsAll := wsAll_c14 _ (List.mem_of_getElem? (i := 6) rfl)
theorem g567 : .instanceMethod yMd_bagsOf ∈ wsAll := wsAll_c14 _ (List.mem_of_getElem? (i := 7) rfl)
theorem g568 : .code yMd_bagsOf prog_11_method_26_code 3 (some .long) ∈ wsAll := wsAll_c14 _ (List.mem_of_getElem? (i := 8) rfl)
theorem g569 : .methodLink RMd 131 yMd_squaresOf ∈ wsAll := wsAll_c14 _ (List.mem_of_getElem? (i := 9) rfl)
theorem g570 : .instanceMethod yMd_squaresOf ∈ wsAll := wsAll_c14 _ (List.mem_of_getElem? (i := 10) rfl)
theorem g571 : .code yMd_squaresOf prog_11_method_18_code 8 (some .long) ∈ wsAll := wsAll_c14 _ (List.mem_of_getElem? (i := 11) rfl)
theorem g572 : .methodLink RLw 74 yMd_plan ∈ wsAll := wsAll_c14 _ (List.mem_of_getElem? (i := 12) rfl)
theorem g573 : .instanceMethod yMd_plan ∈ wsAll := wsAll_c14 _ (List.mem_of_getElem? (i := 13) rfl)
theorem g574 : .selects RMd yMd_plan yMd_plan ∈ wsAll := wsAll_c14 _ (List.mem_of_getElem? (i := 14) rfl)
theorem g575 : .code yMd_plan prog_11_method_33_code 10 (some .long) ∈ wsAll := wsAll_c14 _ (List.mem_of_getElem? (i := 15) rfl)
theorem g576 : .constantLong RMd 141 (lZ (1000000000)) ∈ wsAll := wsAll_c14 _ (List.mem_of_getElem? (i := 16) rfl)
theorem g577 : .constantLong RMd 143 (lZ (1000)) ∈ wsAll := wsAll_c14 _ (List.mem_of_getElem? (i := 17) rfl)
theorem g578 : .methodLink RMd 149 yMd_isOwn ∈ wsAll := wsAll_c14 _ (List.mem_of_getElem? (i := 18) rfl)
theorem g579 : .instanceMethod yMd_isOwn ∈ wsAll := wsAll_c14 _ (List.mem_of_getElem? (i := 19) rfl)
theorem g580 : .code yMd_isOwn prog_11_method_32_code 5 (some .boolean) ∈ wsAll := wsAll_c14 _ (List.mem_of_getElem? (i := 20) rfl)
theorem g581 : .methodLink RMd 152 yMd_tryPlan ∈ wsAll := wsAll_c14 _ (List.mem_of_getElem? (i := 21) rfl)
theorem g582 : .instanceMethod yMd_tryPlan ∈ wsAll := wsAll_c14 _ (List.mem_of_getElem? (i := 22) rfl)
theorem g583 : .code yMd_tryPlan prog_11_method_31_code 4 none ∈ wsAll := wsAll_c14 _ (List.mem_of_getElem? (i := 23) rfl)
theorem g584 : .methodLink RMd 156 yMd_trialCost ∈ wsAll := wsAll_c14 _ (List.mem_of_getElem? (i := 24) rfl)
theorem g585 : .instanceMethod yMd_trialCost ∈ wsAll := wsAll_c14 _ (List.mem_of_getElem? (i := 25) rfl)
theorem g586 : .code yMd_trialCost prog_11_method_30_code 4 (some .long) ∈ wsAll := wsAll_c14 _ (List.mem_of_getElem? (i := 26) rfl)
theorem g587 : .methodLink RMd 159 yMd_isAtMost ∈ wsAll := wsAll_c14 _ (List.mem_of_getElem? (i := 27) rfl)
theorem g588 : .static yMd_isAtMost ∈ wsAll := wsAll_c14 _ (List.mem_of_getElem? (i := 28) rfl)
theorem g589 : .code yMd_isAtMost prog_11_method_29_code 27 (some .boolean) ∈ wsAll := wsAll_c14 _ (List.mem_of_getElem? (i := 29) rfl)
theorem g590 : .methodLink RLw 78 yMd_planned ∈ wsAll := wsAll_c14 _ (List.mem_of_getElem? (i := 30) rfl)
theorem g591 : .instanceMethod yMd_planned ∈ wsAll := wsAll_c14 _ (List.mem_of_getElem? (i := 31) rfl)
theorem g592 : .selects RMd yMd_planned yMd_planned ∈ wsAll := wsAll_c14 _ (List.mem_of_getElem? (i := 32) rfl)
theorem g593 : .code yMd_planned prog_11_method_34_code 2 (some .int) ∈ wsAll := wsAll_c14 _ (List.mem_of_getElem? (i := 33) rfl)
theorem g594 : .methodLink RLw 82 yMd_compared ∈ wsAll := wsAll_c14 _ (List.mem_of_getElem? (i := 34) rfl)
theorem g595 : .instanceMethod yMd_compared ∈ wsAll := wsAll_c14 _ (List.mem_of_getElem? (i := 35) rfl)
theorem g596 : .selects RMd yMd_compared yMd_compared ∈ wsAll := wsAll_c14 _ (List.mem_of_getElem? (i := 36) rfl)
theorem g597 : .code yMd_compared prog_11_method_37_code 16 (some .long) ∈ wsAll := wsAll_c14 _ (List.mem_of_getElem? (i := 37) rfl)
theorem g598 : .methodLink RMd 163 yMd_bagsOfYear ∈ wsAll := wsAll_c14 _ (List.mem_of_getElem? (i := 38) rfl)
theorem g599 : .instanceMethod yMd_bagsOfYear ∈ wsAll := wsAll_c14 _ (List.mem_of_getElem? (i := 39) rfl)
theorem g600 : .code yMd_bagsOfYear prog_11_method_35_code 4 (some .int) ∈ wsAll := wsAll_c15 _ (List.mem_of_getElem? (i := 0) rfl)
theorem g601 : .methodLink RMd 166 yMd_apart ∈ wsAll := wsAll_c15 _ (List.mem_of_getElem? (i := 1) rfl)
theorem g602 : .instanceMethod yMd_apart ∈ wsAll := wsAll_c15 _ (List.mem_of_getElem? (i := 2) rfl)
theorem g603 : .code yMd_apart prog_11_method_36_code 15 (some .long) ∈ wsAll := wsAll_c15 _ (List.mem_of_getElem? (i := 3) rfl)
theorem g604 : .methodLink RLw 86 yMd_joined ∈ wsAll := wsAll_c15 _ (List.mem_of_getElem? (i := 4) rfl)
theorem g605 : .instanceMethod yMd_joined ∈ wsAll := wsAll_c15 _ (List.mem_of_getElem? (i := 5) rfl)
theorem g606 : .selects RMd yMd_joined yMd_joined ∈ wsAll := wsAll_c15 _ (List.mem_of_getElem? (i := 6) rfl)
theorem g607 : .code yMd_joined prog_11_method_38_code 4 (some .boolean) ∈ wsAll := wsAll_c15 _ (List.mem_of_getElem? (i := 7) rfl)
theorem g608 : .methodLink RLw 91 yMd_repeat ∈ wsAll := wsAll_c15 _ (List.mem_of_getElem? (i := 8) rfl)
theorem g609 : .instanceMethod yMd_repeat ∈ wsAll := wsAll_c15 _ (List.mem_of_getElem? (i := 9) rfl)
theorem g610 : .selects RMd yMd_repeat yMd_repeat ∈ wsAll := wsAll_c15 _ (List.mem_of_getElem? (i := 10) rfl)
theorem g611 : .code yMd_repeat prog_11_method_39_code 5 (some .int) ∈ wsAll := wsAll_c15 _ (List.mem_of_getElem? (i := 11) rfl)
theorem g612 : .methodLink RLw 95 yMd_error ∈ wsAll := wsAll_c15 _ (List.mem_of_getElem? (i := 12) rfl)
theorem g613 : .instanceMethod yMd_error ∈ wsAll := wsAll_c15 _ (List.mem_of_getElem? (i := 13) rfl)
theorem g614 : .selects RMd yMd_error yMd_error ∈ wsAll := wsAll_c15 _ (List.mem_of_getElem? (i := 14) rfl)
theorem g615 : .code yMd_error prog_11_method_40_code 6 (some .long) ∈ wsAll := wsAll_c15 _ (List.mem_of_getElem? (i := 15) rfl)
theorem g616 : .constantLong RMd 173 (lZ (2)) ∈ wsAll := wsAll_c15 _ (List.mem_of_getElem? (i := 16) rfl)
theorem g617 : .constantLong RLw 26 (lZ (4294967295)) ∈ wsAll := wsAll_c15 _ (List.mem_of_getElem? (i := 17) rfl)
theorem n0 : .methodLinkNest RSc 9 ySt_init "StratumCounts" ∈ nwAll := List.mem_of_getElem? (i := 0) rfl
theorem n1 : .fieldLinkNest RFg 43 "StratumCounts$Strata" "sizes" "[I" "StratumCounts" ∈ nwAll := List.mem_of_getElem? (i := 1) rfl
theorem n2 : .fieldLinkNest RSc 84 "StratumCounts$Strata" "sizes" "[I" "StratumCounts" ∈ nwAll := List.mem_of_getElem? (i := 2) rfl
theorem n3 : .fieldLinkNest RPl 50 "StratumCounts$Strata" "costs" "[J" "StratumCounts" ∈ nwAll := List.mem_of_getElem? (i := 3) rfl
theorem n4 : .methodLinkNest RSc 18 yBg_init "StratumCounts" ∈ nwAll := List.mem_of_getElem? (i := 4) rfl
theorem n5 : .fieldLinkNest RFg 53 "StratumCounts$Bags" "homes" "[I" "StratumCounts" ∈ nwAll := List.mem_of_getElem? (i := 5) rfl
theorem n6 : .fieldLinkNest RCp 39 "StratumCounts$Bags" "dates" "[I" "StratumCounts" ∈ nwAll := List.mem_of_getElem? (i := 6) rfl
theorem n7 : .fieldLinkNest RCp 31 "StratumCounts$Bags" "lost" "[Z" "StratumCounts" ∈ nwAll := List.mem_of_getElem? (i := 7) rfl
theorem n8 : .fieldLinkNest RFg 56 "StratumCounts$Bags" "lost" "[Z" "StratumCounts" ∈ nwAll := List.mem_of_getElem? (i := 8) rfl
theorem n9 : .fieldLinkNest RCp 26 "StratumCounts$Bags" "made" "I" "StratumCounts" ∈ nwAll := List.mem_of_getElem? (i := 9) rfl
theorem n10 : .fieldLinkNest RFg 48 "StratumCounts$Bags" "made" "I" "StratumCounts" ∈ nwAll := List.mem_of_getElem? (i := 10) rfl
theorem n11 : .methodLinkNest RSc 25 yDr_init "StratumCounts" ∈ nwAll := List.mem_of_getElem? (i := 11) rfl
theorem n12 : .methodLinkNest RSc 34 yRp_init "StratumCounts" ∈ nwAll := List.mem_of_getElem? (i := 12) rfl
theorem n13 : .methodLinkNest RSc 41 yFg_init "StratumCounts" ∈ nwAll := List.mem_of_getElem? (i := 13) rfl
theorem n14 : .methodLinkNest RFg 26 yTm_init "StratumCounts" ∈ nwAll := List.mem_of_getElem? (i := 14) rfl
theorem n15 : .fieldLinkNest RPl 45 "StratumCounts$Figures" "numbers" "[J" "StratumCounts" ∈ nwAll := List.mem_of_getElem? (i := 15) rfl
theorem n16 : .fieldLinkNest RSc 111 "StratumCounts$Figures" "counted" "I" "StratumCounts" ∈ nwAll := List.mem_of_getElem? (i := 16) rfl
theorem n17 : .fieldLinkNest RPl 74 "StratumCounts$Figures" "total" "J" "StratumCounts" ∈ nwAll := List.mem_of_getElem? (i := 17) rfl
theorem n18 : .methodLinkNest RSc 48 yPl_init "StratumCounts" ∈ nwAll := List.mem_of_getElem? (i := 18) rfl
theorem n19 : .methodLinkNest RPl 33 yTm_init "StratumCounts" ∈ nwAll := List.mem_of_getElem? (i := 19) rfl
theorem n20 : .methodLinkNest RSc 55 yCp_init "StratumCounts" ∈ nwAll := List.mem_of_getElem? (i := 20) rfl
theorem n21 : .methodLinkNest RSc 60 ySt_add "StratumCounts" ∈ nwAll := List.mem_of_getElem? (i := 21) rfl
theorem n22 : .methodLinkNest RSc 64 ySt_setCost "StratumCounts" ∈ nwAll := List.mem_of_getElem? (i := 22) rfl
theorem n23 : .methodLinkNest RSc 68 ySt_stands "StratumCounts" ∈ nwAll := List.mem_of_getElem? (i := 23) rfl
theorem n24 : .methodLinkNest RSc 72 yBg_add "StratumCounts" ∈ nwAll := List.mem_of_getElem? (i := 24) rfl
theorem n25 : .methodLinkNest RSc 73 yBg_setGrams "StratumCounts" ∈ nwAll := List.mem_of_getElem? (i := 25) rfl
theorem n26 : .methodLinkNest RBg 34 ySc_isKind "StratumCounts" ∈ nwAll := List.mem_of_getElem? (i := 26) rfl
theorem n27 : .methodLinkNest RBg 37 ySc_isGrams "StratumCounts" ∈ nwAll := List.mem_of_getElem? (i := 27) rfl
theorem n28 : .methodLinkNest RSc 77 yBg_setYear "StratumCounts" ∈ nwAll := List.mem_of_getElem? (i := 28) rfl
theorem n29 : .methodLinkNest RSc 81 yBg_lose "StratumCounts" ∈ nwAll := List.mem_of_getElem? (i := 29) rfl
theorem n30 : .methodLinkNest RSc 88 yDr_take "StratumCounts" ∈ nwAll := List.mem_of_getElem? (i := 30) rfl
theorem n31 : .methodLinkNest RSc 92 ySt_has "StratumCounts" ∈ nwAll := List.mem_of_getElem? (i := 31) rfl
theorem n32 : .methodLinkNest RSc 95 yDr_taken "StratumCounts" ∈ nwAll := List.mem_of_getElem? (i := 32) rfl
theorem n33 : .methodLinkNest RSc 107 yFg_gather "StratumCounts" ∈ nwAll := List.mem_of_getElem? (i := 33) rfl
theorem n34 : .methodLinkNest RFg 60 yBg_gramsOf "StratumCounts" ∈ nwAll := List.mem_of_getElem? (i := 34) rfl
theorem n35 : .methodLinkNest RSc 115 yFg_tellMean "StratumCounts" ∈ nwAll := List.mem_of_getElem? (i := 35) rfl
theorem n36 : .methodLinkNest RFg 64 yTm_clear "StratumCounts" ∈ nwAll := List.mem_of_getElem? (i := 36) rfl
theorem n37 : .methodLinkNest RFg 67 yTm_set "StratumCounts" ∈ nwAll := List.mem_of_getElem? (i := 37) rfl
theorem n38 : .methodLinkNest RFg 71 yTm_common "StratumCounts" ∈ nwAll := List.mem_of_getElem? (i := 38) rfl
theorem n39 : .methodLinkNest RTm 24 ySc_leastCommon "StratumCounts" ∈ nwAll := List.mem_of_getElem? (i := 39) rfl
theorem n40 : .methodLinkNest RFg 75 yTm_sum "StratumCounts" ∈ nwAll := List.mem_of_getElem? (i := 40) rfl
theorem n41 : .methodLinkNest RFg 79 ySc_tell "StratumCounts" ∈ nwAll := List.mem_of_getElem? (i := 41) rfl
theorem n42 : .methodLinkNest RSc 119 yFg_haveSpread "StratumCounts" ∈ nwAll := List.mem_of_getElem? (i := 42) rfl
theorem n43 : .methodLinkNest RSc 123 yFg_tellSpread "StratumCounts" ∈ nwAll := List.mem_of_getElem? (i := 43) rfl
theorem n44 : .methodLinkNest RSc 130 yPl_prepare "StratumCounts" ∈ nwAll := List.mem_of_getElem? (i := 44) rfl
theorem n45 : .methodLinkNest RPl 42 yTm_clear "StratumCounts" ∈ nwAll := List.mem_of_getElem? (i := 45) rfl
theorem n46 : .methodLinkNest RPl 53 yFg_weighedScatter "StratumCounts" ∈ nwAll := List.mem_of_getElem? (i := 46) rfl
theorem n47 : .methodLinkNest RPl 57 yFg_pairs "StratumCounts" ∈ nwAll := List.mem_of_getElem? (i := 47) rfl
theorem n48 : .methodLinkNest RPl 60 yTm_set "StratumCounts" ∈ nwAll := List.mem_of_getElem? (i := 48) rfl
theorem n49 : .methodLinkNest RPl 64 yTm_common "StratumCounts" ∈ nwAll := List.mem_of_getElem? (i := 49) rfl
theorem n50 : .methodLinkNest RPl 70 yTm_scaled "StratumCounts" ∈ nwAll := List.mem_of_getElem? (i := 50) rfl
theorem n51 : .methodLinkNest RSc 134 yPl_findCheapest "StratumCounts" ∈ nwAll := List.mem_of_getElem? (i := 51) rfl
theorem n52 : .methodLinkNest RSc 138 yPl_heldBags "StratumCounts" ∈ nwAll := List.mem_of_getElem? (i := 52) rfl
theorem n53 : .methodLinkNest RSc 141 yCp_gather "StratumCounts" ∈ nwAll := List.mem_of_getElem? (i := 53) rfl
theorem n54 : .methodLinkNest RCp 35 yBg_gramsOf "StratumCounts" ∈ nwAll := List.mem_of_getElem? (i := 54) rfl
theorem n55 : .methodLinkNest RSc 144 yCp_countFarWays "StratumCounts" ∈ nwAll := List.mem_of_getElem? (i := 55) rfl
theorem n56 : .methodLinkNest RSc 147 yCp_countWays "StratumCounts" ∈ nwAll := List.mem_of_getElem? (i := 56) rfl
theorem n57 : .methodLinkNest RSc 150 ySt_merge "StratumCounts" ∈ nwAll := List.mem_of_getElem? (i := 57) rfl
theorem n58 : .methodLinkNest RSc 153 yBg_move "StratumCounts" ∈ nwAll := List.mem_of_getElem? (i := 58) rfl
theorem n59 : .methodLinkNest RSc 157 yBg_has "StratumCounts" ∈ nwAll := List.mem_of_getElem? (i := 59) rfl
theorem n60 : .methodLinkNest RSc 162 yRp_add "StratumCounts" ∈ nwAll := List.mem_of_getElem? (i := 60) rfl
theorem n61 : .methodLinkNest RSc 165 yRp_tellError "StratumCounts" ∈ nwAll := List.mem_of_getElem? (i := 61) rfl
theorem n62 : .methodLinkNest RRp 26 yBg_gramsOf "StratumCounts" ∈ nwAll := List.mem_of_getElem? (i := 62) rfl
theorem n63 : .methodLinkNest RRp 34 ySc_tell "StratumCounts" ∈ nwAll := List.mem_of_getElem? (i := 63) rfl
theorem wsAll_ok : wsAll.all goodWord = true := by decide +kernel
theorem nwAll_ok : nwAll.all cq_is = true := by decide +kernel
theorem hm {x w : Cond} (h : w ∈ wsAll) : w ∈ x :: wsAll := List.mem_cons_of_mem _ h
theorem gAll {x y : Cond} (hy : y ∈ wsAll) : GoodIn (x :: wsAll) (y :: wsAll) := by
  intro w hw
  have h1 : w ∈ wsAll := by
    rcases List.mem_cons.mp hw with h | h
    · rw [h]; exact hy
    · exact h
  exact ⟨List.mem_cons_of_mem _ h1, good_of_word (List.all_eq_true.mp wsAll_ok w h1)⟩
theorem layBg {x : Cond} : ∀ w ∈ u_ws RBg TBg 5, w ∈ x :: wsAll := by
  intro w hw
  refine hm ?_
  obtain ⟨k, hk, rfl⟩ := List.mem_map.mp hw
  have hk := List.mem_range.mp hk
  rcases (show k = 0 ∨ k = 1 ∨ k = 2 ∨ k = 3 ∨ k = 4 by omega) with rfl | rfl | rfl | rfl | rfl
  · exact g106
  · exact g107
  · exact g108
  · exact g109
  · exact g110
theorem layCp {x : Cond} : ∀ w ∈ u_ws RCp TCp 5, w ∈ x :: wsAll := by
  intro w hw
  refine hm ?_
  obtain ⟨k, hk, rfl⟩ := List.mem_map.mp hw
  have hk := List.mem_range.mp hk
  rcases (show k = 0 ∨ k = 1 ∨ k = 2 ∨ k = 3 ∨ k = 4 by omega) with rfl | rfl | rfl | rfl | rfl
  · exact g199
  · exact g200
  · exact g201
  · exact g202
  · exact g203
theorem layDr {x : Cond} : ∀ w ∈ u_ws RDr TDr 3, w ∈ x :: wsAll := by
  intro w hw
  refine hm ?_
  obtain ⟨k, hk, rfl⟩ := List.mem_map.mp hw
  have hk := List.mem_range.mp hk
  rcases (show k = 0 ∨ k = 1 ∨ k = 2 by omega) with rfl | rfl | rfl
  · exact g119
  · exact g120
  · exact g121
theorem layFg {x : Cond} : ∀ w ∈ u_ws RFg TFg 7, w ∈ x :: wsAll := by
  intro w hw
  refine hm ?_
  obtain ⟨k, hk, rfl⟩ := List.mem_map.mp hw
  have hk := List.mem_range.mp hk
  rcases (show k = 0 ∨ k = 1 ∨ k = 2 ∨ k = 3 ∨ k = 4 ∨ k = 5 ∨ k = 6 by omega) with rfl | rfl | rfl | rfl | rfl | rfl | rfl
  · exact g156
  · exact g157
  · exact g158
  · exact g159
  · exact g160
  · exact g161
  · exact g162
theorem layPl {x : Cond} : ∀ w ∈ u_ws RPl TPl 10, w ∈ x :: wsAll := by
  intro w hw
  refine hm ?_
  obtain ⟨k, hk, rfl⟩ := List.mem_map.mp hw
  have hk := List.mem_range.mp hk
  rcases (show k = 0 ∨ k = 1 ∨ k = 2 ∨ k = 3 ∨ k = 4 ∨ k = 5 ∨ k = 6 ∨ k = 7 ∨ k = 8 ∨ k = 9 by omega) with rfl | rfl | rfl | rfl | rfl | rfl | rfl | rfl | rfl | rfl
  · exact g179
  · exact g180
  · exact g181
  · exact g182
  · exact g183
  · exact g184
  · exact g185
  · exact g186
  · exact g187
  · exact g188
theorem layRp {x : Cond} : ∀ w ∈ u_ws RRp TRp 4, w ∈ x :: wsAll := by
  intro w hw
  refine hm ?_
  obtain ⟨k, hk, rfl⟩ := List.mem_map.mp hw
  have hk := List.mem_range.mp hk
  rcases (show k = 0 ∨ k = 1 ∨ k = 2 ∨ k = 3 by omega) with rfl | rfl | rfl | rfl
  · exact g131
  · exact g132
  · exact g133
  · exact g134
theorem laySt {x : Cond} : ∀ w ∈ u_ws RSt TSt 4, w ∈ x :: wsAll := by
  intro w hw
  refine hm ?_
  obtain ⟨k, hk, rfl⟩ := List.mem_map.mp hw
  have hk := List.mem_range.mp hk
  rcases (show k = 0 ∨ k = 1 ∨ k = 2 ∨ k = 3 by omega) with rfl | rfl | rfl | rfl
  · exact g89
  · exact g90
  · exact g91
  · exact g92
theorem layTm {x : Cond} : ∀ w ∈ u_ws RTm TTm 2, w ∈ x :: wsAll := by
  intro w hw
  refine hm ?_
  obtain ⟨k, hk, rfl⟩ := List.mem_map.mp hw
  have hk := List.mem_range.mp hk
  rcases (show k = 0 ∨ k = 1 by omega) with rfl | rfl
  · exact g147
  · exact g148
theorem laySc {x : Cond} : ∀ w ∈ u_ws RSc TSc 7, w ∈ x :: wsAll := by
  intro w hw
  refine hm ?_
  obtain ⟨k, hk, rfl⟩ := List.mem_map.mp hw
  have hk := List.mem_range.mp hk
  rcases (show k = 0 ∨ k = 1 ∨ k = 2 ∨ k = 3 ∨ k = 4 ∨ k = 5 ∨ k = 6 by omega) with rfl | rfl | rfl | rfl | rfl | rfl | rfl
  · exact g211
  · exact g212
  · exact g213
  · exact g214
  · exact g215
  · exact g216
  · exact g217
theorem layMd {x : Cond} : ∀ w ∈ u_ws RMd TMd 21, w ∈ x :: wsAll := by
  intro w hw
  refine hm ?_
  obtain ⟨k, hk, rfl⟩ := List.mem_map.mp hw
  have hk := List.mem_range.mp hk
  rcases (show k = 0 ∨ k = 1 ∨ k = 2 ∨ k = 3 ∨ k = 4 ∨ k = 5 ∨ k = 6 ∨ k = 7 ∨ k = 8 ∨ k = 9 ∨ k = 10 ∨ k = 11 ∨ k = 12 ∨ k = 13 ∨ k = 14 ∨ k = 15 ∨ k = 16 ∨ k = 17 ∨ k = 18 ∨ k = 19 ∨ k = 20 by omega) with rfl | rfl | rfl | rfl | rfl | rfl | rfl | rfl | rfl | rfl | rfl | rfl | rfl | rfl | rfl | rfl | rfl | rfl | rfl | rfl | rfl
  · exact g455
  · exact g456
  · exact g457
  · exact g458
  · exact g459
  · exact g460
  · exact g461
  · exact g462
  · exact g463
  · exact g464
  · exact g465
  · exact g466
  · exact g467
  · exact g468
  · exact g469
  · exact g470
  · exact g471
  · exact g472
  · exact g473
  · exact g474
  · exact g475
theorem cmBg_init : .code yBg_init cBg_init 1 none ∈ wsAll := g99
def wsBg_init : List Cond := .code yBg_init cBg_init 1 none :: wsAll
theorem cmBg_has : .code yBg_has cBg_has 2 (some .boolean) ∈ wsAll := g251
def wsBg_has : List Cond := .code yBg_has cBg_has 2 (some .boolean) :: wsAll
theorem cmBg_add : .code yBg_add cBg_add 3 (some .int) ∈ wsAll := g242
def wsBg_add : List Cond := .code yBg_add cBg_add 3 (some .int) :: wsAll
theorem cmBg_setGrams : .code yBg_setGrams cBg_setGrams 5 (some .boolean) ∈ wsAll := g248
def wsBg_setGrams : List Cond := .code yBg_setGrams cBg_setGrams 5 (some .boolean) :: wsAll
theorem cmBg_setYear : .code yBg_setYear cBg_setYear 3 (some .boolean) ∈ wsAll := g262
def wsBg_setYear : List Cond := .code yBg_setYear cBg_setYear 3 (some .boolean) :: wsAll
theorem cmBg_lose : .code yBg_lose cBg_lose 2 (some .boolean) ∈ wsAll := g268
def wsBg_lose : List Cond := .code yBg_lose cBg_lose 2 (some .boolean) :: wsAll
theorem cmBg_move : .code yBg_move cBg_move 4 none ∈ wsAll := g405
def wsBg_move : List Cond := .code yBg_move cBg_move 4 none :: wsAll
theorem cmBg_gramsOf : .code yBg_gramsOf cBg_gramsOf 3 (some .long) ∈ wsAll := g304
def wsBg_gramsOf : List Cond := .code yBg_gramsOf cBg_gramsOf 3 (some .long) :: wsAll
theorem cmCp_init : .code yCp_init cCp_init 1 none ∈ wsAll := g192
def wsCp_init : List Cond := .code yCp_init cCp_init 1 none :: wsAll
theorem cmCp_gather : .code yCp_gather cCp_gather 4 (some .boolean) ∈ wsAll := g378
def wsCp_gather : List Cond := .code yCp_gather cCp_gather 4 (some .boolean) :: wsAll
theorem cmCp_take : .code yCp_take cCp_take 4 none ∈ wsAll := g381
def wsCp_take : List Cond := .code yCp_take cCp_take 4 none :: wsAll
theorem cmCp_countWays : .code yCp_countWays cCp_countWays 4 (some .long) ∈ wsAll := g397
def wsCp_countWays : List Cond := .code yCp_countWays cCp_countWays 4 (some .long) :: wsAll
theorem cmCp_countFarWays : .code yCp_countFarWays cCp_countFarWays 6 (some .long) ∈ wsAll := g389
def wsCp_countFarWays : List Cond := .code yCp_countFarWays cCp_countFarWays 6 (some .long) :: wsAll
theorem cmCp_apart : .code yCp_apart cCp_apart 5 (some .long) ∈ wsAll := g392
def wsCp_apart : List Cond := .code yCp_apart cCp_apart 5 (some .long) :: wsAll
theorem cmDr_init : .code yDr_init cDr_init 3 none ∈ wsAll := g114
def wsDr_init : List Cond := .code yDr_init cDr_init 3 none :: wsAll
theorem cmDr_take : .code yDr_take cDr_take 6 (some .int) ∈ wsAll := g274
def wsDr_take : List Cond := .code yDr_take cDr_take 6 (some .int) :: wsAll
theorem cmDr_nextBelow : .code yDr_nextBelow cDr_nextBelow 2 (some .int) ∈ wsAll := g277
def wsDr_nextBelow : List Cond := .code yDr_nextBelow cDr_nextBelow 2 (some .int) :: wsAll
theorem cmDr_swap : .code yDr_swap cDr_swap 4 none ∈ wsAll := g282
def wsDr_swap : List Cond := .code yDr_swap cDr_swap 4 none :: wsAll
theorem cmDr_taken : .code yDr_taken cDr_taken 3 (some .int) ∈ wsAll := g288
def wsDr_taken : List Cond := .code yDr_taken cDr_taken 3 (some .int) :: wsAll
theorem cmFg_init : .code yFg_init cFg_init 1 none ∈ wsAll := g138
def wsFg_init : List Cond := .code yFg_init cFg_init 1 none :: wsAll
theorem cmFg_gather : .code yFg_gather cFg_gather 5 none ∈ wsAll := g299
def wsFg_gather : List Cond := .code yFg_gather cFg_gather 5 none :: wsAll
theorem cmFg_gatherOne : .code yFg_gatherOne cFg_gatherOne 13 none ∈ wsAll := g302
def wsFg_gatherOne : List Cond := .code yFg_gatherOne cFg_gatherOne 13 none :: wsAll
theorem cmFg_haveSpread : .code yFg_haveSpread cFg_haveSpread 2 (some .boolean) ∈ wsAll := g333
def wsFg_haveSpread : List Cond := .code yFg_haveSpread cFg_haveSpread 2 (some .boolean) :: wsAll
theorem cmFg_tellMean : .code yFg_tellMean cFg_tellMean 4 (some .long) ∈ wsAll := g306
def wsFg_tellMean : List Cond := .code yFg_tellMean cFg_tellMean 4 (some .long) :: wsAll
theorem cmFg_tellSpread : .code yFg_tellSpread cFg_tellSpread 4 (some .long) ∈ wsAll := g335
def wsFg_tellSpread : List Cond := .code yFg_tellSpread cFg_tellSpread 4 (some .long) :: wsAll
theorem cmFg_weighedScatter : .code yFg_weighedScatter cFg_weighedScatter 2 (some .long) ∈ wsAll := g338
def wsFg_weighedScatter : List Cond := .code yFg_weighedScatter cFg_weighedScatter 2 (some .long) :: wsAll
theorem cmFg_pairs : .code yFg_pairs cFg_pairs 2 (some .long) ∈ wsAll := g341
def wsFg_pairs : List Cond := .code yFg_pairs cFg_pairs 2 (some .long) :: wsAll
theorem cmPl_init : .code yPl_init cPl_init 1 none ∈ wsAll := g166
def wsPl_init : List Cond := .code yPl_init cPl_init 1 none :: wsAll
theorem cmPl_heldBags : .code yPl_heldBags cPl_heldBags 2 (some .int) ∈ wsAll := g372
def wsPl_heldBags : List Cond := .code yPl_heldBags cPl_heldBags 2 (some .int) :: wsAll
theorem cmPl_prepare : .code yPl_prepare cPl_prepare 11 none ∈ wsAll := g349
def wsPl_prepare : List Cond := .code yPl_prepare cPl_prepare 11 none :: wsAll
theorem cmPl_findCheapest : .code yPl_findCheapest cPl_findCheapest 2 (some .long) ∈ wsAll := g352
def wsPl_findCheapest : List Cond := .code yPl_findCheapest cPl_findCheapest 2 (some .long) :: wsAll
theorem cmPl_considerTrial : .code yPl_considerTrial cPl_considerTrial 4 none ∈ wsAll := g359
def wsPl_considerTrial : List Cond := .code yPl_considerTrial cPl_considerTrial 4 none :: wsAll
theorem cmPl_isNearEnough : .code yPl_isNearEnough cPl_isNearEnough 4 (some .boolean) ∈ wsAll := g362
def wsPl_isNearEnough : List Cond := .code yPl_isNearEnough cPl_isNearEnough 4 (some .boolean) :: wsAll
theorem cmPl_stepTrial : .code yPl_stepTrial cPl_stepTrial 2 (some .boolean) ∈ wsAll := g365
def wsPl_stepTrial : List Cond := .code yPl_stepTrial cPl_stepTrial 2 (some .boolean) :: wsAll
theorem cmRp_init : .code yRp_init cRp_init 1 none ∈ wsAll := g125
def wsRp_init : List Cond := .code yRp_init cRp_init 1 none :: wsAll
theorem cmRp_add : .code yRp_add cRp_add 5 (some .int) ∈ wsAll := g412
def wsRp_add : List Cond := .code yRp_add cRp_add 5 (some .int) :: wsAll
theorem cmRp_tellError : .code yRp_tellError cRp_tellError 11 (some .long) ∈ wsAll := g418
def wsRp_tellError : List Cond := .code yRp_tellError cRp_tellError 11 (some .long) :: wsAll
theorem cmSt_init : .code ySt_init cSt_init 1 none ∈ wsAll := g83
def wsSt_init : List Cond := .code ySt_init cSt_init 1 none :: wsAll
theorem cmSt_has : .code ySt_has cSt_has 2 (some .boolean) ∈ wsAll := g235
def wsSt_has : List Cond := .code ySt_has cSt_has 2 (some .boolean) :: wsAll
theorem cmSt_stands : .code ySt_stands cSt_stands 2 (some .boolean) ∈ wsAll := g232
def wsSt_stands : List Cond := .code ySt_stands cSt_stands 2 (some .boolean) :: wsAll
theorem cmSt_add : .code ySt_add cSt_add 3 (some .int) ∈ wsAll := g223
def wsSt_add : List Cond := .code ySt_add cSt_add 3 (some .int) :: wsAll
theorem cmSt_setCost : .code ySt_setCost cSt_setCost 4 (some .boolean) ∈ wsAll := g229
def wsSt_setCost : List Cond := .code ySt_setCost cSt_setCost 4 (some .boolean) :: wsAll
theorem cmSt_merge : .code ySt_merge cSt_merge 4 (some .boolean) ∈ wsAll := g403
def wsSt_merge : List Cond := .code ySt_merge cSt_merge 4 (some .boolean) :: wsAll
theorem cmTm_init : .code yTm_init cTm_init 1 none ∈ wsAll := g143
def wsTm_init : List Cond := .code yTm_init cTm_init 1 none :: wsAll
theorem cmTm_clear : .code yTm_clear cTm_clear 1 none ∈ wsAll := g308
def wsTm_clear : List Cond := .code yTm_clear cTm_clear 1 none :: wsAll
theorem cmTm_set : .code yTm_set cTm_set 6 none ∈ wsAll := g313
def wsTm_set : List Cond := .code yTm_set cTm_set 6 none :: wsAll
theorem cmTm_common : .code yTm_common cTm_common 4 (some .long) ∈ wsAll := g315
def wsTm_common : List Cond := .code yTm_common cTm_common 4 (some .long) :: wsAll
theorem cmTm_scaled : .code yTm_scaled cTm_scaled 4 (some .long) ∈ wsAll := g325
def wsTm_scaled : List Cond := .code yTm_scaled cTm_scaled 4 (some .long) :: wsAll
theorem cmTm_sum : .code yTm_sum cTm_sum 6 (some .long) ∈ wsAll := g322
def wsTm_sum : List Cond := .code yTm_sum cTm_sum 6 (some .long) :: wsAll
theorem cmSc_init : .code ySc_init cSc_init 3 none ∈ wsAll := g76
def wsSc_init : List Cond := .code ySc_init cSc_init 3 none :: wsAll
theorem cmSc_stratum : .code ySc_stratum cSc_stratum 2 (some .int) ∈ wsAll := g221
def wsSc_stratum : List Cond := .code ySc_stratum cSc_stratum 2 (some .int) :: wsAll
theorem cmSc_cost : .code ySc_cost cSc_cost 4 (some .boolean) ∈ wsAll := g227
def wsSc_cost : List Cond := .code ySc_cost cSc_cost 4 (some .boolean) :: wsAll
theorem cmSc_bag : .code ySc_bag cSc_bag 2 (some .int) ∈ wsAll := g240
def wsSc_bag : List Cond := .code ySc_bag cSc_bag 2 (some .int) :: wsAll
theorem cmSc_weight : .code ySc_weight cSc_weight 5 (some .boolean) ∈ wsAll := g246
def wsSc_weight : List Cond := .code ySc_weight cSc_weight 5 (some .boolean) :: wsAll
theorem cmSc_year : .code ySc_year cSc_year 3 (some .boolean) ∈ wsAll := g260
def wsSc_year : List Cond := .code ySc_year cSc_year 3 (some .boolean) :: wsAll
theorem cmSc_missing : .code ySc_missing cSc_missing 2 (some .boolean) ∈ wsAll := g266
def wsSc_missing : List Cond := .code ySc_missing cSc_missing 2 (some .boolean) :: wsAll
theorem cmSc_draw : .code ySc_draw cSc_draw 3 (some .int) ∈ wsAll := g272
def wsSc_draw : List Cond := .code ySc_draw cSc_draw 3 (some .int) :: wsAll
theorem cmSc_drawn : .code ySc_drawn cSc_drawn 3 (some .int) ∈ wsAll := g286
def wsSc_drawn : List Cond := .code ySc_drawn cSc_drawn 3 (some .int) :: wsAll
theorem cmSc_mean : .code ySc_mean cSc_mean 3 (some .long) ∈ wsAll := g292
def wsSc_mean : List Cond := .code ySc_mean cSc_mean 3 (some .long) :: wsAll
theorem cmSc_spread : .code ySc_spread cSc_spread 3 (some .long) ∈ wsAll := g331
def wsSc_spread : List Cond := .code ySc_spread cSc_spread 3 (some .long) :: wsAll
theorem cmSc_plan : .code ySc_plan cSc_plan 6 (some .long) ∈ wsAll := g345
def wsSc_plan : List Cond := .code ySc_plan cSc_plan 6 (some .long) :: wsAll
theorem cmSc_planned : .code ySc_planned cSc_planned 2 (some .int) ∈ wsAll := g370
def wsSc_planned : List Cond := .code ySc_planned cSc_planned 2 (some .int) :: wsAll
theorem cmSc_compared : .code ySc_compared cSc_compared 3 (some .long) ∈ wsAll := g376
def wsSc_compared : List Cond := .code ySc_compared cSc_compared 3 (some .long) :: wsAll
theorem cmSc_joined : .code ySc_joined cSc_joined 3 (some .boolean) ∈ wsAll := g401
def wsSc_joined : List Cond := .code ySc_joined cSc_joined 3 (some .boolean) :: wsAll
theorem cmSc_repeat : .code ySc_repeat cSc_repeat 5 (some .int) ∈ wsAll := g409
def wsSc_repeat : List Cond := .code ySc_repeat cSc_repeat 5 (some .int) :: wsAll
theorem cmSc_error : .code ySc_error cSc_error 3 (some .long) ∈ wsAll := g416
def wsSc_error : List Cond := .code ySc_error cSc_error 3 (some .long) :: wsAll
theorem cmSc_counting : .code ySc_counting cSc_counting 1 (some .int) ∈ wsAll := g424
def wsSc_counting : List Cond := .code ySc_counting cSc_counting 1 (some .int) :: wsAll
theorem cmSc_isKind : .code ySc_isKind cSc_isKind 1 (some .boolean) ∈ wsAll := g253
def wsSc_isKind : List Cond := .code ySc_isKind cSc_isKind 1 (some .boolean) :: wsAll
theorem cmSc_isPart : .code ySc_isPart cSc_isPart 1 (some .boolean) ∈ wsAll := g296
def wsSc_isPart : List Cond := .code ySc_isPart cSc_isPart 1 (some .boolean) :: wsAll
theorem cmSc_isGrams : .code ySc_isGrams cSc_isGrams 2 (some .boolean) ∈ wsAll := g255
def wsSc_isGrams : List Cond := .code ySc_isGrams cSc_isGrams 2 (some .boolean) :: wsAll
theorem cmSc_greatestShared : .code ySc_greatestShared cSc_greatestShared 11 (some .long) ∈ wsAll := g320
def wsSc_greatestShared : List Cond := .code ySc_greatestShared cSc_greatestShared 11 (some .long) :: wsAll
theorem cmSc_leastCommon : .code ySc_leastCommon cSc_leastCommon 6 (some .long) ∈ wsAll := g317
def wsSc_leastCommon : List Cond := .code ySc_leastCommon cSc_leastCommon 6 (some .long) :: wsAll
theorem cmSc_tell : .code ySc_tell cSc_tell 7 (some .long) ∈ wsAll := g327
def wsSc_tell : List Cond := .code ySc_tell cSc_tell 7 (some .long) :: wsAll
theorem cmLw_cell : .code yLw_cell cLw_cell 2 (some .int) ∈ wsAll := g427
def wsLw_cell : List Cond := .code yLw_cell cLw_cell 2 (some .int) :: wsAll
theorem cmMd_init : .code yMd_init cMd_init 3 none ∈ wsAll := g432
def wsMd_init : List Cond := .code yMd_init cMd_init 3 none :: wsAll
theorem cmMd_isIn : .code yMd_isIn cMd_isIn 6 (some .boolean) ∈ wsAll := g483
def wsMd_isIn : List Cond := .code yMd_isIn cMd_isIn 6 (some .boolean) :: wsAll
theorem cmMd_isHere : .code yMd_isHere cMd_isHere 2 (some .boolean) ∈ wsAll := g490
def wsMd_isHere : List Cond := .code yMd_isHere cMd_isHere 2 (some .boolean) :: wsAll
theorem cmMd_isBag : .code yMd_isBag cMd_isBag 2 (some .boolean) ∈ wsAll := g502
def wsMd_isBag : List Cond := .code yMd_isBag cMd_isBag 2 (some .boolean) :: wsAll
theorem cmMd_isKind : .code yMd_isKind cMd_isKind 1 (some .boolean) ∈ wsAll := g505
def wsMd_isKind : List Cond := .code yMd_isKind cMd_isKind 1 (some .boolean) :: wsAll
theorem cmMd_stratum : .code yMd_stratum cMd_stratum 2 (some .int) ∈ wsAll := g479
def wsMd_stratum : List Cond := .code yMd_stratum cMd_stratum 2 (some .int) :: wsAll
theorem cmMd_cost : .code yMd_cost cMd_cost 4 (some .boolean) ∈ wsAll := g487
def wsMd_cost : List Cond := .code yMd_cost cMd_cost 4 (some .boolean) :: wsAll
theorem cmMd_bag : .code yMd_bag cMd_bag 2 (some .int) ∈ wsAll := g495
def wsMd_bag : List Cond := .code yMd_bag cMd_bag 2 (some .int) :: wsAll
theorem cmMd_weight : .code yMd_weight cMd_weight 5 (some .boolean) ∈ wsAll := g499
def wsMd_weight : List Cond := .code yMd_weight cMd_weight 5 (some .boolean) :: wsAll
theorem cmMd_year : .code yMd_year cMd_year 3 (some .boolean) ∈ wsAll := g510
def wsMd_year : List Cond := .code yMd_year cMd_year 3 (some .boolean) :: wsAll
theorem cmMd_missing : .code yMd_missing cMd_missing 2 (some .boolean) ∈ wsAll := g514
def wsMd_missing : List Cond := .code yMd_missing cMd_missing 2 (some .boolean) :: wsAll
theorem cmMd_draw : .code yMd_draw cMd_draw 6 (some .int) ∈ wsAll := g518
def wsMd_draw : List Cond := .code yMd_draw cMd_draw 6 (some .int) :: wsAll
theorem cmMd_drawn : .code yMd_drawn cMd_drawn 3 (some .int) ∈ wsAll := g524
def wsMd_drawn : List Cond := .code yMd_drawn cMd_drawn 3 (some .int) :: wsAll
theorem cmMd_countOf : .code yMd_countOf cMd_countOf 4 (some .int) ∈ wsAll := g534
def wsMd_countOf : List Cond := .code yMd_countOf cMd_countOf 4 (some .int) :: wsAll
theorem cmMd_counts : .code yMd_counts cMd_counts 2 (some .boolean) ∈ wsAll := g531
def wsMd_counts : List Cond := .code yMd_counts cMd_counts 2 (some .boolean) :: wsAll
theorem cmMd_sumOf : .code yMd_sumOf cMd_sumOf 6 (some .long) ∈ wsAll := g549
def wsMd_sumOf : List Cond := .code yMd_sumOf cMd_sumOf 6 (some .long) :: wsAll
theorem cmMd_squaresOf : .code yMd_squaresOf cMd_squaresOf 8 (some .long) ∈ wsAll := g571
def wsMd_squaresOf : List Cond := .code yMd_squaresOf cMd_squaresOf 8 (some .long) :: wsAll
theorem cmMd_counting : .code yMd_counting cMd_counting 3 (some .int) ∈ wsAll := g528
def wsMd_counting : List Cond := .code yMd_counting cMd_counting 3 (some .int) :: wsAll
theorem cmMd_allSizes : .code yMd_allSizes cMd_allSizes 4 (some .long) ∈ wsAll := g552
def wsMd_allSizes : List Cond := .code yMd_allSizes cMd_allSizes 4 (some .long) :: wsAll
theorem cmMd_common : .code yMd_common cMd_common 10 (some .long) ∈ wsAll := g546
def wsMd_common : List Cond := .code yMd_common cMd_common 10 (some .long) :: wsAll
theorem cmMd_multiple : .code yMd_multiple cMd_multiple 4 (some .long) ∈ wsAll := g543
def wsMd_multiple : List Cond := .code yMd_multiple cMd_multiple 4 (some .long) :: wsAll
theorem cmMd_part : .code yMd_part cMd_part 4 (some .long) ∈ wsAll := g555
def wsMd_part : List Cond := .code yMd_part cMd_part 4 (some .long) :: wsAll
theorem cmMd_mean : .code yMd_mean cMd_mean 6 (some .long) ∈ wsAll := g538
def wsMd_mean : List Cond := .code yMd_mean cMd_mean 6 (some .long) :: wsAll
theorem cmMd_hasSpread : .code yMd_hasSpread cMd_hasSpread 4 (some .boolean) ∈ wsAll := g562
def wsMd_hasSpread : List Cond := .code yMd_hasSpread cMd_hasSpread 4 (some .boolean) :: wsAll
theorem cmMd_bagsOf : .code yMd_bagsOf cMd_bagsOf 3 (some .long) ∈ wsAll := g568
def wsMd_bagsOf : List Cond := .code yMd_bagsOf cMd_bagsOf 3 (some .long) :: wsAll
theorem cmMd_makeSpread : .code yMd_makeSpread cMd_makeSpread 10 none ∈ wsAll := g565
def wsMd_makeSpread : List Cond := .code yMd_makeSpread cMd_makeSpread 10 none :: wsAll
theorem cmMd_spread : .code yMd_spread cMd_spread 3 (some .long) ∈ wsAll := g559
def wsMd_spread : List Cond := .code yMd_spread cMd_spread 3 (some .long) :: wsAll
theorem cmMd_isAtMost : .code yMd_isAtMost cMd_isAtMost 27 (some .boolean) ∈ wsAll := g589
def wsMd_isAtMost : List Cond := .code yMd_isAtMost cMd_isAtMost 27 (some .boolean) :: wsAll
theorem cmMd_trialCost : .code yMd_trialCost cMd_trialCost 4 (some .long) ∈ wsAll := g586
def wsMd_trialCost : List Cond := .code yMd_trialCost cMd_trialCost 4 (some .long) :: wsAll
theorem cmMd_tryPlan : .code yMd_tryPlan cMd_tryPlan 4 none ∈ wsAll := g583
def wsMd_tryPlan : List Cond := .code yMd_tryPlan cMd_tryPlan 4 none :: wsAll
theorem cmMd_isOwn : .code yMd_isOwn cMd_isOwn 5 (some .boolean) ∈ wsAll := g580
def wsMd_isOwn : List Cond := .code yMd_isOwn cMd_isOwn 5 (some .boolean) :: wsAll
theorem cmMd_plan : .code yMd_plan cMd_plan 10 (some .long) ∈ wsAll := g575
def wsMd_plan : List Cond := .code yMd_plan cMd_plan 10 (some .long) :: wsAll
theorem cmMd_planned : .code yMd_planned cMd_planned 2 (some .int) ∈ wsAll := g593
def wsMd_planned : List Cond := .code yMd_planned cMd_planned 2 (some .int) :: wsAll
theorem cmMd_bagsOfYear : .code yMd_bagsOfYear cMd_bagsOfYear 4 (some .int) ∈ wsAll := g600
def wsMd_bagsOfYear : List Cond := .code yMd_bagsOfYear cMd_bagsOfYear 4 (some .int) :: wsAll
theorem cmMd_apart : .code yMd_apart cMd_apart 15 (some .long) ∈ wsAll := g603
def wsMd_apart : List Cond := .code yMd_apart cMd_apart 15 (some .long) :: wsAll
theorem cmMd_compared : .code yMd_compared cMd_compared 16 (some .long) ∈ wsAll := g597
def wsMd_compared : List Cond := .code yMd_compared cMd_compared 16 (some .long) :: wsAll
theorem cmMd_joined : .code yMd_joined cMd_joined 4 (some .boolean) ∈ wsAll := g607
def wsMd_joined : List Cond := .code yMd_joined cMd_joined 4 (some .boolean) :: wsAll
theorem cmMd_repeat : .code yMd_repeat cMd_repeat 5 (some .int) ∈ wsAll := g611
def wsMd_repeat : List Cond := .code yMd_repeat cMd_repeat 5 (some .int) :: wsAll
theorem cmMd_error : .code yMd_error cMd_error 6 (some .long) ∈ wsAll := g615
def wsMd_error : List Cond := .code yMd_error cMd_error 6 (some .long) :: wsAll
theorem cmJI_bitCount : .code yJI_bitCount cJI_bitCount 1 (some .int) ∈ wsAll := g384
def wsJI_bitCount : List Cond := .code yJI_bitCount cJI_bitCount 1 (some .int) :: wsAll
theorem cmJA_fill : .code yJA_fill cJA_fill 5 none ∈ wsAll := g311
def wsJA_fill : List Cond := .code yJA_fill cJA_fill 5 none :: wsAll
end
section
theorem dSt_init_0 : decode cSt_init 0 = .ok (.aload_n 0, 1) := by decide +kernel
theorem dSt_init_1 : decode cSt_init 1 = .ok (.invokespecial 3, 3) := by decide +kernel
theorem dSt_init_4 : decode cSt_init 4 = .ok (.aload_n 0, 1) := by decide +kernel
theorem dSt_init_5 : decode cSt_init 5 = .ok (.iconst 4, 1) := by decide +kernel
theorem dSt_init_6 : decode cSt_init 6 = .ok (.newarray .int, 2) := by decide +kernel
theorem dSt_init_8 : decode cSt_init 8 = .ok (.putfield 9, 3) := by decide +kernel
theorem dSt_init_11 : decode cSt_init 11 = .ok (.aload_n 0, 1) := by decide +kernel
theorem dSt_init_12 : decode cSt_init 12 = .ok (.iconst 4, 1) := by decide +kernel
theorem dSt_init_13 : decode cSt_init 13 = .ok (.newarray .long, 2) := by decide +kernel
theorem dSt_init_15 : decode cSt_init 15 = .ok (.putfield 15, 3) := by decide +kernel
theorem dSt_init_18 : decode cSt_init 18 = .ok (.aload_n 0, 1) := by decide +kernel
theorem dSt_init_19 : decode cSt_init 19 = .ok (.iconst 4, 1) := by decide +kernel
theorem dSt_init_20 : decode cSt_init 20 = .ok (.newarray .boolean, 2) := by decide +kernel
theorem dSt_init_22 : decode cSt_init 22 = .ok (.putfield 19, 3) := by decide +kernel
theorem dSt_init_25 : decode cSt_init 25 = .ok (.return_, 1) := by decide +kernel
theorem dSt_has_0 : decode cSt_has 0 = .ok (.iload_n 1, 1) := by decide +kernel
theorem dSt_has_1 : decode cSt_has 1 = .ok (.ifCond .lt 15, 3) := by decide +kernel
theorem dSt_has_4 : decode cSt_has 4 = .ok (.iload_n 1, 1) := by decide +kernel
theorem dSt_has_5 : decode cSt_has 5 = .ok (.aload_n 0, 1) := by decide +kernel
theorem dSt_has_6 : decode cSt_has 6 = .ok (.getfield 23, 3) := by decide +kernel
theorem dSt_has_9 : decode cSt_has 9 = .ok (.if_icmp .ge 7, 3) := by decide +kernel
theorem dSt_has_12 : decode cSt_has 12 = .ok (.iconst 1, 1) := by decide +kernel
theorem dSt_has_13 : decode cSt_has 13 = .ok (.goto 4, 3) := by decide +kernel
theorem dSt_has_16 : decode cSt_has 16 = .ok (.iconst 0, 1) := by decide +kernel
theorem dSt_has_17 : decode cSt_has 17 = .ok (.ireturn, 1) := by decide +kernel
theorem dSt_stands_0 : decode cSt_stands 0 = .ok (.aload_n 0, 1) := by decide +kernel
theorem dSt_stands_1 : decode cSt_stands 1 = .ok (.iload_n 1, 1) := by decide +kernel
theorem dSt_stands_2 : decode cSt_stands 2 = .ok (.invokevirtual 27, 3) := by decide +kernel
theorem dSt_stands_5 : decode cSt_stands 5 = .ok (.ifCond .eq 16, 3) := by decide +kernel
theorem dSt_stands_8 : decode cSt_stands 8 = .ok (.aload_n 0, 1) := by decide +kernel
theorem dSt_stands_9 : decode cSt_stands 9 = .ok (.getfield 19, 3) := by decide +kernel
theorem dSt_stands_12 : decode cSt_stands 12 = .ok (.iload_n 1, 1) := by decide +kernel
theorem dSt_stands_13 : decode cSt_stands 13 = .ok (.baload, 1) := by decide +kernel
theorem dSt_stands_14 : decode cSt_stands 14 = .ok (.ifCond .ne 7, 3) := by decide +kernel
theorem dSt_stands_17 : decode cSt_stands 17 = .ok (.iconst 1, 1) := by decide +kernel
theorem dSt_stands_18 : decode cSt_stands 18 = .ok (.goto 4, 3) := by decide +kernel
theorem dSt_stands_21 : decode cSt_stands 21 = .ok (.iconst 0, 1) := by decide +kernel
theorem dSt_stands_22 : decode cSt_stands 22 = .ok (.ireturn, 1) := by decide +kernel
theorem dSt_add_0 : decode cSt_add 0 = .ok (.aload_n 0, 1) := by decide +kernel
theorem dSt_add_1 : decode cSt_add 1 = .ok (.getfield 23, 3) := by decide +kernel
theorem dSt_add_4 : decode cSt_add 4 = .ok (.iconst 4, 1) := by decide +kernel
theorem dSt_add_5 : decode cSt_add 5 = .ok (.if_icmp .ge 14, 3) := by decide +kernel
theorem dSt_add_8 : decode cSt_add 8 = .ok (.iload_n 1, 1) := by decide +kernel
theorem dSt_add_9 : decode cSt_add 9 = .ok (.iconst 1, 1) := by decide +kernel
theorem dSt_add_10 : decode cSt_add 10 = .ok (.if_icmp .lt 9, 3) := by decide +kernel
theorem dSt_add_13 : decode cSt_add 13 = .ok (.iload_n 1, 1) := by decide +kernel
theorem dSt_add_14 : decode cSt_add 14 = .ok (.bipush 100, 2) := by decide +kernel
theorem dSt_add_16 : decode cSt_add 16 = .ok (.if_icmp .le 5, 3) := by decide +kernel
theorem dSt_add_19 : decode cSt_add 19 = .ok (.iconst (-1), 1) := by decide +kernel
theorem dSt_add_20 : decode cSt_add 20 = .ok (.ireturn, 1) := by decide +kernel
theorem dSt_add_21 : decode cSt_add 21 = .ok (.aload_n 0, 1) := by decide +kernel
theorem dSt_add_22 : decode cSt_add 22 = .ok (.getfield 23, 3) := by decide +kernel
theorem dSt_add_25 : decode cSt_add 25 = .ok (.istore_n 2, 1) := by decide +kernel
theorem dSt_add_26 : decode cSt_add 26 = .ok (.aload_n 0, 1) := by decide +kernel
theorem dSt_add_27 : decode cSt_add 27 = .ok (.getfield 9, 3) := by decide +kernel
theorem dSt_add_30 : decode cSt_add 30 = .ok (.iload_n 2, 1) := by decide +kernel
theorem dSt_add_31 : decode cSt_add 31 = .ok (.iload_n 1, 1) := by decide +kernel
theorem dSt_add_32 : decode cSt_add 32 = .ok (.iastore, 1) := by decide +kernel
theorem dSt_add_33 : decode cSt_add 33 = .ok (.aload_n 0, 1) := by decide +kernel
theorem dSt_add_34 : decode cSt_add 34 = .ok (.getfield 15, 3) := by decide +kernel
theorem dSt_add_37 : decode cSt_add 37 = .ok (.iload_n 2, 1) := by decide +kernel
theorem dSt_add_38 : decode cSt_add 38 = .ok (.lconst 1, 1) := by decide +kernel
theorem dSt_add_39 : decode cSt_add 39 = .ok (.lastore, 1) := by decide +kernel
theorem dSt_add_40 : decode cSt_add 40 = .ok (.aload_n 0, 1) := by decide +kernel
theorem dSt_add_41 : decode cSt_add 41 = .ok (.dup, 1) := by decide +kernel
theorem dSt_add_42 : decode cSt_add 42 = .ok (.getfield 23, 3) := by decide +kernel
theorem dSt_add_45 : decode cSt_add 45 = .ok (.iconst 1, 1) := by decide +kernel
theorem dSt_add_46 : decode cSt_add 46 = .ok (.iadd, 1) := by decide +kernel
theorem dSt_add_47 : decode cSt_add 47 = .ok (.putfield 23, 3) := by decide +kernel
theorem dSt_add_50 : decode cSt_add 50 = .ok (.iload_n 2, 1) := by decide +kernel
theorem dSt_add_51 : decode cSt_add 51 = .ok (.ireturn, 1) := by decide +kernel
theorem dSt_setCost_0 : decode cSt_setCost 0 = .ok (.aload_n 0, 1) := by decide +kernel
theorem dSt_setCost_1 : decode cSt_setCost 1 = .ok (.iload_n 1, 1) := by decide +kernel
theorem dSt_setCost_2 : decode cSt_setCost 2 = .ok (.invokevirtual 31, 3) := by decide +kernel
theorem dSt_setCost_5 : decode cSt_setCost 5 = .ok (.ifCond .eq 17, 3) := by decide +kernel
theorem dSt_setCost_8 : decode cSt_setCost 8 = .ok (.lload_n 2, 1) := by decide +kernel
theorem dSt_setCost_9 : decode cSt_setCost 9 = .ok (.lconst 1, 1) := by decide +kernel
theorem dSt_setCost_10 : decode cSt_setCost 10 = .ok (.lcmp, 1) := by decide +kernel
theorem dSt_setCost_11 : decode cSt_setCost 11 = .ok (.ifCond .lt 11, 3) := by decide +kernel
theorem dSt_setCost_14 : decode cSt_setCost 14 = .ok (.lload_n 2, 1) := by decide +kernel
theorem dSt_setCost_15 : decode cSt_setCost 15 = .ok (.ldc2_w 34, 3) := by decide +kernel
theorem dSt_setCost_18 : decode cSt_setCost 18 = .ok (.lcmp, 1) := by decide +kernel
theorem dSt_setCost_19 : decode cSt_setCost 19 = .ok (.ifCond .le 5, 3) := by decide +kernel
theorem dSt_setCost_22 : decode cSt_setCost 22 = .ok (.iconst 0, 1) := by decide +kernel
theorem dSt_setCost_23 : decode cSt_setCost 23 = .ok (.ireturn, 1) := by decide +kernel
theorem dSt_setCost_24 : decode cSt_setCost 24 = .ok (.aload_n 0, 1) := by decide +kernel
theorem dSt_setCost_25 : decode cSt_setCost 25 = .ok (.getfield 15, 3) := by decide +kernel
theorem dSt_setCost_28 : decode cSt_setCost 28 = .ok (.iload_n 1, 1) := by decide +kernel
theorem dSt_setCost_29 : decode cSt_setCost 29 = .ok (.lload_n 2, 1) := by decide +kernel
theorem dSt_setCost_30 : decode cSt_setCost 30 = .ok (.lastore, 1) := by decide +kernel
theorem dSt_setCost_31 : decode cSt_setCost 31 = .ok (.iconst 1, 1) := by decide +kernel
theorem dSt_setCost_32 : decode cSt_setCost 32 = .ok (.ireturn, 1) := by decide +kernel
theorem dSt_merge_0 : decode cSt_merge 0 = .ok (.aload_n 0, 1) := by decide +kernel
theorem dSt_merge_1 : decode cSt_merge 1 = .ok (.iload_n 1, 1) := by decide +kernel
theorem dSt_merge_2 : decode cSt_merge 2 = .ok (.invokevirtual 31, 3) := by decide +kernel
theorem dSt_merge_5 : decode cSt_merge 5 = .ok (.ifCond .eq 16, 3) := by decide +kernel
theorem dSt_merge_8 : decode cSt_merge 8 = .ok (.aload_n 0, 1) := by decide +kernel
theorem dSt_merge_9 : decode cSt_merge 9 = .ok (.iload_n 2, 1) := by decide +kernel
theorem dSt_merge_10 : decode cSt_merge 10 = .ok (.invokevirtual 31, 3) := by decide +kernel
theorem dSt_merge_13 : decode cSt_merge 13 = .ok (.ifCond .eq 8, 3) := by decide +kernel
theorem dSt_merge_16 : decode cSt_merge 16 = .ok (.iload_n 1, 1) := by decide +kernel
theorem dSt_merge_17 : decode cSt_merge 17 = .ok (.iload_n 2, 1) := by decide +kernel
theorem dSt_merge_18 : decode cSt_merge 18 = .ok (.if_icmp .ne 5, 3) := by decide +kernel
theorem dSt_merge_21 : decode cSt_merge 21 = .ok (.iconst 0, 1) := by decide +kernel
theorem dSt_merge_22 : decode cSt_merge 22 = .ok (.ireturn, 1) := by decide +kernel
theorem dSt_merge_23 : decode cSt_merge 23 = .ok (.aload_n 0, 1) := by decide +kernel
theorem dSt_merge_24 : decode cSt_merge 24 = .ok (.getfield 9, 3) := by decide +kernel
theorem dSt_merge_27 : decode cSt_merge 27 = .ok (.iload_n 1, 1) := by decide +kernel
theorem dSt_merge_28 : decode cSt_merge 28 = .ok (.iaload, 1) := by decide +kernel
theorem dSt_merge_29 : decode cSt_merge 29 = .ok (.aload_n 0, 1) := by decide +kernel
theorem dSt_merge_30 : decode cSt_merge 30 = .ok (.getfield 9, 3) := by decide +kernel
theorem dSt_merge_33 : decode cSt_merge 33 = .ok (.iload_n 2, 1) := by decide +kernel
theorem dSt_merge_34 : decode cSt_merge 34 = .ok (.iaload, 1) := by decide +kernel
theorem dSt_merge_35 : decode cSt_merge 35 = .ok (.iadd, 1) := by decide +kernel
theorem dSt_merge_36 : decode cSt_merge 36 = .ok (.istore_n 3, 1) := by decide +kernel
theorem dSt_merge_37 : decode cSt_merge 37 = .ok (.iload_n 3, 1) := by decide +kernel
theorem dSt_merge_38 : decode cSt_merge 38 = .ok (.bipush 100, 2) := by decide +kernel
theorem dSt_merge_40 : decode cSt_merge 40 = .ok (.if_icmp .le 5, 3) := by decide +kernel
theorem dSt_merge_43 : decode cSt_merge 43 = .ok (.iconst 0, 1) := by decide +kernel
theorem dSt_merge_44 : decode cSt_merge 44 = .ok (.ireturn, 1) := by decide +kernel
theorem dSt_merge_45 : decode cSt_merge 45 = .ok (.aload_n 0, 1) := by decide +kernel
theorem dSt_merge_46 : decode cSt_merge 46 = .ok (.getfield 9, 3) := by decide +kernel
theorem dSt_merge_49 : decode cSt_merge 49 = .ok (.iload_n 1, 1) := by decide +kernel
theorem dSt_merge_50 : decode cSt_merge 50 = .ok (.iload_n 3, 1) := by decide +kernel
theorem dSt_merge_51 : decode cSt_merge 51 = .ok (.iastore, 1) := by decide +kernel
theorem dSt_merge_52 : decode cSt_merge 52 = .ok (.aload_n 0, 1) := by decide +kernel
theorem dSt_merge_53 : decode cSt_merge 53 = .ok (.getfield 19, 3) := by decide +kernel
theorem dSt_merge_56 : decode cSt_merge 56 = .ok (.iload_n 2, 1) := by decide +kernel
theorem dSt_merge_57 : decode cSt_merge 57 = .ok (.iconst 1, 1) := by decide +kernel
theorem dSt_merge_58 : decode cSt_merge 58 = .ok (.bastore, 1) := by decide +kernel
theorem dSt_merge_59 : decode cSt_merge 59 = .ok (.iconst 1, 1) := by decide +kernel
theorem dSt_merge_60 : decode cSt_merge 60 = .ok (.ireturn, 1) := by decide +kernel
theorem dBg_init_0 : decode cBg_init 0 = .ok (.aload_n 0, 1) := by decide +kernel
theorem dBg_init_1 : decode cBg_init 1 = .ok (.invokespecial 3, 3) := by decide +kernel
theorem dBg_init_4 : decode cBg_init 4 = .ok (.aload_n 0, 1) := by decide +kernel
theorem dBg_init_5 : decode cBg_init 5 = .ok (.bipush 12, 2) := by decide +kernel
theorem dBg_init_7 : decode cBg_init 7 = .ok (.newarray .int, 2) := by decide +kernel
theorem dBg_init_9 : decode cBg_init 9 = .ok (.putfield 9, 3) := by decide +kernel
theorem dBg_init_12 : decode cBg_init 12 = .ok (.aload_n 0, 1) := by decide +kernel
theorem dBg_init_13 : decode cBg_init 13 = .ok (.bipush 12, 2) := by decide +kernel
theorem dBg_init_15 : decode cBg_init 15 = .ok (.newarray .int, 2) := by decide +kernel
theorem dBg_init_17 : decode cBg_init 17 = .ok (.putfield 15, 3) := by decide +kernel
theorem dBg_init_20 : decode cBg_init 20 = .ok (.aload_n 0, 1) := by decide +kernel
theorem dBg_init_21 : decode cBg_init 21 = .ok (.bipush 12, 2) := by decide +kernel
theorem dBg_init_23 : decode cBg_init 23 = .ok (.newarray .boolean, 2) := by decide +kernel
theorem dBg_init_25 : decode cBg_init 25 = .ok (.putfield 18, 3) := by decide +kernel
theorem dBg_init_28 : decode cBg_init 28 = .ok (.aload_n 0, 1) := by decide +kernel
theorem dBg_init_29 : decode cBg_init 29 = .ok (.bipush 36, 2) := by decide +kernel
theorem dBg_init_31 : decode cBg_init 31 = .ok (.newarray .long, 2) := by decide +kernel
theorem dBg_init_33 : decode cBg_init 33 = .ok (.putfield 22, 3) := by decide +kernel
theorem dBg_init_36 : decode cBg_init 36 = .ok (.return_, 1) := by decide +kernel
theorem dBg_has_0 : decode cBg_has 0 = .ok (.iload_n 1, 1) := by decide +kernel
theorem dBg_has_1 : decode cBg_has 1 = .ok (.ifCond .lt 15, 3) := by decide +kernel
theorem dBg_has_4 : decode cBg_has 4 = .ok (.iload_n 1, 1) := by decide +kernel
theorem dBg_has_5 : decode cBg_has 5 = .ok (.aload_n 0, 1) := by decide +kernel
theorem dBg_has_6 : decode cBg_has 6 = .ok (.getfield 26, 3) := by decide +kernel
theorem dBg_has_9 : decode cBg_has 9 = .ok (.if_icmp .ge 7, 3) := by decide +kernel
theorem dBg_has_12 : decode cBg_has 12 = .ok (.iconst 1, 1) := by decide +kernel
theorem dBg_has_13 : decode cBg_has 13 = .ok (.goto 4, 3) := by decide +kernel
theorem dBg_has_16 : decode cBg_has 16 = .ok (.iconst 0, 1) := by decide +kernel
theorem dBg_has_17 : decode cBg_has 17 = .ok (.ireturn, 1) := by decide +kernel
theorem dBg_add_0 : decode cBg_add 0 = .ok (.aload_n 0, 1) := by decide +kernel
theorem dBg_add_1 : decode cBg_add 1 = .ok (.getfield 26, 3) := by decide +kernel
theorem dBg_add_4 : decode cBg_add 4 = .ok (.bipush 12, 2) := by decide +kernel
theorem dBg_add_6 : decode cBg_add 6 = .ok (.if_icmp .lt 5, 3) := by decide +kernel
theorem dBg_add_9 : decode cBg_add 9 = .ok (.iconst (-1), 1) := by decide +kernel
theorem dBg_add_10 : decode cBg_add 10 = .ok (.ireturn, 1) := by decide +kernel
theorem dBg_add_11 : decode cBg_add 11 = .ok (.aload_n 0, 1) := by decide +kernel
theorem dBg_add_12 : decode cBg_add 12 = .ok (.getfield 26, 3) := by decide +kernel
theorem dBg_add_15 : decode cBg_add 15 = .ok (.istore_n 2, 1) := by decide +kernel
theorem dBg_add_16 : decode cBg_add 16 = .ok (.aload_n 0, 1) := by decide +kernel
theorem dBg_add_17 : decode cBg_add 17 = .ok (.getfield 9, 3) := by decide +kernel
theorem dBg_add_20 : decode cBg_add 20 = .ok (.iload_n 2, 1) := by decide +kernel
theorem dBg_add_21 : decode cBg_add 21 = .ok (.iload_n 1, 1) := by decide +kernel
theorem dBg_add_22 : decode cBg_add 22 = .ok (.iastore, 1) := by decide +kernel
theorem dBg_add_23 : decode cBg_add 23 = .ok (.aload_n 0, 1) := by decide +kernel
theorem dBg_add_24 : decode cBg_add 24 = .ok (.dup, 1) := by decide +kernel
theorem dBg_add_25 : decode cBg_add 25 = .ok (.getfield 26, 3) := by decide +kernel
theorem dBg_add_28 : decode cBg_add 28 = .ok (.iconst 1, 1) := by decide +kernel
theorem dBg_add_29 : decode cBg_add 29 = .ok (.iadd, 1) := by decide +kernel
theorem dBg_add_30 : decode cBg_add 30 = .ok (.putfield 26, 3) := by decide +kernel
theorem dBg_add_33 : decode cBg_add 33 = .ok (.iload_n 2, 1) := by decide +kernel
theorem dBg_add_34 : decode cBg_add 34 = .ok (.ireturn, 1) := by decide +kernel
theorem dBg_setGrams_0 : decode cBg_setGrams 0 = .ok (.aload_n 0, 1) := by decide +kernel
theorem dBg_setGrams_1 : decode cBg_setGrams 1 = .ok (.iload_n 1, 1) := by decide +kernel
theorem dBg_setGrams_2 : decode cBg_setGrams 2 = .ok (.invokevirtual 30, 3) := by decide +kernel
theorem dBg_setGrams_5 : decode cBg_setGrams 5 = .ok (.ifCond .eq 17, 3) := by decide +kernel
theorem dBg_setGrams_8 : decode cBg_setGrams 8 = .ok (.iload_n 2, 1) := by decide +kernel
theorem dBg_setGrams_9 : decode cBg_setGrams 9 = .ok (.invokestatic 34, 3) := by decide +kernel
theorem dBg_setGrams_12 : decode cBg_setGrams 12 = .ok (.ifCond .eq 10, 3) := by decide +kernel
theorem dBg_setGrams_15 : decode cBg_setGrams 15 = .ok (.lload_n 3, 1) := by decide +kernel
theorem dBg_setGrams_16 : decode cBg_setGrams 16 = .ok (.invokestatic 37, 3) := by decide +kernel
theorem dBg_setGrams_19 : decode cBg_setGrams 19 = .ok (.ifCond .ne 5, 3) := by decide +kernel
theorem dBg_setGrams_22 : decode cBg_setGrams 22 = .ok (.iconst 0, 1) := by decide +kernel
theorem dBg_setGrams_23 : decode cBg_setGrams 23 = .ok (.ireturn, 1) := by decide +kernel
theorem dBg_setGrams_24 : decode cBg_setGrams 24 = .ok (.aload_n 0, 1) := by decide +kernel
theorem dBg_setGrams_25 : decode cBg_setGrams 25 = .ok (.getfield 22, 3) := by decide +kernel
theorem dBg_setGrams_28 : decode cBg_setGrams 28 = .ok (.iload_n 1, 1) := by decide +kernel
theorem dBg_setGrams_29 : decode cBg_setGrams 29 = .ok (.iconst 3, 1) := by decide +kernel
theorem dBg_setGrams_30 : decode cBg_setGrams 30 = .ok (.imul, 1) := by decide +kernel
theorem dBg_setGrams_31 : decode cBg_setGrams 31 = .ok (.iload_n 2, 1) := by decide +kernel
theorem dBg_setGrams_32 : decode cBg_setGrams 32 = .ok (.iadd, 1) := by decide +kernel
theorem dBg_setGrams_33 : decode cBg_setGrams 33 = .ok (.lload_n 3, 1) := by decide +kernel
theorem dBg_setGrams_34 : decode cBg_setGrams 34 = .ok (.lastore, 1) := by decide +kernel
theorem dBg_setGrams_35 : decode cBg_setGrams 35 = .ok (.iconst 1, 1) := by decide +kernel
theorem dBg_setGrams_36 : decode cBg_setGrams 36 = .ok (.ireturn, 1) := by decide +kernel
theorem dBg_setYear_0 : decode cBg_setYear 0 = .ok (.aload_n 0, 1) := by decide +kernel
theorem dBg_setYear_1 : decode cBg_setYear 1 = .ok (.iload_n 1, 1) := by decide +kernel
theorem dBg_setYear_2 : decode cBg_setYear 2 = .ok (.invokevirtual 30, 3) := by decide +kernel
theorem dBg_setYear_5 : decode cBg_setYear 5 = .ok (.ifCond .eq 12, 3) := by decide +kernel
theorem dBg_setYear_8 : decode cBg_setYear 8 = .ok (.iload_n 2, 1) := by decide +kernel
theorem dBg_setYear_9 : decode cBg_setYear 9 = .ok (.ifCond .lt 8, 3) := by decide +kernel
theorem dBg_setYear_12 : decode cBg_setYear 12 = .ok (.iload_n 2, 1) := by decide +kernel
theorem dBg_setYear_13 : decode cBg_setYear 13 = .ok (.iconst 2, 1) := by decide +kernel
theorem dBg_setYear_14 : decode cBg_setYear 14 = .ok (.if_icmp .lt 5, 3) := by decide +kernel
theorem dBg_setYear_17 : decode cBg_setYear 17 = .ok (.iconst 0, 1) := by decide +kernel
theorem dBg_setYear_18 : decode cBg_setYear 18 = .ok (.ireturn, 1) := by decide +kernel
theorem dBg_setYear_19 : decode cBg_setYear 19 = .ok (.aload_n 0, 1) := by decide +kernel
theorem dBg_setYear_20 : decode cBg_setYear 20 = .ok (.getfield 15, 3) := by decide +kernel
theorem dBg_setYear_23 : decode cBg_setYear 23 = .ok (.iload_n 1, 1) := by decide +kernel
theorem dBg_setYear_24 : decode cBg_setYear 24 = .ok (.iload_n 2, 1) := by decide +kernel
theorem dBg_setYear_25 : decode cBg_setYear 25 = .ok (.iastore, 1) := by decide +kernel
theorem dBg_setYear_26 : decode cBg_setYear 26 = .ok (.iconst 1, 1) := by decide +kernel
theorem dBg_setYear_27 : decode cBg_setYear 27 = .ok (.ireturn, 1) := by decide +kernel
theorem dBg_lose_0 : decode cBg_lose 0 = .ok (.aload_n 0, 1) := by decide +kernel
theorem dBg_lose_1 : decode cBg_lose 1 = .ok (.iload_n 1, 1) := by decide +kernel
theorem dBg_lose_2 : decode cBg_lose 2 = .ok (.invokevirtual 30, 3) := by decide +kernel
theorem dBg_lose_5 : decode cBg_lose 5 = .ok (.ifCond .eq 12, 3) := by decide +kernel
theorem dBg_lose_8 : decode cBg_lose 8 = .ok (.aload_n 0, 1) := by decide +kernel
theorem dBg_lose_9 : decode cBg_lose 9 = .ok (.getfield 18, 3) := by decide +kernel
theorem dBg_lose_12 : decode cBg_lose 12 = .ok (.iload_n 1, 1) := by decide +kernel
theorem dBg_lose_13 : decode cBg_lose 13 = .ok (.baload, 1) := by decide +kernel
theorem dBg_lose_14 : decode cBg_lose 14 = .ok (.ifCond .eq 5, 3) := by decide +kernel
theorem dBg_lose_17 : decode cBg_lose 17 = .ok (.iconst 0, 1) := by decide +kernel
theorem dBg_lose_18 : decode cBg_lose 18 = .ok (.ireturn, 1) := by decide +kernel
theorem dBg_lose_19 : decode cBg_lose 19 = .ok (.aload_n 0, 1) := by decide +kernel
theorem dBg_lose_20 : decode cBg_lose 20 = .ok (.getfield 18, 3) := by decide +kernel
theorem dBg_lose_23 : decode cBg_lose 23 = .ok (.iload_n 1, 1) := by decide +kernel
theorem dBg_lose_24 : decode cBg_lose 24 = .ok (.iconst 1, 1) := by decide +kernel
theorem dBg_lose_25 : decode cBg_lose 25 = .ok (.bastore, 1) := by decide +kernel
theorem dBg_lose_26 : decode cBg_lose 26 = .ok (.iconst 1, 1) := by decide +kernel
theorem dBg_lose_27 : decode cBg_lose 27 = .ok (.ireturn, 1) := by decide +kernel
theorem dBg_move_0 : decode cBg_move 0 = .ok (.iconst 0, 1) := by decide +kernel
theorem dBg_move_1 : decode cBg_move 1 = .ok (.istore_n 3, 1) := by decide +kernel
theorem dBg_move_2 : decode cBg_move 2 = .ok (.iload_n 3, 1) := by decide +kernel
theorem dBg_move_3 : decode cBg_move 3 = .ok (.aload_n 0, 1) := by decide +kernel
theorem dBg_move_4 : decode cBg_move 4 = .ok (.getfield 26, 3) := by decide +kernel
theorem dBg_move_7 : decode cBg_move 7 = .ok (.if_icmp .ge 26, 3) := by decide +kernel
theorem dBg_move_10 : decode cBg_move 10 = .ok (.aload_n 0, 1) := by decide +kernel
theorem dBg_move_11 : decode cBg_move 11 = .ok (.getfield 9, 3) := by decide +kernel
theorem dBg_move_14 : decode cBg_move 14 = .ok (.iload_n 3, 1) := by decide +kernel
theorem dBg_move_15 : decode cBg_move 15 = .ok (.iaload, 1) := by decide +kernel
theorem dBg_move_16 : decode cBg_move 16 = .ok (.iload_n 1, 1) := by decide +kernel
theorem dBg_move_17 : decode cBg_move 17 = .ok (.if_icmp .ne 10, 3) := by decide +kernel
theorem dBg_move_20 : decode cBg_move 20 = .ok (.aload_n 0, 1) := by decide +kernel
theorem dBg_move_21 : decode cBg_move 21 = .ok (.getfield 9, 3) := by decide +kernel
theorem dBg_move_24 : decode cBg_move 24 = .ok (.iload_n 3, 1) := by decide +kernel
theorem dBg_move_25 : decode cBg_move 25 = .ok (.iload_n 2, 1) := by decide +kernel
theorem dBg_move_26 : decode cBg_move 26 = .ok (.iastore, 1) := by decide +kernel
theorem dBg_move_27 : decode cBg_move 27 = .ok (.iinc 3 1, 3) := by decide +kernel
theorem dBg_move_30 : decode cBg_move 30 = .ok (.goto (-28), 3) := by decide +kernel
theorem dBg_move_33 : decode cBg_move 33 = .ok (.return_, 1) := by decide +kernel
theorem dBg_gramsOf_0 : decode cBg_gramsOf 0 = .ok (.aload_n 0, 1) := by decide +kernel
theorem dBg_gramsOf_1 : decode cBg_gramsOf 1 = .ok (.iload_n 1, 1) := by decide +kernel
theorem dBg_gramsOf_2 : decode cBg_gramsOf 2 = .ok (.invokevirtual 30, 3) := by decide +kernel
theorem dBg_gramsOf_5 : decode cBg_gramsOf 5 = .ok (.ifCond .eq 23, 3) := by decide +kernel
theorem dBg_gramsOf_8 : decode cBg_gramsOf 8 = .ok (.iload_n 2, 1) := by decide +kernel
theorem dBg_gramsOf_9 : decode cBg_gramsOf 9 = .ok (.invokestatic 34, 3) := by decide +kernel
theorem dBg_gramsOf_12 : decode cBg_gramsOf 12 = .ok (.ifCond .eq 16, 3) := by decide +kernel
theorem dBg_gramsOf_15 : decode cBg_gramsOf 15 = .ok (.aload_n 0, 1) := by decide +kernel
theorem dBg_gramsOf_16 : decode cBg_gramsOf 16 = .ok (.getfield 22, 3) := by decide +kernel
theorem dBg_gramsOf_19 : decode cBg_gramsOf 19 = .ok (.iload_n 1, 1) := by decide +kernel
theorem dBg_gramsOf_20 : decode cBg_gramsOf 20 = .ok (.iconst 3, 1) := by decide +kernel
theorem dBg_gramsOf_21 : decode cBg_gramsOf 21 = .ok (.imul, 1) := by decide +kernel
theorem dBg_gramsOf_22 : decode cBg_gramsOf 22 = .ok (.iload_n 2, 1) := by decide +kernel
theorem dBg_gramsOf_23 : decode cBg_gramsOf 23 = .ok (.iadd, 1) := by decide +kernel
theorem dBg_gramsOf_24 : decode cBg_gramsOf 24 = .ok (.laload, 1) := by decide +kernel
theorem dBg_gramsOf_25 : decode cBg_gramsOf 25 = .ok (.goto 4, 3) := by decide +kernel
theorem dBg_gramsOf_28 : decode cBg_gramsOf 28 = .ok (.lconst 0, 1) := by decide +kernel
theorem dBg_gramsOf_29 : decode cBg_gramsOf 29 = .ok (.lreturn, 1) := by decide +kernel
theorem dDr_init_0 : decode cDr_init 0 = .ok (.aload_n 0, 1) := by decide +kernel
theorem dDr_init_1 : decode cDr_init 1 = .ok (.invokespecial 3, 3) := by decide +kernel
theorem dDr_init_4 : decode cDr_init 4 = .ok (.aload_n 0, 1) := by decide +kernel
theorem dDr_init_5 : decode cDr_init 5 = .ok (.sipush 400, 3) := by decide +kernel
theorem dDr_init_8 : decode cDr_init 8 = .ok (.newarray .int, 2) := by decide +kernel
theorem dDr_init_10 : decode cDr_init 10 = .ok (.putfield 9, 3) := by decide +kernel
theorem dDr_init_13 : decode cDr_init 13 = .ok (.aload_n 0, 1) := by decide +kernel
theorem dDr_init_14 : decode cDr_init 14 = .ok (.iconst 4, 1) := by decide +kernel
theorem dDr_init_15 : decode cDr_init 15 = .ok (.newarray .int, 2) := by decide +kernel
theorem dDr_init_17 : decode cDr_init 17 = .ok (.putfield 15, 3) := by decide +kernel
theorem dDr_init_20 : decode cDr_init 20 = .ok (.aload_n 0, 1) := by decide +kernel
theorem dDr_init_21 : decode cDr_init 21 = .ok (.lload_n 1, 1) := by decide +kernel
theorem dDr_init_22 : decode cDr_init 22 = .ok (.putfield 18, 3) := by decide +kernel
theorem dDr_init_25 : decode cDr_init 25 = .ok (.return_, 1) := by decide +kernel
theorem dDr_take_0 : decode cDr_take 0 = .ok (.iload_n 3, 1) := by decide +kernel
theorem dDr_take_1 : decode cDr_take 1 = .ok (.ifCond .lt 8, 3) := by decide +kernel
theorem dDr_take_4 : decode cDr_take 4 = .ok (.iload_n 3, 1) := by decide +kernel
theorem dDr_take_5 : decode cDr_take 5 = .ok (.iload_n 2, 1) := by decide +kernel
theorem dDr_take_6 : decode cDr_take 6 = .ok (.if_icmp .le 5, 3) := by decide +kernel
theorem dDr_take_9 : decode cDr_take 9 = .ok (.iconst (-1), 1) := by decide +kernel
theorem dDr_take_10 : decode cDr_take 10 = .ok (.ireturn, 1) := by decide +kernel
theorem dDr_take_11 : decode cDr_take 11 = .ok (.iload_n 1, 1) := by decide +kernel
theorem dDr_take_12 : decode cDr_take 12 = .ok (.bipush 100, 2) := by decide +kernel
theorem dDr_take_14 : decode cDr_take 14 = .ok (.imul, 1) := by decide +kernel
theorem dDr_take_15 : decode cDr_take 15 = .ok (.istore 4, 2) := by decide +kernel
theorem dDr_take_17 : decode cDr_take 17 = .ok (.iconst 0, 1) := by decide +kernel
theorem dDr_take_18 : decode cDr_take 18 = .ok (.istore 5, 2) := by decide +kernel
theorem dDr_take_20 : decode cDr_take 20 = .ok (.iload 5, 2) := by decide +kernel
theorem dDr_take_22 : decode cDr_take 22 = .ok (.iload_n 2, 1) := by decide +kernel
theorem dDr_take_23 : decode cDr_take 23 = .ok (.if_icmp .ge 21, 3) := by decide +kernel
theorem dDr_take_26 : decode cDr_take 26 = .ok (.aload_n 0, 1) := by decide +kernel
theorem dDr_take_27 : decode cDr_take 27 = .ok (.getfield 9, 3) := by decide +kernel
theorem dDr_take_30 : decode cDr_take 30 = .ok (.iload 4, 2) := by decide +kernel
theorem dDr_take_32 : decode cDr_take 32 = .ok (.iload 5, 2) := by decide +kernel
theorem dDr_take_34 : decode cDr_take 34 = .ok (.iadd, 1) := by decide +kernel
theorem dDr_take_35 : decode cDr_take 35 = .ok (.iload 5, 2) := by decide +kernel
theorem dDr_take_37 : decode cDr_take 37 = .ok (.iastore, 1) := by decide +kernel
theorem dDr_take_38 : decode cDr_take 38 = .ok (.iinc 5 1, 3) := by decide +kernel
theorem dDr_take_41 : decode cDr_take 41 = .ok (.goto (-21), 3) := by decide +kernel
theorem dDr_take_44 : decode cDr_take 44 = .ok (.iconst 0, 1) := by decide +kernel
theorem dDr_take_45 : decode cDr_take 45 = .ok (.istore 5, 2) := by decide +kernel
theorem dDr_take_47 : decode cDr_take 47 = .ok (.iload 5, 2) := by decide +kernel
theorem dDr_take_49 : decode cDr_take 49 = .ok (.iload_n 3, 1) := by decide +kernel
theorem dDr_take_50 : decode cDr_take 50 = .ok (.if_icmp .ge 38, 3) := by decide +kernel
theorem dDr_take_53 : decode cDr_take 53 = .ok (.iload 5, 2) := by decide +kernel
theorem dDr_take_55 : decode cDr_take 55 = .ok (.iload_n 2, 1) := by decide +kernel
theorem dDr_take_56 : decode cDr_take 56 = .ok (.if_icmp .ge 32, 3) := by decide +kernel
theorem dDr_take_59 : decode cDr_take 59 = .ok (.aload_n 0, 1) := by decide +kernel
theorem dDr_take_60 : decode cDr_take 60 = .ok (.iload 4, 2) := by decide +kernel
theorem dDr_take_62 : decode cDr_take 62 = .ok (.iload 5, 2) := by decide +kernel
theorem dDr_take_64 : decode cDr_take 64 = .ok (.iadd, 1) := by decide +kernel
theorem dDr_take_65 : decode cDr_take 65 = .ok (.iload 4, 2) := by decide +kernel
theorem dDr_take_67 : decode cDr_take 67 = .ok (.iload 5, 2) := by decide +kernel
theorem dDr_take_69 : decode cDr_take 69 = .ok (.iadd, 1) := by decide +kernel
theorem dDr_take_70 : decode cDr_take 70 = .ok (.aload_n 0, 1) := by decide +kernel
theorem dDr_take_71 : decode cDr_take 71 = .ok (.iload_n 2, 1) := by decide +kernel
theorem dDr_take_72 : decode cDr_take 72 = .ok (.iload 5, 2) := by decide +kernel
theorem dDr_take_74 : decode cDr_take 74 = .ok (.isub, 1) := by decide +kernel
theorem dDr_take_75 : decode cDr_take 75 = .ok (.invokevirtual 22, 3) := by decide +kernel
theorem dDr_take_78 : decode cDr_take 78 = .ok (.iadd, 1) := by decide +kernel
theorem dDr_take_79 : decode cDr_take 79 = .ok (.invokevirtual 26, 3) := by decide +kernel
theorem dDr_take_82 : decode cDr_take 82 = .ok (.iinc 5 1, 3) := by decide +kernel
theorem dDr_take_85 : decode cDr_take 85 = .ok (.goto (-38), 3) := by decide +kernel
theorem dDr_take_88 : decode cDr_take 88 = .ok (.aload_n 0, 1) := by decide +kernel
theorem dDr_take_89 : decode cDr_take 89 = .ok (.getfield 15, 3) := by decide +kernel
theorem dDr_take_92 : decode cDr_take 92 = .ok (.iload_n 1, 1) := by decide +kernel
theorem dDr_take_93 : decode cDr_take 93 = .ok (.iload_n 3, 1) := by decide +kernel
theorem dDr_take_94 : decode cDr_take 94 = .ok (.iastore, 1) := by decide +kernel
theorem dDr_take_95 : decode cDr_take 95 = .ok (.iload_n 3, 1) := by decide +kernel
theorem dDr_take_96 : decode cDr_take 96 = .ok (.ireturn, 1) := by decide +kernel
theorem dDr_nextBelow_0 : decode cDr_nextBelow 0 = .ok (.aload_n 0, 1) := by decide +kernel
theorem dDr_nextBelow_1 : decode cDr_nextBelow 1 = .ok (.aload_n 0, 1) := by decide +kernel
theorem dDr_nextBelow_2 : decode cDr_nextBelow 2 = .ok (.getfield 18, 3) := by decide +kernel
theorem dDr_nextBelow_5 : decode cDr_nextBelow 5 = .ok (.ldc2_w 30, 3) := by decide +kernel
theorem dDr_nextBelow_8 : decode cDr_nextBelow 8 = .ok (.lmul, 1) := by decide +kernel
theorem dDr_nextBelow_9 : decode cDr_nextBelow 9 = .ok (.ldc2_w 32, 3) := by decide +kernel
theorem dDr_nextBelow_12 : decode cDr_nextBelow 12 = .ok (.ladd, 1) := by decide +kernel
theorem dDr_nextBelow_13 : decode cDr_nextBelow 13 = .ok (.putfield 18, 3) := by decide +kernel
theorem dDr_nextBelow_16 : decode cDr_nextBelow 16 = .ok (.iload_n 1, 1) := by decide +kernel
theorem dDr_nextBelow_17 : decode cDr_nextBelow 17 = .ok (.iconst 1, 1) := by decide +kernel
theorem dDr_nextBelow_18 : decode cDr_nextBelow 18 = .ok (.if_icmp .ge 7, 3) := by decide +kernel
theorem dDr_nextBelow_21 : decode cDr_nextBelow 21 = .ok (.iconst 0, 1) := by decide +kernel
theorem dDr_nextBelow_22 : decode cDr_nextBelow 22 = .ok (.goto 14, 3) := by decide +kernel
theorem dDr_nextBelow_25 : decode cDr_nextBelow 25 = .ok (.aload_n 0, 1) := by decide +kernel
theorem dDr_nextBelow_26 : decode cDr_nextBelow 26 = .ok (.getfield 18, 3) := by decide +kernel
theorem dDr_nextBelow_29 : decode cDr_nextBelow 29 = .ok (.bipush 33, 2) := by decide +kernel
theorem dDr_nextBelow_31 : decode cDr_nextBelow 31 = .ok (.lushr, 1) := by decide +kernel
theorem dDr_nextBelow_32 : decode cDr_nextBelow 32 = .ok (.iload_n 1, 1) := by decide +kernel
theorem dDr_nextBelow_33 : decode cDr_nextBelow 33 = .ok (.i2l, 1) := by decide +kernel
theorem dDr_nextBelow_34 : decode cDr_nextBelow 34 = .ok (.lrem, 1) := by decide +kernel
theorem dDr_nextBelow_35 : decode cDr_nextBelow 35 = .ok (.l2i, 1) := by decide +kernel
theorem dDr_nextBelow_36 : decode cDr_nextBelow 36 = .ok (.ireturn, 1) := by decide +kernel
theorem dDr_swap_0 : decode cDr_swap 0 = .ok (.aload_n 0, 1) := by decide +kernel
theorem dDr_swap_1 : decode cDr_swap 1 = .ok (.getfield 9, 3) := by decide +kernel
theorem dDr_swap_4 : decode cDr_swap 4 = .ok (.iload_n 1, 1) := by decide +kernel
theorem dDr_swap_5 : decode cDr_swap 5 = .ok (.iaload, 1) := by decide +kernel
theorem dDr_swap_6 : decode cDr_swap 6 = .ok (.istore_n 3, 1) := by decide +kernel
theorem dDr_swap_7 : decode cDr_swap 7 = .ok (.aload_n 0, 1) := by decide +kernel
theorem dDr_swap_8 : decode cDr_swap 8 = .ok (.getfield 9, 3) := by decide +kernel
theorem dDr_swap_11 : decode cDr_swap 11 = .ok (.iload_n 1, 1) := by decide +kernel
theorem dDr_swap_12 : decode cDr_swap 12 = .ok (.aload_n 0, 1) := by decide +kernel
theorem dDr_swap_13 : decode cDr_swap 13 = .ok (.getfield 9, 3) := by decide +kernel
theorem dDr_swap_16 : decode cDr_swap 16 = .ok (.iload_n 2, 1) := by decide +kernel
theorem dDr_swap_17 : decode cDr_swap 17 = .ok (.iaload, 1) := by decide +kernel
theorem dDr_swap_18 : decode cDr_swap 18 = .ok (.iastore, 1) := by decide +kernel
theorem dDr_swap_19 : decode cDr_swap 19 = .ok (.aload_n 0, 1) := by decide +kernel
theorem dDr_swap_20 : decode cDr_swap 20 = .ok (.getfield 9, 3) := by decide +kernel
theorem dDr_swap_23 : decode cDr_swap 23 = .ok (.iload_n 2, 1) := by decide +kernel
theorem dDr_swap_24 : decode cDr_swap 24 = .ok (.iload_n 3, 1) := by decide +kernel
theorem dDr_swap_25 : decode cDr_swap 25 = .ok (.iastore, 1) := by decide +kernel
theorem dDr_swap_26 : decode cDr_swap 26 = .ok (.return_, 1) := by decide +kernel
theorem dDr_taken_0 : decode cDr_taken 0 = .ok (.iload_n 2, 1) := by decide +kernel
theorem dDr_taken_1 : decode cDr_taken 1 = .ok (.ifCond .lt 27, 3) := by decide +kernel
theorem dDr_taken_4 : decode cDr_taken 4 = .ok (.iload_n 2, 1) := by decide +kernel
theorem dDr_taken_5 : decode cDr_taken 5 = .ok (.aload_n 0, 1) := by decide +kernel
theorem dDr_taken_6 : decode cDr_taken 6 = .ok (.getfield 15, 3) := by decide +kernel
theorem dDr_taken_9 : decode cDr_taken 9 = .ok (.iload_n 1, 1) := by decide +kernel
theorem dDr_taken_10 : decode cDr_taken 10 = .ok (.iaload, 1) := by decide +kernel
theorem dDr_taken_11 : decode cDr_taken 11 = .ok (.if_icmp .ge 17, 3) := by decide +kernel
theorem dDr_taken_14 : decode cDr_taken 14 = .ok (.aload_n 0, 1) := by decide +kernel
theorem dDr_taken_15 : decode cDr_taken 15 = .ok (.getfield 9, 3) := by decide +kernel
theorem dDr_taken_18 : decode cDr_taken 18 = .ok (.iload_n 1, 1) := by decide +kernel
theorem dDr_taken_19 : decode cDr_taken 19 = .ok (.bipush 100, 2) := by decide +kernel
theorem dDr_taken_21 : decode cDr_taken 21 = .ok (.imul, 1) := by decide +kernel
theorem dDr_taken_22 : decode cDr_taken 22 = .ok (.iload_n 2, 1) := by decide +kernel
theorem dDr_taken_23 : decode cDr_taken 23 = .ok (.iadd, 1) := by decide +kernel
theorem dDr_taken_24 : decode cDr_taken 24 = .ok (.iaload, 1) := by decide +kernel
theorem dDr_taken_25 : decode cDr_taken 25 = .ok (.goto 4, 3) := by decide +kernel
theorem dDr_taken_28 : decode cDr_taken 28 = .ok (.iconst (-1), 1) := by decide +kernel
theorem dDr_taken_29 : decode cDr_taken 29 = .ok (.ireturn, 1) := by decide +kernel
theorem dRp_init_0 : decode cRp_init 0 = .ok (.aload_n 0, 1) := by decide +kernel
theorem dRp_init_1 : decode cRp_init 1 = .ok (.invokespecial 3, 3) := by decide +kernel
theorem dRp_init_4 : decode cRp_init 4 = .ok (.aload_n 0, 1) := by decide +kernel
theorem dRp_init_5 : decode cRp_init 5 = .ok (.bipush 40, 2) := by decide +kernel
theorem dRp_init_7 : decode cRp_init 7 = .ok (.newarray .int, 2) := by decide +kernel
theorem dRp_init_9 : decode cRp_init 9 = .ok (.putfield 9, 3) := by decide +kernel
theorem dRp_init_12 : decode cRp_init 12 = .ok (.aload_n 0, 1) := by decide +kernel
theorem dRp_init_13 : decode cRp_init 13 = .ok (.bipush 40, 2) := by decide +kernel
theorem dRp_init_15 : decode cRp_init 15 = .ok (.newarray .int, 2) := by decide +kernel
theorem dRp_init_17 : decode cRp_init 17 = .ok (.putfield 15, 3) := by decide +kernel
theorem dRp_init_20 : decode cRp_init 20 = .ok (.aload_n 0, 1) := by decide +kernel
theorem dRp_init_21 : decode cRp_init 21 = .ok (.bipush 40, 2) := by decide +kernel
theorem dRp_init_23 : decode cRp_init 23 = .ok (.newarray .long, 2) := by decide +kernel
theorem dRp_init_25 : decode cRp_init 25 = .ok (.putfield 18, 3) := by decide +kernel
theorem dRp_init_28 : decode cRp_init 28 = .ok (.return_, 1) := by decide +kernel
theorem dRp_add_0 : decode cRp_add 0 = .ok (.aload_n 0, 1) := by decide +kernel
theorem dRp_add_1 : decode cRp_add 1 = .ok (.getfield 22, 3) := by decide +kernel
theorem dRp_add_4 : decode cRp_add 4 = .ok (.bipush 40, 2) := by decide +kernel
theorem dRp_add_6 : decode cRp_add 6 = .ok (.if_icmp .lt 5, 3) := by decide +kernel
theorem dRp_add_9 : decode cRp_add 9 = .ok (.iconst (-1), 1) := by decide +kernel
theorem dRp_add_10 : decode cRp_add 10 = .ok (.ireturn, 1) := by decide +kernel
theorem dRp_add_11 : decode cRp_add 11 = .ok (.aload_n 0, 1) := by decide +kernel
theorem dRp_add_12 : decode cRp_add 12 = .ok (.getfield 9, 3) := by decide +kernel
theorem dRp_add_15 : decode cRp_add 15 = .ok (.aload_n 0, 1) := by decide +kernel
theorem dRp_add_16 : decode cRp_add 16 = .ok (.getfield 22, 3) := by decide +kernel
theorem dRp_add_19 : decode cRp_add 19 = .ok (.iload_n 1, 1) := by decide +kernel
theorem dRp_add_20 : decode cRp_add 20 = .ok (.iastore, 1) := by decide +kernel
theorem dRp_add_21 : decode cRp_add 21 = .ok (.aload_n 0, 1) := by decide +kernel
theorem dRp_add_22 : decode cRp_add 22 = .ok (.getfield 15, 3) := by decide +kernel
theorem dRp_add_25 : decode cRp_add 25 = .ok (.aload_n 0, 1) := by decide +kernel
theorem dRp_add_26 : decode cRp_add 26 = .ok (.getfield 22, 3) := by decide +kernel
theorem dRp_add_29 : decode cRp_add 29 = .ok (.iload_n 2, 1) := by decide +kernel
theorem dRp_add_30 : decode cRp_add 30 = .ok (.iastore, 1) := by decide +kernel
theorem dRp_add_31 : decode cRp_add 31 = .ok (.aload_n 0, 1) := by decide +kernel
theorem dRp_add_32 : decode cRp_add 32 = .ok (.getfield 18, 3) := by decide +kernel
theorem dRp_add_35 : decode cRp_add 35 = .ok (.aload_n 0, 1) := by decide +kernel
theorem dRp_add_36 : decode cRp_add 36 = .ok (.getfield 22, 3) := by decide +kernel
theorem dRp_add_39 : decode cRp_add 39 = .ok (.lload_n 3, 1) := by decide +kernel
theorem dRp_add_40 : decode cRp_add 40 = .ok (.lastore, 1) := by decide +kernel
theorem dRp_add_41 : decode cRp_add 41 = .ok (.aload_n 0, 1) := by decide +kernel
theorem dRp_add_42 : decode cRp_add 42 = .ok (.dup, 1) := by decide +kernel
theorem dRp_add_43 : decode cRp_add 43 = .ok (.getfield 22, 3) := by decide +kernel
theorem dRp_add_46 : decode cRp_add 46 = .ok (.iconst 1, 1) := by decide +kernel
theorem dRp_add_47 : decode cRp_add 47 = .ok (.iadd, 1) := by decide +kernel
theorem dRp_add_48 : decode cRp_add 48 = .ok (.putfield 22, 3) := by decide +kernel
theorem dRp_add_51 : decode cRp_add 51 = .ok (.aload_n 0, 1) := by decide +kernel
theorem dRp_add_52 : decode cRp_add 52 = .ok (.getfield 22, 3) := by decide +kernel
theorem dRp_add_55 : decode cRp_add 55 = .ok (.ireturn, 1) := by decide +kernel
theorem dRp_tellError_0 : decode cRp_tellError 0 = .ok (.lconst 0, 1) := by decide +kernel
theorem dRp_tellError_1 : decode cRp_tellError 1 = .ok (.lstore 4, 2) := by decide +kernel
theorem dRp_tellError_3 : decode cRp_tellError 3 = .ok (.lconst 0, 1) := by decide +kernel
theorem dRp_tellError_4 : decode cRp_tellError 4 = .ok (.lstore 6, 2) := by decide +kernel
theorem dRp_tellError_6 : decode cRp_tellError 6 = .ok (.iconst 0, 1) := by decide +kernel
theorem dRp_tellError_7 : decode cRp_tellError 7 = .ok (.istore 8, 2) := by decide +kernel
theorem dRp_tellError_9 : decode cRp_tellError 9 = .ok (.iload 8, 2) := by decide +kernel
theorem dRp_tellError_11 : decode cRp_tellError 11 = .ok (.aload_n 0, 1) := by decide +kernel
theorem dRp_tellError_12 : decode cRp_tellError 12 = .ok (.getfield 22, 3) := by decide +kernel
theorem dRp_tellError_15 : decode cRp_tellError 15 = .ok (.if_icmp .ge 58, 3) := by decide +kernel
theorem dRp_tellError_18 : decode cRp_tellError 18 = .ok (.aload_n 0, 1) := by decide +kernel
theorem dRp_tellError_19 : decode cRp_tellError 19 = .ok (.getfield 15, 3) := by decide +kernel
theorem dRp_tellError_22 : decode cRp_tellError 22 = .ok (.iload 8, 2) := by decide +kernel
theorem dRp_tellError_24 : decode cRp_tellError 24 = .ok (.iaload, 1) := by decide +kernel
theorem dRp_tellError_25 : decode cRp_tellError 25 = .ok (.iload_n 2, 1) := by decide +kernel
theorem dRp_tellError_26 : decode cRp_tellError 26 = .ok (.if_icmp .ne 41, 3) := by decide +kernel
theorem dRp_tellError_29 : decode cRp_tellError 29 = .ok (.aload_n 0, 1) := by decide +kernel
theorem dRp_tellError_30 : decode cRp_tellError 30 = .ok (.getfield 18, 3) := by decide +kernel
theorem dRp_tellError_33 : decode cRp_tellError 33 = .ok (.iload 8, 2) := by decide +kernel
theorem dRp_tellError_35 : decode cRp_tellError 35 = .ok (.laload, 1) := by decide +kernel
theorem dRp_tellError_36 : decode cRp_tellError 36 = .ok (.aload_n 1, 1) := by decide +kernel
theorem dRp_tellError_37 : decode cRp_tellError 37 = .ok (.aload_n 0, 1) := by decide +kernel
theorem dRp_tellError_38 : decode cRp_tellError 38 = .ok (.getfield 9, 3) := by decide +kernel
theorem dRp_tellError_41 : decode cRp_tellError 41 = .ok (.iload 8, 2) := by decide +kernel
theorem dRp_tellError_43 : decode cRp_tellError 43 = .ok (.iaload, 1) := by decide +kernel
theorem dRp_tellError_44 : decode cRp_tellError 44 = .ok (.iload_n 2, 1) := by decide +kernel
theorem dRp_tellError_45 : decode cRp_tellError 45 = .ok (.invokevirtual 26, 3) := by decide +kernel
theorem dRp_tellError_48 : decode cRp_tellError 48 = .ok (.lsub, 1) := by decide +kernel
theorem dRp_tellError_49 : decode cRp_tellError 49 = .ok (.lstore 9, 2) := by decide +kernel
theorem dRp_tellError_51 : decode cRp_tellError 51 = .ok (.lload 4, 2) := by decide +kernel
theorem dRp_tellError_53 : decode cRp_tellError 53 = .ok (.lload 9, 2) := by decide +kernel
theorem dRp_tellError_55 : decode cRp_tellError 55 = .ok (.lload 9, 2) := by decide +kernel
theorem dRp_tellError_57 : decode cRp_tellError 57 = .ok (.lmul, 1) := by decide +kernel
theorem dRp_tellError_58 : decode cRp_tellError 58 = .ok (.ladd, 1) := by decide +kernel
theorem dRp_tellError_59 : decode cRp_tellError 59 = .ok (.lstore 4, 2) := by decide +kernel
theorem dRp_tellError_61 : decode cRp_tellError 61 = .ok (.lload 6, 2) := by decide +kernel
theorem dRp_tellError_63 : decode cRp_tellError 63 = .ok (.lconst 1, 1) := by decide +kernel
theorem dRp_tellError_64 : decode cRp_tellError 64 = .ok (.ladd, 1) := by decide +kernel
theorem dRp_tellError_65 : decode cRp_tellError 65 = .ok (.lstore 6, 2) := by decide +kernel
theorem dRp_tellError_67 : decode cRp_tellError 67 = .ok (.iinc 8 1, 3) := by decide +kernel
theorem dRp_tellError_70 : decode cRp_tellError 70 = .ok (.goto (-61), 3) := by decide +kernel
theorem dRp_tellError_73 : decode cRp_tellError 73 = .ok (.lload 6, 2) := by decide +kernel
theorem dRp_tellError_75 : decode cRp_tellError 75 = .ok (.lconst 0, 1) := by decide +kernel
theorem dRp_tellError_76 : decode cRp_tellError 76 = .ok (.lcmp, 1) := by decide +kernel
theorem dRp_tellError_77 : decode cRp_tellError 77 = .ok (.ifCond .le 18, 3) := by decide +kernel
theorem dRp_tellError_80 : decode cRp_tellError 80 = .ok (.lload 4, 2) := by decide +kernel
theorem dRp_tellError_82 : decode cRp_tellError 82 = .ok (.ldc2_w 32, 3) := by decide +kernel
theorem dRp_tellError_85 : decode cRp_tellError 85 = .ok (.lload 6, 2) := by decide +kernel
theorem dRp_tellError_87 : decode cRp_tellError 87 = .ok (.lmul, 1) := by decide +kernel
theorem dRp_tellError_88 : decode cRp_tellError 88 = .ok (.iload_n 3, 1) := by decide +kernel
theorem dRp_tellError_89 : decode cRp_tellError 89 = .ok (.invokestatic 34, 3) := by decide +kernel
theorem dRp_tellError_92 : decode cRp_tellError 92 = .ok (.goto 6, 3) := by decide +kernel
theorem dRp_tellError_95 : decode cRp_tellError 95 = .ok (.ldc2_w 38, 3) := by decide +kernel
theorem dRp_tellError_98 : decode cRp_tellError 98 = .ok (.lreturn, 1) := by decide +kernel
theorem dTm_init_0 : decode cTm_init 0 = .ok (.aload_n 0, 1) := by decide +kernel
theorem dTm_init_1 : decode cTm_init 1 = .ok (.invokespecial 3, 3) := by decide +kernel
theorem dTm_init_4 : decode cTm_init 4 = .ok (.aload_n 0, 1) := by decide +kernel
theorem dTm_init_5 : decode cTm_init 5 = .ok (.iconst 4, 1) := by decide +kernel
theorem dTm_init_6 : decode cTm_init 6 = .ok (.newarray .long, 2) := by decide +kernel
theorem dTm_init_8 : decode cTm_init 8 = .ok (.putfield 9, 3) := by decide +kernel
theorem dTm_init_11 : decode cTm_init 11 = .ok (.aload_n 0, 1) := by decide +kernel
theorem dTm_init_12 : decode cTm_init 12 = .ok (.iconst 4, 1) := by decide +kernel
theorem dTm_init_13 : decode cTm_init 13 = .ok (.newarray .long, 2) := by decide +kernel
theorem dTm_init_15 : decode cTm_init 15 = .ok (.putfield 15, 3) := by decide +kernel
theorem dTm_init_18 : decode cTm_init 18 = .ok (.return_, 1) := by decide +kernel
theorem dTm_clear_0 : decode cTm_clear 0 = .ok (.aload_n 0, 1) := by decide +kernel
theorem dTm_clear_1 : decode cTm_clear 1 = .ok (.getfield 9, 3) := by decide +kernel
theorem dTm_clear_4 : decode cTm_clear 4 = .ok (.lconst 0, 1) := by decide +kernel
theorem dTm_clear_5 : decode cTm_clear 5 = .ok (.invokestatic 18, 3) := by decide +kernel
theorem dTm_clear_8 : decode cTm_clear 8 = .ok (.aload_n 0, 1) := by decide +kernel
theorem dTm_clear_9 : decode cTm_clear 9 = .ok (.getfield 15, 3) := by decide +kernel
theorem dTm_clear_12 : decode cTm_clear 12 = .ok (.lconst 1, 1) := by decide +kernel
theorem dTm_clear_13 : decode cTm_clear 13 = .ok (.invokestatic 18, 3) := by decide +kernel
theorem dTm_clear_16 : decode cTm_clear 16 = .ok (.return_, 1) := by decide +kernel
theorem dTm_set_0 : decode cTm_set 0 = .ok (.aload_n 0, 1) := by decide +kernel
theorem dTm_set_1 : decode cTm_set 1 = .ok (.getfield 9, 3) := by decide +kernel
theorem dTm_set_4 : decode cTm_set 4 = .ok (.iload_n 1, 1) := by decide +kernel
theorem dTm_set_5 : decode cTm_set 5 = .ok (.lload_n 2, 1) := by decide +kernel
theorem dTm_set_6 : decode cTm_set 6 = .ok (.lastore, 1) := by decide +kernel
theorem dTm_set_7 : decode cTm_set 7 = .ok (.aload_n 0, 1) := by decide +kernel
theorem dTm_set_8 : decode cTm_set 8 = .ok (.getfield 15, 3) := by decide +kernel
theorem dTm_set_11 : decode cTm_set 11 = .ok (.iload_n 1, 1) := by decide +kernel
theorem dTm_set_12 : decode cTm_set 12 = .ok (.lload 4, 2) := by decide +kernel
theorem dTm_set_14 : decode cTm_set 14 = .ok (.lastore, 1) := by decide +kernel
theorem dTm_set_15 : decode cTm_set 15 = .ok (.return_, 1) := by decide +kernel
theorem dTm_common_0 : decode cTm_common 0 = .ok (.lconst 1, 1) := by decide +kernel
theorem dTm_common_1 : decode cTm_common 1 = .ok (.lstore_n 1, 1) := by decide +kernel
theorem dTm_common_2 : decode cTm_common 2 = .ok (.iconst 0, 1) := by decide +kernel
theorem dTm_common_3 : decode cTm_common 3 = .ok (.istore_n 3, 1) := by decide +kernel
theorem dTm_common_4 : decode cTm_common 4 = .ok (.iload_n 3, 1) := by decide +kernel
theorem dTm_common_5 : decode cTm_common 5 = .ok (.iconst 4, 1) := by decide +kernel
theorem dTm_common_6 : decode cTm_common 6 = .ok (.if_icmp .ge 20, 3) := by decide +kernel
theorem dTm_common_9 : decode cTm_common 9 = .ok (.lload_n 1, 1) := by decide +kernel
theorem dTm_common_10 : decode cTm_common 10 = .ok (.aload_n 0, 1) := by decide +kernel
theorem dTm_common_11 : decode cTm_common 11 = .ok (.getfield 15, 3) := by decide +kernel
theorem dTm_common_14 : decode cTm_common 14 = .ok (.iload_n 3, 1) := by decide +kernel
theorem dTm_common_15 : decode cTm_common 15 = .ok (.laload, 1) := by decide +kernel
theorem dTm_common_16 : decode cTm_common 16 = .ok (.invokestatic 24, 3) := by decide +kernel
theorem dTm_common_19 : decode cTm_common 19 = .ok (.lstore_n 1, 1) := by decide +kernel
theorem dTm_common_20 : decode cTm_common 20 = .ok (.iinc 3 1, 3) := by decide +kernel
theorem dTm_common_23 : decode cTm_common 23 = .ok (.goto (-19), 3) := by decide +kernel
theorem dTm_common_26 : decode cTm_common 26 = .ok (.lload_n 1, 1) := by decide +kernel
theorem dTm_common_27 : decode cTm_common 27 = .ok (.lreturn, 1) := by decide +kernel
theorem dTm_scaled_0 : decode cTm_scaled 0 = .ok (.aload_n 0, 1) := by decide +kernel
theorem dTm_scaled_1 : decode cTm_scaled 1 = .ok (.getfield 15, 3) := by decide +kernel
theorem dTm_scaled_4 : decode cTm_scaled 4 = .ok (.iload_n 1, 1) := by decide +kernel
theorem dTm_scaled_5 : decode cTm_scaled 5 = .ok (.laload, 1) := by decide +kernel
theorem dTm_scaled_6 : decode cTm_scaled 6 = .ok (.lconst 1, 1) := by decide +kernel
theorem dTm_scaled_7 : decode cTm_scaled 7 = .ok (.lcmp, 1) := by decide +kernel
theorem dTm_scaled_8 : decode cTm_scaled 8 = .ok (.ifCond .ge 7, 3) := by decide +kernel
theorem dTm_scaled_11 : decode cTm_scaled 11 = .ok (.lconst 0, 1) := by decide +kernel
theorem dTm_scaled_12 : decode cTm_scaled 12 = .ok (.goto 18, 3) := by decide +kernel
theorem dTm_scaled_15 : decode cTm_scaled 15 = .ok (.aload_n 0, 1) := by decide +kernel
theorem dTm_scaled_16 : decode cTm_scaled 16 = .ok (.getfield 9, 3) := by decide +kernel
theorem dTm_scaled_19 : decode cTm_scaled 19 = .ok (.iload_n 1, 1) := by decide +kernel
theorem dTm_scaled_20 : decode cTm_scaled 20 = .ok (.laload, 1) := by decide +kernel
theorem dTm_scaled_21 : decode cTm_scaled 21 = .ok (.lload_n 2, 1) := by decide +kernel
theorem dTm_scaled_22 : decode cTm_scaled 22 = .ok (.aload_n 0, 1) := by decide +kernel
theorem dTm_scaled_23 : decode cTm_scaled 23 = .ok (.getfield 15, 3) := by decide +kernel
theorem dTm_scaled_26 : decode cTm_scaled 26 = .ok (.iload_n 1, 1) := by decide +kernel
theorem dTm_scaled_27 : decode cTm_scaled 27 = .ok (.laload, 1) := by decide +kernel
theorem dTm_scaled_28 : decode cTm_scaled 28 = .ok (.ldiv, 1) := by decide +kernel
theorem dTm_scaled_29 : decode cTm_scaled 29 = .ok (.lmul, 1) := by decide +kernel
theorem dTm_scaled_30 : decode cTm_scaled 30 = .ok (.lreturn, 1) := by decide +kernel
theorem dTm_sum_0 : decode cTm_sum 0 = .ok (.lconst 0, 1) := by decide +kernel
theorem dTm_sum_1 : decode cTm_sum 1 = .ok (.lstore_n 3, 1) := by decide +kernel
theorem dTm_sum_2 : decode cTm_sum 2 = .ok (.iconst 0, 1) := by decide +kernel
theorem dTm_sum_3 : decode cTm_sum 3 = .ok (.istore 5, 2) := by decide +kernel
theorem dTm_sum_5 : decode cTm_sum 5 = .ok (.iload 5, 2) := by decide +kernel
theorem dTm_sum_7 : decode cTm_sum 7 = .ok (.iconst 4, 1) := by decide +kernel
theorem dTm_sum_8 : decode cTm_sum 8 = .ok (.if_icmp .ge 19, 3) := by decide +kernel
theorem dTm_sum_11 : decode cTm_sum 11 = .ok (.lload_n 3, 1) := by decide +kernel
theorem dTm_sum_12 : decode cTm_sum 12 = .ok (.aload_n 0, 1) := by decide +kernel
theorem dTm_sum_13 : decode cTm_sum 13 = .ok (.iload 5, 2) := by decide +kernel
theorem dTm_sum_15 : decode cTm_sum 15 = .ok (.lload_n 1, 1) := by decide +kernel
theorem dTm_sum_16 : decode cTm_sum 16 = .ok (.invokevirtual 28, 3) := by decide +kernel
theorem dTm_sum_19 : decode cTm_sum 19 = .ok (.ladd, 1) := by decide +kernel
theorem dTm_sum_20 : decode cTm_sum 20 = .ok (.lstore_n 3, 1) := by decide +kernel
theorem dTm_sum_21 : decode cTm_sum 21 = .ok (.iinc 5 1, 3) := by decide +kernel
theorem dTm_sum_24 : decode cTm_sum 24 = .ok (.goto (-19), 3) := by decide +kernel
theorem dTm_sum_27 : decode cTm_sum 27 = .ok (.lload_n 3, 1) := by decide +kernel
theorem dTm_sum_28 : decode cTm_sum 28 = .ok (.lreturn, 1) := by decide +kernel
end
section
theorem dFg_init_0 : decode cFg_init 0 = .ok (.aload_n 0, 1) := by decide +kernel
theorem dFg_init_1 : decode cFg_init 1 = .ok (.invokespecial 3, 3) := by decide +kernel
theorem dFg_init_4 : decode cFg_init 4 = .ok (.aload_n 0, 1) := by decide +kernel
theorem dFg_init_5 : decode cFg_init 5 = .ok (.iconst 4, 1) := by decide +kernel
theorem dFg_init_6 : decode cFg_init 6 = .ok (.newarray .long, 2) := by decide +kernel
theorem dFg_init_8 : decode cFg_init 8 = .ok (.putfield 9, 3) := by decide +kernel
theorem dFg_init_11 : decode cFg_init 11 = .ok (.aload_n 0, 1) := by decide +kernel
theorem dFg_init_12 : decode cFg_init 12 = .ok (.iconst 4, 1) := by decide +kernel
theorem dFg_init_13 : decode cFg_init 13 = .ok (.newarray .long, 2) := by decide +kernel
theorem dFg_init_15 : decode cFg_init 15 = .ok (.putfield 15, 3) := by decide +kernel
theorem dFg_init_18 : decode cFg_init 18 = .ok (.aload_n 0, 1) := by decide +kernel
theorem dFg_init_19 : decode cFg_init 19 = .ok (.iconst 4, 1) := by decide +kernel
theorem dFg_init_20 : decode cFg_init 20 = .ok (.newarray .long, 2) := by decide +kernel
theorem dFg_init_22 : decode cFg_init 22 = .ok (.putfield 18, 3) := by decide +kernel
theorem dFg_init_25 : decode cFg_init 25 = .ok (.aload_n 0, 1) := by decide +kernel
theorem dFg_init_26 : decode cFg_init 26 = .ok (.iconst 4, 1) := by decide +kernel
theorem dFg_init_27 : decode cFg_init 27 = .ok (.newarray .long, 2) := by decide +kernel
theorem dFg_init_29 : decode cFg_init 29 = .ok (.putfield 21, 3) := by decide +kernel
theorem dFg_init_32 : decode cFg_init 32 = .ok (.aload_n 0, 1) := by decide +kernel
theorem dFg_init_33 : decode cFg_init 33 = .ok (.new 24, 3) := by decide +kernel
theorem dFg_init_36 : decode cFg_init 36 = .ok (.dup, 1) := by decide +kernel
theorem dFg_init_37 : decode cFg_init 37 = .ok (.invokespecial 26, 3) := by decide +kernel
theorem dFg_init_40 : decode cFg_init 40 = .ok (.putfield 27, 3) := by decide +kernel
theorem dFg_init_43 : decode cFg_init 43 = .ok (.return_, 1) := by decide +kernel
theorem dFg_gather_0 : decode cFg_gather 0 = .ok (.aload_n 0, 1) := by decide +kernel
theorem dFg_gather_1 : decode cFg_gather 1 = .ok (.iconst 0, 1) := by decide +kernel
theorem dFg_gather_2 : decode cFg_gather 2 = .ok (.putfield 31, 3) := by decide +kernel
theorem dFg_gather_5 : decode cFg_gather 5 = .ok (.aload_n 0, 1) := by decide +kernel
theorem dFg_gather_6 : decode cFg_gather 6 = .ok (.lconst 0, 1) := by decide +kernel
theorem dFg_gather_7 : decode cFg_gather 7 = .ok (.putfield 35, 3) := by decide +kernel
theorem dFg_gather_10 : decode cFg_gather 10 = .ok (.iconst 0, 1) := by decide +kernel
theorem dFg_gather_11 : decode cFg_gather 11 = .ok (.istore 4, 2) := by decide +kernel
theorem dFg_gather_13 : decode cFg_gather 13 = .ok (.iload 4, 2) := by decide +kernel
theorem dFg_gather_15 : decode cFg_gather 15 = .ok (.iconst 4, 1) := by decide +kernel
theorem dFg_gather_16 : decode cFg_gather 16 = .ok (.if_icmp .ge 70, 3) := by decide +kernel
theorem dFg_gather_19 : decode cFg_gather 19 = .ok (.aload_n 0, 1) := by decide +kernel
theorem dFg_gather_20 : decode cFg_gather 20 = .ok (.iload 4, 2) := by decide +kernel
theorem dFg_gather_22 : decode cFg_gather 22 = .ok (.aload_n 2, 1) := by decide +kernel
theorem dFg_gather_23 : decode cFg_gather 23 = .ok (.iload_n 3, 1) := by decide +kernel
theorem dFg_gather_24 : decode cFg_gather 24 = .ok (.invokevirtual 39, 3) := by decide +kernel
theorem dFg_gather_27 : decode cFg_gather 27 = .ok (.aload_n 0, 1) := by decide +kernel
theorem dFg_gather_28 : decode cFg_gather 28 = .ok (.getfield 9, 3) := by decide +kernel
theorem dFg_gather_31 : decode cFg_gather 31 = .ok (.iload 4, 2) := by decide +kernel
theorem dFg_gather_33 : decode cFg_gather 33 = .ok (.aload_n 1, 1) := by decide +kernel
theorem dFg_gather_34 : decode cFg_gather 34 = .ok (.getfield 43, 3) := by decide +kernel
theorem dFg_gather_37 : decode cFg_gather 37 = .ok (.iload 4, 2) := by decide +kernel
theorem dFg_gather_39 : decode cFg_gather 39 = .ok (.iaload, 1) := by decide +kernel
theorem dFg_gather_40 : decode cFg_gather 40 = .ok (.i2l, 1) := by decide +kernel
theorem dFg_gather_41 : decode cFg_gather 41 = .ok (.lastore, 1) := by decide +kernel
theorem dFg_gather_42 : decode cFg_gather 42 = .ok (.aload_n 0, 1) := by decide +kernel
theorem dFg_gather_43 : decode cFg_gather 43 = .ok (.getfield 15, 3) := by decide +kernel
theorem dFg_gather_46 : decode cFg_gather 46 = .ok (.iload 4, 2) := by decide +kernel
theorem dFg_gather_48 : decode cFg_gather 48 = .ok (.laload, 1) := by decide +kernel
theorem dFg_gather_49 : decode cFg_gather 49 = .ok (.lconst 0, 1) := by decide +kernel
theorem dFg_gather_50 : decode cFg_gather 50 = .ok (.lcmp, 1) := by decide +kernel
theorem dFg_gather_51 : decode cFg_gather 51 = .ok (.ifCond .le 29, 3) := by decide +kernel
theorem dFg_gather_54 : decode cFg_gather 54 = .ok (.aload_n 0, 1) := by decide +kernel
theorem dFg_gather_55 : decode cFg_gather 55 = .ok (.dup, 1) := by decide +kernel
theorem dFg_gather_56 : decode cFg_gather 56 = .ok (.getfield 31, 3) := by decide +kernel
theorem dFg_gather_59 : decode cFg_gather 59 = .ok (.iconst 1, 1) := by decide +kernel
theorem dFg_gather_60 : decode cFg_gather 60 = .ok (.iadd, 1) := by decide +kernel
theorem dFg_gather_61 : decode cFg_gather 61 = .ok (.putfield 31, 3) := by decide +kernel
theorem dFg_gather_64 : decode cFg_gather 64 = .ok (.aload_n 0, 1) := by decide +kernel
theorem dFg_gather_65 : decode cFg_gather 65 = .ok (.dup, 1) := by decide +kernel
theorem dFg_gather_66 : decode cFg_gather 66 = .ok (.getfield 35, 3) := by decide +kernel
theorem dFg_gather_69 : decode cFg_gather 69 = .ok (.aload_n 0, 1) := by decide +kernel
theorem dFg_gather_70 : decode cFg_gather 70 = .ok (.getfield 9, 3) := by decide +kernel
theorem dFg_gather_73 : decode cFg_gather 73 = .ok (.iload 4, 2) := by decide +kernel
theorem dFg_gather_75 : decode cFg_gather 75 = .ok (.laload, 1) := by decide +kernel
theorem dFg_gather_76 : decode cFg_gather 76 = .ok (.ladd, 1) := by decide +kernel
theorem dFg_gather_77 : decode cFg_gather 77 = .ok (.putfield 35, 3) := by decide +kernel
theorem dFg_gather_80 : decode cFg_gather 80 = .ok (.iinc 4 1, 3) := by decide +kernel
theorem dFg_gather_83 : decode cFg_gather 83 = .ok (.goto (-70), 3) := by decide +kernel
theorem dFg_gather_86 : decode cFg_gather 86 = .ok (.return_, 1) := by decide +kernel
theorem dFg_gatherOne_0 : decode cFg_gatherOne 0 = .ok (.lconst 0, 1) := by decide +kernel
theorem dFg_gatherOne_1 : decode cFg_gatherOne 1 = .ok (.lstore 4, 2) := by decide +kernel
theorem dFg_gatherOne_3 : decode cFg_gatherOne 3 = .ok (.lconst 0, 1) := by decide +kernel
theorem dFg_gatherOne_4 : decode cFg_gatherOne 4 = .ok (.lstore 6, 2) := by decide +kernel
theorem dFg_gatherOne_6 : decode cFg_gatherOne 6 = .ok (.lconst 0, 1) := by decide +kernel
theorem dFg_gatherOne_7 : decode cFg_gatherOne 7 = .ok (.lstore 8, 2) := by decide +kernel
theorem dFg_gatherOne_9 : decode cFg_gatherOne 9 = .ok (.iconst 0, 1) := by decide +kernel
theorem dFg_gatherOne_10 : decode cFg_gatherOne 10 = .ok (.istore 10, 2) := by decide +kernel
theorem dFg_gatherOne_12 : decode cFg_gatherOne 12 = .ok (.iload 10, 2) := by decide +kernel
theorem dFg_gatherOne_14 : decode cFg_gatherOne 14 = .ok (.aload_n 2, 1) := by decide +kernel
theorem dFg_gatherOne_15 : decode cFg_gatherOne 15 = .ok (.getfield 48, 3) := by decide +kernel
theorem dFg_gatherOne_18 : decode cFg_gatherOne 18 = .ok (.if_icmp .ge 62, 3) := by decide +kernel
theorem dFg_gatherOne_21 : decode cFg_gatherOne 21 = .ok (.aload_n 2, 1) := by decide +kernel
theorem dFg_gatherOne_22 : decode cFg_gatherOne 22 = .ok (.getfield 53, 3) := by decide +kernel
theorem dFg_gatherOne_25 : decode cFg_gatherOne 25 = .ok (.iload 10, 2) := by decide +kernel
theorem dFg_gatherOne_27 : decode cFg_gatherOne 27 = .ok (.iaload, 1) := by decide +kernel
theorem dFg_gatherOne_28 : decode cFg_gatherOne 28 = .ok (.iload_n 1, 1) := by decide +kernel
theorem dFg_gatherOne_29 : decode cFg_gatherOne 29 = .ok (.if_icmp .ne 45, 3) := by decide +kernel
theorem dFg_gatherOne_32 : decode cFg_gatherOne 32 = .ok (.aload_n 2, 1) := by decide +kernel
theorem dFg_gatherOne_33 : decode cFg_gatherOne 33 = .ok (.getfield 56, 3) := by decide +kernel
theorem dFg_gatherOne_36 : decode cFg_gatherOne 36 = .ok (.iload 10, 2) := by decide +kernel
theorem dFg_gatherOne_38 : decode cFg_gatherOne 38 = .ok (.baload, 1) := by decide +kernel
theorem dFg_gatherOne_39 : decode cFg_gatherOne 39 = .ok (.ifCond .ne 35, 3) := by decide +kernel
theorem dFg_gatherOne_42 : decode cFg_gatherOne 42 = .ok (.aload_n 2, 1) := by decide +kernel
theorem dFg_gatherOne_43 : decode cFg_gatherOne 43 = .ok (.iload 10, 2) := by decide +kernel
theorem dFg_gatherOne_45 : decode cFg_gatherOne 45 = .ok (.iload_n 3, 1) := by decide +kernel
theorem dFg_gatherOne_46 : decode cFg_gatherOne 46 = .ok (.invokevirtual 60, 3) := by decide +kernel
theorem dFg_gatherOne_49 : decode cFg_gatherOne 49 = .ok (.lstore 11, 2) := by decide +kernel
theorem dFg_gatherOne_51 : decode cFg_gatherOne 51 = .ok (.lload 4, 2) := by decide +kernel
theorem dFg_gatherOne_53 : decode cFg_gatherOne 53 = .ok (.lconst 1, 1) := by decide +kernel
theorem dFg_gatherOne_54 : decode cFg_gatherOne 54 = .ok (.ladd, 1) := by decide +kernel
theorem dFg_gatherOne_55 : decode cFg_gatherOne 55 = .ok (.lstore 4, 2) := by decide +kernel
theorem dFg_gatherOne_57 : decode cFg_gatherOne 57 = .ok (.lload 6, 2) := by decide +kernel
theorem dFg_gatherOne_59 : decode cFg_gatherOne 59 = .ok (.lload 11, 2) := by decide +kernel
theorem dFg_gatherOne_61 : decode cFg_gatherOne 61 = .ok (.ladd, 1) := by decide +kernel
theorem dFg_gatherOne_62 : decode cFg_gatherOne 62 = .ok (.lstore 6, 2) := by decide +kernel
theorem dFg_gatherOne_64 : decode cFg_gatherOne 64 = .ok (.lload 8, 2) := by decide +kernel
theorem dFg_gatherOne_66 : decode cFg_gatherOne 66 = .ok (.lload 11, 2) := by decide +kernel
theorem dFg_gatherOne_68 : decode cFg_gatherOne 68 = .ok (.lload 11, 2) := by decide +kernel
theorem dFg_gatherOne_70 : decode cFg_gatherOne 70 = .ok (.lmul, 1) := by decide +kernel
theorem dFg_gatherOne_71 : decode cFg_gatherOne 71 = .ok (.ladd, 1) := by decide +kernel
theorem dFg_gatherOne_72 : decode cFg_gatherOne 72 = .ok (.lstore 8, 2) := by decide +kernel
theorem dFg_gatherOne_74 : decode cFg_gatherOne 74 = .ok (.iinc 10 1, 3) := by decide +kernel
theorem dFg_gatherOne_77 : decode cFg_gatherOne 77 = .ok (.goto (-65), 3) := by decide +kernel
theorem dFg_gatherOne_80 : decode cFg_gatherOne 80 = .ok (.aload_n 0, 1) := by decide +kernel
theorem dFg_gatherOne_81 : decode cFg_gatherOne 81 = .ok (.getfield 15, 3) := by decide +kernel
theorem dFg_gatherOne_84 : decode cFg_gatherOne 84 = .ok (.iload_n 1, 1) := by decide +kernel
theorem dFg_gatherOne_85 : decode cFg_gatherOne 85 = .ok (.lload 4, 2) := by decide +kernel
theorem dFg_gatherOne_87 : decode cFg_gatherOne 87 = .ok (.lastore, 1) := by decide +kernel
theorem dFg_gatherOne_88 : decode cFg_gatherOne 88 = .ok (.aload_n 0, 1) := by decide +kernel
theorem dFg_gatherOne_89 : decode cFg_gatherOne 89 = .ok (.getfield 18, 3) := by decide +kernel
theorem dFg_gatherOne_92 : decode cFg_gatherOne 92 = .ok (.iload_n 1, 1) := by decide +kernel
theorem dFg_gatherOne_93 : decode cFg_gatherOne 93 = .ok (.lload 6, 2) := by decide +kernel
theorem dFg_gatherOne_95 : decode cFg_gatherOne 95 = .ok (.lastore, 1) := by decide +kernel
theorem dFg_gatherOne_96 : decode cFg_gatherOne 96 = .ok (.aload_n 0, 1) := by decide +kernel
theorem dFg_gatherOne_97 : decode cFg_gatherOne 97 = .ok (.getfield 21, 3) := by decide +kernel
theorem dFg_gatherOne_100 : decode cFg_gatherOne 100 = .ok (.iload_n 1, 1) := by decide +kernel
theorem dFg_gatherOne_101 : decode cFg_gatherOne 101 = .ok (.lload 4, 2) := by decide +kernel
theorem dFg_gatherOne_103 : decode cFg_gatherOne 103 = .ok (.lload 8, 2) := by decide +kernel
theorem dFg_gatherOne_105 : decode cFg_gatherOne 105 = .ok (.lmul, 1) := by decide +kernel
theorem dFg_gatherOne_106 : decode cFg_gatherOne 106 = .ok (.lload 6, 2) := by decide +kernel
theorem dFg_gatherOne_108 : decode cFg_gatherOne 108 = .ok (.lload 6, 2) := by decide +kernel
theorem dFg_gatherOne_110 : decode cFg_gatherOne 110 = .ok (.lmul, 1) := by decide +kernel
theorem dFg_gatherOne_111 : decode cFg_gatherOne 111 = .ok (.lsub, 1) := by decide +kernel
theorem dFg_gatherOne_112 : decode cFg_gatherOne 112 = .ok (.lastore, 1) := by decide +kernel
theorem dFg_gatherOne_113 : decode cFg_gatherOne 113 = .ok (.return_, 1) := by decide +kernel
theorem dFg_haveSpread_0 : decode cFg_haveSpread 0 = .ok (.iconst 0, 1) := by decide +kernel
theorem dFg_haveSpread_1 : decode cFg_haveSpread 1 = .ok (.istore_n 1, 1) := by decide +kernel
theorem dFg_haveSpread_2 : decode cFg_haveSpread 2 = .ok (.iload_n 1, 1) := by decide +kernel
theorem dFg_haveSpread_3 : decode cFg_haveSpread 3 = .ok (.iconst 4, 1) := by decide +kernel
theorem dFg_haveSpread_4 : decode cFg_haveSpread 4 = .ok (.if_icmp .ge 22, 3) := by decide +kernel
theorem dFg_haveSpread_7 : decode cFg_haveSpread 7 = .ok (.aload_n 0, 1) := by decide +kernel
theorem dFg_haveSpread_8 : decode cFg_haveSpread 8 = .ok (.getfield 15, 3) := by decide +kernel
theorem dFg_haveSpread_11 : decode cFg_haveSpread 11 = .ok (.iload_n 1, 1) := by decide +kernel
theorem dFg_haveSpread_12 : decode cFg_haveSpread 12 = .ok (.laload, 1) := by decide +kernel
theorem dFg_haveSpread_13 : decode cFg_haveSpread 13 = .ok (.lconst 1, 1) := by decide +kernel
theorem dFg_haveSpread_14 : decode cFg_haveSpread 14 = .ok (.lcmp, 1) := by decide +kernel
theorem dFg_haveSpread_15 : decode cFg_haveSpread 15 = .ok (.ifCond .ne 5, 3) := by decide +kernel
theorem dFg_haveSpread_18 : decode cFg_haveSpread 18 = .ok (.iconst 0, 1) := by decide +kernel
theorem dFg_haveSpread_19 : decode cFg_haveSpread 19 = .ok (.ireturn, 1) := by decide +kernel
theorem dFg_haveSpread_20 : decode cFg_haveSpread 20 = .ok (.iinc 1 1, 3) := by decide +kernel
theorem dFg_haveSpread_23 : decode cFg_haveSpread 23 = .ok (.goto (-21), 3) := by decide +kernel
theorem dFg_haveSpread_26 : decode cFg_haveSpread 26 = .ok (.aload_n 0, 1) := by decide +kernel
theorem dFg_haveSpread_27 : decode cFg_haveSpread 27 = .ok (.getfield 31, 3) := by decide +kernel
theorem dFg_haveSpread_30 : decode cFg_haveSpread 30 = .ok (.ifCond .le 7, 3) := by decide +kernel
theorem dFg_haveSpread_33 : decode cFg_haveSpread 33 = .ok (.iconst 1, 1) := by decide +kernel
theorem dFg_haveSpread_34 : decode cFg_haveSpread 34 = .ok (.goto 4, 3) := by decide +kernel
theorem dFg_haveSpread_37 : decode cFg_haveSpread 37 = .ok (.iconst 0, 1) := by decide +kernel
theorem dFg_haveSpread_38 : decode cFg_haveSpread 38 = .ok (.ireturn, 1) := by decide +kernel
theorem dFg_tellMean_0 : decode cFg_tellMean 0 = .ok (.aload_n 0, 1) := by decide +kernel
theorem dFg_tellMean_1 : decode cFg_tellMean 1 = .ok (.getfield 27, 3) := by decide +kernel
theorem dFg_tellMean_4 : decode cFg_tellMean 4 = .ok (.invokevirtual 64, 3) := by decide +kernel
theorem dFg_tellMean_7 : decode cFg_tellMean 7 = .ok (.iconst 0, 1) := by decide +kernel
theorem dFg_tellMean_8 : decode cFg_tellMean 8 = .ok (.istore_n 2, 1) := by decide +kernel
theorem dFg_tellMean_9 : decode cFg_tellMean 9 = .ok (.iload_n 2, 1) := by decide +kernel
theorem dFg_tellMean_10 : decode cFg_tellMean 10 = .ok (.iconst 4, 1) := by decide +kernel
theorem dFg_tellMean_11 : decode cFg_tellMean 11 = .ok (.if_icmp .ge 47, 3) := by decide +kernel
theorem dFg_tellMean_14 : decode cFg_tellMean 14 = .ok (.aload_n 0, 1) := by decide +kernel
theorem dFg_tellMean_15 : decode cFg_tellMean 15 = .ok (.getfield 15, 3) := by decide +kernel
theorem dFg_tellMean_18 : decode cFg_tellMean 18 = .ok (.iload_n 2, 1) := by decide +kernel
theorem dFg_tellMean_19 : decode cFg_tellMean 19 = .ok (.laload, 1) := by decide +kernel
theorem dFg_tellMean_20 : decode cFg_tellMean 20 = .ok (.lconst 0, 1) := by decide +kernel
theorem dFg_tellMean_21 : decode cFg_tellMean 21 = .ok (.lcmp, 1) := by decide +kernel
theorem dFg_tellMean_22 : decode cFg_tellMean 22 = .ok (.ifCond .le 30, 3) := by decide +kernel
theorem dFg_tellMean_25 : decode cFg_tellMean 25 = .ok (.aload_n 0, 1) := by decide +kernel
theorem dFg_tellMean_26 : decode cFg_tellMean 26 = .ok (.getfield 27, 3) := by decide +kernel
theorem dFg_tellMean_29 : decode cFg_tellMean 29 = .ok (.iload_n 2, 1) := by decide +kernel
theorem dFg_tellMean_30 : decode cFg_tellMean 30 = .ok (.aload_n 0, 1) := by decide +kernel
theorem dFg_tellMean_31 : decode cFg_tellMean 31 = .ok (.getfield 9, 3) := by decide +kernel
theorem dFg_tellMean_34 : decode cFg_tellMean 34 = .ok (.iload_n 2, 1) := by decide +kernel
theorem dFg_tellMean_35 : decode cFg_tellMean 35 = .ok (.laload, 1) := by decide +kernel
theorem dFg_tellMean_36 : decode cFg_tellMean 36 = .ok (.aload_n 0, 1) := by decide +kernel
theorem dFg_tellMean_37 : decode cFg_tellMean 37 = .ok (.getfield 18, 3) := by decide +kernel
theorem dFg_tellMean_40 : decode cFg_tellMean 40 = .ok (.iload_n 2, 1) := by decide +kernel
theorem dFg_tellMean_41 : decode cFg_tellMean 41 = .ok (.laload, 1) := by decide +kernel
theorem dFg_tellMean_42 : decode cFg_tellMean 42 = .ok (.lmul, 1) := by decide +kernel
theorem dFg_tellMean_43 : decode cFg_tellMean 43 = .ok (.aload_n 0, 1) := by decide +kernel
theorem dFg_tellMean_44 : decode cFg_tellMean 44 = .ok (.getfield 15, 3) := by decide +kernel
theorem dFg_tellMean_47 : decode cFg_tellMean 47 = .ok (.iload_n 2, 1) := by decide +kernel
theorem dFg_tellMean_48 : decode cFg_tellMean 48 = .ok (.laload, 1) := by decide +kernel
theorem dFg_tellMean_49 : decode cFg_tellMean 49 = .ok (.invokevirtual 67, 3) := by decide +kernel
theorem dFg_tellMean_52 : decode cFg_tellMean 52 = .ok (.iinc 2 1, 3) := by decide +kernel
theorem dFg_tellMean_55 : decode cFg_tellMean 55 = .ok (.goto (-46), 3) := by decide +kernel
theorem dFg_tellMean_58 : decode cFg_tellMean 58 = .ok (.aload_n 0, 1) := by decide +kernel
theorem dFg_tellMean_59 : decode cFg_tellMean 59 = .ok (.getfield 27, 3) := by decide +kernel
theorem dFg_tellMean_62 : decode cFg_tellMean 62 = .ok (.invokevirtual 71, 3) := by decide +kernel
theorem dFg_tellMean_65 : decode cFg_tellMean 65 = .ok (.lstore_n 2, 1) := by decide +kernel
theorem dFg_tellMean_66 : decode cFg_tellMean 66 = .ok (.aload_n 0, 1) := by decide +kernel
theorem dFg_tellMean_67 : decode cFg_tellMean 67 = .ok (.getfield 27, 3) := by decide +kernel
theorem dFg_tellMean_70 : decode cFg_tellMean 70 = .ok (.lload_n 2, 1) := by decide +kernel
theorem dFg_tellMean_71 : decode cFg_tellMean 71 = .ok (.invokevirtual 75, 3) := by decide +kernel
theorem dFg_tellMean_74 : decode cFg_tellMean 74 = .ok (.lload_n 2, 1) := by decide +kernel
theorem dFg_tellMean_75 : decode cFg_tellMean 75 = .ok (.aload_n 0, 1) := by decide +kernel
theorem dFg_tellMean_76 : decode cFg_tellMean 76 = .ok (.getfield 35, 3) := by decide +kernel
theorem dFg_tellMean_79 : decode cFg_tellMean 79 = .ok (.lmul, 1) := by decide +kernel
theorem dFg_tellMean_80 : decode cFg_tellMean 80 = .ok (.iload_n 1, 1) := by decide +kernel
theorem dFg_tellMean_81 : decode cFg_tellMean 81 = .ok (.invokestatic 79, 3) := by decide +kernel
theorem dFg_tellMean_84 : decode cFg_tellMean 84 = .ok (.lreturn, 1) := by decide +kernel
theorem dFg_tellSpread_0 : decode cFg_tellSpread 0 = .ok (.aload_n 0, 1) := by decide +kernel
theorem dFg_tellSpread_1 : decode cFg_tellSpread 1 = .ok (.getfield 27, 3) := by decide +kernel
theorem dFg_tellSpread_4 : decode cFg_tellSpread 4 = .ok (.invokevirtual 64, 3) := by decide +kernel
theorem dFg_tellSpread_7 : decode cFg_tellSpread 7 = .ok (.iconst 0, 1) := by decide +kernel
theorem dFg_tellSpread_8 : decode cFg_tellSpread 8 = .ok (.istore_n 2, 1) := by decide +kernel
theorem dFg_tellSpread_9 : decode cFg_tellSpread 9 = .ok (.iload_n 2, 1) := by decide +kernel
theorem dFg_tellSpread_10 : decode cFg_tellSpread 10 = .ok (.iconst 4, 1) := by decide +kernel
theorem dFg_tellSpread_11 : decode cFg_tellSpread 11 = .ok (.if_icmp .ge 45, 3) := by decide +kernel
theorem dFg_tellSpread_14 : decode cFg_tellSpread 14 = .ok (.aload_n 0, 1) := by decide +kernel
theorem dFg_tellSpread_15 : decode cFg_tellSpread 15 = .ok (.getfield 15, 3) := by decide +kernel
theorem dFg_tellSpread_18 : decode cFg_tellSpread 18 = .ok (.iload_n 2, 1) := by decide +kernel
theorem dFg_tellSpread_19 : decode cFg_tellSpread 19 = .ok (.laload, 1) := by decide +kernel
theorem dFg_tellSpread_20 : decode cFg_tellSpread 20 = .ok (.lconst 1, 1) := by decide +kernel
theorem dFg_tellSpread_21 : decode cFg_tellSpread 21 = .ok (.lcmp, 1) := by decide +kernel
theorem dFg_tellSpread_22 : decode cFg_tellSpread 22 = .ok (.ifCond .le 28, 3) := by decide +kernel
theorem dFg_tellSpread_25 : decode cFg_tellSpread 25 = .ok (.aload_n 0, 1) := by decide +kernel
theorem dFg_tellSpread_26 : decode cFg_tellSpread 26 = .ok (.getfield 27, 3) := by decide +kernel
theorem dFg_tellSpread_29 : decode cFg_tellSpread 29 = .ok (.iload_n 2, 1) := by decide +kernel
theorem dFg_tellSpread_30 : decode cFg_tellSpread 30 = .ok (.aload_n 0, 1) := by decide +kernel
theorem dFg_tellSpread_31 : decode cFg_tellSpread 31 = .ok (.iload_n 2, 1) := by decide +kernel
theorem dFg_tellSpread_32 : decode cFg_tellSpread 32 = .ok (.invokevirtual 83, 3) := by decide +kernel
theorem dFg_tellSpread_35 : decode cFg_tellSpread 35 = .ok (.aload_n 0, 1) := by decide +kernel
theorem dFg_tellSpread_36 : decode cFg_tellSpread 36 = .ok (.getfield 15, 3) := by decide +kernel
theorem dFg_tellSpread_39 : decode cFg_tellSpread 39 = .ok (.iload_n 2, 1) := by decide +kernel
theorem dFg_tellSpread_40 : decode cFg_tellSpread 40 = .ok (.laload, 1) := by decide +kernel
theorem dFg_tellSpread_41 : decode cFg_tellSpread 41 = .ok (.aload_n 0, 1) := by decide +kernel
theorem dFg_tellSpread_42 : decode cFg_tellSpread 42 = .ok (.iload_n 2, 1) := by decide +kernel
theorem dFg_tellSpread_43 : decode cFg_tellSpread 43 = .ok (.invokevirtual 87, 3) := by decide +kernel
theorem dFg_tellSpread_46 : decode cFg_tellSpread 46 = .ok (.lmul, 1) := by decide +kernel
theorem dFg_tellSpread_47 : decode cFg_tellSpread 47 = .ok (.invokevirtual 67, 3) := by decide +kernel
theorem dFg_tellSpread_50 : decode cFg_tellSpread 50 = .ok (.iinc 2 1, 3) := by decide +kernel
theorem dFg_tellSpread_53 : decode cFg_tellSpread 53 = .ok (.goto (-44), 3) := by decide +kernel
theorem dFg_tellSpread_56 : decode cFg_tellSpread 56 = .ok (.aload_n 0, 1) := by decide +kernel
theorem dFg_tellSpread_57 : decode cFg_tellSpread 57 = .ok (.getfield 27, 3) := by decide +kernel
theorem dFg_tellSpread_60 : decode cFg_tellSpread 60 = .ok (.invokevirtual 71, 3) := by decide +kernel
theorem dFg_tellSpread_63 : decode cFg_tellSpread 63 = .ok (.lstore_n 2, 1) := by decide +kernel
theorem dFg_tellSpread_64 : decode cFg_tellSpread 64 = .ok (.aload_n 0, 1) := by decide +kernel
theorem dFg_tellSpread_65 : decode cFg_tellSpread 65 = .ok (.getfield 27, 3) := by decide +kernel
theorem dFg_tellSpread_68 : decode cFg_tellSpread 68 = .ok (.lload_n 2, 1) := by decide +kernel
theorem dFg_tellSpread_69 : decode cFg_tellSpread 69 = .ok (.invokevirtual 75, 3) := by decide +kernel
theorem dFg_tellSpread_72 : decode cFg_tellSpread 72 = .ok (.lload_n 2, 1) := by decide +kernel
theorem dFg_tellSpread_73 : decode cFg_tellSpread 73 = .ok (.aload_n 0, 1) := by decide +kernel
theorem dFg_tellSpread_74 : decode cFg_tellSpread 74 = .ok (.getfield 35, 3) := by decide +kernel
theorem dFg_tellSpread_77 : decode cFg_tellSpread 77 = .ok (.lmul, 1) := by decide +kernel
theorem dFg_tellSpread_78 : decode cFg_tellSpread 78 = .ok (.aload_n 0, 1) := by decide +kernel
theorem dFg_tellSpread_79 : decode cFg_tellSpread 79 = .ok (.getfield 35, 3) := by decide +kernel
theorem dFg_tellSpread_82 : decode cFg_tellSpread 82 = .ok (.lmul, 1) := by decide +kernel
theorem dFg_tellSpread_83 : decode cFg_tellSpread 83 = .ok (.iload_n 1, 1) := by decide +kernel
theorem dFg_tellSpread_84 : decode cFg_tellSpread 84 = .ok (.invokestatic 79, 3) := by decide +kernel
theorem dFg_tellSpread_87 : decode cFg_tellSpread 87 = .ok (.lreturn, 1) := by decide +kernel
theorem dFg_weighedScatter_0 : decode cFg_weighedScatter 0 = .ok (.aload_n 0, 1) := by decide +kernel
theorem dFg_weighedScatter_1 : decode cFg_weighedScatter 1 = .ok (.getfield 9, 3) := by decide +kernel
theorem dFg_weighedScatter_4 : decode cFg_weighedScatter 4 = .ok (.iload_n 1, 1) := by decide +kernel
theorem dFg_weighedScatter_5 : decode cFg_weighedScatter 5 = .ok (.laload, 1) := by decide +kernel
theorem dFg_weighedScatter_6 : decode cFg_weighedScatter 6 = .ok (.aload_n 0, 1) := by decide +kernel
theorem dFg_weighedScatter_7 : decode cFg_weighedScatter 7 = .ok (.getfield 9, 3) := by decide +kernel
theorem dFg_weighedScatter_10 : decode cFg_weighedScatter 10 = .ok (.iload_n 1, 1) := by decide +kernel
theorem dFg_weighedScatter_11 : decode cFg_weighedScatter 11 = .ok (.laload, 1) := by decide +kernel
theorem dFg_weighedScatter_12 : decode cFg_weighedScatter 12 = .ok (.lmul, 1) := by decide +kernel
theorem dFg_weighedScatter_13 : decode cFg_weighedScatter 13 = .ok (.aload_n 0, 1) := by decide +kernel
theorem dFg_weighedScatter_14 : decode cFg_weighedScatter 14 = .ok (.getfield 21, 3) := by decide +kernel
theorem dFg_weighedScatter_17 : decode cFg_weighedScatter 17 = .ok (.iload_n 1, 1) := by decide +kernel
theorem dFg_weighedScatter_18 : decode cFg_weighedScatter 18 = .ok (.laload, 1) := by decide +kernel
theorem dFg_weighedScatter_19 : decode cFg_weighedScatter 19 = .ok (.lmul, 1) := by decide +kernel
theorem dFg_weighedScatter_20 : decode cFg_weighedScatter 20 = .ok (.lreturn, 1) := by decide +kernel
theorem dFg_pairs_0 : decode cFg_pairs 0 = .ok (.aload_n 0, 1) := by decide +kernel
theorem dFg_pairs_1 : decode cFg_pairs 1 = .ok (.getfield 15, 3) := by decide +kernel
theorem dFg_pairs_4 : decode cFg_pairs 4 = .ok (.iload_n 1, 1) := by decide +kernel
theorem dFg_pairs_5 : decode cFg_pairs 5 = .ok (.laload, 1) := by decide +kernel
theorem dFg_pairs_6 : decode cFg_pairs 6 = .ok (.aload_n 0, 1) := by decide +kernel
theorem dFg_pairs_7 : decode cFg_pairs 7 = .ok (.getfield 15, 3) := by decide +kernel
theorem dFg_pairs_10 : decode cFg_pairs 10 = .ok (.iload_n 1, 1) := by decide +kernel
theorem dFg_pairs_11 : decode cFg_pairs 11 = .ok (.laload, 1) := by decide +kernel
theorem dFg_pairs_12 : decode cFg_pairs 12 = .ok (.lconst 1, 1) := by decide +kernel
theorem dFg_pairs_13 : decode cFg_pairs 13 = .ok (.lsub, 1) := by decide +kernel
theorem dFg_pairs_14 : decode cFg_pairs 14 = .ok (.lmul, 1) := by decide +kernel
theorem dFg_pairs_15 : decode cFg_pairs 15 = .ok (.lreturn, 1) := by decide +kernel
theorem dPl_init_0 : decode cPl_init 0 = .ok (.aload_n 0, 1) := by decide +kernel
theorem dPl_init_1 : decode cPl_init 1 = .ok (.invokespecial 3, 3) := by decide +kernel
theorem dPl_init_4 : decode cPl_init 4 = .ok (.aload_n 0, 1) := by decide +kernel
theorem dPl_init_5 : decode cPl_init 5 = .ok (.iconst 4, 1) := by decide +kernel
theorem dPl_init_6 : decode cPl_init 6 = .ok (.newarray .int, 2) := by decide +kernel
theorem dPl_init_8 : decode cPl_init 8 = .ok (.putfield 9, 3) := by decide +kernel
theorem dPl_init_11 : decode cPl_init 11 = .ok (.aload_n 0, 1) := by decide +kernel
theorem dPl_init_12 : decode cPl_init 12 = .ok (.iconst 4, 1) := by decide +kernel
theorem dPl_init_13 : decode cPl_init 13 = .ok (.newarray .int, 2) := by decide +kernel
theorem dPl_init_15 : decode cPl_init 15 = .ok (.putfield 15, 3) := by decide +kernel
theorem dPl_init_18 : decode cPl_init 18 = .ok (.aload_n 0, 1) := by decide +kernel
theorem dPl_init_19 : decode cPl_init 19 = .ok (.iconst 4, 1) := by decide +kernel
theorem dPl_init_20 : decode cPl_init 20 = .ok (.newarray .int, 2) := by decide +kernel
theorem dPl_init_22 : decode cPl_init 22 = .ok (.putfield 18, 3) := by decide +kernel
theorem dPl_init_25 : decode cPl_init 25 = .ok (.aload_n 0, 1) := by decide +kernel
theorem dPl_init_26 : decode cPl_init 26 = .ok (.iconst 4, 1) := by decide +kernel
theorem dPl_init_27 : decode cPl_init 27 = .ok (.newarray .int, 2) := by decide +kernel
theorem dPl_init_29 : decode cPl_init 29 = .ok (.putfield 21, 3) := by decide +kernel
theorem dPl_init_32 : decode cPl_init 32 = .ok (.aload_n 0, 1) := by decide +kernel
theorem dPl_init_33 : decode cPl_init 33 = .ok (.iconst 4, 1) := by decide +kernel
theorem dPl_init_34 : decode cPl_init 34 = .ok (.newarray .long, 2) := by decide +kernel
theorem dPl_init_36 : decode cPl_init 36 = .ok (.putfield 24, 3) := by decide +kernel
theorem dPl_init_39 : decode cPl_init 39 = .ok (.aload_n 0, 1) := by decide +kernel
theorem dPl_init_40 : decode cPl_init 40 = .ok (.iconst 4, 1) := by decide +kernel
theorem dPl_init_41 : decode cPl_init 41 = .ok (.newarray .long, 2) := by decide +kernel
theorem dPl_init_43 : decode cPl_init 43 = .ok (.putfield 28, 3) := by decide +kernel
theorem dPl_init_46 : decode cPl_init 46 = .ok (.aload_n 0, 1) := by decide +kernel
theorem dPl_init_47 : decode cPl_init 47 = .ok (.new 31, 3) := by decide +kernel
theorem dPl_init_50 : decode cPl_init 50 = .ok (.dup, 1) := by decide +kernel
theorem dPl_init_51 : decode cPl_init 51 = .ok (.invokespecial 33, 3) := by decide +kernel
theorem dPl_init_54 : decode cPl_init 54 = .ok (.putfield 34, 3) := by decide +kernel
theorem dPl_init_57 : decode cPl_init 57 = .ok (.return_, 1) := by decide +kernel
theorem dPl_heldBags_0 : decode cPl_heldBags 0 = .ok (.aload_n 0, 1) := by decide +kernel
theorem dPl_heldBags_1 : decode cPl_heldBags 1 = .ok (.getfield 38, 3) := by decide +kernel
theorem dPl_heldBags_4 : decode cPl_heldBags 4 = .ok (.ifCond .eq 12, 3) := by decide +kernel
theorem dPl_heldBags_7 : decode cPl_heldBags 7 = .ok (.aload_n 0, 1) := by decide +kernel
theorem dPl_heldBags_8 : decode cPl_heldBags 8 = .ok (.getfield 9, 3) := by decide +kernel
theorem dPl_heldBags_11 : decode cPl_heldBags 11 = .ok (.iload_n 1, 1) := by decide +kernel
theorem dPl_heldBags_12 : decode cPl_heldBags 12 = .ok (.iaload, 1) := by decide +kernel
theorem dPl_heldBags_13 : decode cPl_heldBags 13 = .ok (.goto 4, 3) := by decide +kernel
theorem dPl_heldBags_16 : decode cPl_heldBags 16 = .ok (.iconst (-1), 1) := by decide +kernel
theorem dPl_heldBags_17 : decode cPl_heldBags 17 = .ok (.ireturn, 1) := by decide +kernel
theorem dPl_prepare_0 : decode cPl_prepare 0 = .ok (.aload_n 0, 1) := by decide +kernel
theorem dPl_prepare_1 : decode cPl_prepare 1 = .ok (.getfield 34, 3) := by decide +kernel
theorem dPl_prepare_4 : decode cPl_prepare 4 = .ok (.invokevirtual 42, 3) := by decide +kernel
theorem dPl_prepare_7 : decode cPl_prepare 7 = .ok (.iconst 0, 1) := by decide +kernel
theorem dPl_prepare_8 : decode cPl_prepare 8 = .ok (.istore 7, 2) := by decide +kernel
theorem dPl_prepare_10 : decode cPl_prepare 10 = .ok (.iload 7, 2) := by decide +kernel
theorem dPl_prepare_12 : decode cPl_prepare 12 = .ok (.iconst 4, 1) := by decide +kernel
theorem dPl_prepare_13 : decode cPl_prepare 13 = .ok (.if_icmp .ge 103, 3) := by decide +kernel
theorem dPl_prepare_16 : decode cPl_prepare 16 = .ok (.aload_n 1, 1) := by decide +kernel
theorem dPl_prepare_17 : decode cPl_prepare 17 = .ok (.getfield 45, 3) := by decide +kernel
theorem dPl_prepare_20 : decode cPl_prepare 20 = .ok (.iload 7, 2) := by decide +kernel
theorem dPl_prepare_22 : decode cPl_prepare 22 = .ok (.laload, 1) := by decide +kernel
theorem dPl_prepare_23 : decode cPl_prepare 23 = .ok (.lconst 1, 1) := by decide +kernel
theorem dPl_prepare_24 : decode cPl_prepare 24 = .ok (.lcmp, 1) := by decide +kernel
theorem dPl_prepare_25 : decode cPl_prepare 25 = .ok (.ifCond .le 7, 3) := by decide +kernel
theorem dPl_prepare_28 : decode cPl_prepare 28 = .ok (.iconst 1, 1) := by decide +kernel
theorem dPl_prepare_29 : decode cPl_prepare 29 = .ok (.goto 4, 3) := by decide +kernel
theorem dPl_prepare_32 : decode cPl_prepare 32 = .ok (.iconst 0, 1) := by decide +kernel
theorem dPl_prepare_33 : decode cPl_prepare 33 = .ok (.istore 8, 2) := by decide +kernel
theorem dPl_prepare_35 : decode cPl_prepare 35 = .ok (.aload_n 0, 1) := by decide +kernel
theorem dPl_prepare_36 : decode cPl_prepare 36 = .ok (.getfield 18, 3) := by decide +kernel
theorem dPl_prepare_39 : decode cPl_prepare 39 = .ok (.iload 7, 2) := by decide +kernel
theorem dPl_prepare_41 : decode cPl_prepare 41 = .ok (.iload 8, 2) := by decide +kernel
theorem dPl_prepare_43 : decode cPl_prepare 43 = .ok (.ifCond .eq 7, 3) := by decide +kernel
theorem dPl_prepare_46 : decode cPl_prepare 46 = .ok (.iconst 1, 1) := by decide +kernel
theorem dPl_prepare_47 : decode cPl_prepare 47 = .ok (.goto 4, 3) := by decide +kernel
theorem dPl_prepare_50 : decode cPl_prepare 50 = .ok (.iconst 0, 1) := by decide +kernel
theorem dPl_prepare_51 : decode cPl_prepare 51 = .ok (.iastore, 1) := by decide +kernel
theorem dPl_prepare_52 : decode cPl_prepare 52 = .ok (.aload_n 0, 1) := by decide +kernel
theorem dPl_prepare_53 : decode cPl_prepare 53 = .ok (.getfield 21, 3) := by decide +kernel
theorem dPl_prepare_56 : decode cPl_prepare 56 = .ok (.iload 7, 2) := by decide +kernel
theorem dPl_prepare_58 : decode cPl_prepare 58 = .ok (.iload 8, 2) := by decide +kernel
theorem dPl_prepare_60 : decode cPl_prepare 60 = .ok (.ifCond .eq 8, 3) := by decide +kernel
theorem dPl_prepare_63 : decode cPl_prepare 63 = .ok (.bipush 6, 2) := by decide +kernel
theorem dPl_prepare_65 : decode cPl_prepare 65 = .ok (.goto 4, 3) := by decide +kernel
theorem dPl_prepare_68 : decode cPl_prepare 68 = .ok (.iconst 0, 1) := by decide +kernel
theorem dPl_prepare_69 : decode cPl_prepare 69 = .ok (.iastore, 1) := by decide +kernel
theorem dPl_prepare_70 : decode cPl_prepare 70 = .ok (.aload_n 0, 1) := by decide +kernel
theorem dPl_prepare_71 : decode cPl_prepare 71 = .ok (.getfield 24, 3) := by decide +kernel
theorem dPl_prepare_74 : decode cPl_prepare 74 = .ok (.iload 7, 2) := by decide +kernel
theorem dPl_prepare_76 : decode cPl_prepare 76 = .ok (.aload_n 2, 1) := by decide +kernel
theorem dPl_prepare_77 : decode cPl_prepare 77 = .ok (.getfield 50, 3) := by decide +kernel
theorem dPl_prepare_80 : decode cPl_prepare 80 = .ok (.iload 7, 2) := by decide +kernel
theorem dPl_prepare_82 : decode cPl_prepare 82 = .ok (.laload, 1) := by decide +kernel
theorem dPl_prepare_83 : decode cPl_prepare 83 = .ok (.lastore, 1) := by decide +kernel
theorem dPl_prepare_84 : decode cPl_prepare 84 = .ok (.iload 8, 2) := by decide +kernel
theorem dPl_prepare_86 : decode cPl_prepare 86 = .ok (.ifCond .eq 24, 3) := by decide +kernel
theorem dPl_prepare_89 : decode cPl_prepare 89 = .ok (.aload_n 0, 1) := by decide +kernel
theorem dPl_prepare_90 : decode cPl_prepare 90 = .ok (.getfield 34, 3) := by decide +kernel
theorem dPl_prepare_93 : decode cPl_prepare 93 = .ok (.iload 7, 2) := by decide +kernel
theorem dPl_prepare_95 : decode cPl_prepare 95 = .ok (.aload_n 1, 1) := by decide +kernel
theorem dPl_prepare_96 : decode cPl_prepare 96 = .ok (.iload 7, 2) := by decide +kernel
theorem dPl_prepare_98 : decode cPl_prepare 98 = .ok (.invokevirtual 53, 3) := by decide +kernel
theorem dPl_prepare_101 : decode cPl_prepare 101 = .ok (.aload_n 1, 1) := by decide +kernel
theorem dPl_prepare_102 : decode cPl_prepare 102 = .ok (.iload 7, 2) := by decide +kernel
theorem dPl_prepare_104 : decode cPl_prepare 104 = .ok (.invokevirtual 57, 3) := by decide +kernel
theorem dPl_prepare_107 : decode cPl_prepare 107 = .ok (.invokevirtual 60, 3) := by decide +kernel
theorem dPl_prepare_110 : decode cPl_prepare 110 = .ok (.iinc 7 1, 3) := by decide +kernel
theorem dPl_prepare_113 : decode cPl_prepare 113 = .ok (.goto (-103), 3) := by decide +kernel
theorem dPl_prepare_116 : decode cPl_prepare 116 = .ok (.aload_n 0, 1) := by decide +kernel
theorem dPl_prepare_117 : decode cPl_prepare 117 = .ok (.getfield 34, 3) := by decide +kernel
theorem dPl_prepare_120 : decode cPl_prepare 120 = .ok (.invokevirtual 64, 3) := by decide +kernel
theorem dPl_prepare_123 : decode cPl_prepare 123 = .ok (.lstore 7, 2) := by decide +kernel
theorem dPl_prepare_125 : decode cPl_prepare 125 = .ok (.iconst 0, 1) := by decide +kernel
theorem dPl_prepare_126 : decode cPl_prepare 126 = .ok (.istore 9, 2) := by decide +kernel
theorem dPl_prepare_128 : decode cPl_prepare 128 = .ok (.iload 9, 2) := by decide +kernel
theorem dPl_prepare_130 : decode cPl_prepare 130 = .ok (.iconst 4, 1) := by decide +kernel
theorem dPl_prepare_131 : decode cPl_prepare 131 = .ok (.if_icmp .ge 31, 3) := by decide +kernel
theorem dPl_prepare_134 : decode cPl_prepare 134 = .ok (.aload_n 0, 1) := by decide +kernel
theorem dPl_prepare_135 : decode cPl_prepare 135 = .ok (.getfield 28, 3) := by decide +kernel
theorem dPl_prepare_138 : decode cPl_prepare 138 = .ok (.iload 9, 2) := by decide +kernel
theorem dPl_prepare_140 : decode cPl_prepare 140 = .ok (.ldc2_w 68, 3) := by decide +kernel
theorem dPl_prepare_143 : decode cPl_prepare 143 = .ok (.aload_n 0, 1) := by decide +kernel
theorem dPl_prepare_144 : decode cPl_prepare 144 = .ok (.getfield 34, 3) := by decide +kernel
theorem dPl_prepare_147 : decode cPl_prepare 147 = .ok (.iload 9, 2) := by decide +kernel
theorem dPl_prepare_149 : decode cPl_prepare 149 = .ok (.lload 7, 2) := by decide +kernel
theorem dPl_prepare_151 : decode cPl_prepare 151 = .ok (.invokevirtual 70, 3) := by decide +kernel
theorem dPl_prepare_154 : decode cPl_prepare 154 = .ok (.lmul, 1) := by decide +kernel
theorem dPl_prepare_155 : decode cPl_prepare 155 = .ok (.lastore, 1) := by decide +kernel
theorem dPl_prepare_156 : decode cPl_prepare 156 = .ok (.iinc 9 1, 3) := by decide +kernel
theorem dPl_prepare_159 : decode cPl_prepare 159 = .ok (.goto (-31), 3) := by decide +kernel
theorem dPl_prepare_162 : decode cPl_prepare 162 = .ok (.lload_n 3, 1) := by decide +kernel
theorem dPl_prepare_163 : decode cPl_prepare 163 = .ok (.aload_n 1, 1) := by decide +kernel
theorem dPl_prepare_164 : decode cPl_prepare 164 = .ok (.getfield 74, 3) := by decide +kernel
theorem dPl_prepare_167 : decode cPl_prepare 167 = .ok (.lmul, 1) := by decide +kernel
theorem dPl_prepare_168 : decode cPl_prepare 168 = .ok (.aload_n 1, 1) := by decide +kernel
theorem dPl_prepare_169 : decode cPl_prepare 169 = .ok (.getfield 74, 3) := by decide +kernel
theorem dPl_prepare_172 : decode cPl_prepare 172 = .ok (.lmul, 1) := by decide +kernel
theorem dPl_prepare_173 : decode cPl_prepare 173 = .ok (.lload 7, 2) := by decide +kernel
theorem dPl_prepare_175 : decode cPl_prepare 175 = .ok (.lmul, 1) := by decide +kernel
theorem dPl_prepare_176 : decode cPl_prepare 176 = .ok (.ldc2_w 68, 3) := by decide +kernel
theorem dPl_prepare_179 : decode cPl_prepare 179 = .ok (.lmul, 1) := by decide +kernel
theorem dPl_prepare_180 : decode cPl_prepare 180 = .ok (.lstore 9, 2) := by decide +kernel
theorem dPl_prepare_182 : decode cPl_prepare 182 = .ok (.aload_n 0, 1) := by decide +kernel
theorem dPl_prepare_183 : decode cPl_prepare 183 = .ok (.lload 5, 2) := by decide +kernel
theorem dPl_prepare_185 : decode cPl_prepare 185 = .ok (.lconst 1, 1) := by decide +kernel
theorem dPl_prepare_186 : decode cPl_prepare 186 = .ok (.lcmp, 1) := by decide +kernel
theorem dPl_prepare_187 : decode cPl_prepare 187 = .ok (.ifCond .ge 7, 3) := by decide +kernel
theorem dPl_prepare_190 : decode cPl_prepare 190 = .ok (.lconst 0, 1) := by decide +kernel
theorem dPl_prepare_191 : decode cPl_prepare 191 = .ok (.goto 8, 3) := by decide +kernel
theorem dPl_prepare_194 : decode cPl_prepare 194 = .ok (.lload 9, 2) := by decide +kernel
theorem dPl_prepare_196 : decode cPl_prepare 196 = .ok (.lload 5, 2) := by decide +kernel
theorem dPl_prepare_198 : decode cPl_prepare 198 = .ok (.ldiv, 1) := by decide +kernel
theorem dPl_prepare_199 : decode cPl_prepare 199 = .ok (.putfield 78, 3) := by decide +kernel
theorem dPl_prepare_202 : decode cPl_prepare 202 = .ok (.return_, 1) := by decide +kernel
theorem dPl_findCheapest_0 : decode cPl_findCheapest 0 = .ok (.aload_n 0, 1) := by decide +kernel
theorem dPl_findCheapest_1 : decode cPl_findCheapest 1 = .ok (.iconst 0, 1) := by decide +kernel
theorem dPl_findCheapest_2 : decode cPl_findCheapest 2 = .ok (.putfield 38, 3) := by decide +kernel
theorem dPl_findCheapest_5 : decode cPl_findCheapest 5 = .ok (.aload_n 0, 1) := by decide +kernel
theorem dPl_findCheapest_6 : decode cPl_findCheapest 6 = .ok (.ldc2_w 83, 3) := by decide +kernel
theorem dPl_findCheapest_9 : decode cPl_findCheapest 9 = .ok (.putfield 85, 3) := by decide +kernel
theorem dPl_findCheapest_12 : decode cPl_findCheapest 12 = .ok (.aload_n 0, 1) := by decide +kernel
theorem dPl_findCheapest_13 : decode cPl_findCheapest 13 = .ok (.getfield 18, 3) := by decide +kernel
theorem dPl_findCheapest_16 : decode cPl_findCheapest 16 = .ok (.iconst 0, 1) := by decide +kernel
theorem dPl_findCheapest_17 : decode cPl_findCheapest 17 = .ok (.aload_n 0, 1) := by decide +kernel
theorem dPl_findCheapest_18 : decode cPl_findCheapest 18 = .ok (.getfield 15, 3) := by decide +kernel
theorem dPl_findCheapest_21 : decode cPl_findCheapest 21 = .ok (.iconst 0, 1) := by decide +kernel
theorem dPl_findCheapest_22 : decode cPl_findCheapest 22 = .ok (.iconst 4, 1) := by decide +kernel
theorem dPl_findCheapest_23 : decode cPl_findCheapest 23 = .ok (.invokestatic 88, 3) := by decide +kernel
theorem dPl_findCheapest_26 : decode cPl_findCheapest 26 = .ok (.iconst 0, 1) := by decide +kernel
theorem dPl_findCheapest_27 : decode cPl_findCheapest 27 = .ok (.istore_n 1, 1) := by decide +kernel
theorem dPl_findCheapest_28 : decode cPl_findCheapest 28 = .ok (.iload_n 1, 1) := by decide +kernel
theorem dPl_findCheapest_29 : decode cPl_findCheapest 29 = .ok (.sipush 1296, 3) := by decide +kernel
theorem dPl_findCheapest_32 : decode cPl_findCheapest 32 = .ok (.if_icmp .ge 23, 3) := by decide +kernel
theorem dPl_findCheapest_35 : decode cPl_findCheapest 35 = .ok (.aload_n 0, 1) := by decide +kernel
theorem dPl_findCheapest_36 : decode cPl_findCheapest 36 = .ok (.invokevirtual 94, 3) := by decide +kernel
theorem dPl_findCheapest_39 : decode cPl_findCheapest 39 = .ok (.aload_n 0, 1) := by decide +kernel
theorem dPl_findCheapest_40 : decode cPl_findCheapest 40 = .ok (.invokevirtual 97, 3) := by decide +kernel
theorem dPl_findCheapest_43 : decode cPl_findCheapest 43 = .ok (.ifCond .ne 6, 3) := by decide +kernel
theorem dPl_findCheapest_46 : decode cPl_findCheapest 46 = .ok (.goto 9, 3) := by decide +kernel
theorem dPl_findCheapest_49 : decode cPl_findCheapest 49 = .ok (.iinc 1 1, 3) := by decide +kernel
theorem dPl_findCheapest_52 : decode cPl_findCheapest 52 = .ok (.goto (-24), 3) := by decide +kernel
theorem dPl_findCheapest_55 : decode cPl_findCheapest 55 = .ok (.aload_n 0, 1) := by decide +kernel
theorem dPl_findCheapest_56 : decode cPl_findCheapest 56 = .ok (.getfield 38, 3) := by decide +kernel
theorem dPl_findCheapest_59 : decode cPl_findCheapest 59 = .ok (.ifCond .eq 10, 3) := by decide +kernel
theorem dPl_findCheapest_62 : decode cPl_findCheapest 62 = .ok (.aload_n 0, 1) := by decide +kernel
theorem dPl_findCheapest_63 : decode cPl_findCheapest 63 = .ok (.getfield 85, 3) := by decide +kernel
theorem dPl_findCheapest_66 : decode cPl_findCheapest 66 = .ok (.goto 6, 3) := by decide +kernel
theorem dPl_findCheapest_69 : decode cPl_findCheapest 69 = .ok (.ldc2_w 101, 3) := by decide +kernel
theorem dPl_findCheapest_72 : decode cPl_findCheapest 72 = .ok (.lreturn, 1) := by decide +kernel
theorem dPl_considerTrial_0 : decode cPl_considerTrial 0 = .ok (.lconst 0, 1) := by decide +kernel
theorem dPl_considerTrial_1 : decode cPl_considerTrial 1 = .ok (.lstore_n 1, 1) := by decide +kernel
theorem dPl_considerTrial_2 : decode cPl_considerTrial 2 = .ok (.iconst 0, 1) := by decide +kernel
theorem dPl_considerTrial_3 : decode cPl_considerTrial 3 = .ok (.istore_n 3, 1) := by decide +kernel
theorem dPl_considerTrial_4 : decode cPl_considerTrial 4 = .ok (.iload_n 3, 1) := by decide +kernel
theorem dPl_considerTrial_5 : decode cPl_considerTrial 5 = .ok (.iconst 4, 1) := by decide +kernel
theorem dPl_considerTrial_6 : decode cPl_considerTrial 6 = .ok (.if_icmp .ge 26, 3) := by decide +kernel
theorem dPl_considerTrial_9 : decode cPl_considerTrial 9 = .ok (.lload_n 1, 1) := by decide +kernel
theorem dPl_considerTrial_10 : decode cPl_considerTrial 10 = .ok (.aload_n 0, 1) := by decide +kernel
theorem dPl_considerTrial_11 : decode cPl_considerTrial 11 = .ok (.getfield 15, 3) := by decide +kernel
theorem dPl_considerTrial_14 : decode cPl_considerTrial 14 = .ok (.iload_n 3, 1) := by decide +kernel
theorem dPl_considerTrial_15 : decode cPl_considerTrial 15 = .ok (.iaload, 1) := by decide +kernel
theorem dPl_considerTrial_16 : decode cPl_considerTrial 16 = .ok (.i2l, 1) := by decide +kernel
theorem dPl_considerTrial_17 : decode cPl_considerTrial 17 = .ok (.aload_n 0, 1) := by decide +kernel
theorem dPl_considerTrial_18 : decode cPl_considerTrial 18 = .ok (.getfield 24, 3) := by decide +kernel
theorem dPl_considerTrial_21 : decode cPl_considerTrial 21 = .ok (.iload_n 3, 1) := by decide +kernel
theorem dPl_considerTrial_22 : decode cPl_considerTrial 22 = .ok (.laload, 1) := by decide +kernel
theorem dPl_considerTrial_23 : decode cPl_considerTrial 23 = .ok (.lmul, 1) := by decide +kernel
theorem dPl_considerTrial_24 : decode cPl_considerTrial 24 = .ok (.ladd, 1) := by decide +kernel
theorem dPl_considerTrial_25 : decode cPl_considerTrial 25 = .ok (.lstore_n 1, 1) := by decide +kernel
theorem dPl_considerTrial_26 : decode cPl_considerTrial 26 = .ok (.iinc 3 1, 3) := by decide +kernel
theorem dPl_considerTrial_29 : decode cPl_considerTrial 29 = .ok (.goto (-25), 3) := by decide +kernel
theorem dPl_considerTrial_32 : decode cPl_considerTrial 32 = .ok (.lload_n 1, 1) := by decide +kernel
theorem dPl_considerTrial_33 : decode cPl_considerTrial 33 = .ok (.aload_n 0, 1) := by decide +kernel
theorem dPl_considerTrial_34 : decode cPl_considerTrial 34 = .ok (.getfield 85, 3) := by decide +kernel
theorem dPl_considerTrial_37 : decode cPl_considerTrial 37 = .ok (.lcmp, 1) := by decide +kernel
theorem dPl_considerTrial_38 : decode cPl_considerTrial 38 = .ok (.ifCond .ge 34, 3) := by decide +kernel
theorem dPl_considerTrial_41 : decode cPl_considerTrial 41 = .ok (.aload_n 0, 1) := by decide +kernel
theorem dPl_considerTrial_42 : decode cPl_considerTrial 42 = .ok (.invokevirtual 103, 3) := by decide +kernel
theorem dPl_considerTrial_45 : decode cPl_considerTrial 45 = .ok (.ifCond .eq 27, 3) := by decide +kernel
theorem dPl_considerTrial_48 : decode cPl_considerTrial 48 = .ok (.aload_n 0, 1) := by decide +kernel
theorem dPl_considerTrial_49 : decode cPl_considerTrial 49 = .ok (.iconst 1, 1) := by decide +kernel
theorem dPl_considerTrial_50 : decode cPl_considerTrial 50 = .ok (.putfield 38, 3) := by decide +kernel
theorem dPl_considerTrial_53 : decode cPl_considerTrial 53 = .ok (.aload_n 0, 1) := by decide +kernel
theorem dPl_considerTrial_54 : decode cPl_considerTrial 54 = .ok (.lload_n 1, 1) := by decide +kernel
theorem dPl_considerTrial_55 : decode cPl_considerTrial 55 = .ok (.putfield 85, 3) := by decide +kernel
theorem dPl_considerTrial_58 : decode cPl_considerTrial 58 = .ok (.aload_n 0, 1) := by decide +kernel
theorem dPl_considerTrial_59 : decode cPl_considerTrial 59 = .ok (.getfield 15, 3) := by decide +kernel
theorem dPl_considerTrial_62 : decode cPl_considerTrial 62 = .ok (.iconst 0, 1) := by decide +kernel
theorem dPl_considerTrial_63 : decode cPl_considerTrial 63 = .ok (.aload_n 0, 1) := by decide +kernel
theorem dPl_considerTrial_64 : decode cPl_considerTrial 64 = .ok (.getfield 9, 3) := by decide +kernel
theorem dPl_considerTrial_67 : decode cPl_considerTrial 67 = .ok (.iconst 0, 1) := by decide +kernel
theorem dPl_considerTrial_68 : decode cPl_considerTrial 68 = .ok (.iconst 4, 1) := by decide +kernel
theorem dPl_considerTrial_69 : decode cPl_considerTrial 69 = .ok (.invokestatic 88, 3) := by decide +kernel
theorem dPl_considerTrial_72 : decode cPl_considerTrial 72 = .ok (.return_, 1) := by decide +kernel
theorem dPl_isNearEnough_0 : decode cPl_isNearEnough 0 = .ok (.lconst 0, 1) := by decide +kernel
theorem dPl_isNearEnough_1 : decode cPl_isNearEnough 1 = .ok (.lstore_n 1, 1) := by decide +kernel
theorem dPl_isNearEnough_2 : decode cPl_isNearEnough 2 = .ok (.iconst 0, 1) := by decide +kernel
theorem dPl_isNearEnough_3 : decode cPl_isNearEnough 3 = .ok (.istore_n 3, 1) := by decide +kernel
theorem dPl_isNearEnough_4 : decode cPl_isNearEnough 4 = .ok (.iload_n 3, 1) := by decide +kernel
theorem dPl_isNearEnough_5 : decode cPl_isNearEnough 5 = .ok (.iconst 4, 1) := by decide +kernel
theorem dPl_isNearEnough_6 : decode cPl_isNearEnough 6 = .ok (.if_icmp .ge 35, 3) := by decide +kernel
theorem dPl_isNearEnough_9 : decode cPl_isNearEnough 9 = .ok (.aload_n 0, 1) := by decide +kernel
theorem dPl_isNearEnough_10 : decode cPl_isNearEnough 10 = .ok (.getfield 15, 3) := by decide +kernel
theorem dPl_isNearEnough_13 : decode cPl_isNearEnough 13 = .ok (.iload_n 3, 1) := by decide +kernel
theorem dPl_isNearEnough_14 : decode cPl_isNearEnough 14 = .ok (.iaload, 1) := by decide +kernel
theorem dPl_isNearEnough_15 : decode cPl_isNearEnough 15 = .ok (.ifCond .le 20, 3) := by decide +kernel
theorem dPl_isNearEnough_18 : decode cPl_isNearEnough 18 = .ok (.lload_n 1, 1) := by decide +kernel
theorem dPl_isNearEnough_19 : decode cPl_isNearEnough 19 = .ok (.aload_n 0, 1) := by decide +kernel
theorem dPl_isNearEnough_20 : decode cPl_isNearEnough 20 = .ok (.getfield 28, 3) := by decide +kernel
theorem dPl_isNearEnough_23 : decode cPl_isNearEnough 23 = .ok (.iload_n 3, 1) := by decide +kernel
theorem dPl_isNearEnough_24 : decode cPl_isNearEnough 24 = .ok (.laload, 1) := by decide +kernel
theorem dPl_isNearEnough_25 : decode cPl_isNearEnough 25 = .ok (.aload_n 0, 1) := by decide +kernel
theorem dPl_isNearEnough_26 : decode cPl_isNearEnough 26 = .ok (.getfield 15, 3) := by decide +kernel
theorem dPl_isNearEnough_29 : decode cPl_isNearEnough 29 = .ok (.iload_n 3, 1) := by decide +kernel
theorem dPl_isNearEnough_30 : decode cPl_isNearEnough 30 = .ok (.iaload, 1) := by decide +kernel
theorem dPl_isNearEnough_31 : decode cPl_isNearEnough 31 = .ok (.i2l, 1) := by decide +kernel
theorem dPl_isNearEnough_32 : decode cPl_isNearEnough 32 = .ok (.ldiv, 1) := by decide +kernel
theorem dPl_isNearEnough_33 : decode cPl_isNearEnough 33 = .ok (.ladd, 1) := by decide +kernel
theorem dPl_isNearEnough_34 : decode cPl_isNearEnough 34 = .ok (.lstore_n 1, 1) := by decide +kernel
theorem dPl_isNearEnough_35 : decode cPl_isNearEnough 35 = .ok (.iinc 3 1, 3) := by decide +kernel
theorem dPl_isNearEnough_38 : decode cPl_isNearEnough 38 = .ok (.goto (-34), 3) := by decide +kernel
theorem dPl_isNearEnough_41 : decode cPl_isNearEnough 41 = .ok (.lload_n 1, 1) := by decide +kernel
theorem dPl_isNearEnough_42 : decode cPl_isNearEnough 42 = .ok (.aload_n 0, 1) := by decide +kernel
theorem dPl_isNearEnough_43 : decode cPl_isNearEnough 43 = .ok (.getfield 78, 3) := by decide +kernel
theorem dPl_isNearEnough_46 : decode cPl_isNearEnough 46 = .ok (.lcmp, 1) := by decide +kernel
theorem dPl_isNearEnough_47 : decode cPl_isNearEnough 47 = .ok (.ifCond .gt 7, 3) := by decide +kernel
theorem dPl_isNearEnough_50 : decode cPl_isNearEnough 50 = .ok (.iconst 1, 1) := by decide +kernel
theorem dPl_isNearEnough_51 : decode cPl_isNearEnough 51 = .ok (.goto 4, 3) := by decide +kernel
theorem dPl_isNearEnough_54 : decode cPl_isNearEnough 54 = .ok (.iconst 0, 1) := by decide +kernel
theorem dPl_isNearEnough_55 : decode cPl_isNearEnough 55 = .ok (.ireturn, 1) := by decide +kernel
theorem dPl_stepTrial_0 : decode cPl_stepTrial 0 = .ok (.iconst 3, 1) := by decide +kernel
theorem dPl_stepTrial_1 : decode cPl_stepTrial 1 = .ok (.istore_n 1, 1) := by decide +kernel
theorem dPl_stepTrial_2 : decode cPl_stepTrial 2 = .ok (.iload_n 1, 1) := by decide +kernel
theorem dPl_stepTrial_3 : decode cPl_stepTrial 3 = .ok (.ifCond .lt 48, 3) := by decide +kernel
theorem dPl_stepTrial_6 : decode cPl_stepTrial 6 = .ok (.aload_n 0, 1) := by decide +kernel
theorem dPl_stepTrial_7 : decode cPl_stepTrial 7 = .ok (.getfield 15, 3) := by decide +kernel
theorem dPl_stepTrial_10 : decode cPl_stepTrial 10 = .ok (.iload_n 1, 1) := by decide +kernel
theorem dPl_stepTrial_11 : decode cPl_stepTrial 11 = .ok (.iaload, 1) := by decide +kernel
theorem dPl_stepTrial_12 : decode cPl_stepTrial 12 = .ok (.aload_n 0, 1) := by decide +kernel
theorem dPl_stepTrial_13 : decode cPl_stepTrial 13 = .ok (.getfield 21, 3) := by decide +kernel
theorem dPl_stepTrial_16 : decode cPl_stepTrial 16 = .ok (.iload_n 1, 1) := by decide +kernel
theorem dPl_stepTrial_17 : decode cPl_stepTrial 17 = .ok (.iaload, 1) := by decide +kernel
theorem dPl_stepTrial_18 : decode cPl_stepTrial 18 = .ok (.if_icmp .ge 15, 3) := by decide +kernel
theorem dPl_stepTrial_21 : decode cPl_stepTrial 21 = .ok (.aload_n 0, 1) := by decide +kernel
theorem dPl_stepTrial_22 : decode cPl_stepTrial 22 = .ok (.getfield 15, 3) := by decide +kernel
theorem dPl_stepTrial_25 : decode cPl_stepTrial 25 = .ok (.iload_n 1, 1) := by decide +kernel
theorem dPl_stepTrial_26 : decode cPl_stepTrial 26 = .ok (.dup2, 1) := by decide +kernel
theorem dPl_stepTrial_27 : decode cPl_stepTrial 27 = .ok (.iaload, 1) := by decide +kernel
theorem dPl_stepTrial_28 : decode cPl_stepTrial 28 = .ok (.iconst 1, 1) := by decide +kernel
theorem dPl_stepTrial_29 : decode cPl_stepTrial 29 = .ok (.iadd, 1) := by decide +kernel
theorem dPl_stepTrial_30 : decode cPl_stepTrial 30 = .ok (.iastore, 1) := by decide +kernel
theorem dPl_stepTrial_31 : decode cPl_stepTrial 31 = .ok (.iconst 1, 1) := by decide +kernel
theorem dPl_stepTrial_32 : decode cPl_stepTrial 32 = .ok (.ireturn, 1) := by decide +kernel
theorem dPl_stepTrial_33 : decode cPl_stepTrial 33 = .ok (.aload_n 0, 1) := by decide +kernel
theorem dPl_stepTrial_34 : decode cPl_stepTrial 34 = .ok (.getfield 15, 3) := by decide +kernel
theorem dPl_stepTrial_37 : decode cPl_stepTrial 37 = .ok (.iload_n 1, 1) := by decide +kernel
theorem dPl_stepTrial_38 : decode cPl_stepTrial 38 = .ok (.aload_n 0, 1) := by decide +kernel
theorem dPl_stepTrial_39 : decode cPl_stepTrial 39 = .ok (.getfield 18, 3) := by decide +kernel
theorem dPl_stepTrial_42 : decode cPl_stepTrial 42 = .ok (.iload_n 1, 1) := by decide +kernel
theorem dPl_stepTrial_43 : decode cPl_stepTrial 43 = .ok (.iaload, 1) := by decide +kernel
theorem dPl_stepTrial_44 : decode cPl_stepTrial 44 = .ok (.iastore, 1) := by decide +kernel
theorem dPl_stepTrial_45 : decode cPl_stepTrial 45 = .ok (.iinc 1 (-1), 3) := by decide +kernel
theorem dPl_stepTrial_48 : decode cPl_stepTrial 48 = .ok (.goto (-46), 3) := by decide +kernel
theorem dPl_stepTrial_51 : decode cPl_stepTrial 51 = .ok (.iconst 0, 1) := by decide +kernel
theorem dPl_stepTrial_52 : decode cPl_stepTrial 52 = .ok (.ireturn, 1) := by decide +kernel
theorem dCp_init_0 : decode cCp_init 0 = .ok (.aload_n 0, 1) := by decide +kernel
theorem dCp_init_1 : decode cCp_init 1 = .ok (.invokespecial 3, 3) := by decide +kernel
theorem dCp_init_4 : decode cCp_init 4 = .ok (.aload_n 0, 1) := by decide +kernel
theorem dCp_init_5 : decode cCp_init 5 = .ok (.bipush 10, 2) := by decide +kernel
theorem dCp_init_7 : decode cCp_init 7 = .ok (.newarray .long, 2) := by decide +kernel
theorem dCp_init_9 : decode cCp_init 9 = .ok (.putfield 9, 3) := by decide +kernel
theorem dCp_init_12 : decode cCp_init 12 = .ok (.return_, 1) := by decide +kernel
theorem dCp_gather_0 : decode cCp_gather 0 = .ok (.aload_n 0, 1) := by decide +kernel
theorem dCp_gather_1 : decode cCp_gather 1 = .ok (.iconst 0, 1) := by decide +kernel
theorem dCp_gather_2 : decode cCp_gather 2 = .ok (.putfield 15, 3) := by decide +kernel
theorem dCp_gather_5 : decode cCp_gather 5 = .ok (.aload_n 0, 1) := by decide +kernel
theorem dCp_gather_6 : decode cCp_gather 6 = .ok (.iconst 0, 1) := by decide +kernel
theorem dCp_gather_7 : decode cCp_gather 7 = .ok (.putfield 19, 3) := by decide +kernel
theorem dCp_gather_10 : decode cCp_gather 10 = .ok (.aload_n 0, 1) := by decide +kernel
theorem dCp_gather_11 : decode cCp_gather 11 = .ok (.lconst 0, 1) := by decide +kernel
theorem dCp_gather_12 : decode cCp_gather 12 = .ok (.putfield 22, 3) := by decide +kernel
theorem dCp_gather_15 : decode cCp_gather 15 = .ok (.iconst 0, 1) := by decide +kernel
theorem dCp_gather_16 : decode cCp_gather 16 = .ok (.istore_n 3, 1) := by decide +kernel
theorem dCp_gather_17 : decode cCp_gather 17 = .ok (.iload_n 3, 1) := by decide +kernel
theorem dCp_gather_18 : decode cCp_gather 18 = .ok (.aload_n 1, 1) := by decide +kernel
theorem dCp_gather_19 : decode cCp_gather 19 = .ok (.getfield 26, 3) := by decide +kernel
theorem dCp_gather_22 : decode cCp_gather 22 = .ok (.if_icmp .ge 45, 3) := by decide +kernel
theorem dCp_gather_25 : decode cCp_gather 25 = .ok (.aload_n 1, 1) := by decide +kernel
theorem dCp_gather_26 : decode cCp_gather 26 = .ok (.getfield 31, 3) := by decide +kernel
theorem dCp_gather_29 : decode cCp_gather 29 = .ok (.iload_n 3, 1) := by decide +kernel
theorem dCp_gather_30 : decode cCp_gather 30 = .ok (.baload, 1) := by decide +kernel
theorem dCp_gather_31 : decode cCp_gather 31 = .ok (.ifCond .ne 30, 3) := by decide +kernel
theorem dCp_gather_34 : decode cCp_gather 34 = .ok (.aload_n 0, 1) := by decide +kernel
theorem dCp_gather_35 : decode cCp_gather 35 = .ok (.getfield 15, 3) := by decide +kernel
theorem dCp_gather_38 : decode cCp_gather 38 = .ok (.bipush 10, 2) := by decide +kernel
theorem dCp_gather_40 : decode cCp_gather 40 = .ok (.if_icmp .lt 5, 3) := by decide +kernel
theorem dCp_gather_43 : decode cCp_gather 43 = .ok (.iconst 0, 1) := by decide +kernel
theorem dCp_gather_44 : decode cCp_gather 44 = .ok (.ireturn, 1) := by decide +kernel
theorem dCp_gather_45 : decode cCp_gather 45 = .ok (.aload_n 0, 1) := by decide +kernel
theorem dCp_gather_46 : decode cCp_gather 46 = .ok (.aload_n 1, 1) := by decide +kernel
theorem dCp_gather_47 : decode cCp_gather 47 = .ok (.iload_n 3, 1) := by decide +kernel
theorem dCp_gather_48 : decode cCp_gather 48 = .ok (.iload_n 2, 1) := by decide +kernel
theorem dCp_gather_49 : decode cCp_gather 49 = .ok (.invokevirtual 35, 3) := by decide +kernel
theorem dCp_gather_52 : decode cCp_gather 52 = .ok (.aload_n 1, 1) := by decide +kernel
theorem dCp_gather_53 : decode cCp_gather 53 = .ok (.getfield 39, 3) := by decide +kernel
theorem dCp_gather_56 : decode cCp_gather 56 = .ok (.iload_n 3, 1) := by decide +kernel
theorem dCp_gather_57 : decode cCp_gather 57 = .ok (.iaload, 1) := by decide +kernel
theorem dCp_gather_58 : decode cCp_gather 58 = .ok (.invokevirtual 43, 3) := by decide +kernel
theorem dCp_gather_61 : decode cCp_gather 61 = .ok (.iinc 3 1, 3) := by decide +kernel
theorem dCp_gather_64 : decode cCp_gather 64 = .ok (.goto (-47), 3) := by decide +kernel
theorem dCp_gather_67 : decode cCp_gather 67 = .ok (.aload_n 0, 1) := by decide +kernel
theorem dCp_gather_68 : decode cCp_gather 68 = .ok (.aload_n 0, 1) := by decide +kernel
theorem dCp_gather_69 : decode cCp_gather 69 = .ok (.getfield 19, 3) := by decide +kernel
theorem dCp_gather_72 : decode cCp_gather 72 = .ok (.invokestatic 47, 3) := by decide +kernel
theorem dCp_gather_75 : decode cCp_gather 75 = .ok (.putfield 53, 3) := by decide +kernel
theorem dCp_gather_78 : decode cCp_gather 78 = .ok (.aload_n 0, 1) := by decide +kernel
theorem dCp_gather_79 : decode cCp_gather 79 = .ok (.getfield 53, 3) := by decide +kernel
theorem dCp_gather_82 : decode cCp_gather 82 = .ok (.ifCond .le 18, 3) := by decide +kernel
theorem dCp_gather_85 : decode cCp_gather 85 = .ok (.aload_n 0, 1) := by decide +kernel
theorem dCp_gather_86 : decode cCp_gather 86 = .ok (.getfield 53, 3) := by decide +kernel
theorem dCp_gather_89 : decode cCp_gather 89 = .ok (.aload_n 0, 1) := by decide +kernel
theorem dCp_gather_90 : decode cCp_gather 90 = .ok (.getfield 15, 3) := by decide +kernel
theorem dCp_gather_93 : decode cCp_gather 93 = .ok (.if_icmp .ge 7, 3) := by decide +kernel
theorem dCp_gather_96 : decode cCp_gather 96 = .ok (.iconst 1, 1) := by decide +kernel
theorem dCp_gather_97 : decode cCp_gather 97 = .ok (.goto 4, 3) := by decide +kernel
theorem dCp_gather_100 : decode cCp_gather 100 = .ok (.iconst 0, 1) := by decide +kernel
theorem dCp_gather_101 : decode cCp_gather 101 = .ok (.ireturn, 1) := by decide +kernel
theorem dCp_take_0 : decode cCp_take 0 = .ok (.aload_n 0, 1) := by decide +kernel
theorem dCp_take_1 : decode cCp_take 1 = .ok (.getfield 9, 3) := by decide +kernel
theorem dCp_take_4 : decode cCp_take 4 = .ok (.aload_n 0, 1) := by decide +kernel
theorem dCp_take_5 : decode cCp_take 5 = .ok (.getfield 15, 3) := by decide +kernel
theorem dCp_take_8 : decode cCp_take 8 = .ok (.lload_n 1, 1) := by decide +kernel
theorem dCp_take_9 : decode cCp_take 9 = .ok (.lastore, 1) := by decide +kernel
theorem dCp_take_10 : decode cCp_take 10 = .ok (.aload_n 0, 1) := by decide +kernel
theorem dCp_take_11 : decode cCp_take 11 = .ok (.dup, 1) := by decide +kernel
theorem dCp_take_12 : decode cCp_take 12 = .ok (.getfield 22, 3) := by decide +kernel
theorem dCp_take_15 : decode cCp_take 15 = .ok (.lload_n 1, 1) := by decide +kernel
theorem dCp_take_16 : decode cCp_take 16 = .ok (.ladd, 1) := by decide +kernel
theorem dCp_take_17 : decode cCp_take 17 = .ok (.putfield 22, 3) := by decide +kernel
theorem dCp_take_20 : decode cCp_take 20 = .ok (.iload_n 3, 1) := by decide +kernel
theorem dCp_take_21 : decode cCp_take 21 = .ok (.ifCond .ne 18, 3) := by decide +kernel
theorem dCp_take_24 : decode cCp_take 24 = .ok (.aload_n 0, 1) := by decide +kernel
theorem dCp_take_25 : decode cCp_take 25 = .ok (.dup, 1) := by decide +kernel
theorem dCp_take_26 : decode cCp_take 26 = .ok (.getfield 19, 3) := by decide +kernel
theorem dCp_take_29 : decode cCp_take 29 = .ok (.iconst 1, 1) := by decide +kernel
theorem dCp_take_30 : decode cCp_take 30 = .ok (.aload_n 0, 1) := by decide +kernel
theorem dCp_take_31 : decode cCp_take 31 = .ok (.getfield 15, 3) := by decide +kernel
theorem dCp_take_34 : decode cCp_take 34 = .ok (.ishl, 1) := by decide +kernel
theorem dCp_take_35 : decode cCp_take 35 = .ok (.ior, 1) := by decide +kernel
theorem dCp_take_36 : decode cCp_take 36 = .ok (.putfield 19, 3) := by decide +kernel
theorem dCp_take_39 : decode cCp_take 39 = .ok (.aload_n 0, 1) := by decide +kernel
theorem dCp_take_40 : decode cCp_take 40 = .ok (.dup, 1) := by decide +kernel
theorem dCp_take_41 : decode cCp_take 41 = .ok (.getfield 15, 3) := by decide +kernel
theorem dCp_take_44 : decode cCp_take 44 = .ok (.iconst 1, 1) := by decide +kernel
theorem dCp_take_45 : decode cCp_take 45 = .ok (.iadd, 1) := by decide +kernel
theorem dCp_take_46 : decode cCp_take 46 = .ok (.putfield 15, 3) := by decide +kernel
theorem dCp_take_49 : decode cCp_take 49 = .ok (.return_, 1) := by decide +kernel
theorem dCp_countWays_0 : decode cCp_countWays 0 = .ok (.lconst 0, 1) := by decide +kernel
theorem dCp_countWays_1 : decode cCp_countWays 1 = .ok (.lstore_n 1, 1) := by decide +kernel
theorem dCp_countWays_2 : decode cCp_countWays 2 = .ok (.iconst 0, 1) := by decide +kernel
theorem dCp_countWays_3 : decode cCp_countWays 3 = .ok (.istore_n 3, 1) := by decide +kernel
theorem dCp_countWays_4 : decode cCp_countWays 4 = .ok (.iload_n 3, 1) := by decide +kernel
theorem dCp_countWays_5 : decode cCp_countWays 5 = .ok (.iconst 1, 1) := by decide +kernel
theorem dCp_countWays_6 : decode cCp_countWays 6 = .ok (.aload_n 0, 1) := by decide +kernel
theorem dCp_countWays_7 : decode cCp_countWays 7 = .ok (.getfield 15, 3) := by decide +kernel
theorem dCp_countWays_10 : decode cCp_countWays 10 = .ok (.ishl, 1) := by decide +kernel
theorem dCp_countWays_11 : decode cCp_countWays 11 = .ok (.if_icmp .ge 24, 3) := by decide +kernel
theorem dCp_countWays_14 : decode cCp_countWays 14 = .ok (.iload_n 3, 1) := by decide +kernel
theorem dCp_countWays_15 : decode cCp_countWays 15 = .ok (.invokestatic 47, 3) := by decide +kernel
theorem dCp_countWays_18 : decode cCp_countWays 18 = .ok (.aload_n 0, 1) := by decide +kernel
theorem dCp_countWays_19 : decode cCp_countWays 19 = .ok (.getfield 53, 3) := by decide +kernel
theorem dCp_countWays_22 : decode cCp_countWays 22 = .ok (.if_icmp .ne 7, 3) := by decide +kernel
theorem dCp_countWays_25 : decode cCp_countWays 25 = .ok (.lload_n 1, 1) := by decide +kernel
theorem dCp_countWays_26 : decode cCp_countWays 26 = .ok (.lconst 1, 1) := by decide +kernel
theorem dCp_countWays_27 : decode cCp_countWays 27 = .ok (.ladd, 1) := by decide +kernel
theorem dCp_countWays_28 : decode cCp_countWays 28 = .ok (.lstore_n 1, 1) := by decide +kernel
theorem dCp_countWays_29 : decode cCp_countWays 29 = .ok (.iinc 3 1, 3) := by decide +kernel
theorem dCp_countWays_32 : decode cCp_countWays 32 = .ok (.goto (-28), 3) := by decide +kernel
theorem dCp_countWays_35 : decode cCp_countWays 35 = .ok (.lload_n 1, 1) := by decide +kernel
theorem dCp_countWays_36 : decode cCp_countWays 36 = .ok (.lreturn, 1) := by decide +kernel
theorem dCp_countFarWays_0 : decode cCp_countFarWays 0 = .ok (.aload_n 0, 1) := by decide +kernel
theorem dCp_countFarWays_1 : decode cCp_countFarWays 1 = .ok (.aload_n 0, 1) := by decide +kernel
theorem dCp_countFarWays_2 : decode cCp_countFarWays 2 = .ok (.getfield 19, 3) := by decide +kernel
theorem dCp_countFarWays_5 : decode cCp_countFarWays 5 = .ok (.invokevirtual 56, 3) := by decide +kernel
theorem dCp_countFarWays_8 : decode cCp_countFarWays 8 = .ok (.lstore_n 1, 1) := by decide +kernel
theorem dCp_countFarWays_9 : decode cCp_countFarWays 9 = .ok (.lconst 0, 1) := by decide +kernel
theorem dCp_countFarWays_10 : decode cCp_countFarWays 10 = .ok (.lstore_n 3, 1) := by decide +kernel
theorem dCp_countFarWays_11 : decode cCp_countFarWays 11 = .ok (.iconst 0, 1) := by decide +kernel
theorem dCp_countFarWays_12 : decode cCp_countFarWays 12 = .ok (.istore 5, 2) := by decide +kernel
theorem dCp_countFarWays_14 : decode cCp_countFarWays 14 = .ok (.iload 5, 2) := by decide +kernel
theorem dCp_countFarWays_16 : decode cCp_countFarWays 16 = .ok (.iconst 1, 1) := by decide +kernel
theorem dCp_countFarWays_17 : decode cCp_countFarWays 17 = .ok (.aload_n 0, 1) := by decide +kernel
theorem dCp_countFarWays_18 : decode cCp_countFarWays 18 = .ok (.getfield 15, 3) := by decide +kernel
theorem dCp_countFarWays_21 : decode cCp_countFarWays 21 = .ok (.ishl, 1) := by decide +kernel
theorem dCp_countFarWays_22 : decode cCp_countFarWays 22 = .ok (.if_icmp .ge 36, 3) := by decide +kernel
theorem dCp_countFarWays_25 : decode cCp_countFarWays 25 = .ok (.iload 5, 2) := by decide +kernel
theorem dCp_countFarWays_27 : decode cCp_countFarWays 27 = .ok (.invokestatic 47, 3) := by decide +kernel
theorem dCp_countFarWays_30 : decode cCp_countFarWays 30 = .ok (.aload_n 0, 1) := by decide +kernel
theorem dCp_countFarWays_31 : decode cCp_countFarWays 31 = .ok (.getfield 53, 3) := by decide +kernel
theorem dCp_countFarWays_34 : decode cCp_countFarWays 34 = .ok (.if_icmp .ne 18, 3) := by decide +kernel
theorem dCp_countFarWays_37 : decode cCp_countFarWays 37 = .ok (.aload_n 0, 1) := by decide +kernel
theorem dCp_countFarWays_38 : decode cCp_countFarWays 38 = .ok (.iload 5, 2) := by decide +kernel
theorem dCp_countFarWays_40 : decode cCp_countFarWays 40 = .ok (.invokevirtual 56, 3) := by decide +kernel
theorem dCp_countFarWays_43 : decode cCp_countFarWays 43 = .ok (.lload_n 1, 1) := by decide +kernel
theorem dCp_countFarWays_44 : decode cCp_countFarWays 44 = .ok (.lcmp, 1) := by decide +kernel
theorem dCp_countFarWays_45 : decode cCp_countFarWays 45 = .ok (.ifCond .lt 7, 3) := by decide +kernel
theorem dCp_countFarWays_48 : decode cCp_countFarWays 48 = .ok (.lload_n 3, 1) := by decide +kernel
theorem dCp_countFarWays_49 : decode cCp_countFarWays 49 = .ok (.lconst 1, 1) := by decide +kernel
theorem dCp_countFarWays_50 : decode cCp_countFarWays 50 = .ok (.ladd, 1) := by decide +kernel
theorem dCp_countFarWays_51 : decode cCp_countFarWays 51 = .ok (.lstore_n 3, 1) := by decide +kernel
theorem dCp_countFarWays_52 : decode cCp_countFarWays 52 = .ok (.iinc 5 1, 3) := by decide +kernel
theorem dCp_countFarWays_55 : decode cCp_countFarWays 55 = .ok (.goto (-41), 3) := by decide +kernel
theorem dCp_countFarWays_58 : decode cCp_countFarWays 58 = .ok (.lload_n 3, 1) := by decide +kernel
theorem dCp_countFarWays_59 : decode cCp_countFarWays 59 = .ok (.lreturn, 1) := by decide +kernel
theorem dCp_apart_0 : decode cCp_apart 0 = .ok (.lconst 0, 1) := by decide +kernel
theorem dCp_apart_1 : decode cCp_apart 1 = .ok (.lstore_n 2, 1) := by decide +kernel
theorem dCp_apart_2 : decode cCp_apart 2 = .ok (.iconst 0, 1) := by decide +kernel
theorem dCp_apart_3 : decode cCp_apart 3 = .ok (.istore 4, 2) := by decide +kernel
theorem dCp_apart_5 : decode cCp_apart 5 = .ok (.iload 4, 2) := by decide +kernel
theorem dCp_apart_7 : decode cCp_apart 7 = .ok (.aload_n 0, 1) := by decide +kernel
theorem dCp_apart_8 : decode cCp_apart 8 = .ok (.getfield 15, 3) := by decide +kernel
theorem dCp_apart_11 : decode cCp_apart 11 = .ok (.if_icmp .ge 29, 3) := by decide +kernel
theorem dCp_apart_14 : decode cCp_apart 14 = .ok (.iload_n 1, 1) := by decide +kernel
theorem dCp_apart_15 : decode cCp_apart 15 = .ok (.iload 4, 2) := by decide +kernel
theorem dCp_apart_17 : decode cCp_apart 17 = .ok (.ishr, 1) := by decide +kernel
theorem dCp_apart_18 : decode cCp_apart 18 = .ok (.iconst 1, 1) := by decide +kernel
theorem dCp_apart_19 : decode cCp_apart 19 = .ok (.iand, 1) := by decide +kernel
theorem dCp_apart_20 : decode cCp_apart 20 = .ok (.iconst 1, 1) := by decide +kernel
theorem dCp_apart_21 : decode cCp_apart 21 = .ok (.if_icmp .ne 13, 3) := by decide +kernel
theorem dCp_apart_24 : decode cCp_apart 24 = .ok (.lload_n 2, 1) := by decide +kernel
theorem dCp_apart_25 : decode cCp_apart 25 = .ok (.aload_n 0, 1) := by decide +kernel
theorem dCp_apart_26 : decode cCp_apart 26 = .ok (.getfield 9, 3) := by decide +kernel
theorem dCp_apart_29 : decode cCp_apart 29 = .ok (.iload 4, 2) := by decide +kernel
theorem dCp_apart_31 : decode cCp_apart 31 = .ok (.laload, 1) := by decide +kernel
theorem dCp_apart_32 : decode cCp_apart 32 = .ok (.ladd, 1) := by decide +kernel
theorem dCp_apart_33 : decode cCp_apart 33 = .ok (.lstore_n 2, 1) := by decide +kernel
theorem dCp_apart_34 : decode cCp_apart 34 = .ok (.iinc 4 1, 3) := by decide +kernel
theorem dCp_apart_37 : decode cCp_apart 37 = .ok (.goto (-32), 3) := by decide +kernel
theorem dCp_apart_40 : decode cCp_apart 40 = .ok (.lload_n 2, 1) := by decide +kernel
theorem dCp_apart_41 : decode cCp_apart 41 = .ok (.aload_n 0, 1) := by decide +kernel
theorem dCp_apart_42 : decode cCp_apart 42 = .ok (.getfield 15, 3) := by decide +kernel
theorem dCp_apart_45 : decode cCp_apart 45 = .ok (.aload_n 0, 1) := by decide +kernel
theorem dCp_apart_46 : decode cCp_apart 46 = .ok (.getfield 53, 3) := by decide +kernel
theorem dCp_apart_49 : decode cCp_apart 49 = .ok (.isub, 1) := by decide +kernel
theorem dCp_apart_50 : decode cCp_apart 50 = .ok (.i2l, 1) := by decide +kernel
theorem dCp_apart_51 : decode cCp_apart 51 = .ok (.lmul, 1) := by decide +kernel
theorem dCp_apart_52 : decode cCp_apart 52 = .ok (.aload_n 0, 1) := by decide +kernel
theorem dCp_apart_53 : decode cCp_apart 53 = .ok (.getfield 22, 3) := by decide +kernel
theorem dCp_apart_56 : decode cCp_apart 56 = .ok (.lload_n 2, 1) := by decide +kernel
theorem dCp_apart_57 : decode cCp_apart 57 = .ok (.lsub, 1) := by decide +kernel
theorem dCp_apart_58 : decode cCp_apart 58 = .ok (.aload_n 0, 1) := by decide +kernel
theorem dCp_apart_59 : decode cCp_apart 59 = .ok (.getfield 53, 3) := by decide +kernel
theorem dCp_apart_62 : decode cCp_apart 62 = .ok (.i2l, 1) := by decide +kernel
theorem dCp_apart_63 : decode cCp_apart 63 = .ok (.lmul, 1) := by decide +kernel
theorem dCp_apart_64 : decode cCp_apart 64 = .ok (.lsub, 1) := by decide +kernel
theorem dCp_apart_65 : decode cCp_apart 65 = .ok (.invokestatic 60, 3) := by decide +kernel
theorem dCp_apart_68 : decode cCp_apart 68 = .ok (.lreturn, 1) := by decide +kernel
theorem dJI_bitCount_0 : decode cJI_bitCount 0 = .ok (.iload_n 0, 1) := by decide +kernel
theorem dJI_bitCount_1 : decode cJI_bitCount 1 = .ok (.iload_n 0, 1) := by decide +kernel
theorem dJI_bitCount_2 : decode cJI_bitCount 2 = .ok (.iconst 1, 1) := by decide +kernel
theorem dJI_bitCount_3 : decode cJI_bitCount 3 = .ok (.iushr, 1) := by decide +kernel
theorem dJI_bitCount_4 : decode cJI_bitCount 4 = .ok (.ldc_w 265, 3) := by decide +kernel
theorem dJI_bitCount_7 : decode cJI_bitCount 7 = .ok (.iand, 1) := by decide +kernel
theorem dJI_bitCount_8 : decode cJI_bitCount 8 = .ok (.isub, 1) := by decide +kernel
theorem dJI_bitCount_9 : decode cJI_bitCount 9 = .ok (.istore_n 0, 1) := by decide +kernel
theorem dJI_bitCount_10 : decode cJI_bitCount 10 = .ok (.iload_n 0, 1) := by decide +kernel
theorem dJI_bitCount_11 : decode cJI_bitCount 11 = .ok (.ldc_w 266, 3) := by decide +kernel
theorem dJI_bitCount_14 : decode cJI_bitCount 14 = .ok (.iand, 1) := by decide +kernel
theorem dJI_bitCount_15 : decode cJI_bitCount 15 = .ok (.iload_n 0, 1) := by decide +kernel
theorem dJI_bitCount_16 : decode cJI_bitCount 16 = .ok (.iconst 2, 1) := by decide +kernel
theorem dJI_bitCount_17 : decode cJI_bitCount 17 = .ok (.iushr, 1) := by decide +kernel
theorem dJI_bitCount_18 : decode cJI_bitCount 18 = .ok (.ldc_w 266, 3) := by decide +kernel
theorem dJI_bitCount_21 : decode cJI_bitCount 21 = .ok (.iand, 1) := by decide +kernel
theorem dJI_bitCount_22 : decode cJI_bitCount 22 = .ok (.iadd, 1) := by decide +kernel
theorem dJI_bitCount_23 : decode cJI_bitCount 23 = .ok (.istore_n 0, 1) := by decide +kernel
theorem dJI_bitCount_24 : decode cJI_bitCount 24 = .ok (.iload_n 0, 1) := by decide +kernel
theorem dJI_bitCount_25 : decode cJI_bitCount 25 = .ok (.iload_n 0, 1) := by decide +kernel
theorem dJI_bitCount_26 : decode cJI_bitCount 26 = .ok (.iconst 4, 1) := by decide +kernel
theorem dJI_bitCount_27 : decode cJI_bitCount 27 = .ok (.iushr, 1) := by decide +kernel
theorem dJI_bitCount_28 : decode cJI_bitCount 28 = .ok (.iadd, 1) := by decide +kernel
theorem dJI_bitCount_29 : decode cJI_bitCount 29 = .ok (.ldc_w 267, 3) := by decide +kernel
theorem dJI_bitCount_32 : decode cJI_bitCount 32 = .ok (.iand, 1) := by decide +kernel
theorem dJI_bitCount_33 : decode cJI_bitCount 33 = .ok (.istore_n 0, 1) := by decide +kernel
theorem dJI_bitCount_34 : decode cJI_bitCount 34 = .ok (.iload_n 0, 1) := by decide +kernel
theorem dJI_bitCount_35 : decode cJI_bitCount 35 = .ok (.iload_n 0, 1) := by decide +kernel
theorem dJI_bitCount_36 : decode cJI_bitCount 36 = .ok (.bipush 8, 2) := by decide +kernel
theorem dJI_bitCount_38 : decode cJI_bitCount 38 = .ok (.iushr, 1) := by decide +kernel
theorem dJI_bitCount_39 : decode cJI_bitCount 39 = .ok (.iadd, 1) := by decide +kernel
theorem dJI_bitCount_40 : decode cJI_bitCount 40 = .ok (.istore_n 0, 1) := by decide +kernel
theorem dJI_bitCount_41 : decode cJI_bitCount 41 = .ok (.iload_n 0, 1) := by decide +kernel
theorem dJI_bitCount_42 : decode cJI_bitCount 42 = .ok (.iload_n 0, 1) := by decide +kernel
theorem dJI_bitCount_43 : decode cJI_bitCount 43 = .ok (.bipush 16, 2) := by decide +kernel
theorem dJI_bitCount_45 : decode cJI_bitCount 45 = .ok (.iushr, 1) := by decide +kernel
theorem dJI_bitCount_46 : decode cJI_bitCount 46 = .ok (.iadd, 1) := by decide +kernel
theorem dJI_bitCount_47 : decode cJI_bitCount 47 = .ok (.istore_n 0, 1) := by decide +kernel
theorem dJI_bitCount_48 : decode cJI_bitCount 48 = .ok (.iload_n 0, 1) := by decide +kernel
theorem dJI_bitCount_49 : decode cJI_bitCount 49 = .ok (.bipush 63, 2) := by decide +kernel
theorem dJI_bitCount_51 : decode cJI_bitCount 51 = .ok (.iand, 1) := by decide +kernel
theorem dJI_bitCount_52 : decode cJI_bitCount 52 = .ok (.ireturn, 1) := by decide +kernel
theorem dJA_fill_0 : decode cJA_fill 0 = .ok (.iconst 0, 1) := by decide +kernel
theorem dJA_fill_1 : decode cJA_fill 1 = .ok (.istore_n 3, 1) := by decide +kernel
theorem dJA_fill_2 : decode cJA_fill 2 = .ok (.aload_n 0, 1) := by decide +kernel
theorem dJA_fill_3 : decode cJA_fill 3 = .ok (.arraylength, 1) := by decide +kernel
theorem dJA_fill_4 : decode cJA_fill 4 = .ok (.istore 4, 2) := by decide +kernel
theorem dJA_fill_6 : decode cJA_fill 6 = .ok (.iload_n 3, 1) := by decide +kernel
theorem dJA_fill_7 : decode cJA_fill 7 = .ok (.iload 4, 2) := by decide +kernel
theorem dJA_fill_9 : decode cJA_fill 9 = .ok (.if_icmp .ge 13, 3) := by decide +kernel
theorem dJA_fill_12 : decode cJA_fill 12 = .ok (.aload_n 0, 1) := by decide +kernel
theorem dJA_fill_13 : decode cJA_fill 13 = .ok (.iload_n 3, 1) := by decide +kernel
theorem dJA_fill_14 : decode cJA_fill 14 = .ok (.lload_n 1, 1) := by decide +kernel
theorem dJA_fill_15 : decode cJA_fill 15 = .ok (.lastore, 1) := by decide +kernel
theorem dJA_fill_16 : decode cJA_fill 16 = .ok (.iinc 3 1, 3) := by decide +kernel
theorem dJA_fill_19 : decode cJA_fill 19 = .ok (.goto (-13), 3) := by decide +kernel
theorem dJA_fill_22 : decode cJA_fill 22 = .ok (.return_, 1) := by decide +kernel
end
section
theorem dSc_init_0 : decode cSc_init 0 = .ok (.aload_n 0, 1) := by decide +kernel
theorem dSc_init_1 : decode cSc_init 1 = .ok (.invokespecial 1, 3) := by decide +kernel
theorem dSc_init_4 : decode cSc_init 4 = .ok (.aload_n 0, 1) := by decide +kernel
theorem dSc_init_5 : decode cSc_init 5 = .ok (.new 7, 3) := by decide +kernel
theorem dSc_init_8 : decode cSc_init 8 = .ok (.dup, 1) := by decide +kernel
theorem dSc_init_9 : decode cSc_init 9 = .ok (.invokespecial 9, 3) := by decide +kernel
theorem dSc_init_12 : decode cSc_init 12 = .ok (.putfield 10, 3) := by decide +kernel
theorem dSc_init_15 : decode cSc_init 15 = .ok (.aload_n 0, 1) := by decide +kernel
theorem dSc_init_16 : decode cSc_init 16 = .ok (.new 16, 3) := by decide +kernel
theorem dSc_init_19 : decode cSc_init 19 = .ok (.dup, 1) := by decide +kernel
theorem dSc_init_20 : decode cSc_init 20 = .ok (.invokespecial 18, 3) := by decide +kernel
theorem dSc_init_23 : decode cSc_init 23 = .ok (.putfield 19, 3) := by decide +kernel
theorem dSc_init_26 : decode cSc_init 26 = .ok (.aload_n 0, 1) := by decide +kernel
theorem dSc_init_27 : decode cSc_init 27 = .ok (.new 23, 3) := by decide +kernel
theorem dSc_init_30 : decode cSc_init 30 = .ok (.dup, 1) := by decide +kernel
theorem dSc_init_31 : decode cSc_init 31 = .ok (.lload_n 1, 1) := by decide +kernel
theorem dSc_init_32 : decode cSc_init 32 = .ok (.invokespecial 25, 3) := by decide +kernel
theorem dSc_init_35 : decode cSc_init 35 = .ok (.putfield 28, 3) := by decide +kernel
theorem dSc_init_38 : decode cSc_init 38 = .ok (.aload_n 0, 1) := by decide +kernel
theorem dSc_init_39 : decode cSc_init 39 = .ok (.new 32, 3) := by decide +kernel
theorem dSc_init_42 : decode cSc_init 42 = .ok (.dup, 1) := by decide +kernel
theorem dSc_init_43 : decode cSc_init 43 = .ok (.invokespecial 34, 3) := by decide +kernel
theorem dSc_init_46 : decode cSc_init 46 = .ok (.putfield 35, 3) := by decide +kernel
theorem dSc_init_49 : decode cSc_init 49 = .ok (.aload_n 0, 1) := by decide +kernel
theorem dSc_init_50 : decode cSc_init 50 = .ok (.new 39, 3) := by decide +kernel
theorem dSc_init_53 : decode cSc_init 53 = .ok (.dup, 1) := by decide +kernel
theorem dSc_init_54 : decode cSc_init 54 = .ok (.invokespecial 41, 3) := by decide +kernel
theorem dSc_init_57 : decode cSc_init 57 = .ok (.putfield 42, 3) := by decide +kernel
theorem dSc_init_60 : decode cSc_init 60 = .ok (.aload_n 0, 1) := by decide +kernel
theorem dSc_init_61 : decode cSc_init 61 = .ok (.new 46, 3) := by decide +kernel
theorem dSc_init_64 : decode cSc_init 64 = .ok (.dup, 1) := by decide +kernel
theorem dSc_init_65 : decode cSc_init 65 = .ok (.invokespecial 48, 3) := by decide +kernel
theorem dSc_init_68 : decode cSc_init 68 = .ok (.putfield 49, 3) := by decide +kernel
theorem dSc_init_71 : decode cSc_init 71 = .ok (.aload_n 0, 1) := by decide +kernel
theorem dSc_init_72 : decode cSc_init 72 = .ok (.new 53, 3) := by decide +kernel
theorem dSc_init_75 : decode cSc_init 75 = .ok (.dup, 1) := by decide +kernel
theorem dSc_init_76 : decode cSc_init 76 = .ok (.invokespecial 55, 3) := by decide +kernel
theorem dSc_init_79 : decode cSc_init 79 = .ok (.putfield 56, 3) := by decide +kernel
theorem dSc_init_82 : decode cSc_init 82 = .ok (.return_, 1) := by decide +kernel
theorem dSc_stratum_0 : decode cSc_stratum 0 = .ok (.aload_n 0, 1) := by decide +kernel
theorem dSc_stratum_1 : decode cSc_stratum 1 = .ok (.getfield 10, 3) := by decide +kernel
theorem dSc_stratum_4 : decode cSc_stratum 4 = .ok (.iload_n 1, 1) := by decide +kernel
theorem dSc_stratum_5 : decode cSc_stratum 5 = .ok (.invokevirtual 60, 3) := by decide +kernel
theorem dSc_stratum_8 : decode cSc_stratum 8 = .ok (.ireturn, 1) := by decide +kernel
theorem dSc_cost_0 : decode cSc_cost 0 = .ok (.aload_n 0, 1) := by decide +kernel
theorem dSc_cost_1 : decode cSc_cost 1 = .ok (.getfield 10, 3) := by decide +kernel
theorem dSc_cost_4 : decode cSc_cost 4 = .ok (.iload_n 1, 1) := by decide +kernel
theorem dSc_cost_5 : decode cSc_cost 5 = .ok (.lload_n 2, 1) := by decide +kernel
theorem dSc_cost_6 : decode cSc_cost 6 = .ok (.invokevirtual 64, 3) := by decide +kernel
theorem dSc_cost_9 : decode cSc_cost 9 = .ok (.ireturn, 1) := by decide +kernel
theorem dSc_bag_0 : decode cSc_bag 0 = .ok (.aload_n 0, 1) := by decide +kernel
theorem dSc_bag_1 : decode cSc_bag 1 = .ok (.getfield 10, 3) := by decide +kernel
theorem dSc_bag_4 : decode cSc_bag 4 = .ok (.iload_n 1, 1) := by decide +kernel
theorem dSc_bag_5 : decode cSc_bag 5 = .ok (.invokevirtual 68, 3) := by decide +kernel
theorem dSc_bag_8 : decode cSc_bag 8 = .ok (.ifCond .eq 14, 3) := by decide +kernel
theorem dSc_bag_11 : decode cSc_bag 11 = .ok (.aload_n 0, 1) := by decide +kernel
theorem dSc_bag_12 : decode cSc_bag 12 = .ok (.getfield 19, 3) := by decide +kernel
theorem dSc_bag_15 : decode cSc_bag 15 = .ok (.iload_n 1, 1) := by decide +kernel
theorem dSc_bag_16 : decode cSc_bag 16 = .ok (.invokevirtual 72, 3) := by decide +kernel
theorem dSc_bag_19 : decode cSc_bag 19 = .ok (.goto 4, 3) := by decide +kernel
theorem dSc_bag_22 : decode cSc_bag 22 = .ok (.iconst (-1), 1) := by decide +kernel
theorem dSc_bag_23 : decode cSc_bag 23 = .ok (.ireturn, 1) := by decide +kernel
theorem dSc_weight_0 : decode cSc_weight 0 = .ok (.aload_n 0, 1) := by decide +kernel
theorem dSc_weight_1 : decode cSc_weight 1 = .ok (.getfield 19, 3) := by decide +kernel
theorem dSc_weight_4 : decode cSc_weight 4 = .ok (.iload_n 1, 1) := by decide +kernel
theorem dSc_weight_5 : decode cSc_weight 5 = .ok (.iload_n 2, 1) := by decide +kernel
theorem dSc_weight_6 : decode cSc_weight 6 = .ok (.lload_n 3, 1) := by decide +kernel
theorem dSc_weight_7 : decode cSc_weight 7 = .ok (.invokevirtual 73, 3) := by decide +kernel
theorem dSc_weight_10 : decode cSc_weight 10 = .ok (.ireturn, 1) := by decide +kernel
theorem dSc_year_0 : decode cSc_year 0 = .ok (.aload_n 0, 1) := by decide +kernel
theorem dSc_year_1 : decode cSc_year 1 = .ok (.getfield 19, 3) := by decide +kernel
theorem dSc_year_4 : decode cSc_year 4 = .ok (.iload_n 1, 1) := by decide +kernel
theorem dSc_year_5 : decode cSc_year 5 = .ok (.iload_n 2, 1) := by decide +kernel
theorem dSc_year_6 : decode cSc_year 6 = .ok (.invokevirtual 77, 3) := by decide +kernel
theorem dSc_year_9 : decode cSc_year 9 = .ok (.ireturn, 1) := by decide +kernel
theorem dSc_missing_0 : decode cSc_missing 0 = .ok (.aload_n 0, 1) := by decide +kernel
theorem dSc_missing_1 : decode cSc_missing 1 = .ok (.getfield 19, 3) := by decide +kernel
theorem dSc_missing_4 : decode cSc_missing 4 = .ok (.iload_n 1, 1) := by decide +kernel
theorem dSc_missing_5 : decode cSc_missing 5 = .ok (.invokevirtual 81, 3) := by decide +kernel
theorem dSc_missing_8 : decode cSc_missing 8 = .ok (.ireturn, 1) := by decide +kernel
theorem dSc_draw_0 : decode cSc_draw 0 = .ok (.aload_n 0, 1) := by decide +kernel
theorem dSc_draw_1 : decode cSc_draw 1 = .ok (.getfield 10, 3) := by decide +kernel
theorem dSc_draw_4 : decode cSc_draw 4 = .ok (.iload_n 1, 1) := by decide +kernel
theorem dSc_draw_5 : decode cSc_draw 5 = .ok (.invokevirtual 68, 3) := by decide +kernel
theorem dSc_draw_8 : decode cSc_draw 8 = .ok (.ifCond .ne 5, 3) := by decide +kernel
theorem dSc_draw_11 : decode cSc_draw 11 = .ok (.iconst (-1), 1) := by decide +kernel
theorem dSc_draw_12 : decode cSc_draw 12 = .ok (.ireturn, 1) := by decide +kernel
theorem dSc_draw_13 : decode cSc_draw 13 = .ok (.aload_n 0, 1) := by decide +kernel
theorem dSc_draw_14 : decode cSc_draw 14 = .ok (.getfield 28, 3) := by decide +kernel
theorem dSc_draw_17 : decode cSc_draw 17 = .ok (.iload_n 1, 1) := by decide +kernel
theorem dSc_draw_18 : decode cSc_draw 18 = .ok (.aload_n 0, 1) := by decide +kernel
theorem dSc_draw_19 : decode cSc_draw 19 = .ok (.getfield 10, 3) := by decide +kernel
theorem dSc_draw_22 : decode cSc_draw 22 = .ok (.getfield 84, 3) := by decide +kernel
theorem dSc_draw_25 : decode cSc_draw 25 = .ok (.iload_n 1, 1) := by decide +kernel
theorem dSc_draw_26 : decode cSc_draw 26 = .ok (.iaload, 1) := by decide +kernel
theorem dSc_draw_27 : decode cSc_draw 27 = .ok (.iload_n 2, 1) := by decide +kernel
theorem dSc_draw_28 : decode cSc_draw 28 = .ok (.invokevirtual 88, 3) := by decide +kernel
theorem dSc_draw_31 : decode cSc_draw 31 = .ok (.ireturn, 1) := by decide +kernel
theorem dSc_drawn_0 : decode cSc_drawn 0 = .ok (.aload_n 0, 1) := by decide +kernel
theorem dSc_drawn_1 : decode cSc_drawn 1 = .ok (.getfield 10, 3) := by decide +kernel
theorem dSc_drawn_4 : decode cSc_drawn 4 = .ok (.iload_n 1, 1) := by decide +kernel
theorem dSc_drawn_5 : decode cSc_drawn 5 = .ok (.invokevirtual 92, 3) := by decide +kernel
theorem dSc_drawn_8 : decode cSc_drawn 8 = .ok (.ifCond .eq 15, 3) := by decide +kernel
theorem dSc_drawn_11 : decode cSc_drawn 11 = .ok (.aload_n 0, 1) := by decide +kernel
theorem dSc_drawn_12 : decode cSc_drawn 12 = .ok (.getfield 28, 3) := by decide +kernel
theorem dSc_drawn_15 : decode cSc_drawn 15 = .ok (.iload_n 1, 1) := by decide +kernel
theorem dSc_drawn_16 : decode cSc_drawn 16 = .ok (.iload_n 2, 1) := by decide +kernel
theorem dSc_drawn_17 : decode cSc_drawn 17 = .ok (.invokevirtual 95, 3) := by decide +kernel
theorem dSc_drawn_20 : decode cSc_drawn 20 = .ok (.goto 4, 3) := by decide +kernel
theorem dSc_drawn_23 : decode cSc_drawn 23 = .ok (.iconst (-1), 1) := by decide +kernel
theorem dSc_drawn_24 : decode cSc_drawn 24 = .ok (.ireturn, 1) := by decide +kernel
theorem dSc_mean_0 : decode cSc_mean 0 = .ok (.iload_n 1, 1) := by decide +kernel
theorem dSc_mean_1 : decode cSc_mean 1 = .ok (.invokestatic 99, 3) := by decide +kernel
theorem dSc_mean_4 : decode cSc_mean 4 = .ok (.ifCond .eq 10, 3) := by decide +kernel
theorem dSc_mean_7 : decode cSc_mean 7 = .ok (.iload_n 2, 1) := by decide +kernel
theorem dSc_mean_8 : decode cSc_mean 8 = .ok (.invokestatic 102, 3) := by decide +kernel
theorem dSc_mean_11 : decode cSc_mean 11 = .ok (.ifCond .ne 7, 3) := by decide +kernel
theorem dSc_mean_14 : decode cSc_mean 14 = .ok (.ldc2_w 105, 3) := by decide +kernel
theorem dSc_mean_17 : decode cSc_mean 17 = .ok (.lreturn, 1) := by decide +kernel
theorem dSc_mean_18 : decode cSc_mean 18 = .ok (.aload_n 0, 1) := by decide +kernel
theorem dSc_mean_19 : decode cSc_mean 19 = .ok (.getfield 42, 3) := by decide +kernel
theorem dSc_mean_22 : decode cSc_mean 22 = .ok (.aload_n 0, 1) := by decide +kernel
theorem dSc_mean_23 : decode cSc_mean 23 = .ok (.getfield 10, 3) := by decide +kernel
theorem dSc_mean_26 : decode cSc_mean 26 = .ok (.aload_n 0, 1) := by decide +kernel
theorem dSc_mean_27 : decode cSc_mean 27 = .ok (.getfield 19, 3) := by decide +kernel
theorem dSc_mean_30 : decode cSc_mean 30 = .ok (.iload_n 1, 1) := by decide +kernel
theorem dSc_mean_31 : decode cSc_mean 31 = .ok (.invokevirtual 107, 3) := by decide +kernel
theorem dSc_mean_34 : decode cSc_mean 34 = .ok (.aload_n 0, 1) := by decide +kernel
theorem dSc_mean_35 : decode cSc_mean 35 = .ok (.getfield 42, 3) := by decide +kernel
theorem dSc_mean_38 : decode cSc_mean 38 = .ok (.getfield 111, 3) := by decide +kernel
theorem dSc_mean_41 : decode cSc_mean 41 = .ok (.ifCond .le 14, 3) := by decide +kernel
theorem dSc_mean_44 : decode cSc_mean 44 = .ok (.aload_n 0, 1) := by decide +kernel
theorem dSc_mean_45 : decode cSc_mean 45 = .ok (.getfield 42, 3) := by decide +kernel
theorem dSc_mean_48 : decode cSc_mean 48 = .ok (.iload_n 2, 1) := by decide +kernel
theorem dSc_mean_49 : decode cSc_mean 49 = .ok (.invokevirtual 115, 3) := by decide +kernel
theorem dSc_mean_52 : decode cSc_mean 52 = .ok (.goto 6, 3) := by decide +kernel
theorem dSc_mean_55 : decode cSc_mean 55 = .ok (.ldc2_w 105, 3) := by decide +kernel
theorem dSc_mean_58 : decode cSc_mean 58 = .ok (.lreturn, 1) := by decide +kernel
theorem dSc_spread_0 : decode cSc_spread 0 = .ok (.iload_n 1, 1) := by decide +kernel
theorem dSc_spread_1 : decode cSc_spread 1 = .ok (.invokestatic 99, 3) := by decide +kernel
theorem dSc_spread_4 : decode cSc_spread 4 = .ok (.ifCond .eq 10, 3) := by decide +kernel
theorem dSc_spread_7 : decode cSc_spread 7 = .ok (.iload_n 2, 1) := by decide +kernel
theorem dSc_spread_8 : decode cSc_spread 8 = .ok (.invokestatic 102, 3) := by decide +kernel
theorem dSc_spread_11 : decode cSc_spread 11 = .ok (.ifCond .ne 7, 3) := by decide +kernel
theorem dSc_spread_14 : decode cSc_spread 14 = .ok (.ldc2_w 105, 3) := by decide +kernel
theorem dSc_spread_17 : decode cSc_spread 17 = .ok (.lreturn, 1) := by decide +kernel
theorem dSc_spread_18 : decode cSc_spread 18 = .ok (.aload_n 0, 1) := by decide +kernel
theorem dSc_spread_19 : decode cSc_spread 19 = .ok (.getfield 42, 3) := by decide +kernel
theorem dSc_spread_22 : decode cSc_spread 22 = .ok (.aload_n 0, 1) := by decide +kernel
theorem dSc_spread_23 : decode cSc_spread 23 = .ok (.getfield 10, 3) := by decide +kernel
theorem dSc_spread_26 : decode cSc_spread 26 = .ok (.aload_n 0, 1) := by decide +kernel
theorem dSc_spread_27 : decode cSc_spread 27 = .ok (.getfield 19, 3) := by decide +kernel
theorem dSc_spread_30 : decode cSc_spread 30 = .ok (.iload_n 1, 1) := by decide +kernel
theorem dSc_spread_31 : decode cSc_spread 31 = .ok (.invokevirtual 107, 3) := by decide +kernel
theorem dSc_spread_34 : decode cSc_spread 34 = .ok (.aload_n 0, 1) := by decide +kernel
theorem dSc_spread_35 : decode cSc_spread 35 = .ok (.getfield 42, 3) := by decide +kernel
theorem dSc_spread_38 : decode cSc_spread 38 = .ok (.invokevirtual 119, 3) := by decide +kernel
theorem dSc_spread_41 : decode cSc_spread 41 = .ok (.ifCond .eq 14, 3) := by decide +kernel
theorem dSc_spread_44 : decode cSc_spread 44 = .ok (.aload_n 0, 1) := by decide +kernel
theorem dSc_spread_45 : decode cSc_spread 45 = .ok (.getfield 42, 3) := by decide +kernel
theorem dSc_spread_48 : decode cSc_spread 48 = .ok (.iload_n 2, 1) := by decide +kernel
theorem dSc_spread_49 : decode cSc_spread 49 = .ok (.invokevirtual 123, 3) := by decide +kernel
theorem dSc_spread_52 : decode cSc_spread 52 = .ok (.goto 6, 3) := by decide +kernel
theorem dSc_spread_55 : decode cSc_spread 55 = .ok (.ldc2_w 105, 3) := by decide +kernel
theorem dSc_spread_58 : decode cSc_spread 58 = .ok (.lreturn, 1) := by decide +kernel
theorem dSc_plan_0 : decode cSc_plan 0 = .ok (.iload_n 1, 1) := by decide +kernel
theorem dSc_plan_1 : decode cSc_plan 1 = .ok (.invokestatic 99, 3) := by decide +kernel
theorem dSc_plan_4 : decode cSc_plan 4 = .ok (.ifCond .eq 33, 3) := by decide +kernel
theorem dSc_plan_7 : decode cSc_plan 7 = .ok (.lload_n 2, 1) := by decide +kernel
theorem dSc_plan_8 : decode cSc_plan 8 = .ok (.lconst 0, 1) := by decide +kernel
theorem dSc_plan_9 : decode cSc_plan 9 = .ok (.lcmp, 1) := by decide +kernel
theorem dSc_plan_10 : decode cSc_plan 10 = .ok (.ifCond .lt 27, 3) := by decide +kernel
theorem dSc_plan_13 : decode cSc_plan 13 = .ok (.lload_n 2, 1) := by decide +kernel
theorem dSc_plan_14 : decode cSc_plan 14 = .ok (.ldc2_w 126, 3) := by decide +kernel
theorem dSc_plan_17 : decode cSc_plan 17 = .ok (.lcmp, 1) := by decide +kernel
theorem dSc_plan_18 : decode cSc_plan 18 = .ok (.ifCond .gt 19, 3) := by decide +kernel
theorem dSc_plan_21 : decode cSc_plan 21 = .ok (.lload 4, 2) := by decide +kernel
theorem dSc_plan_23 : decode cSc_plan 23 = .ok (.lconst 1, 1) := by decide +kernel
theorem dSc_plan_24 : decode cSc_plan 24 = .ok (.lcmp, 1) := by decide +kernel
theorem dSc_plan_25 : decode cSc_plan 25 = .ok (.ifCond .lt 12, 3) := by decide +kernel
theorem dSc_plan_28 : decode cSc_plan 28 = .ok (.lload 4, 2) := by decide +kernel
theorem dSc_plan_30 : decode cSc_plan 30 = .ok (.ldc2_w 128, 3) := by decide +kernel
theorem dSc_plan_33 : decode cSc_plan 33 = .ok (.lcmp, 1) := by decide +kernel
theorem dSc_plan_34 : decode cSc_plan 34 = .ok (.ifCond .le 7, 3) := by decide +kernel
theorem dSc_plan_37 : decode cSc_plan 37 = .ok (.ldc2_w 105, 3) := by decide +kernel
theorem dSc_plan_40 : decode cSc_plan 40 = .ok (.lreturn, 1) := by decide +kernel
theorem dSc_plan_41 : decode cSc_plan 41 = .ok (.aload_n 0, 1) := by decide +kernel
theorem dSc_plan_42 : decode cSc_plan 42 = .ok (.getfield 42, 3) := by decide +kernel
theorem dSc_plan_45 : decode cSc_plan 45 = .ok (.aload_n 0, 1) := by decide +kernel
theorem dSc_plan_46 : decode cSc_plan 46 = .ok (.getfield 10, 3) := by decide +kernel
theorem dSc_plan_49 : decode cSc_plan 49 = .ok (.aload_n 0, 1) := by decide +kernel
theorem dSc_plan_50 : decode cSc_plan 50 = .ok (.getfield 19, 3) := by decide +kernel
theorem dSc_plan_53 : decode cSc_plan 53 = .ok (.iload_n 1, 1) := by decide +kernel
theorem dSc_plan_54 : decode cSc_plan 54 = .ok (.invokevirtual 107, 3) := by decide +kernel
theorem dSc_plan_57 : decode cSc_plan 57 = .ok (.aload_n 0, 1) := by decide +kernel
theorem dSc_plan_58 : decode cSc_plan 58 = .ok (.getfield 42, 3) := by decide +kernel
theorem dSc_plan_61 : decode cSc_plan 61 = .ok (.invokevirtual 119, 3) := by decide +kernel
theorem dSc_plan_64 : decode cSc_plan 64 = .ok (.ifCond .ne 7, 3) := by decide +kernel
theorem dSc_plan_67 : decode cSc_plan 67 = .ok (.ldc2_w 105, 3) := by decide +kernel
theorem dSc_plan_70 : decode cSc_plan 70 = .ok (.lreturn, 1) := by decide +kernel
theorem dSc_plan_71 : decode cSc_plan 71 = .ok (.aload_n 0, 1) := by decide +kernel
theorem dSc_plan_72 : decode cSc_plan 72 = .ok (.getfield 49, 3) := by decide +kernel
theorem dSc_plan_75 : decode cSc_plan 75 = .ok (.aload_n 0, 1) := by decide +kernel
theorem dSc_plan_76 : decode cSc_plan 76 = .ok (.getfield 42, 3) := by decide +kernel
theorem dSc_plan_79 : decode cSc_plan 79 = .ok (.aload_n 0, 1) := by decide +kernel
theorem dSc_plan_80 : decode cSc_plan 80 = .ok (.getfield 10, 3) := by decide +kernel
theorem dSc_plan_83 : decode cSc_plan 83 = .ok (.lload_n 2, 1) := by decide +kernel
theorem dSc_plan_84 : decode cSc_plan 84 = .ok (.lload 4, 2) := by decide +kernel
theorem dSc_plan_86 : decode cSc_plan 86 = .ok (.invokevirtual 130, 3) := by decide +kernel
theorem dSc_plan_89 : decode cSc_plan 89 = .ok (.aload_n 0, 1) := by decide +kernel
theorem dSc_plan_90 : decode cSc_plan 90 = .ok (.getfield 49, 3) := by decide +kernel
theorem dSc_plan_93 : decode cSc_plan 93 = .ok (.invokevirtual 134, 3) := by decide +kernel
theorem dSc_plan_96 : decode cSc_plan 96 = .ok (.lreturn, 1) := by decide +kernel
theorem dSc_planned_0 : decode cSc_planned 0 = .ok (.aload_n 0, 1) := by decide +kernel
theorem dSc_planned_1 : decode cSc_planned 1 = .ok (.getfield 10, 3) := by decide +kernel
theorem dSc_planned_4 : decode cSc_planned 4 = .ok (.iload_n 1, 1) := by decide +kernel
theorem dSc_planned_5 : decode cSc_planned 5 = .ok (.invokevirtual 92, 3) := by decide +kernel
theorem dSc_planned_8 : decode cSc_planned 8 = .ok (.ifCond .eq 14, 3) := by decide +kernel
theorem dSc_planned_11 : decode cSc_planned 11 = .ok (.aload_n 0, 1) := by decide +kernel
theorem dSc_planned_12 : decode cSc_planned 12 = .ok (.getfield 49, 3) := by decide +kernel
theorem dSc_planned_15 : decode cSc_planned 15 = .ok (.iload_n 1, 1) := by decide +kernel
theorem dSc_planned_16 : decode cSc_planned 16 = .ok (.invokevirtual 138, 3) := by decide +kernel
theorem dSc_planned_19 : decode cSc_planned 19 = .ok (.goto 4, 3) := by decide +kernel
theorem dSc_planned_22 : decode cSc_planned 22 = .ok (.iconst (-1), 1) := by decide +kernel
theorem dSc_planned_23 : decode cSc_planned 23 = .ok (.ireturn, 1) := by decide +kernel
theorem dSc_compared_0 : decode cSc_compared 0 = .ok (.iload_n 1, 1) := by decide +kernel
theorem dSc_compared_1 : decode cSc_compared 1 = .ok (.invokestatic 99, 3) := by decide +kernel
theorem dSc_compared_4 : decode cSc_compared 4 = .ok (.ifCond .eq 25, 3) := by decide +kernel
theorem dSc_compared_7 : decode cSc_compared 7 = .ok (.iload_n 2, 1) := by decide +kernel
theorem dSc_compared_8 : decode cSc_compared 8 = .ok (.invokestatic 102, 3) := by decide +kernel
theorem dSc_compared_11 : decode cSc_compared 11 = .ok (.ifCond .eq 18, 3) := by decide +kernel
theorem dSc_compared_14 : decode cSc_compared 14 = .ok (.aload_n 0, 1) := by decide +kernel
theorem dSc_compared_15 : decode cSc_compared 15 = .ok (.getfield 56, 3) := by decide +kernel
theorem dSc_compared_18 : decode cSc_compared 18 = .ok (.aload_n 0, 1) := by decide +kernel
theorem dSc_compared_19 : decode cSc_compared 19 = .ok (.getfield 19, 3) := by decide +kernel
theorem dSc_compared_22 : decode cSc_compared 22 = .ok (.iload_n 1, 1) := by decide +kernel
theorem dSc_compared_23 : decode cSc_compared 23 = .ok (.invokevirtual 141, 3) := by decide +kernel
theorem dSc_compared_26 : decode cSc_compared 26 = .ok (.ifCond .ne 7, 3) := by decide +kernel
theorem dSc_compared_29 : decode cSc_compared 29 = .ok (.ldc2_w 105, 3) := by decide +kernel
theorem dSc_compared_32 : decode cSc_compared 32 = .ok (.lreturn, 1) := by decide +kernel
theorem dSc_compared_33 : decode cSc_compared 33 = .ok (.iload_n 2, 1) := by decide +kernel
theorem dSc_compared_34 : decode cSc_compared 34 = .ok (.ifCond .ne 13, 3) := by decide +kernel
theorem dSc_compared_37 : decode cSc_compared 37 = .ok (.aload_n 0, 1) := by decide +kernel
theorem dSc_compared_38 : decode cSc_compared 38 = .ok (.getfield 56, 3) := by decide +kernel
theorem dSc_compared_41 : decode cSc_compared 41 = .ok (.invokevirtual 144, 3) := by decide +kernel
theorem dSc_compared_44 : decode cSc_compared 44 = .ok (.goto 10, 3) := by decide +kernel
theorem dSc_compared_47 : decode cSc_compared 47 = .ok (.aload_n 0, 1) := by decide +kernel
theorem dSc_compared_48 : decode cSc_compared 48 = .ok (.getfield 56, 3) := by decide +kernel
theorem dSc_compared_51 : decode cSc_compared 51 = .ok (.invokevirtual 147, 3) := by decide +kernel
theorem dSc_compared_54 : decode cSc_compared 54 = .ok (.lreturn, 1) := by decide +kernel
theorem dSc_joined_0 : decode cSc_joined 0 = .ok (.aload_n 0, 1) := by decide +kernel
theorem dSc_joined_1 : decode cSc_joined 1 = .ok (.getfield 10, 3) := by decide +kernel
theorem dSc_joined_4 : decode cSc_joined 4 = .ok (.iload_n 1, 1) := by decide +kernel
theorem dSc_joined_5 : decode cSc_joined 5 = .ok (.iload_n 2, 1) := by decide +kernel
theorem dSc_joined_6 : decode cSc_joined 6 = .ok (.invokevirtual 150, 3) := by decide +kernel
theorem dSc_joined_9 : decode cSc_joined 9 = .ok (.ifCond .ne 5, 3) := by decide +kernel
theorem dSc_joined_12 : decode cSc_joined 12 = .ok (.iconst 0, 1) := by decide +kernel
theorem dSc_joined_13 : decode cSc_joined 13 = .ok (.ireturn, 1) := by decide +kernel
theorem dSc_joined_14 : decode cSc_joined 14 = .ok (.aload_n 0, 1) := by decide +kernel
theorem dSc_joined_15 : decode cSc_joined 15 = .ok (.getfield 19, 3) := by decide +kernel
theorem dSc_joined_18 : decode cSc_joined 18 = .ok (.iload_n 2, 1) := by decide +kernel
theorem dSc_joined_19 : decode cSc_joined 19 = .ok (.iload_n 1, 1) := by decide +kernel
theorem dSc_joined_20 : decode cSc_joined 20 = .ok (.invokevirtual 153, 3) := by decide +kernel
theorem dSc_joined_23 : decode cSc_joined 23 = .ok (.iconst 1, 1) := by decide +kernel
theorem dSc_joined_24 : decode cSc_joined 24 = .ok (.ireturn, 1) := by decide +kernel
theorem dSc_repeat_0 : decode cSc_repeat 0 = .ok (.aload_n 0, 1) := by decide +kernel
theorem dSc_repeat_1 : decode cSc_repeat 1 = .ok (.getfield 19, 3) := by decide +kernel
theorem dSc_repeat_4 : decode cSc_repeat 4 = .ok (.iload_n 1, 1) := by decide +kernel
theorem dSc_repeat_5 : decode cSc_repeat 5 = .ok (.invokevirtual 157, 3) := by decide +kernel
theorem dSc_repeat_8 : decode cSc_repeat 8 = .ok (.ifCond .eq 17, 3) := by decide +kernel
theorem dSc_repeat_11 : decode cSc_repeat 11 = .ok (.iload_n 2, 1) := by decide +kernel
theorem dSc_repeat_12 : decode cSc_repeat 12 = .ok (.invokestatic 99, 3) := by decide +kernel
theorem dSc_repeat_15 : decode cSc_repeat 15 = .ok (.ifCond .eq 10, 3) := by decide +kernel
theorem dSc_repeat_18 : decode cSc_repeat 18 = .ok (.lload_n 3, 1) := by decide +kernel
theorem dSc_repeat_19 : decode cSc_repeat 19 = .ok (.invokestatic 158, 3) := by decide +kernel
theorem dSc_repeat_22 : decode cSc_repeat 22 = .ok (.ifCond .ne 5, 3) := by decide +kernel
theorem dSc_repeat_25 : decode cSc_repeat 25 = .ok (.iconst (-1), 1) := by decide +kernel
theorem dSc_repeat_26 : decode cSc_repeat 26 = .ok (.ireturn, 1) := by decide +kernel
theorem dSc_repeat_27 : decode cSc_repeat 27 = .ok (.aload_n 0, 1) := by decide +kernel
theorem dSc_repeat_28 : decode cSc_repeat 28 = .ok (.getfield 35, 3) := by decide +kernel
theorem dSc_repeat_31 : decode cSc_repeat 31 = .ok (.iload_n 1, 1) := by decide +kernel
theorem dSc_repeat_32 : decode cSc_repeat 32 = .ok (.iload_n 2, 1) := by decide +kernel
theorem dSc_repeat_33 : decode cSc_repeat 33 = .ok (.lload_n 3, 1) := by decide +kernel
theorem dSc_repeat_34 : decode cSc_repeat 34 = .ok (.invokevirtual 162, 3) := by decide +kernel
theorem dSc_repeat_37 : decode cSc_repeat 37 = .ok (.ireturn, 1) := by decide +kernel
theorem dSc_error_0 : decode cSc_error 0 = .ok (.iload_n 1, 1) := by decide +kernel
theorem dSc_error_1 : decode cSc_error 1 = .ok (.invokestatic 99, 3) := by decide +kernel
theorem dSc_error_4 : decode cSc_error 4 = .ok (.ifCond .eq 10, 3) := by decide +kernel
theorem dSc_error_7 : decode cSc_error 7 = .ok (.iload_n 2, 1) := by decide +kernel
theorem dSc_error_8 : decode cSc_error 8 = .ok (.invokestatic 102, 3) := by decide +kernel
theorem dSc_error_11 : decode cSc_error 11 = .ok (.ifCond .ne 7, 3) := by decide +kernel
theorem dSc_error_14 : decode cSc_error 14 = .ok (.ldc2_w 105, 3) := by decide +kernel
theorem dSc_error_17 : decode cSc_error 17 = .ok (.lreturn, 1) := by decide +kernel
theorem dSc_error_18 : decode cSc_error 18 = .ok (.aload_n 0, 1) := by decide +kernel
theorem dSc_error_19 : decode cSc_error 19 = .ok (.getfield 35, 3) := by decide +kernel
theorem dSc_error_22 : decode cSc_error 22 = .ok (.aload_n 0, 1) := by decide +kernel
theorem dSc_error_23 : decode cSc_error 23 = .ok (.getfield 19, 3) := by decide +kernel
theorem dSc_error_26 : decode cSc_error 26 = .ok (.iload_n 1, 1) := by decide +kernel
theorem dSc_error_27 : decode cSc_error 27 = .ok (.iload_n 2, 1) := by decide +kernel
theorem dSc_error_28 : decode cSc_error 28 = .ok (.invokevirtual 165, 3) := by decide +kernel
theorem dSc_error_31 : decode cSc_error 31 = .ok (.lreturn, 1) := by decide +kernel
theorem dSc_counting_0 : decode cSc_counting 0 = .ok (.aload_n 0, 1) := by decide +kernel
theorem dSc_counting_1 : decode cSc_counting 1 = .ok (.getfield 42, 3) := by decide +kernel
theorem dSc_counting_4 : decode cSc_counting 4 = .ok (.aload_n 0, 1) := by decide +kernel
theorem dSc_counting_5 : decode cSc_counting 5 = .ok (.getfield 10, 3) := by decide +kernel
theorem dSc_counting_8 : decode cSc_counting 8 = .ok (.aload_n 0, 1) := by decide +kernel
theorem dSc_counting_9 : decode cSc_counting 9 = .ok (.getfield 19, 3) := by decide +kernel
theorem dSc_counting_12 : decode cSc_counting 12 = .ok (.iconst 0, 1) := by decide +kernel
theorem dSc_counting_13 : decode cSc_counting 13 = .ok (.invokevirtual 107, 3) := by decide +kernel
theorem dSc_counting_16 : decode cSc_counting 16 = .ok (.aload_n 0, 1) := by decide +kernel
theorem dSc_counting_17 : decode cSc_counting 17 = .ok (.getfield 42, 3) := by decide +kernel
theorem dSc_counting_20 : decode cSc_counting 20 = .ok (.getfield 111, 3) := by decide +kernel
theorem dSc_counting_23 : decode cSc_counting 23 = .ok (.ireturn, 1) := by decide +kernel
theorem dSc_isKind_0 : decode cSc_isKind 0 = .ok (.iload_n 0, 1) := by decide +kernel
theorem dSc_isKind_1 : decode cSc_isKind 1 = .ok (.ifCond .lt 12, 3) := by decide +kernel
theorem dSc_isKind_4 : decode cSc_isKind 4 = .ok (.iload_n 0, 1) := by decide +kernel
theorem dSc_isKind_5 : decode cSc_isKind 5 = .ok (.iconst 3, 1) := by decide +kernel
theorem dSc_isKind_6 : decode cSc_isKind 6 = .ok (.if_icmp .ge 7, 3) := by decide +kernel
theorem dSc_isKind_9 : decode cSc_isKind 9 = .ok (.iconst 1, 1) := by decide +kernel
theorem dSc_isKind_10 : decode cSc_isKind 10 = .ok (.goto 4, 3) := by decide +kernel
theorem dSc_isKind_13 : decode cSc_isKind 13 = .ok (.iconst 0, 1) := by decide +kernel
theorem dSc_isKind_14 : decode cSc_isKind 14 = .ok (.ireturn, 1) := by decide +kernel
theorem dSc_isPart_0 : decode cSc_isPart 0 = .ok (.iload_n 0, 1) := by decide +kernel
theorem dSc_isPart_1 : decode cSc_isPart 1 = .ok (.ifCond .lt 12, 3) := by decide +kernel
theorem dSc_isPart_4 : decode cSc_isPart 4 = .ok (.iload_n 0, 1) := by decide +kernel
theorem dSc_isPart_5 : decode cSc_isPart 5 = .ok (.iconst 2, 1) := by decide +kernel
theorem dSc_isPart_6 : decode cSc_isPart 6 = .ok (.if_icmp .ge 7, 3) := by decide +kernel
theorem dSc_isPart_9 : decode cSc_isPart 9 = .ok (.iconst 1, 1) := by decide +kernel
theorem dSc_isPart_10 : decode cSc_isPart 10 = .ok (.goto 4, 3) := by decide +kernel
theorem dSc_isPart_13 : decode cSc_isPart 13 = .ok (.iconst 0, 1) := by decide +kernel
theorem dSc_isPart_14 : decode cSc_isPart 14 = .ok (.ireturn, 1) := by decide +kernel
theorem dSc_isGrams_0 : decode cSc_isGrams 0 = .ok (.lload_n 0, 1) := by decide +kernel
theorem dSc_isGrams_1 : decode cSc_isGrams 1 = .ok (.lconst 0, 1) := by decide +kernel
theorem dSc_isGrams_2 : decode cSc_isGrams 2 = .ok (.lcmp, 1) := by decide +kernel
theorem dSc_isGrams_3 : decode cSc_isGrams 3 = .ok (.ifCond .lt 15, 3) := by decide +kernel
theorem dSc_isGrams_6 : decode cSc_isGrams 6 = .ok (.lload_n 0, 1) := by decide +kernel
theorem dSc_isGrams_7 : decode cSc_isGrams 7 = .ok (.ldc2_w 169, 3) := by decide +kernel
theorem dSc_isGrams_10 : decode cSc_isGrams 10 = .ok (.lcmp, 1) := by decide +kernel
theorem dSc_isGrams_11 : decode cSc_isGrams 11 = .ok (.ifCond .gt 7, 3) := by decide +kernel
theorem dSc_isGrams_14 : decode cSc_isGrams 14 = .ok (.iconst 1, 1) := by decide +kernel
theorem dSc_isGrams_15 : decode cSc_isGrams 15 = .ok (.goto 4, 3) := by decide +kernel
theorem dSc_isGrams_18 : decode cSc_isGrams 18 = .ok (.iconst 0, 1) := by decide +kernel
theorem dSc_isGrams_19 : decode cSc_isGrams 19 = .ok (.ireturn, 1) := by decide +kernel
theorem dSc_greatestShared_0 : decode cSc_greatestShared 0 = .ok (.lload_n 0, 1) := by decide +kernel
theorem dSc_greatestShared_1 : decode cSc_greatestShared 1 = .ok (.lstore 4, 2) := by decide +kernel
theorem dSc_greatestShared_3 : decode cSc_greatestShared 3 = .ok (.lload_n 2, 1) := by decide +kernel
theorem dSc_greatestShared_4 : decode cSc_greatestShared 4 = .ok (.lstore 6, 2) := by decide +kernel
theorem dSc_greatestShared_6 : decode cSc_greatestShared 6 = .ok (.iconst 0, 1) := by decide +kernel
theorem dSc_greatestShared_7 : decode cSc_greatestShared 7 = .ok (.istore 8, 2) := by decide +kernel
theorem dSc_greatestShared_9 : decode cSc_greatestShared 9 = .ok (.iload 8, 2) := by decide +kernel
theorem dSc_greatestShared_11 : decode cSc_greatestShared 11 = .ok (.bipush 100, 2) := by decide +kernel
theorem dSc_greatestShared_13 : decode cSc_greatestShared 13 = .ok (.if_icmp .ge 31, 3) := by decide +kernel
theorem dSc_greatestShared_16 : decode cSc_greatestShared 16 = .ok (.lload 6, 2) := by decide +kernel
theorem dSc_greatestShared_18 : decode cSc_greatestShared 18 = .ok (.lconst 0, 1) := by decide +kernel
theorem dSc_greatestShared_19 : decode cSc_greatestShared 19 = .ok (.lcmp, 1) := by decide +kernel
theorem dSc_greatestShared_20 : decode cSc_greatestShared 20 = .ok (.ifCond .eq 24, 3) := by decide +kernel
theorem dSc_greatestShared_23 : decode cSc_greatestShared 23 = .ok (.lload 4, 2) := by decide +kernel
theorem dSc_greatestShared_25 : decode cSc_greatestShared 25 = .ok (.lload 6, 2) := by decide +kernel
theorem dSc_greatestShared_27 : decode cSc_greatestShared 27 = .ok (.lrem, 1) := by decide +kernel
theorem dSc_greatestShared_28 : decode cSc_greatestShared 28 = .ok (.lstore 9, 2) := by decide +kernel
theorem dSc_greatestShared_30 : decode cSc_greatestShared 30 = .ok (.lload 6, 2) := by decide +kernel
theorem dSc_greatestShared_32 : decode cSc_greatestShared 32 = .ok (.lstore 4, 2) := by decide +kernel
theorem dSc_greatestShared_34 : decode cSc_greatestShared 34 = .ok (.lload 9, 2) := by decide +kernel
theorem dSc_greatestShared_36 : decode cSc_greatestShared 36 = .ok (.lstore 6, 2) := by decide +kernel
theorem dSc_greatestShared_38 : decode cSc_greatestShared 38 = .ok (.iinc 8 1, 3) := by decide +kernel
theorem dSc_greatestShared_41 : decode cSc_greatestShared 41 = .ok (.goto (-32), 3) := by decide +kernel
theorem dSc_greatestShared_44 : decode cSc_greatestShared 44 = .ok (.lload 4, 2) := by decide +kernel
theorem dSc_greatestShared_46 : decode cSc_greatestShared 46 = .ok (.lreturn, 1) := by decide +kernel
theorem dSc_leastCommon_0 : decode cSc_leastCommon 0 = .ok (.lload_n 0, 1) := by decide +kernel
theorem dSc_leastCommon_1 : decode cSc_leastCommon 1 = .ok (.lload_n 2, 1) := by decide +kernel
theorem dSc_leastCommon_2 : decode cSc_leastCommon 2 = .ok (.invokestatic 171, 3) := by decide +kernel
theorem dSc_leastCommon_5 : decode cSc_leastCommon 5 = .ok (.lstore 4, 2) := by decide +kernel
theorem dSc_leastCommon_7 : decode cSc_leastCommon 7 = .ok (.lload 4, 2) := by decide +kernel
theorem dSc_leastCommon_9 : decode cSc_leastCommon 9 = .ok (.lconst 1, 1) := by decide +kernel
theorem dSc_leastCommon_10 : decode cSc_leastCommon 10 = .ok (.lcmp, 1) := by decide +kernel
theorem dSc_leastCommon_11 : decode cSc_leastCommon 11 = .ok (.ifCond .ge 7, 3) := by decide +kernel
theorem dSc_leastCommon_14 : decode cSc_leastCommon 14 = .ok (.lconst 0, 1) := by decide +kernel
theorem dSc_leastCommon_15 : decode cSc_leastCommon 15 = .ok (.goto 9, 3) := by decide +kernel
theorem dSc_leastCommon_18 : decode cSc_leastCommon 18 = .ok (.lload_n 0, 1) := by decide +kernel
theorem dSc_leastCommon_19 : decode cSc_leastCommon 19 = .ok (.lload 4, 2) := by decide +kernel
theorem dSc_leastCommon_21 : decode cSc_leastCommon 21 = .ok (.ldiv, 1) := by decide +kernel
theorem dSc_leastCommon_22 : decode cSc_leastCommon 22 = .ok (.lload_n 2, 1) := by decide +kernel
theorem dSc_leastCommon_23 : decode cSc_leastCommon 23 = .ok (.lmul, 1) := by decide +kernel
theorem dSc_leastCommon_24 : decode cSc_leastCommon 24 = .ok (.lreturn, 1) := by decide +kernel
theorem dSc_tell_0 : decode cSc_tell 0 = .ok (.lload_n 0, 1) := by decide +kernel
theorem dSc_tell_1 : decode cSc_tell 1 = .ok (.lload_n 2, 1) := by decide +kernel
theorem dSc_tell_2 : decode cSc_tell 2 = .ok (.invokestatic 171, 3) := by decide +kernel
theorem dSc_tell_5 : decode cSc_tell 5 = .ok (.lstore 5, 2) := by decide +kernel
theorem dSc_tell_7 : decode cSc_tell 7 = .ok (.lload 5, 2) := by decide +kernel
theorem dSc_tell_9 : decode cSc_tell 9 = .ok (.lconst 1, 1) := by decide +kernel
theorem dSc_tell_10 : decode cSc_tell 10 = .ok (.lcmp, 1) := by decide +kernel
theorem dSc_tell_11 : decode cSc_tell 11 = .ok (.ifCond .ge 7, 3) := by decide +kernel
theorem dSc_tell_14 : decode cSc_tell 14 = .ok (.ldc2_w 105, 3) := by decide +kernel
theorem dSc_tell_17 : decode cSc_tell 17 = .ok (.lreturn, 1) := by decide +kernel
theorem dSc_tell_18 : decode cSc_tell 18 = .ok (.iload 4, 2) := by decide +kernel
theorem dSc_tell_20 : decode cSc_tell 20 = .ok (.ifCond .ne 7, 3) := by decide +kernel
theorem dSc_tell_23 : decode cSc_tell 23 = .ok (.lload_n 0, 1) := by decide +kernel
theorem dSc_tell_24 : decode cSc_tell 24 = .ok (.goto 4, 3) := by decide +kernel
theorem dSc_tell_27 : decode cSc_tell 27 = .ok (.lload_n 2, 1) := by decide +kernel
theorem dSc_tell_28 : decode cSc_tell 28 = .ok (.lload 5, 2) := by decide +kernel
theorem dSc_tell_30 : decode cSc_tell 30 = .ok (.ldiv, 1) := by decide +kernel
theorem dSc_tell_31 : decode cSc_tell 31 = .ok (.lreturn, 1) := by decide +kernel
end
section
set_option maxHeartbeats 4000000 in
set_option maxRecDepth 100000 in
theorem k_StratumCounts_isKind (l : Launch) (D : va_G) (cI cJ cZ : ClassId) (sz : Nat) (kind : Int) (h_kind1 : -2147483648 ≤ kind) (h_kind2 : kind < 2147483648) : cq_i l ySc_isKind wsSc_isKind ({ frames := 0, cells := 0, slots := 0, locals := 0 }) D clAll [(cI, .int), (cJ, .long), (cZ, .boolean)] nwAll [.int (iZ kind)] [] sz (S := Int) (fun (r : Int32) (u : Int) => r = iZ u ∧ ((u = 1 ∧ 0 ≤ kind ∧ kind < 3) ∨ (u = 0 ∧ (kind < 0 ∨ 3 ≤ kind)))) (fun (u : Int) => []) 0 0 := by
  refine cq_enter (cc := cSc_isKind) (maxL := 1) (ret := some .boolean) (by decide) rfl (Nat.le_of_ble_eq_true rfl) ?_
  intro p e s m below meth c A args Q H hAe hQ hsz hAt hA hP hK hD hS ls hl
  obtain ⟨hx, hb, hr, hml, hown, hts, hlocks, hin⟩ := hAt
  have hown : s.vm.findClass RSc = some m.cls := hown
  have hl : lv_has ls 1 [(0, .int (iZ kind))] := hl
  refine lv_iload_n hx hb dSc_isKind_0 rfl (lv_at hl 0 rfl) ?_
  refine z_if_lt (tgt := 13) hx hb (by omega) (by omega) dSc_isKind_1 (by decide) (fun c_1 => ?_) (fun c_1 => ?_)
  ·
    refine lv_iconst (v := iZ 0) hx hb dSc_isKind_13 (by decide) ?_
    exact cq_zret hx hb hr hlocks hAe hQ (bo_narr (by omega) (by omega)) 0 ⟨rfl, (by (try dsimp only) <;> (first | rfl | omega | (refine Or.inl ?_; and_intros <;> first | rfl | omega) | (refine Or.inr ?_; and_intros <;> first | rfl | omega)))⟩ (hP.sub [] rfl) (hD.sub [] (by decide) rfl) hS (by decide) (by decide) dSc_isKind_14
  ·
    refine lv_iload_n hx hb dSc_isKind_4 rfl (lv_at hl 0 rfl) ?_
    refine lv_iconst (v := iZ 3) hx hb dSc_isKind_5 (by decide) ?_
    refine z_icmp_ge (tgt := 13) hx hb (by omega) (by omega) (by omega) (by omega) dSc_isKind_6 (by decide) (fun c_2 => ?_) (fun c_2 => ?_)
    ·
      refine lv_iconst (v := iZ 0) hx hb dSc_isKind_13 (by decide) ?_
      exact cq_zret hx hb hr hlocks hAe hQ (bo_narr (by omega) (by omega)) 0 ⟨rfl, (by (try dsimp only) <;> (first | rfl | omega | (refine Or.inl ?_; and_intros <;> first | rfl | omega) | (refine Or.inr ?_; and_intros <;> first | rfl | omega)))⟩ (hP.sub [] rfl) (hD.sub [] (by decide) rfl) hS (by decide) (by decide) dSc_isKind_14
    ·
      refine lv_iconst (v := iZ 1) hx hb dSc_isKind_9 (by decide) ?_
      refine lv_goto (tgt := 14) hx hb dSc_isKind_10 (by decide) ?_
      exact cq_zret hx hb hr hlocks hAe hQ (bo_narr (by omega) (by omega)) 1 ⟨rfl, (by (try dsimp only) <;> (first | rfl | omega | (refine Or.inl ?_; and_intros <;> first | rfl | omega) | (refine Or.inr ?_; and_intros <;> first | rfl | omega)))⟩ (hP.sub [] rfl) (hD.sub [] (by decide) rfl) hS (by decide) (by decide) dSc_isKind_14
set_option maxHeartbeats 4000000 in
set_option maxRecDepth 100000 in
theorem k_StratumCounts_isPart (l : Launch) (D : va_G) (cI cJ cZ : ClassId) (sz : Nat) (part : Int) (h_part1 : -2147483648 ≤ part) (h_part2 : part < 2147483648) : cq_i l ySc_isPart wsSc_isPart ({ frames := 0, cells := 0, slots := 0, locals := 0 }) D clAll [(cI, .int), (cJ, .long), (cZ, .boolean)] nwAll [.int (iZ part)] [] sz (S := Int) (fun (r : Int32) (u : Int) => r = iZ u ∧ ((u = 1 ∧ 0 ≤ part ∧ part < 2) ∨ (u = 0 ∧ (part < 0 ∨ 2 ≤ part)))) (fun (u : Int) => []) 0 0 := by
  refine cq_enter (cc := cSc_isPart) (maxL := 1) (ret := some .boolean) (by decide) rfl (Nat.le_of_ble_eq_true rfl) ?_
  intro p e s m below meth c A args Q H hAe hQ hsz hAt hA hP hK hD hS ls hl
  obtain ⟨hx, hb, hr, hml, hown, hts, hlocks, hin⟩ := hAt
  have hown : s.vm.findClass RSc = some m.cls := hown
  have hl : lv_has ls 1 [(0, .int (iZ part))] := hl
  refine lv_iload_n hx hb dSc_isPart_0 rfl (lv_at hl 0 rfl) ?_
  refine z_if_lt (tgt := 13) hx hb (by omega) (by omega) dSc_isPart_1 (by decide) (fun c_1 => ?_) (fun c_1 => ?_)
  ·
    refine lv_iconst (v := iZ 0) hx hb dSc_isPart_13 (by decide) ?_
    exact cq_zret hx hb hr hlocks hAe hQ (bo_narr (by omega) (by omega)) 0 ⟨rfl, (by (try dsimp only) <;> (first | rfl | omega | (refine Or.inl ?_; and_intros <;> first | rfl | omega) | (refine Or.inr ?_; and_intros <;> first | rfl | omega)))⟩ (hP.sub [] rfl) (hD.sub [] (by decide) rfl) hS (by decide) (by decide) dSc_isPart_14
  ·
    refine lv_iload_n hx hb dSc_isPart_4 rfl (lv_at hl 0 rfl) ?_
    refine lv_iconst (v := iZ 2) hx hb dSc_isPart_5 (by decide) ?_
    refine z_icmp_ge (tgt := 13) hx hb (by omega) (by omega) (by omega) (by omega) dSc_isPart_6 (by decide) (fun c_2 => ?_) (fun c_2 => ?_)
    ·
      refine lv_iconst (v := iZ 0) hx hb dSc_isPart_13 (by decide) ?_
      exact cq_zret hx hb hr hlocks hAe hQ (bo_narr (by omega) (by omega)) 0 ⟨rfl, (by (try dsimp only) <;> (first | rfl | omega | (refine Or.inl ?_; and_intros <;> first | rfl | omega) | (refine Or.inr ?_; and_intros <;> first | rfl | omega)))⟩ (hP.sub [] rfl) (hD.sub [] (by decide) rfl) hS (by decide) (by decide) dSc_isPart_14
    ·
      refine lv_iconst (v := iZ 1) hx hb dSc_isPart_9 (by decide) ?_
      refine lv_goto (tgt := 14) hx hb dSc_isPart_10 (by decide) ?_
      exact cq_zret hx hb hr hlocks hAe hQ (bo_narr (by omega) (by omega)) 1 ⟨rfl, (by (try dsimp only) <;> (first | rfl | omega | (refine Or.inl ?_; and_intros <;> first | rfl | omega) | (refine Or.inr ?_; and_intros <;> first | rfl | omega)))⟩ (hP.sub [] rfl) (hD.sub [] (by decide) rfl) hS (by decide) (by decide) dSc_isPart_14
set_option maxHeartbeats 4000000 in
set_option maxRecDepth 100000 in
theorem k_StratumCounts_isGrams (l : Launch) (D : va_G) (cI cJ cZ : ClassId) (sz : Nat) (gm : Int) (h_gm1 : -9223372036854775808 ≤ gm) (h_gm2 : gm < 9223372036854775808) : cq_i l ySc_isGrams wsSc_isGrams ({ frames := 0, cells := 0, slots := 0, locals := 0 }) D clAll [(cI, .int), (cJ, .long), (cZ, .boolean)] nwAll [.long (lZ gm)] [] sz (S := Int) (fun (r : Int32) (u : Int) => r = iZ u ∧ ((u = 1 ∧ 0 ≤ gm ∧ gm ≤ 10000) ∨ (u = 0 ∧ (gm < 0 ∨ 10000 < gm)))) (fun (u : Int) => []) 0 0 := by
  refine cq_enter (cc := cSc_isGrams) (maxL := 2) (ret := some .boolean) (by decide) rfl (Nat.le_of_ble_eq_true rfl) ?_
  intro p e s m below meth c A args Q H hAe hQ hsz hAt hA hP hK hD hS ls hl
  obtain ⟨hx, hb, hr, hml, hown, hts, hlocks, hin⟩ := hAt
  have hown : s.vm.findClass RSc = some m.cls := hown
  have hl : lv_has ls 2 [(0, .long (lZ gm))] := hl
  refine lv_lload_n hx hb dSc_isGrams_0 rfl (lv_at hl 0 rfl) ?_
  refine lv_lconst (v := lZ 0) hx hb dSc_isGrams_1 (by decide) ?_
  refine z_lcmp_lt (tgt := 18) hx hb (by omega) (by omega) (by omega) (by omega) dSc_isGrams_2 dSc_isGrams_3 (by decide) (fun c_1 => ?_) (fun c_1 => ?_)
  ·
    refine lv_iconst (v := iZ 0) hx hb dSc_isGrams_18 (by decide) ?_
    exact cq_zret hx hb hr hlocks hAe hQ (bo_narr (by omega) (by omega)) 0 ⟨rfl, (by (try dsimp only) <;> (first | rfl | omega | (refine Or.inl ?_; and_intros <;> first | rfl | omega) | (refine Or.inr ?_; and_intros <;> first | rfl | omega)))⟩ (hP.sub [] rfl) (hD.sub [] (by decide) rfl) hS (by decide) (by decide) dSc_isGrams_19
  ·
    refine lv_lload_n hx hb dSc_isGrams_6 rfl (lv_at hl 0 rfl) ?_
    refine lv_ldc2 (v := lZ (10000)) hx hb hown (hts _ (hm g256)) dSc_isGrams_7 ?_
    refine z_lcmp_gt (tgt := 18) hx hb (by omega) (by omega) (by omega) (by omega) dSc_isGrams_10 dSc_isGrams_11 (by decide) (fun c_2 => ?_) (fun c_2 => ?_)
    ·
      refine lv_iconst (v := iZ 0) hx hb dSc_isGrams_18 (by decide) ?_
      exact cq_zret hx hb hr hlocks hAe hQ (bo_narr (by omega) (by omega)) 0 ⟨rfl, (by (try dsimp only) <;> (first | rfl | omega | (refine Or.inl ?_; and_intros <;> first | rfl | omega) | (refine Or.inr ?_; and_intros <;> first | rfl | omega)))⟩ (hP.sub [] rfl) (hD.sub [] (by decide) rfl) hS (by decide) (by decide) dSc_isGrams_19
    ·
      refine lv_iconst (v := iZ 1) hx hb dSc_isGrams_14 (by decide) ?_
      refine lv_goto (tgt := 19) hx hb dSc_isGrams_15 (by decide) ?_
      exact cq_zret hx hb hr hlocks hAe hQ (bo_narr (by omega) (by omega)) 1 ⟨rfl, (by (try dsimp only) <;> (first | rfl | omega | (refine Or.inl ?_; and_intros <;> first | rfl | omega) | (refine Or.inr ?_; and_intros <;> first | rfl | omega)))⟩ (hP.sub [] rfl) (hD.sub [] (by decide) rfl) hS (by decide) (by decide) dSc_isGrams_19
set_option maxHeartbeats 4000000 in
set_option maxRecDepth 100000 in
theorem k_StratumCounts_greatestShared (l : Launch) (D : va_G) (cI cJ cZ : ClassId) (sz : Nat) (ka : Int) (kb : Int) (h_ka1 : -9223372036854775808 ≤ ka) (h_ka2 : ka < 9223372036854775808) (h_kb1 : -9223372036854775808 ≤ kb) (h_kb2 : kb < 9223372036854775808) (ha : 0 ≤ ka) (hb0 : 0 ≤ kb) : cq_l l ySc_greatestShared wsSc_greatestShared ({ frames := 0, cells := 0, slots := 0, locals := 0 }) D clAll [(cI, .int), (cJ, .long), (cZ, .boolean)] nwAll [.long (lZ ka), .long (lZ kb)] [] sz (S := Int) (fun (r : Int64) (u : Int) => r = lZ u ∧ (u = (Int.gcd ka kb : Int))) (fun (u : Int) => []) 0 0 := by
  refine cq_enter (cc := cSc_greatestShared) (maxL := 11) (ret := some .long) (by decide) rfl (Nat.le_of_ble_eq_true rfl) ?_
  intro p e s m below meth c A args Q H hAe hQ hsz hAt hA hP hK hD hS ls hl
  obtain ⟨hx, hb, hr, hml, hown, hts, hlocks, hin⟩ := hAt
  have hown : s.vm.findClass RSc = some m.cls := hown
  have hl : lv_has ls 11 [(0, .long (lZ ka)), (2, .long (lZ kb))] := hl
  refine lv_lload_n hx hb dSc_greatestShared_0 rfl (lv_at hl 0 rfl) ?_
  refine lv_lstore (lv' := [(4, .long (lZ ka)), (0, .long (lZ ka)), (2, .long (lZ kb))]) hx hb dSc_greatestShared_1 hl (by decide) rfl (fun ls hl => ?_)
  refine lv_lload_n hx hb dSc_greatestShared_3 rfl (lv_at hl 2 rfl) ?_
  refine lv_lstore (lv' := [(6, .long (lZ kb)), (4, .long (lZ ka)), (0, .long (lZ ka)), (2, .long (lZ kb))]) hx hb dSc_greatestShared_4 hl (by decide) rfl (fun ls hl => ?_)
  refine lv_iconst (v := iZ 0) hx hb dSc_greatestShared_6 (by decide) ?_
  refine lv_istore (lv' := [(8, .int (iZ 0)), (6, .long (lZ kb)), (4, .long (lZ ka)), (0, .long (lZ ka)), (2, .long (lZ kb))]) hx hb dSc_greatestShared_7 hl (by decide) rfl (fun ls hl => ?_)
  have loop_1 : ∀ (n_3 : Nat) (g : Int) (h : Int) (i : Int), (0 ≤ g) → (g < 9223372036854775808) → (0 ≤ h) → (h < 9223372036854775808) → (0 ≤ i) → (i ≤ 100) → (Int.gcd g h = Int.gcd ka kb) → ((eu (100 - i).toNat (g, h)).2 = 0) → (100 - i < (n_3 : Int)) → ∀ (H : Heap) (locs : List Loc), va_P D clAll [] H → va_D A [] → va_S A s.heap H locs → ∀ ls : Array Slot, lv_has ls 11 [(4, .long (lZ g)), (6, .long (lZ h)), (8, .int (iZ i))] → W p l e { frames := 0, cells := 0, slots := 0, locals := 0 } s m args below meth c H locs 0 0 Q (F0 m 9 ls []) := by
    intro n_3
    induction n_3 with
    | zero => intro g h i hg hg2 hh hh2 hi hi2 hG hE hm_4; exact absurd hm_4 (by omega)
    | succ n_3 ih_2 =>
      intro g h i hg hg2 hh hh2 hi hi2 hG hE hm_4 H locs hP hD hS ls hl
      refine lv_iload hx hb dSc_greatestShared_9 (lv_at hl 2 rfl) ?_
      refine lv_bipush (v := iZ (100)) hx hb dSc_greatestShared_11 (by decide) ?_
      refine z_icmp_ge (tgt := 44) hx hb (by omega) (by omega) (by omega) (by omega) dSc_greatestShared_13 (by decide) (fun c_5 => ?_) (fun c_5 => ?_)
      ·
        refine lv_lload hx hb dSc_greatestShared_44 (lv_at hl 0 rfl) ?_
        exact cq_lret hx hb hr hlocks hAe hQ g ⟨rfl, (by (try dsimp only) <;> (first | exact gs_end hg hG (by assumption) | exact gs_end hg hG (gs_h hE (by omega))))⟩ (hP.sub [] rfl) (hD.sub [] (by decide) rfl) hS (by decide) (by decide) dSc_greatestShared_46
      ·
        refine lv_lload hx hb dSc_greatestShared_16 (lv_at hl 1 rfl) ?_
        refine lv_lconst (v := lZ 0) hx hb dSc_greatestShared_18 (by decide) ?_
        refine z_lcmp_eq (tgt := 44) hx hb (by omega) (by omega) (by omega) (by omega) dSc_greatestShared_19 dSc_greatestShared_20 (by decide) (fun c_6 => ?_) (fun c_6 => ?_)
        ·
          refine lv_lload hx hb dSc_greatestShared_44 (lv_at hl 0 rfl) ?_
          exact cq_lret hx hb hr hlocks hAe hQ g ⟨rfl, (by (try dsimp only) <;> (first | exact gs_end hg hG (by assumption) | exact gs_end hg hG (gs_h hE (by omega))))⟩ (hP.sub [] rfl) (hD.sub [] (by decide) rfl) hS (by decide) (by decide) dSc_greatestShared_46
        ·
          refine lv_lload hx hb dSc_greatestShared_23 (lv_at hl 0 rfl) ?_
          refine lv_lload hx hb dSc_greatestShared_25 (lv_at hl 1 rfl) ?_
          refine z_lrem hx hb (by omega) (by omega) (by omega) (by omega) dSc_greatestShared_27 ?_
          refine lv_lstore (lv' := [(9, .long (lZ (g % h))), (4, .long (lZ g)), (6, .long (lZ h)), (8, .int (iZ i))]) hx hb dSc_greatestShared_28 hl (by decide) rfl (fun ls hl => ?_)
          refine lv_lload hx hb dSc_greatestShared_30 (lv_at hl 2 rfl) ?_
          refine lv_lstore (lv' := [(4, .long (lZ h)), (9, .long (lZ (g % h))), (6, .long (lZ h)), (8, .int (iZ i))]) hx hb dSc_greatestShared_32 hl (by decide) rfl (fun ls hl => ?_)
          refine lv_lload hx hb dSc_greatestShared_34 (lv_at hl 1 rfl) ?_
          refine lv_lstore (lv' := [(6, .long (lZ (g % h))), (4, .long (lZ h)), (9, .long (lZ (g % h))), (8, .int (iZ i))]) hx hb dSc_greatestShared_36 hl (by decide) rfl (fun ls hl => ?_)
          refine lv_iinc (v := iZ (i + 1)) (lv' := [(8, .int (iZ (i + 1))), (6, .long (lZ (g % h))), (4, .long (lZ h)), (9, .long (lZ (g % h)))]) hx hb dSc_greatestShared_38 hl (k := 3) rfl (iZ_add i 1) (by decide) rfl (fun ls hl => ?_)
          refine lv_goto (tgt := 9) hx hb dSc_greatestShared_41 (by decide) ?_
          exact ih_2  h (g % h) (i + 1) (by omega) (by omega) (by exact Int.emod_nonneg _ (by assumption)) (by exact gs_lt hh hh2 (by assumption)) (by omega) (by omega) (by exact (gc_step g h).trans hG) (by exact gs_E hE (by assumption) (by omega)) (by omega) _ _ (hP.sub [] rfl) (hD.sub [] (by decide) rfl) hS ls (lv_sub hl [2, 1, 0] rfl)
  exact loop_1 ((100 - 0 : Int).toNat + 1) ka kb 0 (by omega) (by omega) (by omega) (by omega) (by omega) (by omega) (by rfl) (by exact eu_100 _ hb0 h_kb2) (by omega) _ _ (hP.sub [] rfl) (hD.sub [] (by decide) rfl) hS ls (lv_sub hl [2, 1, 0] rfl)
set_option maxHeartbeats 4000000 in
set_option maxRecDepth 100000 in
theorem k_StratumCounts_leastCommon (l : Launch) (D : va_G) (cI cJ cZ : ClassId) (sz : Nat) (ka : Int) (kb : Int) (h_ka1 : -9223372036854775808 ≤ ka) (h_ka2 : ka < 9223372036854775808) (h_kb1 : -9223372036854775808 ≤ kb) (h_kb2 : kb < 9223372036854775808) (ha : 1 ≤ ka) (hb0 : 1 ≤ kb) : cq_l l ySc_leastCommon wsSc_leastCommon ({ frames := 1, cells := 0, slots := 0, locals := 30 }) D clAll [(cI, .int), (cJ, .long), (cZ, .boolean)] nwAll [.long (lZ ka), .long (lZ kb)] [] sz (S := Int) (fun (r : Int64) (u : Int) => r = lZ u ∧ (u = ka / (Int.gcd ka kb : Int) * kb)) (fun (u : Int) => []) 0 0 := by
  refine cq_enter (cc := cSc_leastCommon) (maxL := 6) (ret := some .long) (by decide) rfl (Nat.le_of_ble_eq_true rfl) ?_
  intro p e s m below meth c A args Q H hAe hQ hsz hAt hA hP hK hD hS ls hl
  obtain ⟨hx, hb, hr, hml, hown, hts, hlocks, hin⟩ := hAt
  have hown : s.vm.findClass RSc = some m.cls := hown
  have hl : lv_has ls 6 [(0, .long (lZ ka)), (2, .long (lZ kb))] := hl
  refine lv_lload_n hx hb dSc_leastCommon_0 rfl (lv_at hl 0 rfl) ?_
  refine lv_lload_n hx hb dSc_leastCommon_1 rfl (lv_at hl 1 rfl) ?_
  refine cq_calll (wr := []) (va_runS (As := [.long (lZ ka), .long (lZ kb)]) (rest := []) ⟨hx, hb, hml, hown, hts⟩ (k_StratumCounts_greatestShared l D cI cJ cZ H.size ka kb (by omega) (by omega) (by omega) (by omega) (by first | assumption | omega) (by first | assumption | omega)) ⟨(callB_of 2 hts (gAll cmSc_greatestShared) rfl rfl rfl (hts _ (hm g58)) (hts _ (hm g318)) (by decide +kernel) ⟨Nat.le_of_ble_eq_true rfl, Nat.le_of_ble_eq_true rfl⟩), (hts _ (hm g319))⟩ (cq_preS hK hP hD [] (by decide) rfl) rfl rfl hl.1 rfl (lv_room (Nat.le_of_ble_eq_true rfl)) dSc_leastCommon_2 ⟨by decide, by decide⟩) hP hD hS hA [] [] rfl rfl (by decide) (by decide) (fun r u H locs hw_1 hP hD hS => ?_)
  obtain ⟨o_2, rfl⟩ : ∃ z, z = u := ⟨_, rfl⟩
  try dsimp only at hw_1
  obtain ⟨rfl, rfl⟩ := hw_1
  have hP : va_P D clAll [] H := hP
  have hD : va_D A [] := hD
  refine lv_lstore (lv' := [(4, .long (lZ (Int.gcd ka kb : Int))), (0, .long (lZ ka)), (2, .long (lZ kb))]) hx hb dSc_leastCommon_5 hl (by decide) rfl (fun ls hl => ?_)
  have hgp := gc_bd (b := kb) ha
  refine lv_lload hx hb dSc_leastCommon_7 (lv_at hl 0 rfl) ?_
  refine lv_lconst (v := lZ 1) hx hb dSc_leastCommon_9 (by decide) ?_
  refine z_lcmp_ge (tgt := 18) hx hb (by omega) (by omega) (by omega) (by omega) dSc_leastCommon_10 dSc_leastCommon_11 (by decide) (fun c_3 => ?_) (fun c_3 => ?_)
  ·
    refine lv_lload_n hx hb dSc_leastCommon_18 rfl (lv_at hl 1 rfl) ?_
    refine lv_lload hx hb dSc_leastCommon_19 (lv_at hl 0 rfl) ?_
    refine z_ldiv hx hb (by omega) (by omega) (by omega) (by omega) dSc_leastCommon_21 ?_
    refine lv_lload_n hx hb dSc_leastCommon_22 rfl (lv_at hl 2 rfl) ?_
    refine z_lmul hx hb dSc_leastCommon_23 ?_
    exact cq_lret hx hb hr hlocks hAe hQ ((ka / (Int.gcd ka kb : Int)) * kb) ⟨rfl, (by (try dsimp only) <;> (first | rfl | omega | (refine Or.inl ?_; and_intros <;> first | rfl | omega) | (refine Or.inr ?_; and_intros <;> first | rfl | omega)))⟩ (hP.sub [] rfl) (hD.sub [] (by decide) rfl) hS (by decide) (by decide) dSc_leastCommon_24
  ·
    refine lv_lconst (v := lZ 0) hx hb dSc_leastCommon_14 (by decide) ?_
    refine lv_goto (tgt := 24) hx hb dSc_leastCommon_15 (by decide) ?_
    exact cq_lret hx hb hr hlocks hAe hQ 0 ⟨rfl, (by (try dsimp only) <;> (first | rfl | omega | (refine Or.inl ?_; and_intros <;> first | rfl | omega) | (refine Or.inr ?_; and_intros <;> first | rfl | omega)))⟩ (hP.sub [] rfl) (hD.sub [] (by decide) rfl) hS (by decide) (by decide) dSc_leastCommon_24
set_option maxHeartbeats 4000000 in
set_option maxRecDepth 100000 in
theorem k_StratumCounts_tell (l : Launch) (D : va_G) (cI cJ cZ : ClassId) (sz : Nat) (ka : Int) (kb : Int) (kp : Int) (h_ka1 : -9223372036854775808 ≤ ka) (h_ka2 : ka < 9223372036854775808) (h_kb1 : -9223372036854775808 ≤ kb) (h_kb2 : kb < 9223372036854775808) (h_kp1 : -2147483648 ≤ kp) (h_kp2 : kp < 2147483648) (ha : 0 ≤ ka) (hb0 : 1 ≤ kb) : cq_l l ySc_tell wsSc_tell ({ frames := 1, cells := 0, slots := 0, locals := 30 }) D clAll [(cI, .int), (cJ, .long), (cZ, .boolean)] nwAll [.long (lZ ka), .long (lZ kb), .int (iZ kp)] [] sz (S := Int) (fun (r : Int64) (u : Int) => r = lZ u ∧ (u = (if kp = 0 then ka else kb) / (Int.gcd ka kb : Int))) (fun (u : Int) => []) 0 0 := by
  refine cq_enter (cc := cSc_tell) (maxL := 7) (ret := some .long) (by decide) rfl (Nat.le_of_ble_eq_true rfl) ?_
  intro p e s m below meth c A args Q H hAe hQ hsz hAt hA hP hK hD hS ls hl
  obtain ⟨hx, hb, hr, hml, hown, hts, hlocks, hin⟩ := hAt
  have hown : s.vm.findClass RSc = some m.cls := hown
  have hl : lv_has ls 7 [(0, .long (lZ ka)), (2, .long (lZ kb)), (4, .int (iZ kp))] := hl
  refine lv_lload_n hx hb dSc_tell_0 rfl (lv_at hl 0 rfl) ?_
  refine lv_lload_n hx hb dSc_tell_1 rfl (lv_at hl 1 rfl) ?_
  refine cq_calll (wr := []) (va_runS (As := [.long (lZ ka), .long (lZ kb)]) (rest := []) ⟨hx, hb, hml, hown, hts⟩ (k_StratumCounts_greatestShared l D cI cJ cZ H.size ka kb (by omega) (by omega) (by omega) (by omega) (by first | assumption | omega) (by first | assumption | omega)) ⟨(callB_of 2 hts (gAll cmSc_greatestShared) rfl rfl rfl (hts _ (hm g58)) (hts _ (hm g318)) (by decide +kernel) ⟨Nat.le_of_ble_eq_true rfl, Nat.le_of_ble_eq_true rfl⟩), (hts _ (hm g319))⟩ (cq_preS hK hP hD [] (by decide) rfl) rfl rfl hl.1 rfl (lv_room (Nat.le_of_ble_eq_true rfl)) dSc_tell_2 ⟨by decide, by decide⟩) hP hD hS hA [] [] rfl rfl (by decide) (by decide) (fun r u H locs hw_1 hP hD hS => ?_)
  obtain ⟨o_2, rfl⟩ : ∃ z, z = u := ⟨_, rfl⟩
  try dsimp only at hw_1
  obtain ⟨rfl, rfl⟩ := hw_1
  have hP : va_P D clAll [] H := hP
  have hD : va_D A [] := hD
  refine lv_lstore (lv' := [(5, .long (lZ (Int.gcd ka kb : Int))), (0, .long (lZ ka)), (2, .long (lZ kb)), (4, .int (iZ kp))]) hx hb dSc_tell_5 hl (by decide) rfl (fun ls hl => ?_)
  have hgp := gc_bd2 (a := ka) hb0
  refine lv_lload hx hb dSc_tell_7 (lv_at hl 0 rfl) ?_
  refine lv_lconst (v := lZ 1) hx hb dSc_tell_9 (by decide) ?_
  refine z_lcmp_ge (tgt := 18) hx hb (by omega) (by omega) (by omega) (by omega) dSc_tell_10 dSc_tell_11 (by decide) (fun c_3 => ?_) (fun c_3 => ?_)
  ·
    refine lv_iload hx hb dSc_tell_18 (lv_at hl 3 rfl) ?_
    refine z_if_ne (tgt := 27) hx hb (by omega) (by omega) dSc_tell_20 (by decide) (fun c_4 => ?_) (fun c_4 => ?_)
    ·
      refine lv_lload_n hx hb dSc_tell_27 rfl (lv_at hl 2 rfl) ?_
      refine lv_lload hx hb dSc_tell_28 (lv_at hl 0 rfl) ?_
      refine z_ldiv hx hb (by omega) (by omega) (by omega) (by omega) dSc_tell_30 ?_
      exact cq_lret hx hb hr hlocks hAe hQ (kb / (Int.gcd ka kb : Int)) ⟨rfl, (by (try dsimp only) <;> (first | (rw [if_pos (by assumption)]; done) | (rw [if_neg (by assumption)]; done) | omega))⟩ (hP.sub [] rfl) (hD.sub [] (by decide) rfl) hS (by decide) (by decide) dSc_tell_31
    ·
      refine lv_lload_n hx hb dSc_tell_23 rfl (lv_at hl 1 rfl) ?_
      refine lv_goto (tgt := 28) hx hb dSc_tell_24 (by decide) ?_
      refine lv_lload hx hb dSc_tell_28 (lv_at hl 0 rfl) ?_
      refine z_ldiv hx hb (by omega) (by omega) (by omega) (by omega) dSc_tell_30 ?_
      exact cq_lret hx hb hr hlocks hAe hQ (ka / (Int.gcd ka kb : Int)) ⟨rfl, (by (try dsimp only) <;> (first | (rw [if_pos (by assumption)]; done) | (rw [if_neg (by assumption)]; done) | omega))⟩ (hP.sub [] rfl) (hD.sub [] (by decide) rfl) hS (by decide) (by decide) dSc_tell_31
  ·
    refine lv_ldc2 (v := lZ (-1)) hx hb hown (hts _ (hm g297)) dSc_tell_14 ?_
    exact cq_lret hx hb hr hlocks hAe hQ (-1) ⟨rfl, (by (try dsimp only) <;> (first | (rw [if_pos (by assumption)]; done) | (rw [if_neg (by assumption)]; done) | omega))⟩ (hP.sub [] rfl) (hD.sub [] (by decide) rfl) hS (by decide) (by decide) dSc_tell_17
end
section
set_option maxHeartbeats 4000000 in
set_option maxRecDepth 100000 in
theorem k_Strata_has (l : Launch) (D : va_G) (cI cJ cZ : ClassId) (t_a t_sizes_a t_costs_a t_gone_a : Nat) (sz : Nat) (t_made : Int) (z : Int) (h_z1 : -2147483648 ≤ z) (h_z2 : z < 2147483648) (hn1 : 0 ≤ t_made) (hn2 : t_made ≤ 4) : cq_i l ySt_has wsSt_has ({ frames := 0, cells := 0, slots := 0, locals := 0 }) D clAll [(cI, .int), (cJ, .long), (cZ, .boolean)] nwAll [.ref t_a, .int (iZ z)] [(t_a, .inr (6, [.ref t_sizes_a, .ref t_costs_a, .ref t_gone_a, .int (iZ t_made)]))] sz (S := Int) (fun (r : Int32) (u : Int) => r = iZ u ∧ ((u = 1 ∧ 0 ≤ z ∧ z < t_made) ∨ (u = 0 ∧ (z < 0 ∨ t_made ≤ z)))) (fun (u : Int) => [(t_a, .inr (6, [.ref t_sizes_a, .ref t_costs_a, .ref t_gone_a, .int (iZ t_made)]))]) 0 0 := by
  refine cq_enter (cc := cSt_has) (maxL := 2) (ret := some .boolean) (by decide) rfl (Nat.le_of_ble_eq_true rfl) ?_
  intro p e s m below meth c A args Q H hAe hQ hsz hAt hA hP hK hD hS ls hl
  obtain ⟨hx, hb, hr, hml, hown, hts, hlocks, hin⟩ := hAt
  have hown : s.vm.findClass RSt = some m.cls := hown
  have hl : lv_has ls 2 [(0, .ref t_a), (1, .int (iZ z))] := hl
  refine lv_iload_n hx hb dSt_has_0 rfl (lv_at hl 1 rfl) ?_
  refine z_if_lt (tgt := 16) hx hb (by omega) (by omega) dSt_has_1 (by decide) (fun c_1 => ?_) (fun c_1 => ?_)
  ·
    refine lv_iconst (v := iZ 0) hx hb dSt_has_16 (by decide) ?_
    exact cq_zret hx hb hr hlocks hAe hQ (bo_narr (by omega) (by omega)) 0 ⟨rfl, (by (try dsimp only) <;> (first | rfl | omega | (refine Or.inl ?_; and_intros <;> first | rfl | omega) | (refine Or.inr ?_; and_intros <;> first | rfl | omega)))⟩ (hP.sub [0] rfl) (hD.sub [0] (by decide) rfl) hS (by decide) (by decide) dSt_has_17
  ·
    refine lv_iload_n hx hb dSt_has_4 rfl (lv_at hl 1 rfl) ?_
    refine lv_aload_n hx hb dSt_has_5 rfl (lv_at hl 0 rfl) ?_
    refine va_get (D := D) (ci := 6) (v := .int (iZ t_made)) (C := RSt) (T := TSt) (N := 4) hx hb hts laySt hown hK.1 hP 0 rfl rfl 3 (by decide) (hts _ (hm g88)) (fun _ h9 => h9) rfl dSt_has_6 ?_
    refine z_icmp_ge (tgt := 16) hx hb (by omega) (by omega) (by omega) (by omega) dSt_has_9 (by decide) (fun c_2 => ?_) (fun c_2 => ?_)
    ·
      refine lv_iconst (v := iZ 0) hx hb dSt_has_16 (by decide) ?_
      exact cq_zret hx hb hr hlocks hAe hQ (bo_narr (by omega) (by omega)) 0 ⟨rfl, (by (try dsimp only) <;> (first | rfl | omega | (refine Or.inl ?_; and_intros <;> first | rfl | omega) | (refine Or.inr ?_; and_intros <;> first | rfl | omega)))⟩ (hP.sub [0] rfl) (hD.sub [0] (by decide) rfl) hS (by decide) (by decide) dSt_has_17
    ·
      refine lv_iconst (v := iZ 1) hx hb dSt_has_12 (by decide) ?_
      refine lv_goto (tgt := 17) hx hb dSt_has_13 (by decide) ?_
      exact cq_zret hx hb hr hlocks hAe hQ (bo_narr (by omega) (by omega)) 1 ⟨rfl, (by (try dsimp only) <;> (first | rfl | omega | (refine Or.inl ?_; and_intros <;> first | rfl | omega) | (refine Or.inr ?_; and_intros <;> first | rfl | omega)))⟩ (hP.sub [0] rfl) (hD.sub [0] (by decide) rfl) hS (by decide) (by decide) dSt_has_17
set_option maxHeartbeats 4000000 in
set_option maxRecDepth 100000 in
theorem k_Strata_stands (l : Launch) (D : va_G) (cI cJ cZ : ClassId) (t_a t_sizes_a t_costs_a t_gone_a : Nat) (sz : Nat) (t_made : Int) (t_gone_f : Int → Int) (z : Int) (h_z1 : -2147483648 ≤ z) (h_z2 : z < 2147483648) (hn1 : 0 ≤ t_made) (hn2 : t_made ≤ 4) (hgo : ∀ j, 0 ≤ t_gone_f j ∧ t_gone_f j ≤ 1) : cq_i l ySt_stands wsSt_stands ({ frames := 1, cells := 0, slots := 0, locals := 21 }) D clAll [(cI, .int), (cJ, .long), (cZ, .boolean)] nwAll [.ref t_a, .int (iZ z)] [(t_a, .inr (6, [.ref t_sizes_a, .ref t_costs_a, .ref t_gone_a, .int (iZ t_made)])), (t_gone_a, .inl (cZ, 4, .inl (aI t_gone_f)))] sz (S := Int) (fun (r : Int32) (u : Int) => r = iZ u ∧ ((u = 1 ∧ 0 ≤ z ∧ z < t_made ∧ t_gone_f z = 0) ∨ (u = 0 ∧ ¬ (0 ≤ z ∧ z < t_made ∧ t_gone_f z = 0)))) (fun (u : Int) => [(t_a, .inr (6, [.ref t_sizes_a, .ref t_costs_a, .ref t_gone_a, .int (iZ t_made)])), (t_gone_a, .inl (cZ, 4, .inl (aI t_gone_f)))]) 0 0 := by
  refine cq_enter (cc := cSt_stands) (maxL := 2) (ret := some .boolean) (by decide) rfl (Nat.le_of_ble_eq_true rfl) ?_
  intro p e s m below meth c A args Q H hAe hQ hsz hAt hA hP hK hD hS ls hl
  obtain ⟨hx, hb, hr, hml, hown, hts, hlocks, hin⟩ := hAt
  have hown : s.vm.findClass RSt = some m.cls := hown
  have hl : lv_has ls 2 [(0, .ref t_a), (1, .int (iZ z))] := hl
  refine lv_aload_n hx hb dSt_stands_0 rfl (lv_at hl 0 rfl) ?_
  refine lv_iload_n hx hb dSt_stands_1 rfl (lv_at hl 1 rfl) ?_
  refine cq_calli (wr := [(t_gone_a, .inl (cZ, 4, .inl (aI t_gone_f)))]) (va_runV (C := RSt) (As := [.int (iZ z)]) (rest := []) ⟨hx, hb, hml, hown, hts⟩ (k_Strata_has l D cI cJ cZ t_a t_sizes_a t_costs_a t_gone_a H.size t_made z (by omega) (by omega) (by first | assumption | omega) (by first | assumption | omega)) ⟨(callB_of 1 hts (gAll cmSt_has) rfl rfl rfl (hts _ (hm g59)) (hts _ (hm g233)) (by decide +kernel) ⟨Nat.le_of_ble_eq_true rfl, Nat.le_of_ble_eq_true rfl⟩), (hts _ (hm g234)), (hts _ (hm g3))⟩ (cq_preV (va_recv hK.1 hP (ci := 6) (q0 := 0) rfl rfl) (cq_preS hK hP hD [0] (by decide) rfl)) rfl rfl hl.1 rfl (lv_room (Nat.le_of_ble_eq_true rfl)) dSt_stands_2 ⟨by decide, by decide⟩) hP hD hS hA [0] [1] rfl rfl (by decide) (by decide) (fun r u H locs hw_1 hP hD hS => ?_)
  obtain ⟨o_2, rfl⟩ : ∃ z, z = u := ⟨_, rfl⟩
  try dsimp only at hw_1
  obtain ⟨rfl, p_3⟩ := hw_1
  have hP : va_P D clAll [(t_gone_a, .inl (cZ, 4, .inl (aI t_gone_f))), (t_a, .inr (6, [.ref t_sizes_a, .ref t_costs_a, .ref t_gone_a, .int (iZ t_made)]))] H := hP
  have hD : va_D A [(t_gone_a, .inl (cZ, 4, .inl (aI t_gone_f))), (t_a, .inr (6, [.ref t_sizes_a, .ref t_costs_a, .ref t_gone_a, .int (iZ t_made)]))] := hD
  refine z_if_eq (tgt := 21) hx hb (by omega) (by omega) dSt_stands_5 (by decide) (fun c_4 => ?_) (fun c_4 => ?_)
  ·
    refine lv_iconst (v := iZ 0) hx hb dSt_stands_21 (by decide) ?_
    exact cq_zret hx hb hr hlocks hAe hQ (bo_narr (by omega) (by omega)) 0 ⟨rfl, (by (try dsimp only) <;> (first | rfl | omega | (refine Or.inl ?_; and_intros <;> first | rfl | omega) | (refine Or.inr ?_; and_intros <;> first | rfl | omega)))⟩ (hP.sub [1, 0] rfl) (hD.sub [1, 0] (by decide) rfl) hS (by decide) (by decide) dSt_stands_22
  ·
    refine lv_aload_n hx hb dSt_stands_8 rfl (lv_at hl 0 rfl) ?_
    refine va_get (D := D) (ci := 6) (v := .ref t_gone_a) (C := RSt) (T := TSt) (N := 4) hx hb hts laySt hown hK.1 hP 1 rfl rfl 2 (by decide) (hts _ (hm g87)) (fun _ h9 => h9) rfl dSt_stands_9 ?_
    refine lv_iload_n hx hb dSt_stands_12 rfl (lv_at hl 1 rfl) ?_
    refine z_zald hx hb hK hP 0 2 rfl rfl (by omega) (by omega) (by decide) dSt_stands_13 ?_
    have f_5 := hgo z
    refine z_if_ne (tgt := 21) hx hb (by omega) (by omega) dSt_stands_14 (by decide) (fun c_6 => ?_) (fun c_6 => ?_)
    ·
      refine lv_iconst (v := iZ 0) hx hb dSt_stands_21 (by decide) ?_
      exact cq_zret hx hb hr hlocks hAe hQ (bo_narr (by omega) (by omega)) 0 ⟨rfl, (by (try dsimp only) <;> (first | rfl | omega | (refine Or.inl ?_; and_intros <;> first | rfl | omega) | (refine Or.inr ?_; and_intros <;> first | rfl | omega)))⟩ (hP.sub [1, 0] rfl) (hD.sub [1, 0] (by decide) rfl) hS (by decide) (by decide) dSt_stands_22
    ·
      refine lv_iconst (v := iZ 1) hx hb dSt_stands_17 (by decide) ?_
      refine lv_goto (tgt := 22) hx hb dSt_stands_18 (by decide) ?_
      exact cq_zret hx hb hr hlocks hAe hQ (bo_narr (by omega) (by omega)) 1 ⟨rfl, (by (try dsimp only) <;> (first | rfl | omega | (refine Or.inl ?_; and_intros <;> first | rfl | omega) | (refine Or.inr ?_; and_intros <;> first | rfl | omega)))⟩ (hP.sub [1, 0] rfl) (hD.sub [1, 0] (by decide) rfl) hS (by decide) (by decide) dSt_stands_22
set_option maxHeartbeats 4000000 in
set_option maxRecDepth 100000 in
theorem k_Strata_add (l : Launch) (D : va_G) (cI cJ cZ : ClassId) (t_a t_sizes_a t_costs_a t_gone_a : Nat) (sz : Nat) (t_made : Int) (t_sizes_f : Int → Int) (t_costs_f : Int → Int) (size : Int) (h_size1 : -2147483648 ≤ size) (h_size2 : size < 2147483648) (hn1 : 0 ≤ t_made) (hn2 : t_made ≤ 4) : cq_i l ySt_add wsSt_add ({ frames := 0, cells := 0, slots := 0, locals := 0 }) D clAll [(cI, .int), (cJ, .long), (cZ, .boolean)] nwAll [.ref t_a, .int (iZ size)] [(t_a, .inr (6, [.ref t_sizes_a, .ref t_costs_a, .ref t_gone_a, .int (iZ t_made)])), (t_sizes_a, .inl (cI, 4, .inl (aI t_sizes_f))), (t_costs_a, .inl (cJ, 4, .inr (.inl (aL t_costs_f))))] sz (S := Int × Int × (Int → Int) × (Int → Int)) (fun (r : Int32) (u : Int × Int × (Int → Int) × (Int → Int)) => r = iZ u.1 ∧ (((t_made < 4 ∧ 1 ≤ size ∧ size ≤ 100) ∧ u.1 = t_made ∧ u.2.1 = t_made + 1 ∧ u.2.2.1 = pu t_sizes_f t_made size ∧ u.2.2.2 = pu t_costs_f t_made 1) ∨ (¬ (t_made < 4 ∧ 1 ≤ size ∧ size ≤ 100) ∧ u.1 = -1 ∧ u.2.1 = t_made ∧ u.2.2.1 = t_sizes_f ∧ u.2.2.2 = t_costs_f))) (fun (u : Int × Int × (Int → Int) × (Int → Int)) => [(t_a, .inr (6, [.ref t_sizes_a, .ref t_costs_a, .ref t_gone_a, .int (iZ u.2.1)])), (t_sizes_a, .inl (cI, 4, .inl (aI u.2.2.1))), (t_costs_a, .inl (cJ, 4, .inr (.inl (aL u.2.2.2))))]) 0 0 := by
  refine cq_enter (cc := cSt_add) (maxL := 3) (ret := some .int) (by decide) rfl (Nat.le_of_ble_eq_true rfl) ?_
  intro p e s m below meth c A args Q H hAe hQ hsz hAt hA hP hK hD hS ls hl
  obtain ⟨hx, hb, hr, hml, hown, hts, hlocks, hin⟩ := hAt
  have hown : s.vm.findClass RSt = some m.cls := hown
  have hl : lv_has ls 3 [(0, .ref t_a), (1, .int (iZ size))] := hl
  refine lv_aload_n hx hb dSt_add_0 rfl (lv_at hl 0 rfl) ?_
  refine va_get (D := D) (ci := 6) (v := .int (iZ t_made)) (C := RSt) (T := TSt) (N := 4) hx hb hts laySt hown hK.1 hP 0 rfl rfl 3 (by decide) (hts _ (hm g88)) (fun _ h9 => h9) rfl dSt_add_1 ?_
  refine lv_iconst (v := iZ 4) hx hb dSt_add_4 (by decide) ?_
  refine z_icmp_ge (tgt := 19) hx hb (by omega) (by omega) (by omega) (by omega) dSt_add_5 (by decide) (fun c_1 => ?_) (fun c_1 => ?_)
  ·
    refine lv_iconst (v := iZ (-1)) hx hb dSt_add_19 (by decide) ?_
    exact cq_iret hx hb hr hlocks hAe hQ (-1, t_made, t_sizes_f, t_costs_f) ⟨rfl, (by (try dsimp only) <;> (first | rfl | omega | (refine Or.inl ?_; and_intros <;> first | rfl | omega) | (refine Or.inr ?_; and_intros <;> first | rfl | omega)))⟩ (hP.sub [0, 1, 2] rfl) (hD.sub [0, 1, 2] (by decide) rfl) hS (by decide) (by decide) dSt_add_20
  ·
    refine lv_iload_n hx hb dSt_add_8 rfl (lv_at hl 1 rfl) ?_
    refine lv_iconst (v := iZ 1) hx hb dSt_add_9 (by decide) ?_
    refine z_icmp_lt (tgt := 19) hx hb (by omega) (by omega) (by omega) (by omega) dSt_add_10 (by decide) (fun c_2 => ?_) (fun c_2 => ?_)
    ·
      refine lv_iconst (v := iZ (-1)) hx hb dSt_add_19 (by decide) ?_
      exact cq_iret hx hb hr hlocks hAe hQ (-1, t_made, t_sizes_f, t_costs_f) ⟨rfl, (by (try dsimp only) <;> (first | rfl | omega | (refine Or.inl ?_; and_intros <;> first | rfl | omega) | (refine Or.inr ?_; and_intros <;> first | rfl | omega)))⟩ (hP.sub [0, 1, 2] rfl) (hD.sub [0, 1, 2] (by decide) rfl) hS (by decide) (by decide) dSt_add_20
    ·
      refine lv_iload_n hx hb dSt_add_13 rfl (lv_at hl 1 rfl) ?_
      refine lv_bipush (v := iZ (100)) hx hb dSt_add_14 (by decide) ?_
      refine z_icmp_le (tgt := 21) hx hb (by omega) (by omega) (by omega) (by omega) dSt_add_16 (by decide) (fun c_3 => ?_) (fun c_3 => ?_)
      ·
        refine lv_aload_n hx hb dSt_add_21 rfl (lv_at hl 0 rfl) ?_
        refine va_get (D := D) (ci := 6) (v := .int (iZ t_made)) (C := RSt) (T := TSt) (N := 4) hx hb hts laySt hown hK.1 hP 0 rfl rfl 3 (by decide) (hts _ (hm g88)) (fun _ h9 => h9) rfl dSt_add_22 ?_
        refine lv_istore_n (lv' := [(2, .int (iZ t_made)), (0, .ref t_a), (1, .int (iZ size))]) hx hb dSt_add_25 rfl hl (by decide) rfl (fun ls hl => ?_)
        refine lv_aload_n hx hb dSt_add_26 rfl (lv_at hl 1 rfl) ?_
        refine va_get (D := D) (ci := 6) (v := .ref t_sizes_a) (C := RSt) (T := TSt) (N := 4) hx hb hts laySt hown hK.1 hP 0 rfl rfl 0 (by decide) (hts _ (hm g85)) (fun _ h9 => h9) rfl dSt_add_27 ?_
        refine lv_iload_n hx hb dSt_add_30 rfl (lv_at hl 0 rfl) ?_
        refine lv_iload_n hx hb dSt_add_31 rfl (lv_at hl 2 rfl) ?_
        refine z_iast hx hb hK hP hD hS 1 0 rfl rfl (by omega) (by omega) (by decide) dSt_add_32 (fun H locs hP hD hS => ?_)
        have hP : va_P D clAll [(t_a, .inr (6, [.ref t_sizes_a, .ref t_costs_a, .ref t_gone_a, .int (iZ t_made)])), (t_sizes_a, .inl (cI, 4, .inl (aI (pu t_sizes_f t_made size)))), (t_costs_a, .inl (cJ, 4, .inr (.inl (aL t_costs_f))))] H := hP
        have hD : va_D A [(t_a, .inr (6, [.ref t_sizes_a, .ref t_costs_a, .ref t_gone_a, .int (iZ t_made)])), (t_sizes_a, .inl (cI, 4, .inl (aI (pu t_sizes_f t_made size)))), (t_costs_a, .inl (cJ, 4, .inr (.inl (aL t_costs_f))))] := hD
        refine lv_aload_n hx hb dSt_add_33 rfl (lv_at hl 1 rfl) ?_
        refine va_get (D := D) (ci := 6) (v := .ref t_costs_a) (C := RSt) (T := TSt) (N := 4) hx hb hts laySt hown hK.1 hP 0 rfl rfl 1 (by decide) (hts _ (hm g86)) (fun _ h9 => h9) rfl dSt_add_34 ?_
        refine lv_iload_n hx hb dSt_add_37 rfl (lv_at hl 0 rfl) ?_
        refine lv_lconst (v := lZ 1) hx hb dSt_add_38 (by decide) ?_
        refine z_last hx hb hK hP hD hS 2 1 rfl rfl (by omega) (by omega) (by decide) dSt_add_39 (fun H locs hP hD hS => ?_)
        have hP : va_P D clAll [(t_a, .inr (6, [.ref t_sizes_a, .ref t_costs_a, .ref t_gone_a, .int (iZ t_made)])), (t_sizes_a, .inl (cI, 4, .inl (aI (pu t_sizes_f t_made size)))), (t_costs_a, .inl (cJ, 4, .inr (.inl (aL (pu t_costs_f t_made 1)))))] H := hP
        have hD : va_D A [(t_a, .inr (6, [.ref t_sizes_a, .ref t_costs_a, .ref t_gone_a, .int (iZ t_made)])), (t_sizes_a, .inl (cI, 4, .inl (aI (pu t_sizes_f t_made size)))), (t_costs_a, .inl (cJ, 4, .inr (.inl (aL (pu t_costs_f t_made 1)))))] := hD
        refine lv_aload_n hx hb dSt_add_40 rfl (lv_at hl 1 rfl) ?_
        refine lv_dup hx hb dSt_add_41 rfl ?_
        refine va_get (D := D) (ci := 6) (v := .int (iZ t_made)) (C := RSt) (T := TSt) (N := 4) hx hb hts laySt hown hK.1 hP 0 rfl rfl 3 (by decide) (hts _ (hm g88)) (fun _ h9 => h9) rfl dSt_add_42 ?_
        refine lv_iconst (v := iZ 1) hx hb dSt_add_45 (by decide) ?_
        refine z_iadd hx hb dSt_add_46 ?_
        refine va_put (D := D) (ci := 6) (v := .int (iZ (t_made + 1))) (ty := .int) (C := RSt) (T := TSt) (N := 4) hx hb hts laySt tySt tySt_ok nmSt hown hK.1 hP hD hS 0 rfl rfl 3 (by decide) (hts _ (hm g88)) (fun _ h9 => h9) rfl (by decide +kernel) rfl rfl (Nat.le_of_ble_eq_true rfl) dSt_add_47 (fun H locs hP hD hS => ?_)
        have hP : va_P D clAll [(t_a, .inr (6, [.ref t_sizes_a, .ref t_costs_a, .ref t_gone_a, .int (iZ (t_made + 1))])), (t_sizes_a, .inl (cI, 4, .inl (aI (pu t_sizes_f t_made size)))), (t_costs_a, .inl (cJ, 4, .inr (.inl (aL (pu t_costs_f t_made 1)))))] H := hP
        have hD : va_D A [(t_a, .inr (6, [.ref t_sizes_a, .ref t_costs_a, .ref t_gone_a, .int (iZ (t_made + 1))])), (t_sizes_a, .inl (cI, 4, .inl (aI (pu t_sizes_f t_made size)))), (t_costs_a, .inl (cJ, 4, .inr (.inl (aL (pu t_costs_f t_made 1)))))] := hD
        refine lv_iload_n hx hb dSt_add_50 rfl (lv_at hl 0 rfl) ?_
        exact cq_iret hx hb hr hlocks hAe hQ (t_made, t_made + 1, (pu t_sizes_f t_made size), (pu t_costs_f t_made 1)) ⟨rfl, (by (try dsimp only) <;> (first | rfl | omega | (refine Or.inl ?_; and_intros <;> first | rfl | omega) | (refine Or.inr ?_; and_intros <;> first | rfl | omega)))⟩ (hP.sub [0, 1, 2] rfl) (hD.sub [0, 1, 2] (by decide) rfl) hS (by decide) (by decide) dSt_add_51
      ·
        refine lv_iconst (v := iZ (-1)) hx hb dSt_add_19 (by decide) ?_
        exact cq_iret hx hb hr hlocks hAe hQ (-1, t_made, t_sizes_f, t_costs_f) ⟨rfl, (by (try dsimp only) <;> (first | rfl | omega | (refine Or.inl ?_; and_intros <;> first | rfl | omega) | (refine Or.inr ?_; and_intros <;> first | rfl | omega)))⟩ (hP.sub [0, 1, 2] rfl) (hD.sub [0, 1, 2] (by decide) rfl) hS (by decide) (by decide) dSt_add_20
set_option maxHeartbeats 4000000 in
set_option maxRecDepth 100000 in
theorem k_Strata_setCost (l : Launch) (D : va_G) (cI cJ cZ : ClassId) (t_a t_sizes_a t_costs_a t_gone_a : Nat) (sz : Nat) (t_made : Int) (t_gone_f : Int → Int) (t_costs_f : Int → Int) (z : Int) (cents : Int) (h_z1 : -2147483648 ≤ z) (h_z2 : z < 2147483648) (h_cents1 : -9223372036854775808 ≤ cents) (h_cents2 : cents < 9223372036854775808) (hn1 : 0 ≤ t_made) (hn2 : t_made ≤ 4) (hgo : ∀ j, 0 ≤ t_gone_f j ∧ t_gone_f j ≤ 1) : cq_i l ySt_setCost wsSt_setCost ({ frames := 2, cells := 0, slots := 0, locals := 42 }) D clAll [(cI, .int), (cJ, .long), (cZ, .boolean)] nwAll [.ref t_a, .int (iZ z), .long (lZ cents)] [(t_a, .inr (6, [.ref t_sizes_a, .ref t_costs_a, .ref t_gone_a, .int (iZ t_made)])), (t_gone_a, .inl (cZ, 4, .inl (aI t_gone_f))), (t_costs_a, .inl (cJ, 4, .inr (.inl (aL t_costs_f))))] sz (S := Int × (Int → Int)) (fun (r : Int32) (u : Int × (Int → Int)) => r = iZ u.1 ∧ ((((0 ≤ z ∧ z < t_made ∧ t_gone_f z = 0) ∧ 1 ≤ cents ∧ cents ≤ 100000) ∧ u.1 = 1 ∧ u.2 = pu t_costs_f z cents) ∨ (¬ ((0 ≤ z ∧ z < t_made ∧ t_gone_f z = 0) ∧ 1 ≤ cents ∧ cents ≤ 100000) ∧ u.1 = 0 ∧ u.2 = t_costs_f))) (fun (u : Int × (Int → Int)) => [(t_a, .inr (6, [.ref t_sizes_a, .ref t_costs_a, .ref t_gone_a, .int (iZ t_made)])), (t_gone_a, .inl (cZ, 4, .inl (aI t_gone_f))), (t_costs_a, .inl (cJ, 4, .inr (.inl (aL u.2))))]) 0 0 := by
  refine cq_enter (cc := cSt_setCost) (maxL := 4) (ret := some .boolean) (by decide) rfl (Nat.le_of_ble_eq_true rfl) ?_
  intro p e s m below meth c A args Q H hAe hQ hsz hAt hA hP hK hD hS ls hl
  obtain ⟨hx, hb, hr, hml, hown, hts, hlocks, hin⟩ := hAt
  have hown : s.vm.findClass RSt = some m.cls := hown
  have hl : lv_has ls 4 [(0, .ref t_a), (1, .int (iZ z)), (2, .long (lZ cents))] := hl
  refine lv_aload_n hx hb dSt_setCost_0 rfl (lv_at hl 0 rfl) ?_
  refine lv_iload_n hx hb dSt_setCost_1 rfl (lv_at hl 1 rfl) ?_
  refine cq_calli (wr := [(t_costs_a, .inl (cJ, 4, .inr (.inl (aL t_costs_f))))]) (va_runV (C := RSt) (As := [.int (iZ z)]) (rest := []) ⟨hx, hb, hml, hown, hts⟩ (k_Strata_stands l D cI cJ cZ t_a t_sizes_a t_costs_a t_gone_a H.size t_made t_gone_f z (by omega) (by omega) (by first | assumption | omega) (by first | assumption | omega) (by first | assumption | omega)) ⟨(callB_of 1 hts (gAll cmSt_stands) rfl rfl rfl (hts _ (hm g59)) (hts _ (hm g230)) (by decide +kernel) ⟨Nat.le_of_ble_eq_true rfl, Nat.le_of_ble_eq_true rfl⟩), (hts _ (hm g231)), (hts _ (hm g2))⟩ (cq_preV (va_recv hK.1 hP (ci := 6) (q0 := 0) rfl rfl) (cq_preS hK hP hD [0, 1] (by decide) rfl)) rfl rfl hl.1 rfl (lv_room (Nat.le_of_ble_eq_true rfl)) dSt_setCost_2 ⟨by decide, by decide⟩) hP hD hS hA [0, 1] [2] rfl rfl (by decide) (by decide) (fun r u H locs hw_1 hP hD hS => ?_)
  obtain ⟨o_2, rfl⟩ : ∃ z, z = u := ⟨_, rfl⟩
  try dsimp only at hw_1
  obtain ⟨rfl, p_3⟩ := hw_1
  have hP : va_P D clAll [(t_costs_a, .inl (cJ, 4, .inr (.inl (aL t_costs_f)))), (t_a, .inr (6, [.ref t_sizes_a, .ref t_costs_a, .ref t_gone_a, .int (iZ t_made)])), (t_gone_a, .inl (cZ, 4, .inl (aI t_gone_f)))] H := hP
  have hD : va_D A [(t_costs_a, .inl (cJ, 4, .inr (.inl (aL t_costs_f)))), (t_a, .inr (6, [.ref t_sizes_a, .ref t_costs_a, .ref t_gone_a, .int (iZ t_made)])), (t_gone_a, .inl (cZ, 4, .inl (aI t_gone_f)))] := hD
  refine z_if_eq (tgt := 22) hx hb (by omega) (by omega) dSt_setCost_5 (by decide) (fun c_4 => ?_) (fun c_4 => ?_)
  ·
    refine lv_iconst (v := iZ 0) hx hb dSt_setCost_22 (by decide) ?_
    exact cq_zret hx hb hr hlocks hAe hQ (bo_narr (by omega) (by omega)) (0, t_costs_f) ⟨rfl, (by (try dsimp only) <;> (first | rfl | omega | (refine Or.inl ?_; and_intros <;> first | rfl | omega) | (refine Or.inr ?_; and_intros <;> first | rfl | omega)))⟩ (hP.sub [1, 2, 0] rfl) (hD.sub [1, 2, 0] (by decide) rfl) hS (by decide) (by decide) dSt_setCost_23
  ·
    refine lv_lload_n hx hb dSt_setCost_8 rfl (lv_at hl 2 rfl) ?_
    refine lv_lconst (v := lZ 1) hx hb dSt_setCost_9 (by decide) ?_
    refine z_lcmp_lt (tgt := 22) hx hb (by omega) (by omega) (by omega) (by omega) dSt_setCost_10 dSt_setCost_11 (by decide) (fun c_5 => ?_) (fun c_5 => ?_)
    ·
      refine lv_iconst (v := iZ 0) hx hb dSt_setCost_22 (by decide) ?_
      exact cq_zret hx hb hr hlocks hAe hQ (bo_narr (by omega) (by omega)) (0, t_costs_f) ⟨rfl, (by (try dsimp only) <;> (first | rfl | omega | (refine Or.inl ?_; and_intros <;> first | rfl | omega) | (refine Or.inr ?_; and_intros <;> first | rfl | omega)))⟩ (hP.sub [1, 2, 0] rfl) (hD.sub [1, 2, 0] (by decide) rfl) hS (by decide) (by decide) dSt_setCost_23
    ·
      refine lv_lload_n hx hb dSt_setCost_14 rfl (lv_at hl 2 rfl) ?_
      refine lv_ldc2 (v := lZ (100000)) hx hb hown (hts _ (hm g236)) dSt_setCost_15 ?_
      refine z_lcmp_le (tgt := 24) hx hb (by omega) (by omega) (by omega) (by omega) dSt_setCost_18 dSt_setCost_19 (by decide) (fun c_6 => ?_) (fun c_6 => ?_)
      ·
        refine lv_aload_n hx hb dSt_setCost_24 rfl (lv_at hl 0 rfl) ?_
        refine va_get (D := D) (ci := 6) (v := .ref t_costs_a) (C := RSt) (T := TSt) (N := 4) hx hb hts laySt hown hK.1 hP 1 rfl rfl 1 (by decide) (hts _ (hm g86)) (fun _ h9 => h9) rfl dSt_setCost_25 ?_
        refine lv_iload_n hx hb dSt_setCost_28 rfl (lv_at hl 1 rfl) ?_
        refine lv_lload_n hx hb dSt_setCost_29 rfl (lv_at hl 2 rfl) ?_
        refine z_last hx hb hK hP hD hS 0 1 rfl rfl (by omega) (by omega) (by decide) dSt_setCost_30 (fun H locs hP hD hS => ?_)
        have hP : va_P D clAll [(t_costs_a, .inl (cJ, 4, .inr (.inl (aL (pu t_costs_f z cents))))), (t_a, .inr (6, [.ref t_sizes_a, .ref t_costs_a, .ref t_gone_a, .int (iZ t_made)])), (t_gone_a, .inl (cZ, 4, .inl (aI t_gone_f)))] H := hP
        have hD : va_D A [(t_costs_a, .inl (cJ, 4, .inr (.inl (aL (pu t_costs_f z cents))))), (t_a, .inr (6, [.ref t_sizes_a, .ref t_costs_a, .ref t_gone_a, .int (iZ t_made)])), (t_gone_a, .inl (cZ, 4, .inl (aI t_gone_f)))] := hD
        refine lv_iconst (v := iZ 1) hx hb dSt_setCost_31 (by decide) ?_
        exact cq_zret hx hb hr hlocks hAe hQ (bo_narr (by omega) (by omega)) (1, (pu t_costs_f z cents)) ⟨rfl, (by (try dsimp only) <;> (first | rfl | omega | (refine Or.inl ?_; and_intros <;> first | rfl | omega) | (refine Or.inr ?_; and_intros <;> first | rfl | omega)))⟩ (hP.sub [1, 2, 0] rfl) (hD.sub [1, 2, 0] (by decide) rfl) hS (by decide) (by decide) dSt_setCost_32
      ·
        refine lv_iconst (v := iZ 0) hx hb dSt_setCost_22 (by decide) ?_
        exact cq_zret hx hb hr hlocks hAe hQ (bo_narr (by omega) (by omega)) (0, t_costs_f) ⟨rfl, (by (try dsimp only) <;> (first | rfl | omega | (refine Or.inl ?_; and_intros <;> first | rfl | omega) | (refine Or.inr ?_; and_intros <;> first | rfl | omega)))⟩ (hP.sub [1, 2, 0] rfl) (hD.sub [1, 2, 0] (by decide) rfl) hS (by decide) (by decide) dSt_setCost_23
set_option maxHeartbeats 4000000 in
set_option maxRecDepth 100000 in
theorem k_Strata_merge (l : Launch) (D : va_G) (cI cJ cZ : ClassId) (t_a t_sizes_a t_costs_a t_gone_a : Nat) (sz : Nat) (t_made : Int) (t_gone_f : Int → Int) (t_sizes_f : Int → Int) (za : Int) (zb : Int) (h_za1 : -2147483648 ≤ za) (h_za2 : za < 2147483648) (h_zb1 : -2147483648 ≤ zb) (h_zb2 : zb < 2147483648) (hn1 : 0 ≤ t_made) (hn2 : t_made ≤ 4) (hgo : ∀ j, 0 ≤ t_gone_f j ∧ t_gone_f j ≤ 1) (hsz0 : ∀ j, 0 ≤ t_sizes_f j ∧ t_sizes_f j ≤ 100) : cq_i l ySt_merge wsSt_merge ({ frames := 2, cells := 0, slots := 0, locals := 42 }) D clAll [(cI, .int), (cJ, .long), (cZ, .boolean)] nwAll [.ref t_a, .int (iZ za), .int (iZ zb)] [(t_a, .inr (6, [.ref t_sizes_a, .ref t_costs_a, .ref t_gone_a, .int (iZ t_made)])), (t_gone_a, .inl (cZ, 4, .inl (aI t_gone_f))), (t_sizes_a, .inl (cI, 4, .inl (aI t_sizes_f)))] sz (S := Int × (Int → Int) × (Int → Int)) (fun (r : Int32) (u : Int × (Int → Int) × (Int → Int)) => r = iZ u.1 ∧ ((((0 ≤ za ∧ za < t_made ∧ t_gone_f za = 0) ∧ (0 ≤ zb ∧ zb < t_made ∧ t_gone_f zb = 0) ∧ ¬ za = zb ∧ t_sizes_f za + t_sizes_f zb ≤ 100) ∧ u.1 = 1 ∧ u.2.1 = pu t_gone_f zb 1 ∧ u.2.2 = pu t_sizes_f za (t_sizes_f za + t_sizes_f zb)) ∨ (¬ ((0 ≤ za ∧ za < t_made ∧ t_gone_f za = 0) ∧ (0 ≤ zb ∧ zb < t_made ∧ t_gone_f zb = 0) ∧ ¬ za = zb ∧ t_sizes_f za + t_sizes_f zb ≤ 100) ∧ u.1 = 0 ∧ u.2.1 = t_gone_f ∧ u.2.2 = t_sizes_f))) (fun (u : Int × (Int → Int) × (Int → Int)) => [(t_a, .inr (6, [.ref t_sizes_a, .ref t_costs_a, .ref t_gone_a, .int (iZ t_made)])), (t_gone_a, .inl (cZ, 4, .inl (aI u.2.1))), (t_sizes_a, .inl (cI, 4, .inl (aI u.2.2)))]) 0 0 := by
  refine cq_enter (cc := cSt_merge) (maxL := 4) (ret := some .boolean) (by decide) rfl (Nat.le_of_ble_eq_true rfl) ?_
  intro p e s m below meth c A args Q H hAe hQ hsz hAt hA hP hK hD hS ls hl
  obtain ⟨hx, hb, hr, hml, hown, hts, hlocks, hin⟩ := hAt
  have hown : s.vm.findClass RSt = some m.cls := hown
  have hl : lv_has ls 4 [(0, .ref t_a), (1, .int (iZ za)), (2, .int (iZ zb))] := hl
  refine lv_aload_n hx hb dSt_merge_0 rfl (lv_at hl 0 rfl) ?_
  refine lv_iload_n hx hb dSt_merge_1 rfl (lv_at hl 1 rfl) ?_
  refine cq_calli (wr := [(t_sizes_a, .inl (cI, 4, .inl (aI t_sizes_f)))]) (va_runV (C := RSt) (As := [.int (iZ za)]) (rest := []) ⟨hx, hb, hml, hown, hts⟩ (k_Strata_stands l D cI cJ cZ t_a t_sizes_a t_costs_a t_gone_a H.size t_made t_gone_f za (by omega) (by omega) (by first | assumption | omega) (by first | assumption | omega) (by first | assumption | omega)) ⟨(callB_of 1 hts (gAll cmSt_stands) rfl rfl rfl (hts _ (hm g59)) (hts _ (hm g230)) (by decide +kernel) ⟨Nat.le_of_ble_eq_true rfl, Nat.le_of_ble_eq_true rfl⟩), (hts _ (hm g231)), (hts _ (hm g2))⟩ (cq_preV (va_recv hK.1 hP (ci := 6) (q0 := 0) rfl rfl) (cq_preS hK hP hD [0, 1] (by decide) rfl)) rfl rfl hl.1 rfl (lv_room (Nat.le_of_ble_eq_true rfl)) dSt_merge_2 ⟨by decide, by decide⟩) hP hD hS hA [0, 1] [2] rfl rfl (by decide) (by decide) (fun r u H locs hw_1 hP hD hS => ?_)
  obtain ⟨o_2, rfl⟩ : ∃ z, z = u := ⟨_, rfl⟩
  try dsimp only at hw_1
  obtain ⟨rfl, p_3⟩ := hw_1
  have hP : va_P D clAll [(t_sizes_a, .inl (cI, 4, .inl (aI t_sizes_f))), (t_a, .inr (6, [.ref t_sizes_a, .ref t_costs_a, .ref t_gone_a, .int (iZ t_made)])), (t_gone_a, .inl (cZ, 4, .inl (aI t_gone_f)))] H := hP
  have hD : va_D A [(t_sizes_a, .inl (cI, 4, .inl (aI t_sizes_f))), (t_a, .inr (6, [.ref t_sizes_a, .ref t_costs_a, .ref t_gone_a, .int (iZ t_made)])), (t_gone_a, .inl (cZ, 4, .inl (aI t_gone_f)))] := hD
  refine z_if_eq (tgt := 21) hx hb (by omega) (by omega) dSt_merge_5 (by decide) (fun c_4 => ?_) (fun c_4 => ?_)
  ·
    refine lv_iconst (v := iZ 0) hx hb dSt_merge_21 (by decide) ?_
    exact cq_zret hx hb hr hlocks hAe hQ (bo_narr (by omega) (by omega)) (0, t_gone_f, t_sizes_f) ⟨rfl, (by (try dsimp only) <;> (first | rfl | omega | (refine Or.inl ?_; and_intros <;> first | rfl | omega) | (refine Or.inr ?_; and_intros <;> first | rfl | omega)))⟩ (hP.sub [1, 2, 0] rfl) (hD.sub [1, 2, 0] (by decide) rfl) hS (by decide) (by decide) dSt_merge_22
  ·
    refine lv_aload_n hx hb dSt_merge_8 rfl (lv_at hl 0 rfl) ?_
    refine lv_iload_n hx hb dSt_merge_9 rfl (lv_at hl 2 rfl) ?_
    refine cq_calli (wr := [(t_sizes_a, .inl (cI, 4, .inl (aI t_sizes_f)))]) (va_runV (C := RSt) (As := [.int (iZ zb)]) (rest := []) ⟨hx, hb, hml, hown, hts⟩ (k_Strata_stands l D cI cJ cZ t_a t_sizes_a t_costs_a t_gone_a H.size t_made t_gone_f zb (by omega) (by omega) (by first | assumption | omega) (by first | assumption | omega) (by first | assumption | omega)) ⟨(callB_of 1 hts (gAll cmSt_stands) rfl rfl rfl (hts _ (hm g59)) (hts _ (hm g230)) (by decide +kernel) ⟨Nat.le_of_ble_eq_true rfl, Nat.le_of_ble_eq_true rfl⟩), (hts _ (hm g231)), (hts _ (hm g2))⟩ (cq_preV (va_recv hK.1 hP (ci := 6) (q0 := 1) rfl rfl) (cq_preS hK hP hD [1, 2] (by decide) rfl)) rfl rfl hl.1 rfl (lv_room (Nat.le_of_ble_eq_true rfl)) dSt_merge_10 ⟨by decide, by decide⟩) hP hD hS hA [1, 2] [0] rfl rfl (by decide) (by decide) (fun r u H locs hw_5 hP hD hS => ?_)
    obtain ⟨o_6, rfl⟩ : ∃ z, z = u := ⟨_, rfl⟩
    try dsimp only at hw_5
    obtain ⟨rfl, p_7⟩ := hw_5
    have hP : va_P D clAll [(t_sizes_a, .inl (cI, 4, .inl (aI t_sizes_f))), (t_a, .inr (6, [.ref t_sizes_a, .ref t_costs_a, .ref t_gone_a, .int (iZ t_made)])), (t_gone_a, .inl (cZ, 4, .inl (aI t_gone_f)))] H := hP
    have hD : va_D A [(t_sizes_a, .inl (cI, 4, .inl (aI t_sizes_f))), (t_a, .inr (6, [.ref t_sizes_a, .ref t_costs_a, .ref t_gone_a, .int (iZ t_made)])), (t_gone_a, .inl (cZ, 4, .inl (aI t_gone_f)))] := hD
    refine z_if_eq (tgt := 21) hx hb (by omega) (by omega) dSt_merge_13 (by decide) (fun c_8 => ?_) (fun c_8 => ?_)
    ·
      refine lv_iconst (v := iZ 0) hx hb dSt_merge_21 (by decide) ?_
      exact cq_zret hx hb hr hlocks hAe hQ (bo_narr (by omega) (by omega)) (0, t_gone_f, t_sizes_f) ⟨rfl, (by (try dsimp only) <;> (first | rfl | omega | (refine Or.inl ?_; and_intros <;> first | rfl | omega) | (refine Or.inr ?_; and_intros <;> first | rfl | omega)))⟩ (hP.sub [1, 2, 0] rfl) (hD.sub [1, 2, 0] (by decide) rfl) hS (by decide) (by decide) dSt_merge_22
    ·
      refine lv_iload_n hx hb dSt_merge_16 rfl (lv_at hl 1 rfl) ?_
      refine lv_iload_n hx hb dSt_merge_17 rfl (lv_at hl 2 rfl) ?_
      refine z_icmp_ne (tgt := 23) hx hb (by omega) (by omega) (by omega) (by omega) dSt_merge_18 (by decide) (fun c_9 => ?_) (fun c_9 => ?_)
      ·
        refine lv_aload_n hx hb dSt_merge_23 rfl (lv_at hl 0 rfl) ?_
        refine va_get (D := D) (ci := 6) (v := .ref t_sizes_a) (C := RSt) (T := TSt) (N := 4) hx hb hts laySt hown hK.1 hP 1 rfl rfl 0 (by decide) (hts _ (hm g85)) (fun _ h9 => h9) rfl dSt_merge_24 ?_
        refine lv_iload_n hx hb dSt_merge_27 rfl (lv_at hl 1 rfl) ?_
        refine z_iald hx hb hK hP 0 0 rfl rfl (by omega) (by omega) (by decide) dSt_merge_28 ?_
        have f_10 := hsz0 za
        refine lv_aload_n hx hb dSt_merge_29 rfl (lv_at hl 0 rfl) ?_
        refine va_get (D := D) (ci := 6) (v := .ref t_sizes_a) (C := RSt) (T := TSt) (N := 4) hx hb hts laySt hown hK.1 hP 1 rfl rfl 0 (by decide) (hts _ (hm g85)) (fun _ h9 => h9) rfl dSt_merge_30 ?_
        refine lv_iload_n hx hb dSt_merge_33 rfl (lv_at hl 2 rfl) ?_
        refine z_iald hx hb hK hP 0 0 rfl rfl (by omega) (by omega) (by decide) dSt_merge_34 ?_
        have f_11 := hsz0 zb
        refine z_iadd hx hb dSt_merge_35 ?_
        refine lv_istore_n (lv' := [(3, .int (iZ ((t_sizes_f za) + (t_sizes_f zb)))), (0, .ref t_a), (1, .int (iZ za)), (2, .int (iZ zb))]) hx hb dSt_merge_36 rfl hl (by decide) rfl (fun ls hl => ?_)
        refine lv_iload_n hx hb dSt_merge_37 rfl (lv_at hl 0 rfl) ?_
        refine lv_bipush (v := iZ (100)) hx hb dSt_merge_38 (by decide) ?_
        refine z_icmp_le (tgt := 45) hx hb (by omega) (by omega) (by omega) (by omega) dSt_merge_40 (by decide) (fun c_12 => ?_) (fun c_12 => ?_)
        ·
          refine lv_aload_n hx hb dSt_merge_45 rfl (lv_at hl 1 rfl) ?_
          refine va_get (D := D) (ci := 6) (v := .ref t_sizes_a) (C := RSt) (T := TSt) (N := 4) hx hb hts laySt hown hK.1 hP 1 rfl rfl 0 (by decide) (hts _ (hm g85)) (fun _ h9 => h9) rfl dSt_merge_46 ?_
          refine lv_iload_n hx hb dSt_merge_49 rfl (lv_at hl 2 rfl) ?_
          refine lv_iload_n hx hb dSt_merge_50 rfl (lv_at hl 0 rfl) ?_
          refine z_iast hx hb hK hP hD hS 0 0 rfl rfl (by omega) (by omega) (by decide) dSt_merge_51 (fun H locs hP hD hS => ?_)
          have hP : va_P D clAll [(t_sizes_a, .inl (cI, 4, .inl (aI (pu t_sizes_f za ((t_sizes_f za) + (t_sizes_f zb)))))), (t_a, .inr (6, [.ref t_sizes_a, .ref t_costs_a, .ref t_gone_a, .int (iZ t_made)])), (t_gone_a, .inl (cZ, 4, .inl (aI t_gone_f)))] H := hP
          have hD : va_D A [(t_sizes_a, .inl (cI, 4, .inl (aI (pu t_sizes_f za ((t_sizes_f za) + (t_sizes_f zb)))))), (t_a, .inr (6, [.ref t_sizes_a, .ref t_costs_a, .ref t_gone_a, .int (iZ t_made)])), (t_gone_a, .inl (cZ, 4, .inl (aI t_gone_f)))] := hD
          refine lv_aload_n hx hb dSt_merge_52 rfl (lv_at hl 1 rfl) ?_
          refine va_get (D := D) (ci := 6) (v := .ref t_gone_a) (C := RSt) (T := TSt) (N := 4) hx hb hts laySt hown hK.1 hP 1 rfl rfl 2 (by decide) (hts _ (hm g87)) (fun _ h9 => h9) rfl dSt_merge_53 ?_
          refine lv_iload_n hx hb dSt_merge_56 rfl (lv_at hl 3 rfl) ?_
          refine lv_iconst (v := iZ 1) hx hb dSt_merge_57 (by decide) ?_
          refine z_zast hx hb hK hP hD hS 2 2 rfl rfl (by omega) (by omega) (by decide) (by omega) (by omega) dSt_merge_58 (fun H locs hP hD hS => ?_)
          have hP : va_P D clAll [(t_sizes_a, .inl (cI, 4, .inl (aI (pu t_sizes_f za ((t_sizes_f za) + (t_sizes_f zb)))))), (t_a, .inr (6, [.ref t_sizes_a, .ref t_costs_a, .ref t_gone_a, .int (iZ t_made)])), (t_gone_a, .inl (cZ, 4, .inl (aI (pu t_gone_f zb 1))))] H := hP
          have hD : va_D A [(t_sizes_a, .inl (cI, 4, .inl (aI (pu t_sizes_f za ((t_sizes_f za) + (t_sizes_f zb)))))), (t_a, .inr (6, [.ref t_sizes_a, .ref t_costs_a, .ref t_gone_a, .int (iZ t_made)])), (t_gone_a, .inl (cZ, 4, .inl (aI (pu t_gone_f zb 1))))] := hD
          refine lv_iconst (v := iZ 1) hx hb dSt_merge_59 (by decide) ?_
          exact cq_zret hx hb hr hlocks hAe hQ (bo_narr (by omega) (by omega)) (1, (pu t_gone_f zb 1), (pu t_sizes_f za ((t_sizes_f za) + (t_sizes_f zb)))) ⟨rfl, (by (try dsimp only) <;> (first | rfl | omega | (refine Or.inl ?_; and_intros <;> first | rfl | omega) | (refine Or.inr ?_; and_intros <;> first | rfl | omega)))⟩ (hP.sub [1, 2, 0] rfl) (hD.sub [1, 2, 0] (by decide) rfl) hS (by decide) (by decide) dSt_merge_60
        ·
          refine lv_iconst (v := iZ 0) hx hb dSt_merge_43 (by decide) ?_
          exact cq_zret hx hb hr hlocks hAe hQ (bo_narr (by omega) (by omega)) (0, t_gone_f, t_sizes_f) ⟨rfl, (by (try dsimp only) <;> (first | rfl | omega | (refine Or.inl ?_; and_intros <;> first | rfl | omega) | (refine Or.inr ?_; and_intros <;> first | rfl | omega)))⟩ (hP.sub [1, 2, 0] rfl) (hD.sub [1, 2, 0] (by decide) rfl) hS (by decide) (by decide) dSt_merge_44
      ·
        refine lv_iconst (v := iZ 0) hx hb dSt_merge_21 (by decide) ?_
        exact cq_zret hx hb hr hlocks hAe hQ (bo_narr (by omega) (by omega)) (0, t_gone_f, t_sizes_f) ⟨rfl, (by (try dsimp only) <;> (first | rfl | omega | (refine Or.inl ?_; and_intros <;> first | rfl | omega) | (refine Or.inr ?_; and_intros <;> first | rfl | omega)))⟩ (hP.sub [1, 2, 0] rfl) (hD.sub [1, 2, 0] (by decide) rfl) hS (by decide) (by decide) dSt_merge_22
end
section
set_option maxHeartbeats 4000000 in
set_option maxRecDepth 100000 in
theorem k_Bags_has (l : Launch) (D : va_G) (cI cJ cZ : ClassId) (t_a t_homes_a t_dates_a t_lost_a t_grams_a : Nat) (sz : Nat) (t_made : Int) (z : Int) (h_z1 : -2147483648 ≤ z) (h_z2 : z < 2147483648) (hn1 : 0 ≤ t_made) (hn2 : t_made ≤ 12) : cq_i l yBg_has wsBg_has ({ frames := 0, cells := 0, slots := 0, locals := 0 }) D clAll [(cI, .int), (cJ, .long), (cZ, .boolean)] nwAll [.ref t_a, .int (iZ z)] [(t_a, .inr (0, [.ref t_homes_a, .ref t_dates_a, .ref t_lost_a, .ref t_grams_a, .int (iZ t_made)]))] sz (S := Int) (fun (r : Int32) (u : Int) => r = iZ u ∧ ((u = 1 ∧ 0 ≤ z ∧ z < t_made) ∨ (u = 0 ∧ (z < 0 ∨ t_made ≤ z)))) (fun (u : Int) => [(t_a, .inr (0, [.ref t_homes_a, .ref t_dates_a, .ref t_lost_a, .ref t_grams_a, .int (iZ t_made)]))]) 0 0 := by
  refine cq_enter (cc := cBg_has) (maxL := 2) (ret := some .boolean) (by decide) rfl (Nat.le_of_ble_eq_true rfl) ?_
  intro p e s m below meth c A args Q H hAe hQ hsz hAt hA hP hK hD hS ls hl
  obtain ⟨hx, hb, hr, hml, hown, hts, hlocks, hin⟩ := hAt
  have hown : s.vm.findClass RBg = some m.cls := hown
  have hl : lv_has ls 2 [(0, .ref t_a), (1, .int (iZ z))] := hl
  refine lv_iload_n hx hb dBg_has_0 rfl (lv_at hl 1 rfl) ?_
  refine z_if_lt (tgt := 16) hx hb (by omega) (by omega) dBg_has_1 (by decide) (fun c_1 => ?_) (fun c_1 => ?_)
  ·
    refine lv_iconst (v := iZ 0) hx hb dBg_has_16 (by decide) ?_
    exact cq_zret hx hb hr hlocks hAe hQ (bo_narr (by omega) (by omega)) 0 ⟨rfl, (by (try dsimp only) <;> (first | rfl | omega | (refine Or.inl ?_; and_intros <;> first | rfl | omega) | (refine Or.inr ?_; and_intros <;> first | rfl | omega)))⟩ (hP.sub [0] rfl) (hD.sub [0] (by decide) rfl) hS (by decide) (by decide) dBg_has_17
  ·
    refine lv_iload_n hx hb dBg_has_4 rfl (lv_at hl 1 rfl) ?_
    refine lv_aload_n hx hb dBg_has_5 rfl (lv_at hl 0 rfl) ?_
    refine va_get (D := D) (ci := 0) (v := .int (iZ t_made)) (C := RBg) (T := TBg) (N := 5) hx hb hts layBg hown hK.1 hP 0 rfl rfl 4 (by decide) (hts _ (hm g105)) (fun _ h9 => h9) rfl dBg_has_6 ?_
    refine z_icmp_ge (tgt := 16) hx hb (by omega) (by omega) (by omega) (by omega) dBg_has_9 (by decide) (fun c_2 => ?_) (fun c_2 => ?_)
    ·
      refine lv_iconst (v := iZ 0) hx hb dBg_has_16 (by decide) ?_
      exact cq_zret hx hb hr hlocks hAe hQ (bo_narr (by omega) (by omega)) 0 ⟨rfl, (by (try dsimp only) <;> (first | rfl | omega | (refine Or.inl ?_; and_intros <;> first | rfl | omega) | (refine Or.inr ?_; and_intros <;> first | rfl | omega)))⟩ (hP.sub [0] rfl) (hD.sub [0] (by decide) rfl) hS (by decide) (by decide) dBg_has_17
    ·
      refine lv_iconst (v := iZ 1) hx hb dBg_has_12 (by decide) ?_
      refine lv_goto (tgt := 17) hx hb dBg_has_13 (by decide) ?_
      exact cq_zret hx hb hr hlocks hAe hQ (bo_narr (by omega) (by omega)) 1 ⟨rfl, (by (try dsimp only) <;> (first | rfl | omega | (refine Or.inl ?_; and_intros <;> first | rfl | omega) | (refine Or.inr ?_; and_intros <;> first | rfl | omega)))⟩ (hP.sub [0] rfl) (hD.sub [0] (by decide) rfl) hS (by decide) (by decide) dBg_has_17
set_option maxHeartbeats 4000000 in
set_option maxRecDepth 100000 in
theorem k_Bags_add (l : Launch) (D : va_G) (cI cJ cZ : ClassId) (t_a t_homes_a t_dates_a t_lost_a t_grams_a : Nat) (sz : Nat) (t_made : Int) (t_homes_f : Int → Int) (z : Int) (h_z1 : -2147483648 ≤ z) (h_z2 : z < 2147483648) (hn1 : 0 ≤ t_made) (hn2 : t_made ≤ 12) : cq_i l yBg_add wsBg_add ({ frames := 0, cells := 0, slots := 0, locals := 0 }) D clAll [(cI, .int), (cJ, .long), (cZ, .boolean)] nwAll [.ref t_a, .int (iZ z)] [(t_a, .inr (0, [.ref t_homes_a, .ref t_dates_a, .ref t_lost_a, .ref t_grams_a, .int (iZ t_made)])), (t_homes_a, .inl (cI, 12, .inl (aI t_homes_f)))] sz (S := Int × Int × (Int → Int)) (fun (r : Int32) (u : Int × Int × (Int → Int)) => r = iZ u.1 ∧ ((t_made < 12 ∧ u.1 = t_made ∧ u.2.1 = t_made + 1 ∧ u.2.2 = pu t_homes_f t_made z) ∨ (¬ t_made < 12 ∧ u.1 = -1 ∧ u.2.1 = t_made ∧ u.2.2 = t_homes_f))) (fun (u : Int × Int × (Int → Int)) => [(t_a, .inr (0, [.ref t_homes_a, .ref t_dates_a, .ref t_lost_a, .ref t_grams_a, .int (iZ u.2.1)])), (t_homes_a, .inl (cI, 12, .inl (aI u.2.2)))]) 0 0 := by
  refine cq_enter (cc := cBg_add) (maxL := 3) (ret := some .int) (by decide) rfl (Nat.le_of_ble_eq_true rfl) ?_
  intro p e s m below meth c A args Q H hAe hQ hsz hAt hA hP hK hD hS ls hl
  obtain ⟨hx, hb, hr, hml, hown, hts, hlocks, hin⟩ := hAt
  have hown : s.vm.findClass RBg = some m.cls := hown
  have hl : lv_has ls 3 [(0, .ref t_a), (1, .int (iZ z))] := hl
  refine lv_aload_n hx hb dBg_add_0 rfl (lv_at hl 0 rfl) ?_
  refine va_get (D := D) (ci := 0) (v := .int (iZ t_made)) (C := RBg) (T := TBg) (N := 5) hx hb hts layBg hown hK.1 hP 0 rfl rfl 4 (by decide) (hts _ (hm g105)) (fun _ h9 => h9) rfl dBg_add_1 ?_
  refine lv_bipush (v := iZ (12)) hx hb dBg_add_4 (by decide) ?_
  refine z_icmp_lt (tgt := 11) hx hb (by omega) (by omega) (by omega) (by omega) dBg_add_6 (by decide) (fun c_1 => ?_) (fun c_1 => ?_)
  ·
    refine lv_aload_n hx hb dBg_add_11 rfl (lv_at hl 0 rfl) ?_
    refine va_get (D := D) (ci := 0) (v := .int (iZ t_made)) (C := RBg) (T := TBg) (N := 5) hx hb hts layBg hown hK.1 hP 0 rfl rfl 4 (by decide) (hts _ (hm g105)) (fun _ h9 => h9) rfl dBg_add_12 ?_
    refine lv_istore_n (lv' := [(2, .int (iZ t_made)), (0, .ref t_a), (1, .int (iZ z))]) hx hb dBg_add_15 rfl hl (by decide) rfl (fun ls hl => ?_)
    refine lv_aload_n hx hb dBg_add_16 rfl (lv_at hl 1 rfl) ?_
    refine va_get (D := D) (ci := 0) (v := .ref t_homes_a) (C := RBg) (T := TBg) (N := 5) hx hb hts layBg hown hK.1 hP 0 rfl rfl 0 (by decide) (hts _ (hm g101)) (fun _ h9 => h9) rfl dBg_add_17 ?_
    refine lv_iload_n hx hb dBg_add_20 rfl (lv_at hl 0 rfl) ?_
    refine lv_iload_n hx hb dBg_add_21 rfl (lv_at hl 2 rfl) ?_
    refine z_iast hx hb hK hP hD hS 1 0 rfl rfl (by omega) (by omega) (by decide) dBg_add_22 (fun H locs hP hD hS => ?_)
    have hP : va_P D clAll [(t_a, .inr (0, [.ref t_homes_a, .ref t_dates_a, .ref t_lost_a, .ref t_grams_a, .int (iZ t_made)])), (t_homes_a, .inl (cI, 12, .inl (aI (pu t_homes_f t_made z))))] H := hP
    have hD : va_D A [(t_a, .inr (0, [.ref t_homes_a, .ref t_dates_a, .ref t_lost_a, .ref t_grams_a, .int (iZ t_made)])), (t_homes_a, .inl (cI, 12, .inl (aI (pu t_homes_f t_made z))))] := hD
    refine lv_aload_n hx hb dBg_add_23 rfl (lv_at hl 1 rfl) ?_
    refine lv_dup hx hb dBg_add_24 rfl ?_
    refine va_get (D := D) (ci := 0) (v := .int (iZ t_made)) (C := RBg) (T := TBg) (N := 5) hx hb hts layBg hown hK.1 hP 0 rfl rfl 4 (by decide) (hts _ (hm g105)) (fun _ h9 => h9) rfl dBg_add_25 ?_
    refine lv_iconst (v := iZ 1) hx hb dBg_add_28 (by decide) ?_
    refine z_iadd hx hb dBg_add_29 ?_
    refine va_put (D := D) (ci := 0) (v := .int (iZ (t_made + 1))) (ty := .int) (C := RBg) (T := TBg) (N := 5) hx hb hts layBg tyBg tyBg_ok nmBg hown hK.1 hP hD hS 0 rfl rfl 4 (by decide) (hts _ (hm g105)) (fun _ h9 => h9) rfl (by decide +kernel) rfl rfl (Nat.le_of_ble_eq_true rfl) dBg_add_30 (fun H locs hP hD hS => ?_)
    have hP : va_P D clAll [(t_a, .inr (0, [.ref t_homes_a, .ref t_dates_a, .ref t_lost_a, .ref t_grams_a, .int (iZ (t_made + 1))])), (t_homes_a, .inl (cI, 12, .inl (aI (pu t_homes_f t_made z))))] H := hP
    have hD : va_D A [(t_a, .inr (0, [.ref t_homes_a, .ref t_dates_a, .ref t_lost_a, .ref t_grams_a, .int (iZ (t_made + 1))])), (t_homes_a, .inl (cI, 12, .inl (aI (pu t_homes_f t_made z))))] := hD
    refine lv_iload_n hx hb dBg_add_33 rfl (lv_at hl 0 rfl) ?_
    exact cq_iret hx hb hr hlocks hAe hQ (t_made, t_made + 1, (pu t_homes_f t_made z)) ⟨rfl, (by (try dsimp only) <;> (first | rfl | omega | (refine Or.inl ?_; and_intros <;> first | rfl | omega) | (refine Or.inr ?_; and_intros <;> first | rfl | omega)))⟩ (hP.sub [0, 1] rfl) (hD.sub [0, 1] (by decide) rfl) hS (by decide) (by decide) dBg_add_34
  ·
    refine lv_iconst (v := iZ (-1)) hx hb dBg_add_9 (by decide) ?_
    exact cq_iret hx hb hr hlocks hAe hQ (-1, t_made, t_homes_f) ⟨rfl, (by (try dsimp only) <;> (first | rfl | omega | (refine Or.inl ?_; and_intros <;> first | rfl | omega) | (refine Or.inr ?_; and_intros <;> first | rfl | omega)))⟩ (hP.sub [0, 1] rfl) (hD.sub [0, 1] (by decide) rfl) hS (by decide) (by decide) dBg_add_10
set_option maxHeartbeats 4000000 in
set_option maxRecDepth 100000 in
theorem k_Bags_setGrams (l : Launch) (D : va_G) (cI cJ cZ : ClassId) (t_a t_homes_a t_dates_a t_lost_a t_grams_a : Nat) (sz : Nat) (t_made : Int) (t_grams_f : Int → Int) (z : Int) (kind : Int) (gm : Int) (h_z1 : -2147483648 ≤ z) (h_z2 : z < 2147483648) (h_kind1 : -2147483648 ≤ kind) (h_kind2 : kind < 2147483648) (h_gm1 : -9223372036854775808 ≤ gm) (h_gm2 : gm < 9223372036854775808) (hn1 : 0 ≤ t_made) (hn2 : t_made ≤ 12) : cq_i l yBg_setGrams wsBg_setGrams ({ frames := 1, cells := 0, slots := 0, locals := 21 }) D clAll [(cI, .int), (cJ, .long), (cZ, .boolean)] nwAll [.ref t_a, .int (iZ z), .int (iZ kind), .long (lZ gm)] [(t_a, .inr (0, [.ref t_homes_a, .ref t_dates_a, .ref t_lost_a, .ref t_grams_a, .int (iZ t_made)])), (t_grams_a, .inl (cJ, 36, .inr (.inl (aL t_grams_f))))] sz (S := Int × (Int → Int)) (fun (r : Int32) (u : Int × (Int → Int)) => r = iZ u.1 ∧ ((((0 ≤ z ∧ z < t_made) ∧ (0 ≤ kind ∧ kind < 3) ∧ 0 ≤ gm ∧ gm ≤ 10000) ∧ u.1 = 1 ∧ u.2 = pu t_grams_f (z * 3 + kind) gm) ∨ (¬ ((0 ≤ z ∧ z < t_made) ∧ (0 ≤ kind ∧ kind < 3) ∧ 0 ≤ gm ∧ gm ≤ 10000) ∧ u.1 = 0 ∧ u.2 = t_grams_f))) (fun (u : Int × (Int → Int)) => [(t_a, .inr (0, [.ref t_homes_a, .ref t_dates_a, .ref t_lost_a, .ref t_grams_a, .int (iZ t_made)])), (t_grams_a, .inl (cJ, 36, .inr (.inl (aL u.2))))]) 0 0 := by
  refine cq_enter (cc := cBg_setGrams) (maxL := 5) (ret := some .boolean) (by decide) rfl (Nat.le_of_ble_eq_true rfl) ?_
  intro p e s m below meth c A args Q H hAe hQ hsz hAt hA hP hK hD hS ls hl
  obtain ⟨hx, hb, hr, hml, hown, hts, hlocks, hin⟩ := hAt
  have hown : s.vm.findClass RBg = some m.cls := hown
  have hl : lv_has ls 5 [(0, .ref t_a), (1, .int (iZ z)), (2, .int (iZ kind)), (3, .long (lZ gm))] := hl
  refine lv_aload_n hx hb dBg_setGrams_0 rfl (lv_at hl 0 rfl) ?_
  refine lv_iload_n hx hb dBg_setGrams_1 rfl (lv_at hl 1 rfl) ?_
  refine cq_calli (wr := [(t_grams_a, .inl (cJ, 36, .inr (.inl (aL t_grams_f))))]) (va_runV (C := RBg) (As := [.int (iZ z)]) (rest := []) ⟨hx, hb, hml, hown, hts⟩ (k_Bags_has l D cI cJ cZ t_a t_homes_a t_dates_a t_lost_a t_grams_a H.size t_made z (by omega) (by omega) (by first | assumption | omega) (by first | assumption | omega)) ⟨(callB_of 1 hts (gAll cmBg_has) rfl rfl rfl (hts _ (hm g60)) (hts _ (hm g249)) (by decide +kernel) ⟨Nat.le_of_ble_eq_true rfl, Nat.le_of_ble_eq_true rfl⟩), (hts _ (hm g250)), (hts _ (hm g6))⟩ (cq_preV (va_recv hK.1 hP (ci := 0) (q0 := 0) rfl rfl) (cq_preS hK hP hD [0] (by decide) rfl)) rfl rfl hl.1 rfl (lv_room (Nat.le_of_ble_eq_true rfl)) dBg_setGrams_2 ⟨by decide, by decide⟩) hP hD hS hA [0] [1] rfl rfl (by decide) (by decide) (fun r u H locs hw_1 hP hD hS => ?_)
  obtain ⟨o_2, rfl⟩ : ∃ z, z = u := ⟨_, rfl⟩
  try dsimp only at hw_1
  obtain ⟨rfl, p_3⟩ := hw_1
  have hP : va_P D clAll [(t_grams_a, .inl (cJ, 36, .inr (.inl (aL t_grams_f)))), (t_a, .inr (0, [.ref t_homes_a, .ref t_dates_a, .ref t_lost_a, .ref t_grams_a, .int (iZ t_made)]))] H := hP
  have hD : va_D A [(t_grams_a, .inl (cJ, 36, .inr (.inl (aL t_grams_f)))), (t_a, .inr (0, [.ref t_homes_a, .ref t_dates_a, .ref t_lost_a, .ref t_grams_a, .int (iZ t_made)]))] := hD
  refine z_if_eq (tgt := 22) hx hb (by omega) (by omega) dBg_setGrams_5 (by decide) (fun c_4 => ?_) (fun c_4 => ?_)
  ·
    refine lv_iconst (v := iZ 0) hx hb dBg_setGrams_22 (by decide) ?_
    exact cq_zret hx hb hr hlocks hAe hQ (bo_narr (by omega) (by omega)) (0, t_grams_f) ⟨rfl, (by (try dsimp only) <;> (first | rfl | omega | (refine Or.inl ?_; and_intros <;> first | rfl | omega) | (refine Or.inr ?_; and_intros <;> first | rfl | omega)))⟩ (hP.sub [1, 0] rfl) (hD.sub [1, 0] (by decide) rfl) hS (by decide) (by decide) dBg_setGrams_23
  ·
    refine lv_iload_n hx hb dBg_setGrams_8 rfl (lv_at hl 2 rfl) ?_
    refine cq_calli (wr := [(t_grams_a, .inl (cJ, 36, .inr (.inl (aL t_grams_f)))), (t_a, .inr (0, [.ref t_homes_a, .ref t_dates_a, .ref t_lost_a, .ref t_grams_a, .int (iZ t_made)]))]) (va_runSN (As := [.int (iZ kind)]) (rest := []) ⟨hx, hb, hml, hown, hts⟩ (k_StratumCounts_isKind l D cI cJ cZ H.size kind (by omega) (by omega)) ⟨(va_cnB 1 hts (gAll cmSc_isKind) rfl rfl rfl (hK.2.2 _ n26) (hts _ (hm g58)) (by decide +kernel) ⟨Nat.le_of_ble_eq_true rfl, Nat.le_of_ble_eq_true rfl⟩), (hts _ (hm g252)), trivial⟩ (cq_preS hK hP hD [] (by decide) rfl) rfl rfl hl.1 rfl (lv_room (Nat.le_of_ble_eq_true rfl)) dBg_setGrams_9 ⟨by decide, by decide⟩) hP hD hS hA [] [0, 1] rfl rfl (by decide) (by decide) (fun r u H locs hw_5 hP hD hS => ?_)
    obtain ⟨o_6, rfl⟩ : ∃ z, z = u := ⟨_, rfl⟩
    try dsimp only at hw_5
    obtain ⟨rfl, p_7⟩ := hw_5
    have hP : va_P D clAll [(t_grams_a, .inl (cJ, 36, .inr (.inl (aL t_grams_f)))), (t_a, .inr (0, [.ref t_homes_a, .ref t_dates_a, .ref t_lost_a, .ref t_grams_a, .int (iZ t_made)]))] H := hP
    have hD : va_D A [(t_grams_a, .inl (cJ, 36, .inr (.inl (aL t_grams_f)))), (t_a, .inr (0, [.ref t_homes_a, .ref t_dates_a, .ref t_lost_a, .ref t_grams_a, .int (iZ t_made)]))] := hD
    refine z_if_eq (tgt := 22) hx hb (by omega) (by omega) dBg_setGrams_12 (by decide) (fun c_8 => ?_) (fun c_8 => ?_)
    ·
      refine lv_iconst (v := iZ 0) hx hb dBg_setGrams_22 (by decide) ?_
      exact cq_zret hx hb hr hlocks hAe hQ (bo_narr (by omega) (by omega)) (0, t_grams_f) ⟨rfl, (by (try dsimp only) <;> (first | rfl | omega | (refine Or.inl ?_; and_intros <;> first | rfl | omega) | (refine Or.inr ?_; and_intros <;> first | rfl | omega)))⟩ (hP.sub [1, 0] rfl) (hD.sub [1, 0] (by decide) rfl) hS (by decide) (by decide) dBg_setGrams_23
    ·
      refine lv_lload_n hx hb dBg_setGrams_15 rfl (lv_at hl 3 rfl) ?_
      refine cq_calli (wr := [(t_grams_a, .inl (cJ, 36, .inr (.inl (aL t_grams_f)))), (t_a, .inr (0, [.ref t_homes_a, .ref t_dates_a, .ref t_lost_a, .ref t_grams_a, .int (iZ t_made)]))]) (va_runSN (As := [.long (lZ gm)]) (rest := []) ⟨hx, hb, hml, hown, hts⟩ (k_StratumCounts_isGrams l D cI cJ cZ H.size gm (by omega) (by omega)) ⟨(va_cnB 1 hts (gAll cmSc_isGrams) rfl rfl rfl (hK.2.2 _ n27) (hts _ (hm g58)) (by decide +kernel) ⟨Nat.le_of_ble_eq_true rfl, Nat.le_of_ble_eq_true rfl⟩), (hts _ (hm g254)), trivial⟩ (cq_preS hK hP hD [] (by decide) rfl) rfl rfl hl.1 rfl (lv_room (Nat.le_of_ble_eq_true rfl)) dBg_setGrams_16 ⟨by decide, by decide⟩) hP hD hS hA [] [0, 1] rfl rfl (by decide) (by decide) (fun r u H locs hw_9 hP hD hS => ?_)
      obtain ⟨o_10, rfl⟩ : ∃ z, z = u := ⟨_, rfl⟩
      try dsimp only at hw_9
      obtain ⟨rfl, p_11⟩ := hw_9
      have hP : va_P D clAll [(t_grams_a, .inl (cJ, 36, .inr (.inl (aL t_grams_f)))), (t_a, .inr (0, [.ref t_homes_a, .ref t_dates_a, .ref t_lost_a, .ref t_grams_a, .int (iZ t_made)]))] H := hP
      have hD : va_D A [(t_grams_a, .inl (cJ, 36, .inr (.inl (aL t_grams_f)))), (t_a, .inr (0, [.ref t_homes_a, .ref t_dates_a, .ref t_lost_a, .ref t_grams_a, .int (iZ t_made)]))] := hD
      refine z_if_ne (tgt := 24) hx hb (by omega) (by omega) dBg_setGrams_19 (by decide) (fun c_12 => ?_) (fun c_12 => ?_)
      ·
        refine lv_aload_n hx hb dBg_setGrams_24 rfl (lv_at hl 0 rfl) ?_
        refine va_get (D := D) (ci := 0) (v := .ref t_grams_a) (C := RBg) (T := TBg) (N := 5) hx hb hts layBg hown hK.1 hP 1 rfl rfl 3 (by decide) (hts _ (hm g104)) (fun _ h9 => h9) rfl dBg_setGrams_25 ?_
        refine lv_iload_n hx hb dBg_setGrams_28 rfl (lv_at hl 1 rfl) ?_
        refine lv_iconst (v := iZ 3) hx hb dBg_setGrams_29 (by decide) ?_
        refine z_imul hx hb dBg_setGrams_30 ?_
        refine lv_iload_n hx hb dBg_setGrams_31 rfl (lv_at hl 2 rfl) ?_
        refine z_iadd hx hb dBg_setGrams_32 ?_
        refine lv_lload_n hx hb dBg_setGrams_33 rfl (lv_at hl 3 rfl) ?_
        refine z_last hx hb hK hP hD hS 0 1 rfl rfl (by omega) (by omega) (by decide) dBg_setGrams_34 (fun H locs hP hD hS => ?_)
        have hP : va_P D clAll [(t_grams_a, .inl (cJ, 36, .inr (.inl (aL (pu t_grams_f ((z * 3) + kind) gm))))), (t_a, .inr (0, [.ref t_homes_a, .ref t_dates_a, .ref t_lost_a, .ref t_grams_a, .int (iZ t_made)]))] H := hP
        have hD : va_D A [(t_grams_a, .inl (cJ, 36, .inr (.inl (aL (pu t_grams_f ((z * 3) + kind) gm))))), (t_a, .inr (0, [.ref t_homes_a, .ref t_dates_a, .ref t_lost_a, .ref t_grams_a, .int (iZ t_made)]))] := hD
        refine lv_iconst (v := iZ 1) hx hb dBg_setGrams_35 (by decide) ?_
        exact cq_zret hx hb hr hlocks hAe hQ (bo_narr (by omega) (by omega)) (1, (pu t_grams_f ((z * 3) + kind) gm)) ⟨rfl, (by (try dsimp only) <;> (first | rfl | omega | (refine Or.inl ?_; and_intros <;> first | rfl | omega) | (refine Or.inr ?_; and_intros <;> first | rfl | omega)))⟩ (hP.sub [1, 0] rfl) (hD.sub [1, 0] (by decide) rfl) hS (by decide) (by decide) dBg_setGrams_36
      ·
        refine lv_iconst (v := iZ 0) hx hb dBg_setGrams_22 (by decide) ?_
        exact cq_zret hx hb hr hlocks hAe hQ (bo_narr (by omega) (by omega)) (0, t_grams_f) ⟨rfl, (by (try dsimp only) <;> (first | rfl | omega | (refine Or.inl ?_; and_intros <;> first | rfl | omega) | (refine Or.inr ?_; and_intros <;> first | rfl | omega)))⟩ (hP.sub [1, 0] rfl) (hD.sub [1, 0] (by decide) rfl) hS (by decide) (by decide) dBg_setGrams_23
set_option maxHeartbeats 4000000 in
set_option maxRecDepth 100000 in
theorem k_Bags_setYear (l : Launch) (D : va_G) (cI cJ cZ : ClassId) (t_a t_homes_a t_dates_a t_lost_a t_grams_a : Nat) (sz : Nat) (t_made : Int) (t_dates_f : Int → Int) (z : Int) (y : Int) (h_z1 : -2147483648 ≤ z) (h_z2 : z < 2147483648) (h_y1 : -2147483648 ≤ y) (h_y2 : y < 2147483648) (hn1 : 0 ≤ t_made) (hn2 : t_made ≤ 12) : cq_i l yBg_setYear wsBg_setYear ({ frames := 1, cells := 0, slots := 0, locals := 21 }) D clAll [(cI, .int), (cJ, .long), (cZ, .boolean)] nwAll [.ref t_a, .int (iZ z), .int (iZ y)] [(t_a, .inr (0, [.ref t_homes_a, .ref t_dates_a, .ref t_lost_a, .ref t_grams_a, .int (iZ t_made)])), (t_dates_a, .inl (cI, 12, .inl (aI t_dates_f)))] sz (S := Int × (Int → Int)) (fun (r : Int32) (u : Int × (Int → Int)) => r = iZ u.1 ∧ ((((0 ≤ z ∧ z < t_made) ∧ 0 ≤ y ∧ y < 2) ∧ u.1 = 1 ∧ u.2 = pu t_dates_f z y) ∨ (¬ ((0 ≤ z ∧ z < t_made) ∧ 0 ≤ y ∧ y < 2) ∧ u.1 = 0 ∧ u.2 = t_dates_f))) (fun (u : Int × (Int → Int)) => [(t_a, .inr (0, [.ref t_homes_a, .ref t_dates_a, .ref t_lost_a, .ref t_grams_a, .int (iZ t_made)])), (t_dates_a, .inl (cI, 12, .inl (aI u.2)))]) 0 0 := by
  refine cq_enter (cc := cBg_setYear) (maxL := 3) (ret := some .boolean) (by decide) rfl (Nat.le_of_ble_eq_true rfl) ?_
  intro p e s m below meth c A args Q H hAe hQ hsz hAt hA hP hK hD hS ls hl
  obtain ⟨hx, hb, hr, hml, hown, hts, hlocks, hin⟩ := hAt
  have hown : s.vm.findClass RBg = some m.cls := hown
  have hl : lv_has ls 3 [(0, .ref t_a), (1, .int (iZ z)), (2, .int (iZ y))] := hl
  refine lv_aload_n hx hb dBg_setYear_0 rfl (lv_at hl 0 rfl) ?_
  refine lv_iload_n hx hb dBg_setYear_1 rfl (lv_at hl 1 rfl) ?_
  refine cq_calli (wr := [(t_dates_a, .inl (cI, 12, .inl (aI t_dates_f)))]) (va_runV (C := RBg) (As := [.int (iZ z)]) (rest := []) ⟨hx, hb, hml, hown, hts⟩ (k_Bags_has l D cI cJ cZ t_a t_homes_a t_dates_a t_lost_a t_grams_a H.size t_made z (by omega) (by omega) (by first | assumption | omega) (by first | assumption | omega)) ⟨(callB_of 1 hts (gAll cmBg_has) rfl rfl rfl (hts _ (hm g60)) (hts _ (hm g249)) (by decide +kernel) ⟨Nat.le_of_ble_eq_true rfl, Nat.le_of_ble_eq_true rfl⟩), (hts _ (hm g250)), (hts _ (hm g6))⟩ (cq_preV (va_recv hK.1 hP (ci := 0) (q0 := 0) rfl rfl) (cq_preS hK hP hD [0] (by decide) rfl)) rfl rfl hl.1 rfl (lv_room (Nat.le_of_ble_eq_true rfl)) dBg_setYear_2 ⟨by decide, by decide⟩) hP hD hS hA [0] [1] rfl rfl (by decide) (by decide) (fun r u H locs hw_1 hP hD hS => ?_)
  obtain ⟨o_2, rfl⟩ : ∃ z, z = u := ⟨_, rfl⟩
  try dsimp only at hw_1
  obtain ⟨rfl, p_3⟩ := hw_1
  have hP : va_P D clAll [(t_dates_a, .inl (cI, 12, .inl (aI t_dates_f))), (t_a, .inr (0, [.ref t_homes_a, .ref t_dates_a, .ref t_lost_a, .ref t_grams_a, .int (iZ t_made)]))] H := hP
  have hD : va_D A [(t_dates_a, .inl (cI, 12, .inl (aI t_dates_f))), (t_a, .inr (0, [.ref t_homes_a, .ref t_dates_a, .ref t_lost_a, .ref t_grams_a, .int (iZ t_made)]))] := hD
  refine z_if_eq (tgt := 17) hx hb (by omega) (by omega) dBg_setYear_5 (by decide) (fun c_4 => ?_) (fun c_4 => ?_)
  ·
    refine lv_iconst (v := iZ 0) hx hb dBg_setYear_17 (by decide) ?_
    exact cq_zret hx hb hr hlocks hAe hQ (bo_narr (by omega) (by omega)) (0, t_dates_f) ⟨rfl, (by (try dsimp only) <;> (first | rfl | omega | (refine Or.inl ?_; and_intros <;> first | rfl | omega) | (refine Or.inr ?_; and_intros <;> first | rfl | omega)))⟩ (hP.sub [1, 0] rfl) (hD.sub [1, 0] (by decide) rfl) hS (by decide) (by decide) dBg_setYear_18
  ·
    refine lv_iload_n hx hb dBg_setYear_8 rfl (lv_at hl 2 rfl) ?_
    refine z_if_lt (tgt := 17) hx hb (by omega) (by omega) dBg_setYear_9 (by decide) (fun c_5 => ?_) (fun c_5 => ?_)
    ·
      refine lv_iconst (v := iZ 0) hx hb dBg_setYear_17 (by decide) ?_
      exact cq_zret hx hb hr hlocks hAe hQ (bo_narr (by omega) (by omega)) (0, t_dates_f) ⟨rfl, (by (try dsimp only) <;> (first | rfl | omega | (refine Or.inl ?_; and_intros <;> first | rfl | omega) | (refine Or.inr ?_; and_intros <;> first | rfl | omega)))⟩ (hP.sub [1, 0] rfl) (hD.sub [1, 0] (by decide) rfl) hS (by decide) (by decide) dBg_setYear_18
    ·
      refine lv_iload_n hx hb dBg_setYear_12 rfl (lv_at hl 2 rfl) ?_
      refine lv_iconst (v := iZ 2) hx hb dBg_setYear_13 (by decide) ?_
      refine z_icmp_lt (tgt := 19) hx hb (by omega) (by omega) (by omega) (by omega) dBg_setYear_14 (by decide) (fun c_6 => ?_) (fun c_6 => ?_)
      ·
        refine lv_aload_n hx hb dBg_setYear_19 rfl (lv_at hl 0 rfl) ?_
        refine va_get (D := D) (ci := 0) (v := .ref t_dates_a) (C := RBg) (T := TBg) (N := 5) hx hb hts layBg hown hK.1 hP 1 rfl rfl 1 (by decide) (hts _ (hm g102)) (fun _ h9 => h9) rfl dBg_setYear_20 ?_
        refine lv_iload_n hx hb dBg_setYear_23 rfl (lv_at hl 1 rfl) ?_
        refine lv_iload_n hx hb dBg_setYear_24 rfl (lv_at hl 2 rfl) ?_
        refine z_iast hx hb hK hP hD hS 0 0 rfl rfl (by omega) (by omega) (by decide) dBg_setYear_25 (fun H locs hP hD hS => ?_)
        have hP : va_P D clAll [(t_dates_a, .inl (cI, 12, .inl (aI (pu t_dates_f z y)))), (t_a, .inr (0, [.ref t_homes_a, .ref t_dates_a, .ref t_lost_a, .ref t_grams_a, .int (iZ t_made)]))] H := hP
        have hD : va_D A [(t_dates_a, .inl (cI, 12, .inl (aI (pu t_dates_f z y)))), (t_a, .inr (0, [.ref t_homes_a, .ref t_dates_a, .ref t_lost_a, .ref t_grams_a, .int (iZ t_made)]))] := hD
        refine lv_iconst (v := iZ 1) hx hb dBg_setYear_26 (by decide) ?_
        exact cq_zret hx hb hr hlocks hAe hQ (bo_narr (by omega) (by omega)) (1, (pu t_dates_f z y)) ⟨rfl, (by (try dsimp only) <;> (first | rfl | omega | (refine Or.inl ?_; and_intros <;> first | rfl | omega) | (refine Or.inr ?_; and_intros <;> first | rfl | omega)))⟩ (hP.sub [1, 0] rfl) (hD.sub [1, 0] (by decide) rfl) hS (by decide) (by decide) dBg_setYear_27
      ·
        refine lv_iconst (v := iZ 0) hx hb dBg_setYear_17 (by decide) ?_
        exact cq_zret hx hb hr hlocks hAe hQ (bo_narr (by omega) (by omega)) (0, t_dates_f) ⟨rfl, (by (try dsimp only) <;> (first | rfl | omega | (refine Or.inl ?_; and_intros <;> first | rfl | omega) | (refine Or.inr ?_; and_intros <;> first | rfl | omega)))⟩ (hP.sub [1, 0] rfl) (hD.sub [1, 0] (by decide) rfl) hS (by decide) (by decide) dBg_setYear_18
set_option maxHeartbeats 4000000 in
set_option maxRecDepth 100000 in
theorem k_Bags_lose (l : Launch) (D : va_G) (cI cJ cZ : ClassId) (t_a t_homes_a t_dates_a t_lost_a t_grams_a : Nat) (sz : Nat) (t_made : Int) (t_lost_f : Int → Int) (z : Int) (h_z1 : -2147483648 ≤ z) (h_z2 : z < 2147483648) (hn1 : 0 ≤ t_made) (hn2 : t_made ≤ 12) (hlo : ∀ j, 0 ≤ t_lost_f j ∧ t_lost_f j ≤ 1) : cq_i l yBg_lose wsBg_lose ({ frames := 1, cells := 0, slots := 0, locals := 21 }) D clAll [(cI, .int), (cJ, .long), (cZ, .boolean)] nwAll [.ref t_a, .int (iZ z)] [(t_a, .inr (0, [.ref t_homes_a, .ref t_dates_a, .ref t_lost_a, .ref t_grams_a, .int (iZ t_made)])), (t_lost_a, .inl (cZ, 12, .inl (aI t_lost_f)))] sz (S := Int × (Int → Int)) (fun (r : Int32) (u : Int × (Int → Int)) => r = iZ u.1 ∧ (((0 ≤ z ∧ z < t_made ∧ t_lost_f z = 0) ∧ u.1 = 1 ∧ u.2 = pu t_lost_f z 1) ∨ (¬ (0 ≤ z ∧ z < t_made ∧ t_lost_f z = 0) ∧ u.1 = 0 ∧ u.2 = t_lost_f))) (fun (u : Int × (Int → Int)) => [(t_a, .inr (0, [.ref t_homes_a, .ref t_dates_a, .ref t_lost_a, .ref t_grams_a, .int (iZ t_made)])), (t_lost_a, .inl (cZ, 12, .inl (aI u.2)))]) 0 0 := by
  refine cq_enter (cc := cBg_lose) (maxL := 2) (ret := some .boolean) (by decide) rfl (Nat.le_of_ble_eq_true rfl) ?_
  intro p e s m below meth c A args Q H hAe hQ hsz hAt hA hP hK hD hS ls hl
  obtain ⟨hx, hb, hr, hml, hown, hts, hlocks, hin⟩ := hAt
  have hown : s.vm.findClass RBg = some m.cls := hown
  have hl : lv_has ls 2 [(0, .ref t_a), (1, .int (iZ z))] := hl
  refine lv_aload_n hx hb dBg_lose_0 rfl (lv_at hl 0 rfl) ?_
  refine lv_iload_n hx hb dBg_lose_1 rfl (lv_at hl 1 rfl) ?_
  refine cq_calli (wr := [(t_lost_a, .inl (cZ, 12, .inl (aI t_lost_f)))]) (va_runV (C := RBg) (As := [.int (iZ z)]) (rest := []) ⟨hx, hb, hml, hown, hts⟩ (k_Bags_has l D cI cJ cZ t_a t_homes_a t_dates_a t_lost_a t_grams_a H.size t_made z (by omega) (by omega) (by first | assumption | omega) (by first | assumption | omega)) ⟨(callB_of 1 hts (gAll cmBg_has) rfl rfl rfl (hts _ (hm g60)) (hts _ (hm g249)) (by decide +kernel) ⟨Nat.le_of_ble_eq_true rfl, Nat.le_of_ble_eq_true rfl⟩), (hts _ (hm g250)), (hts _ (hm g6))⟩ (cq_preV (va_recv hK.1 hP (ci := 0) (q0 := 0) rfl rfl) (cq_preS hK hP hD [0] (by decide) rfl)) rfl rfl hl.1 rfl (lv_room (Nat.le_of_ble_eq_true rfl)) dBg_lose_2 ⟨by decide, by decide⟩) hP hD hS hA [0] [1] rfl rfl (by decide) (by decide) (fun r u H locs hw_1 hP hD hS => ?_)
  obtain ⟨o_2, rfl⟩ : ∃ z, z = u := ⟨_, rfl⟩
  try dsimp only at hw_1
  obtain ⟨rfl, p_3⟩ := hw_1
  have hP : va_P D clAll [(t_lost_a, .inl (cZ, 12, .inl (aI t_lost_f))), (t_a, .inr (0, [.ref t_homes_a, .ref t_dates_a, .ref t_lost_a, .ref t_grams_a, .int (iZ t_made)]))] H := hP
  have hD : va_D A [(t_lost_a, .inl (cZ, 12, .inl (aI t_lost_f))), (t_a, .inr (0, [.ref t_homes_a, .ref t_dates_a, .ref t_lost_a, .ref t_grams_a, .int (iZ t_made)]))] := hD
  refine z_if_eq (tgt := 17) hx hb (by omega) (by omega) dBg_lose_5 (by decide) (fun c_4 => ?_) (fun c_4 => ?_)
  ·
    refine lv_iconst (v := iZ 0) hx hb dBg_lose_17 (by decide) ?_
    exact cq_zret hx hb hr hlocks hAe hQ (bo_narr (by omega) (by omega)) (0, t_lost_f) ⟨rfl, (by (try dsimp only) <;> (first | rfl | omega | (refine Or.inl ?_; and_intros <;> first | rfl | omega) | (refine Or.inr ?_; and_intros <;> first | rfl | omega)))⟩ (hP.sub [1, 0] rfl) (hD.sub [1, 0] (by decide) rfl) hS (by decide) (by decide) dBg_lose_18
  ·
    refine lv_aload_n hx hb dBg_lose_8 rfl (lv_at hl 0 rfl) ?_
    refine va_get (D := D) (ci := 0) (v := .ref t_lost_a) (C := RBg) (T := TBg) (N := 5) hx hb hts layBg hown hK.1 hP 1 rfl rfl 2 (by decide) (hts _ (hm g103)) (fun _ h9 => h9) rfl dBg_lose_9 ?_
    refine lv_iload_n hx hb dBg_lose_12 rfl (lv_at hl 1 rfl) ?_
    refine z_zald hx hb hK hP 0 2 rfl rfl (by omega) (by omega) (by decide) dBg_lose_13 ?_
    have f_5 := hlo z
    refine z_if_eq (tgt := 19) hx hb (by omega) (by omega) dBg_lose_14 (by decide) (fun c_6 => ?_) (fun c_6 => ?_)
    ·
      refine lv_aload_n hx hb dBg_lose_19 rfl (lv_at hl 0 rfl) ?_
      refine va_get (D := D) (ci := 0) (v := .ref t_lost_a) (C := RBg) (T := TBg) (N := 5) hx hb hts layBg hown hK.1 hP 1 rfl rfl 2 (by decide) (hts _ (hm g103)) (fun _ h9 => h9) rfl dBg_lose_20 ?_
      refine lv_iload_n hx hb dBg_lose_23 rfl (lv_at hl 1 rfl) ?_
      refine lv_iconst (v := iZ 1) hx hb dBg_lose_24 (by decide) ?_
      refine z_zast hx hb hK hP hD hS 0 2 rfl rfl (by omega) (by omega) (by decide) (by omega) (by omega) dBg_lose_25 (fun H locs hP hD hS => ?_)
      have hP : va_P D clAll [(t_lost_a, .inl (cZ, 12, .inl (aI (pu t_lost_f z 1)))), (t_a, .inr (0, [.ref t_homes_a, .ref t_dates_a, .ref t_lost_a, .ref t_grams_a, .int (iZ t_made)]))] H := hP
      have hD : va_D A [(t_lost_a, .inl (cZ, 12, .inl (aI (pu t_lost_f z 1)))), (t_a, .inr (0, [.ref t_homes_a, .ref t_dates_a, .ref t_lost_a, .ref t_grams_a, .int (iZ t_made)]))] := hD
      refine lv_iconst (v := iZ 1) hx hb dBg_lose_26 (by decide) ?_
      exact cq_zret hx hb hr hlocks hAe hQ (bo_narr (by omega) (by omega)) (1, (pu t_lost_f z 1)) ⟨rfl, (by (try dsimp only) <;> (first | rfl | omega | (refine Or.inl ?_; and_intros <;> first | rfl | omega) | (refine Or.inr ?_; and_intros <;> first | rfl | omega)))⟩ (hP.sub [1, 0] rfl) (hD.sub [1, 0] (by decide) rfl) hS (by decide) (by decide) dBg_lose_27
    ·
      refine lv_iconst (v := iZ 0) hx hb dBg_lose_17 (by decide) ?_
      exact cq_zret hx hb hr hlocks hAe hQ (bo_narr (by omega) (by omega)) (0, t_lost_f) ⟨rfl, (by (try dsimp only) <;> (first | rfl | omega | (refine Or.inl ?_; and_intros <;> first | rfl | omega) | (refine Or.inr ?_; and_intros <;> first | rfl | omega)))⟩ (hP.sub [1, 0] rfl) (hD.sub [1, 0] (by decide) rfl) hS (by decide) (by decide) dBg_lose_18
set_option maxHeartbeats 4000000 in
set_option maxRecDepth 100000 in
theorem k_Bags_move (l : Launch) (D : va_G) (cI cJ cZ : ClassId) (t_a t_homes_a t_dates_a t_lost_a t_grams_a : Nat) (sz : Nat) (t_made : Int) (t_homes_f : Int → Int) (zf : Int) (zi : Int) (h_zf1 : -2147483648 ≤ zf) (h_zf2 : zf < 2147483648) (h_zi1 : -2147483648 ≤ zi) (h_zi2 : zi < 2147483648) (hn1 : 0 ≤ t_made) (hn2 : t_made ≤ 12) (hho : ∀ j, 0 ≤ t_homes_f j ∧ t_homes_f j ≤ 3) (hzi : 0 ≤ zi ∧ zi ≤ 3) : cq_v l yBg_move wsBg_move ({ frames := 0, cells := 0, slots := 0, locals := 0 }) D clAll [(cI, .int), (cJ, .long), (cZ, .boolean)] nwAll [.ref t_a, .int (iZ zf), .int (iZ zi)] [(t_a, .inr (0, [.ref t_homes_a, .ref t_dates_a, .ref t_lost_a, .ref t_grams_a, .int (iZ t_made)])), (t_homes_a, .inl (cI, 12, .inl (aI t_homes_f)))] sz (S := (Int → Int)) (fun (u : (Int → Int)) => (u = mv t_homes_f t_made zf zi)) (fun (u : (Int → Int)) => [(t_a, .inr (0, [.ref t_homes_a, .ref t_dates_a, .ref t_lost_a, .ref t_grams_a, .int (iZ t_made)])), (t_homes_a, .inl (cI, 12, .inl (aI u)))]) 0 0 := by
  refine cq_enter (cc := cBg_move) (maxL := 4) (ret := none) (by decide) rfl (Nat.le_of_ble_eq_true rfl) ?_
  intro p e s m below meth c A args Q H hAe hQ hsz hAt hA hP hK hD hS ls hl
  obtain ⟨hx, hb, hr, hml, hown, hts, hlocks, hin⟩ := hAt
  have hown : s.vm.findClass RBg = some m.cls := hown
  have hl : lv_has ls 4 [(0, .ref t_a), (1, .int (iZ zf)), (2, .int (iZ zi))] := hl
  refine lv_iconst (v := iZ 0) hx hb dBg_move_0 (by decide) ?_
  refine lv_istore_n (lv' := [(3, .int (iZ 0)), (0, .ref t_a), (1, .int (iZ zf)), (2, .int (iZ zi))]) hx hb dBg_move_1 rfl hl (by decide) rfl (fun ls hl => ?_)
  have loop_1 : ∀ (n_3 : Nat) (i : Int) (homes : Int → Int), (0 ≤ i) → (i ≤ t_made) → (homes = mv t_homes_f i zf zi) → (∀ j, 0 ≤ homes j ∧ homes j ≤ 3) → (t_made - i < (n_3 : Int)) → ∀ (H : Heap) (locs : List Loc), va_P D clAll [(t_a, .inr (0, [.ref t_homes_a, .ref t_dates_a, .ref t_lost_a, .ref t_grams_a, .int (iZ t_made)])), (t_homes_a, .inl (cI, 12, .inl (aI homes)))] H → va_D A [(t_a, .inr (0, [.ref t_homes_a, .ref t_dates_a, .ref t_lost_a, .ref t_grams_a, .int (iZ t_made)])), (t_homes_a, .inl (cI, 12, .inl (aI homes)))] → va_S A s.heap H locs → ∀ ls : Array Slot, lv_has ls 4 [(0, .ref t_a), (1, .int (iZ zf)), (2, .int (iZ zi)), (3, .int (iZ i))] → W p l e { frames := 0, cells := 0, slots := 0, locals := 0 } s m args below meth c H locs 0 0 Q (F0 m 2 ls []) := by
    intro n_3
    induction n_3 with
    | zero => intro i homes hi hi2 hmv hmb hm_4; exact absurd hm_4 (by omega)
    | succ n_3 ih_2 =>
      intro i homes hi hi2 hmv hmb hm_4 H locs hP hD hS ls hl
      refine lv_iload_n hx hb dBg_move_2 rfl (lv_at hl 3 rfl) ?_
      refine lv_aload_n hx hb dBg_move_3 rfl (lv_at hl 0 rfl) ?_
      refine va_get (D := D) (ci := 0) (v := .int (iZ t_made)) (C := RBg) (T := TBg) (N := 5) hx hb hts layBg hown hK.1 hP 0 rfl rfl 4 (by decide) (hts _ (hm g105)) (fun _ h9 => h9) rfl dBg_move_4 ?_
      refine z_icmp_ge (tgt := 33) hx hb (by omega) (by omega) (by omega) (by omega) dBg_move_7 (by decide) (fun c_5 => ?_) (fun c_5 => ?_)
      ·
        exact cq_vret hx hb hr hlocks hAe hQ homes (by (try dsimp only) <;> (exact mv_end hmv (by omega))) (hP.sub [0, 1] rfl) (hD.sub [0, 1] (by decide) rfl) hS (by decide) (by decide) dBg_move_33
      ·
        refine lv_aload_n hx hb dBg_move_10 rfl (lv_at hl 0 rfl) ?_
        refine va_get (D := D) (ci := 0) (v := .ref t_homes_a) (C := RBg) (T := TBg) (N := 5) hx hb hts layBg hown hK.1 hP 0 rfl rfl 0 (by decide) (hts _ (hm g101)) (fun _ h9 => h9) rfl dBg_move_11 ?_
        refine lv_iload_n hx hb dBg_move_14 rfl (lv_at hl 3 rfl) ?_
        refine z_iald hx hb hK hP 1 0 rfl rfl (by omega) (by omega) (by decide) dBg_move_15 ?_
        have f_6 := hmb i
        refine lv_iload_n hx hb dBg_move_16 rfl (lv_at hl 1 rfl) ?_
        refine z_icmp_ne (tgt := 27) hx hb (by omega) (by omega) (by omega) (by omega) dBg_move_17 (by decide) (fun c_7 => ?_) (fun c_7 => ?_)
        ·
          refine lv_iinc (v := iZ (i + 1)) (lv' := [(3, .int (iZ (i + 1))), (0, .ref t_a), (1, .int (iZ zf)), (2, .int (iZ zi))]) hx hb dBg_move_27 hl (k := 3) rfl (iZ_add i 1) (by decide) rfl (fun ls hl => ?_)
          refine lv_goto (tgt := 2) hx hb dBg_move_30 (by decide) ?_
          exact ih_2  (i + 1) homes (by omega) (by omega) (by first | exact mv_hit hmv hi (by assumption) | exact mv_miss hmv hi (by assumption)) (by first | exact pu_all hmb (by omega) (by omega) | exact hmb) (by omega) _ _ (hP.sub [0, 1] rfl) (hD.sub [0, 1] (by decide) rfl) hS ls (lv_sub hl [1, 2, 3, 0] rfl)
        ·
          refine lv_aload_n hx hb dBg_move_20 rfl (lv_at hl 0 rfl) ?_
          refine va_get (D := D) (ci := 0) (v := .ref t_homes_a) (C := RBg) (T := TBg) (N := 5) hx hb hts layBg hown hK.1 hP 0 rfl rfl 0 (by decide) (hts _ (hm g101)) (fun _ h9 => h9) rfl dBg_move_21 ?_
          refine lv_iload_n hx hb dBg_move_24 rfl (lv_at hl 3 rfl) ?_
          refine lv_iload_n hx hb dBg_move_25 rfl (lv_at hl 2 rfl) ?_
          refine z_iast hx hb hK hP hD hS 1 0 rfl rfl (by omega) (by omega) (by decide) dBg_move_26 (fun H locs hP hD hS => ?_)
          have hP : va_P D clAll [(t_a, .inr (0, [.ref t_homes_a, .ref t_dates_a, .ref t_lost_a, .ref t_grams_a, .int (iZ t_made)])), (t_homes_a, .inl (cI, 12, .inl (aI (pu homes i zi))))] H := hP
          have hD : va_D A [(t_a, .inr (0, [.ref t_homes_a, .ref t_dates_a, .ref t_lost_a, .ref t_grams_a, .int (iZ t_made)])), (t_homes_a, .inl (cI, 12, .inl (aI (pu homes i zi))))] := hD
          refine lv_iinc (v := iZ (i + 1)) (lv' := [(3, .int (iZ (i + 1))), (0, .ref t_a), (1, .int (iZ zf)), (2, .int (iZ zi))]) hx hb dBg_move_27 hl (k := 3) rfl (iZ_add i 1) (by decide) rfl (fun ls hl => ?_)
          refine lv_goto (tgt := 2) hx hb dBg_move_30 (by decide) ?_
          exact ih_2  (i + 1) (pu homes i zi) (by omega) (by omega) (by first | exact mv_hit hmv hi (by assumption) | exact mv_miss hmv hi (by assumption)) (by first | exact pu_all hmb (by omega) (by omega) | exact hmb) (by omega) _ _ (hP.sub [0, 1] rfl) (hD.sub [0, 1] (by decide) rfl) hS ls (lv_sub hl [1, 2, 3, 0] rfl)
  exact loop_1 ((t_made - 0 : Int).toNat + 1) 0 t_homes_f (by omega) (by omega) (by exact mv_0) (by exact hho) (by omega) _ _ (hP.sub [0, 1] rfl) (hD.sub [0, 1] (by decide) rfl) hS ls (lv_sub hl [1, 2, 3, 0] rfl)
set_option maxHeartbeats 4000000 in
set_option maxRecDepth 100000 in
theorem k_Bags_gramsOf (l : Launch) (D : va_G) (cI cJ cZ : ClassId) (t_a t_homes_a t_dates_a t_lost_a t_grams_a : Nat) (sz : Nat) (t_made : Int) (t_grams_f : Int → Int) (z : Int) (kind : Int) (h_z1 : -2147483648 ≤ z) (h_z2 : z < 2147483648) (h_kind1 : -2147483648 ≤ kind) (h_kind2 : kind < 2147483648) (hn1 : 0 ≤ t_made) (hn2 : t_made ≤ 12) (hz : 0 ≤ z ∧ z < t_made) (hk : 0 ≤ kind ∧ kind < 3) : cq_l l yBg_gramsOf wsBg_gramsOf ({ frames := 1, cells := 0, slots := 0, locals := 21 }) D clAll [(cI, .int), (cJ, .long), (cZ, .boolean)] nwAll [.ref t_a, .int (iZ z), .int (iZ kind)] [(t_a, .inr (0, [.ref t_homes_a, .ref t_dates_a, .ref t_lost_a, .ref t_grams_a, .int (iZ t_made)])), (t_grams_a, .inl (cJ, 36, .inr (.inl (aL t_grams_f))))] sz (S := Int) (fun (r : Int64) (u : Int) => r = lZ u ∧ (u = t_grams_f (z * 3 + kind))) (fun (u : Int) => [(t_a, .inr (0, [.ref t_homes_a, .ref t_dates_a, .ref t_lost_a, .ref t_grams_a, .int (iZ t_made)])), (t_grams_a, .inl (cJ, 36, .inr (.inl (aL t_grams_f))))]) 0 0 := by
  refine cq_enter (cc := cBg_gramsOf) (maxL := 3) (ret := some .long) (by decide) rfl (Nat.le_of_ble_eq_true rfl) ?_
  intro p e s m below meth c A args Q H hAe hQ hsz hAt hA hP hK hD hS ls hl
  obtain ⟨hx, hb, hr, hml, hown, hts, hlocks, hin⟩ := hAt
  have hown : s.vm.findClass RBg = some m.cls := hown
  have hl : lv_has ls 3 [(0, .ref t_a), (1, .int (iZ z)), (2, .int (iZ kind))] := hl
  refine lv_aload_n hx hb dBg_gramsOf_0 rfl (lv_at hl 0 rfl) ?_
  refine lv_iload_n hx hb dBg_gramsOf_1 rfl (lv_at hl 1 rfl) ?_
  refine cq_calli (wr := [(t_grams_a, .inl (cJ, 36, .inr (.inl (aL t_grams_f))))]) (va_runV (C := RBg) (As := [.int (iZ z)]) (rest := []) ⟨hx, hb, hml, hown, hts⟩ (k_Bags_has l D cI cJ cZ t_a t_homes_a t_dates_a t_lost_a t_grams_a H.size t_made z (by omega) (by omega) (by first | assumption | omega) (by first | assumption | omega)) ⟨(callB_of 1 hts (gAll cmBg_has) rfl rfl rfl (hts _ (hm g60)) (hts _ (hm g249)) (by decide +kernel) ⟨Nat.le_of_ble_eq_true rfl, Nat.le_of_ble_eq_true rfl⟩), (hts _ (hm g250)), (hts _ (hm g6))⟩ (cq_preV (va_recv hK.1 hP (ci := 0) (q0 := 0) rfl rfl) (cq_preS hK hP hD [0] (by decide) rfl)) rfl rfl hl.1 rfl (lv_room (Nat.le_of_ble_eq_true rfl)) dBg_gramsOf_2 ⟨by decide, by decide⟩) hP hD hS hA [0] [1] rfl rfl (by decide) (by decide) (fun r u H locs hw_1 hP hD hS => ?_)
  obtain ⟨o_2, rfl⟩ : ∃ z, z = u := ⟨_, rfl⟩
  try dsimp only at hw_1
  obtain ⟨rfl, p_3⟩ := hw_1
  have hP : va_P D clAll [(t_grams_a, .inl (cJ, 36, .inr (.inl (aL t_grams_f)))), (t_a, .inr (0, [.ref t_homes_a, .ref t_dates_a, .ref t_lost_a, .ref t_grams_a, .int (iZ t_made)]))] H := hP
  have hD : va_D A [(t_grams_a, .inl (cJ, 36, .inr (.inl (aL t_grams_f)))), (t_a, .inr (0, [.ref t_homes_a, .ref t_dates_a, .ref t_lost_a, .ref t_grams_a, .int (iZ t_made)]))] := hD
  refine z_if_eq (tgt := 28) hx hb (by omega) (by omega) dBg_gramsOf_5 (by decide) (fun c_4 => ?_) (fun c_4 => ?_)
  ·
    refine lv_lconst (v := lZ 0) hx hb dBg_gramsOf_28 (by decide) ?_
    exact cq_lret hx hb hr hlocks hAe hQ 0 ⟨rfl, (by (try dsimp only) <;> (first | rfl | omega | (refine Or.inl ?_; and_intros <;> first | rfl | omega) | (refine Or.inr ?_; and_intros <;> first | rfl | omega)))⟩ (hP.sub [1, 0] rfl) (hD.sub [1, 0] (by decide) rfl) hS (by decide) (by decide) dBg_gramsOf_29
  ·
    refine lv_iload_n hx hb dBg_gramsOf_8 rfl (lv_at hl 2 rfl) ?_
    refine cq_calli (wr := [(t_grams_a, .inl (cJ, 36, .inr (.inl (aL t_grams_f)))), (t_a, .inr (0, [.ref t_homes_a, .ref t_dates_a, .ref t_lost_a, .ref t_grams_a, .int (iZ t_made)]))]) (va_runSN (As := [.int (iZ kind)]) (rest := []) ⟨hx, hb, hml, hown, hts⟩ (k_StratumCounts_isKind l D cI cJ cZ H.size kind (by omega) (by omega)) ⟨(va_cnB 1 hts (gAll cmSc_isKind) rfl rfl rfl (hK.2.2 _ n26) (hts _ (hm g58)) (by decide +kernel) ⟨Nat.le_of_ble_eq_true rfl, Nat.le_of_ble_eq_true rfl⟩), (hts _ (hm g252)), trivial⟩ (cq_preS hK hP hD [] (by decide) rfl) rfl rfl hl.1 rfl (lv_room (Nat.le_of_ble_eq_true rfl)) dBg_gramsOf_9 ⟨by decide, by decide⟩) hP hD hS hA [] [0, 1] rfl rfl (by decide) (by decide) (fun r u H locs hw_5 hP hD hS => ?_)
    obtain ⟨o_6, rfl⟩ : ∃ z, z = u := ⟨_, rfl⟩
    try dsimp only at hw_5
    obtain ⟨rfl, p_7⟩ := hw_5
    have hP : va_P D clAll [(t_grams_a, .inl (cJ, 36, .inr (.inl (aL t_grams_f)))), (t_a, .inr (0, [.ref t_homes_a, .ref t_dates_a, .ref t_lost_a, .ref t_grams_a, .int (iZ t_made)]))] H := hP
    have hD : va_D A [(t_grams_a, .inl (cJ, 36, .inr (.inl (aL t_grams_f)))), (t_a, .inr (0, [.ref t_homes_a, .ref t_dates_a, .ref t_lost_a, .ref t_grams_a, .int (iZ t_made)]))] := hD
    refine z_if_eq (tgt := 28) hx hb (by omega) (by omega) dBg_gramsOf_12 (by decide) (fun c_8 => ?_) (fun c_8 => ?_)
    ·
      refine lv_lconst (v := lZ 0) hx hb dBg_gramsOf_28 (by decide) ?_
      exact cq_lret hx hb hr hlocks hAe hQ 0 ⟨rfl, (by (try dsimp only) <;> (first | rfl | omega | (refine Or.inl ?_; and_intros <;> first | rfl | omega) | (refine Or.inr ?_; and_intros <;> first | rfl | omega)))⟩ (hP.sub [1, 0] rfl) (hD.sub [1, 0] (by decide) rfl) hS (by decide) (by decide) dBg_gramsOf_29
    ·
      refine lv_aload_n hx hb dBg_gramsOf_15 rfl (lv_at hl 0 rfl) ?_
      refine va_get (D := D) (ci := 0) (v := .ref t_grams_a) (C := RBg) (T := TBg) (N := 5) hx hb hts layBg hown hK.1 hP 1 rfl rfl 3 (by decide) (hts _ (hm g104)) (fun _ h9 => h9) rfl dBg_gramsOf_16 ?_
      refine lv_iload_n hx hb dBg_gramsOf_19 rfl (lv_at hl 1 rfl) ?_
      refine lv_iconst (v := iZ 3) hx hb dBg_gramsOf_20 (by decide) ?_
      refine z_imul hx hb dBg_gramsOf_21 ?_
      refine lv_iload_n hx hb dBg_gramsOf_22 rfl (lv_at hl 2 rfl) ?_
      refine z_iadd hx hb dBg_gramsOf_23 ?_
      refine z_lald hx hb hK hP 0 1 rfl rfl (by omega) (by omega) (by decide) dBg_gramsOf_24 ?_
      refine lv_goto (tgt := 29) hx hb dBg_gramsOf_25 (by decide) ?_
      exact cq_lret hx hb hr hlocks hAe hQ (t_grams_f ((z * 3) + kind)) ⟨rfl, (by (try dsimp only) <;> (first | rfl | omega | (refine Or.inl ?_; and_intros <;> first | rfl | omega) | (refine Or.inr ?_; and_intros <;> first | rfl | omega)))⟩ (hP.sub [1, 0] rfl) (hD.sub [1, 0] (by decide) rfl) hS (by decide) (by decide) dBg_gramsOf_29
end
section
set_option maxHeartbeats 4000000 in
set_option maxRecDepth 100000 in
theorem k_Draws_nextBelow (l : Launch) (D : va_G) (cI cJ cZ : ClassId) (t_a t_lists_a t_lengths_a : Nat) (sz : Nat) (t_seed : Int) (bd : Int) (h_bd1 : -2147483648 ≤ bd) (h_bd2 : bd < 2147483648) (hbd : 1 ≤ bd) : cq_i l yDr_nextBelow wsDr_nextBelow ({ frames := 0, cells := 0, slots := 0, locals := 0 }) D clAll [(cI, .int), (cJ, .long), (cZ, .boolean)] nwAll [.ref t_a, .int (iZ bd)] [(t_a, .inr (2, [.ref t_lists_a, .ref t_lengths_a, .long (lZ t_seed)]))] sz (S := Int × Int) (fun (r : Int32) (u : Int × Int) => r = iZ u.1 ∧ (u.1 = rnd t_seed bd) ∧ (u.2 = sd t_seed)) (fun (u : Int × Int) => [(t_a, .inr (2, [.ref t_lists_a, .ref t_lengths_a, .long (lZ u.2)]))]) 0 0 := by
  refine cq_enter (cc := cDr_nextBelow) (maxL := 2) (ret := some .int) (by decide) rfl (Nat.le_of_ble_eq_true rfl) ?_
  intro p e s m below meth c A args Q H hAe hQ hsz hAt hA hP hK hD hS ls hl
  obtain ⟨hx, hb, hr, hml, hown, hts, hlocks, hin⟩ := hAt
  have hown : s.vm.findClass RDr = some m.cls := hown
  have hl : lv_has ls 2 [(0, .ref t_a), (1, .int (iZ bd))] := hl
  refine lv_aload_n hx hb dDr_nextBelow_0 rfl (lv_at hl 0 rfl) ?_
  refine lv_aload_n hx hb dDr_nextBelow_1 rfl (lv_at hl 0 rfl) ?_
  refine va_get (D := D) (ci := 2) (v := .long (lZ t_seed)) (C := RDr) (T := TDr) (N := 3) hx hb hts layDr hown hK.1 hP 0 rfl rfl 2 (by decide) (hts _ (hm g118)) (fun _ h9 => h9) rfl dDr_nextBelow_2 ?_
  refine lv_ldc2 (v := lZ (6364136223846793005)) hx hb hown (hts _ (hm g278)) dDr_nextBelow_5 ?_
  refine z_lmul hx hb dDr_nextBelow_8 ?_
  refine lv_ldc2 (v := lZ (1442695040888963407)) hx hb hown (hts _ (hm g279)) dDr_nextBelow_9 ?_
  refine z_ladd hx hb dDr_nextBelow_12 ?_
  refine va_put (D := D) (ci := 2) (v := .long (lZ ((t_seed * 6364136223846793005) + 1442695040888963407))) (ty := .long) (C := RDr) (T := TDr) (N := 3) hx hb hts layDr tyDr tyDr_ok nmDr hown hK.1 hP hD hS 0 rfl rfl 2 (by decide) (hts _ (hm g118)) (fun _ h9 => h9) rfl (by decide +kernel) rfl rfl (Nat.le_of_ble_eq_true rfl) dDr_nextBelow_13 (fun H locs hP hD hS => ?_)
  have hP : va_P D clAll [(t_a, .inr (2, [.ref t_lists_a, .ref t_lengths_a, .long (lZ ((t_seed * 6364136223846793005) + 1442695040888963407))]))] H := hP
  have hD : va_D A [(t_a, .inr (2, [.ref t_lists_a, .ref t_lengths_a, .long (lZ ((t_seed * 6364136223846793005) + 1442695040888963407))]))] := hD
  refine lv_iload_n hx hb dDr_nextBelow_16 rfl (lv_at hl 1 rfl) ?_
  refine lv_iconst (v := iZ 1) hx hb dDr_nextBelow_17 (by decide) ?_
  refine z_icmp_ge (tgt := 25) hx hb (by omega) (by omega) (by omega) (by omega) dDr_nextBelow_18 (by decide) (fun c_1 => ?_) (fun c_1 => ?_)
  ·
    refine lv_aload_n hx hb dDr_nextBelow_25 rfl (lv_at hl 0 rfl) ?_
    refine va_get (D := D) (ci := 2) (v := .long (lZ ((t_seed * 6364136223846793005) + 1442695040888963407))) (C := RDr) (T := TDr) (N := 3) hx hb hts layDr hown hK.1 hP 0 rfl rfl 2 (by decide) (hts _ (hm g118)) (fun _ h9 => h9) rfl dDr_nextBelow_26 ?_
    refine lv_bipush (v := iZ (33)) hx hb dDr_nextBelow_29 (by decide) ?_
    refine z_lushr33 hx hb dDr_nextBelow_31 ?_
    refine lv_iload_n hx hb dDr_nextBelow_32 rfl (lv_at hl 1 rfl) ?_
    refine z_i2l hx hb (by omega) (by omega) dDr_nextBelow_33 ?_
    refine z_lrem hx hb (by omega) (by omega) (by omega) (by omega) dDr_nextBelow_34 ?_
    refine z_l2i hx hb dDr_nextBelow_35 ?_
    exact cq_iret hx hb hr hlocks hAe hQ ((((t_seed * 6364136223846793005) + 1442695040888963407) % 18446744073709551616 / 8589934592) % bd, (t_seed * 6364136223846793005) + 1442695040888963407) ⟨rfl, (by (try dsimp only) <;> (first | rfl | omega)), (by (try dsimp only) <;> (first | rfl | omega))⟩ (hP.sub [0] rfl) (hD.sub [0] (by decide) rfl) hS (by decide) (by decide) dDr_nextBelow_36
  ·
    refine lv_iconst (v := iZ 0) hx hb dDr_nextBelow_21 (by decide) ?_
    refine lv_goto (tgt := 36) hx hb dDr_nextBelow_22 (by decide) ?_
    exact cq_iret hx hb hr hlocks hAe hQ (0, (t_seed * 6364136223846793005) + 1442695040888963407) ⟨rfl, (by (try dsimp only) <;> (first | rfl | omega)), (by (try dsimp only) <;> (first | rfl | omega))⟩ (hP.sub [0] rfl) (hD.sub [0] (by decide) rfl) hS (by decide) (by decide) dDr_nextBelow_36
set_option maxHeartbeats 4000000 in
set_option maxRecDepth 100000 in
theorem k_Draws_swap (l : Launch) (D : va_G) (cI cJ cZ : ClassId) (t_a t_lists_a t_lengths_a : Nat) (sz : Nat) (t_seed : Int) (t_lists_f : Int → Int) (za : Int) (zb : Int) (h_za1 : -2147483648 ≤ za) (h_za2 : za < 2147483648) (h_zb1 : -2147483648 ≤ zb) (h_zb2 : zb < 2147483648) (hza : 0 ≤ za ∧ za < 400) (hzb : 0 ≤ zb ∧ zb < 400) : cq_v l yDr_swap wsDr_swap ({ frames := 0, cells := 0, slots := 0, locals := 0 }) D clAll [(cI, .int), (cJ, .long), (cZ, .boolean)] nwAll [.ref t_a, .int (iZ za), .int (iZ zb)] [(t_a, .inr (2, [.ref t_lists_a, .ref t_lengths_a, .long (lZ t_seed)])), (t_lists_a, .inl (cI, 400, .inl (aI t_lists_f)))] sz (S := (Int → Int)) (fun (u : (Int → Int)) => (u = pu (pu t_lists_f za (t_lists_f zb)) zb (t_lists_f za))) (fun (u : (Int → Int)) => [(t_a, .inr (2, [.ref t_lists_a, .ref t_lengths_a, .long (lZ t_seed)])), (t_lists_a, .inl (cI, 400, .inl (aI u)))]) 0 0 := by
  refine cq_enter (cc := cDr_swap) (maxL := 4) (ret := none) (by decide) rfl (Nat.le_of_ble_eq_true rfl) ?_
  intro p e s m below meth c A args Q H hAe hQ hsz hAt hA hP hK hD hS ls hl
  obtain ⟨hx, hb, hr, hml, hown, hts, hlocks, hin⟩ := hAt
  have hown : s.vm.findClass RDr = some m.cls := hown
  have hl : lv_has ls 4 [(0, .ref t_a), (1, .int (iZ za)), (2, .int (iZ zb))] := hl
  refine lv_aload_n hx hb dDr_swap_0 rfl (lv_at hl 0 rfl) ?_
  refine va_get (D := D) (ci := 2) (v := .ref t_lists_a) (C := RDr) (T := TDr) (N := 3) hx hb hts layDr hown hK.1 hP 0 rfl rfl 0 (by decide) (hts _ (hm g116)) (fun _ h9 => h9) rfl dDr_swap_1 ?_
  refine lv_iload_n hx hb dDr_swap_4 rfl (lv_at hl 1 rfl) ?_
  refine z_iald hx hb hK hP 1 0 rfl rfl (by omega) (by omega) (by decide) dDr_swap_5 ?_
  refine lv_istore_n (lv' := [(3, .int (iZ (t_lists_f za))), (0, .ref t_a), (1, .int (iZ za)), (2, .int (iZ zb))]) hx hb dDr_swap_6 rfl hl (by decide) rfl (fun ls hl => ?_)
  refine lv_aload_n hx hb dDr_swap_7 rfl (lv_at hl 1 rfl) ?_
  refine va_get (D := D) (ci := 2) (v := .ref t_lists_a) (C := RDr) (T := TDr) (N := 3) hx hb hts layDr hown hK.1 hP 0 rfl rfl 0 (by decide) (hts _ (hm g116)) (fun _ h9 => h9) rfl dDr_swap_8 ?_
  refine lv_iload_n hx hb dDr_swap_11 rfl (lv_at hl 2 rfl) ?_
  refine lv_aload_n hx hb dDr_swap_12 rfl (lv_at hl 1 rfl) ?_
  refine va_get (D := D) (ci := 2) (v := .ref t_lists_a) (C := RDr) (T := TDr) (N := 3) hx hb hts layDr hown hK.1 hP 0 rfl rfl 0 (by decide) (hts _ (hm g116)) (fun _ h9 => h9) rfl dDr_swap_13 ?_
  refine lv_iload_n hx hb dDr_swap_16 rfl (lv_at hl 3 rfl) ?_
  refine z_iald hx hb hK hP 1 0 rfl rfl (by omega) (by omega) (by decide) dDr_swap_17 ?_
  refine z_iast hx hb hK hP hD hS 1 0 rfl rfl (by omega) (by omega) (by decide) dDr_swap_18 (fun H locs hP hD hS => ?_)
  have hP : va_P D clAll [(t_a, .inr (2, [.ref t_lists_a, .ref t_lengths_a, .long (lZ t_seed)])), (t_lists_a, .inl (cI, 400, .inl (aI (pu t_lists_f za (t_lists_f zb)))))] H := hP
  have hD : va_D A [(t_a, .inr (2, [.ref t_lists_a, .ref t_lengths_a, .long (lZ t_seed)])), (t_lists_a, .inl (cI, 400, .inl (aI (pu t_lists_f za (t_lists_f zb)))))] := hD
  refine lv_aload_n hx hb dDr_swap_19 rfl (lv_at hl 1 rfl) ?_
  refine va_get (D := D) (ci := 2) (v := .ref t_lists_a) (C := RDr) (T := TDr) (N := 3) hx hb hts layDr hown hK.1 hP 0 rfl rfl 0 (by decide) (hts _ (hm g116)) (fun _ h9 => h9) rfl dDr_swap_20 ?_
  refine lv_iload_n hx hb dDr_swap_23 rfl (lv_at hl 3 rfl) ?_
  refine lv_iload_n hx hb dDr_swap_24 rfl (lv_at hl 0 rfl) ?_
  refine z_iast hx hb hK hP hD hS 1 0 rfl rfl (by omega) (by omega) (by decide) dDr_swap_25 (fun H locs hP hD hS => ?_)
  have hP : va_P D clAll [(t_a, .inr (2, [.ref t_lists_a, .ref t_lengths_a, .long (lZ t_seed)])), (t_lists_a, .inl (cI, 400, .inl (aI (pu (pu t_lists_f za (t_lists_f zb)) zb (t_lists_f za)))))] H := hP
  have hD : va_D A [(t_a, .inr (2, [.ref t_lists_a, .ref t_lengths_a, .long (lZ t_seed)])), (t_lists_a, .inl (cI, 400, .inl (aI (pu (pu t_lists_f za (t_lists_f zb)) zb (t_lists_f za)))))] := hD
  exact cq_vret hx hb hr hlocks hAe hQ (pu (pu t_lists_f za (t_lists_f zb)) zb (t_lists_f za)) (by (try dsimp only) <;> (first | rfl | omega | (refine Or.inl ?_; and_intros <;> first | rfl | omega) | (refine Or.inr ?_; and_intros <;> first | rfl | omega))) (hP.sub [0, 1] rfl) (hD.sub [0, 1] (by decide) rfl) hS (by decide) (by decide) dDr_swap_26
set_option maxHeartbeats 4000000 in
set_option maxRecDepth 100000 in
theorem k_Draws_taken (l : Launch) (D : va_G) (cI cJ cZ : ClassId) (t_a t_lists_a t_lengths_a : Nat) (sz : Nat) (t_seed : Int) (t_lists_f : Int → Int) (t_lengths_f : Int → Int) (z : Int) (zk : Int) (h_z1 : -2147483648 ≤ z) (h_z2 : z < 2147483648) (h_zk1 : -2147483648 ≤ zk) (h_zk2 : zk < 2147483648) (hz : 0 ≤ z ∧ z < 4) (hle : ∀ j, 0 ≤ t_lengths_f j ∧ t_lengths_f j ≤ 100) (hli : ∀ j, 0 ≤ t_lists_f j ∧ t_lists_f j ≤ 99) : cq_i l yDr_taken wsDr_taken ({ frames := 0, cells := 0, slots := 0, locals := 0 }) D clAll [(cI, .int), (cJ, .long), (cZ, .boolean)] nwAll [.ref t_a, .int (iZ z), .int (iZ zk)] [(t_a, .inr (2, [.ref t_lists_a, .ref t_lengths_a, .long (lZ t_seed)])), (t_lists_a, .inl (cI, 400, .inl (aI t_lists_f))), (t_lengths_a, .inl (cI, 4, .inl (aI t_lengths_f)))] sz (S := Int) (fun (r : Int32) (u : Int) => r = iZ u ∧ ((0 ≤ zk ∧ zk < t_lengths_f z ∧ u = t_lists_f (z * 100 + zk)) ∨ (¬ (0 ≤ zk ∧ zk < t_lengths_f z) ∧ u = -1))) (fun (u : Int) => [(t_a, .inr (2, [.ref t_lists_a, .ref t_lengths_a, .long (lZ t_seed)])), (t_lists_a, .inl (cI, 400, .inl (aI t_lists_f))), (t_lengths_a, .inl (cI, 4, .inl (aI t_lengths_f)))]) 0 0 := by
  refine cq_enter (cc := cDr_taken) (maxL := 3) (ret := some .int) (by decide) rfl (Nat.le_of_ble_eq_true rfl) ?_
  intro p e s m below meth c A args Q H hAe hQ hsz hAt hA hP hK hD hS ls hl
  obtain ⟨hx, hb, hr, hml, hown, hts, hlocks, hin⟩ := hAt
  have hown : s.vm.findClass RDr = some m.cls := hown
  have hl : lv_has ls 3 [(0, .ref t_a), (1, .int (iZ z)), (2, .int (iZ zk))] := hl
  refine lv_iload_n hx hb dDr_taken_0 rfl (lv_at hl 2 rfl) ?_
  refine z_if_lt (tgt := 28) hx hb (by omega) (by omega) dDr_taken_1 (by decide) (fun c_1 => ?_) (fun c_1 => ?_)
  ·
    refine lv_iconst (v := iZ (-1)) hx hb dDr_taken_28 (by decide) ?_
    exact cq_iret hx hb hr hlocks hAe hQ (-1) ⟨rfl, (by (try dsimp only) <;> (first | rfl | omega | (refine Or.inl ?_; and_intros <;> first | rfl | omega) | (refine Or.inr ?_; and_intros <;> first | rfl | omega)))⟩ (hP.sub [0, 1, 2] rfl) (hD.sub [0, 1, 2] (by decide) rfl) hS (by decide) (by decide) dDr_taken_29
  ·
    refine lv_iload_n hx hb dDr_taken_4 rfl (lv_at hl 2 rfl) ?_
    refine lv_aload_n hx hb dDr_taken_5 rfl (lv_at hl 0 rfl) ?_
    refine va_get (D := D) (ci := 2) (v := .ref t_lengths_a) (C := RDr) (T := TDr) (N := 3) hx hb hts layDr hown hK.1 hP 0 rfl rfl 1 (by decide) (hts _ (hm g117)) (fun _ h9 => h9) rfl dDr_taken_6 ?_
    refine lv_iload_n hx hb dDr_taken_9 rfl (lv_at hl 1 rfl) ?_
    refine z_iald hx hb hK hP 2 0 rfl rfl (by omega) (by omega) (by decide) dDr_taken_10 ?_
    have f_2 := hle z
    refine z_icmp_ge (tgt := 28) hx hb (by omega) (by omega) (by omega) (by omega) dDr_taken_11 (by decide) (fun c_3 => ?_) (fun c_3 => ?_)
    ·
      refine lv_iconst (v := iZ (-1)) hx hb dDr_taken_28 (by decide) ?_
      exact cq_iret hx hb hr hlocks hAe hQ (-1) ⟨rfl, (by (try dsimp only) <;> (first | rfl | omega | (refine Or.inl ?_; and_intros <;> first | rfl | omega) | (refine Or.inr ?_; and_intros <;> first | rfl | omega)))⟩ (hP.sub [0, 1, 2] rfl) (hD.sub [0, 1, 2] (by decide) rfl) hS (by decide) (by decide) dDr_taken_29
    ·
      refine lv_aload_n hx hb dDr_taken_14 rfl (lv_at hl 0 rfl) ?_
      refine va_get (D := D) (ci := 2) (v := .ref t_lists_a) (C := RDr) (T := TDr) (N := 3) hx hb hts layDr hown hK.1 hP 0 rfl rfl 0 (by decide) (hts _ (hm g116)) (fun _ h9 => h9) rfl dDr_taken_15 ?_
      refine lv_iload_n hx hb dDr_taken_18 rfl (lv_at hl 1 rfl) ?_
      refine lv_bipush (v := iZ (100)) hx hb dDr_taken_19 (by decide) ?_
      refine z_imul hx hb dDr_taken_21 ?_
      refine lv_iload_n hx hb dDr_taken_22 rfl (lv_at hl 2 rfl) ?_
      refine z_iadd hx hb dDr_taken_23 ?_
      refine z_iald hx hb hK hP 1 0 rfl rfl (by omega) (by omega) (by decide) dDr_taken_24 ?_
      have f_4 := hli ((z * 100) + zk)
      refine lv_goto (tgt := 29) hx hb dDr_taken_25 (by decide) ?_
      exact cq_iret hx hb hr hlocks hAe hQ (t_lists_f ((z * 100) + zk)) ⟨rfl, (by (try dsimp only) <;> (first | rfl | omega | (refine Or.inl ?_; and_intros <;> first | rfl | omega) | (refine Or.inr ?_; and_intros <;> first | rfl | omega)))⟩ (hP.sub [0, 1, 2] rfl) (hD.sub [0, 1, 2] (by decide) rfl) hS (by decide) (by decide) dDr_taken_29
set_option maxHeartbeats 4000000 in
set_option maxRecDepth 100000 in
theorem k_Draws_take (l : Launch) (D : va_G) (cI cJ cZ : ClassId) (t_a t_lists_a t_lengths_a : Nat) (sz : Nat) (t_seed : Int) (t_lists_f : Int → Int) (t_lengths_f : Int → Int) (z : Int) (size : Int) (n : Int) (h_z1 : -2147483648 ≤ z) (h_z2 : z < 2147483648) (h_size1 : -2147483648 ≤ size) (h_size2 : size < 2147483648) (h_n1 : -2147483648 ≤ n) (h_n2 : n < 2147483648) (hz : 0 ≤ z ∧ z < 4) (hs : 1 ≤ size ∧ size ≤ 100) (hli : ∀ j, 0 ≤ t_lists_f j ∧ t_lists_f j ≤ 99) : cq_i l yDr_take wsDr_take ({ frames := 1, cells := 0, slots := 0, locals := 23 }) D clAll [(cI, .int), (cJ, .long), (cZ, .boolean)] nwAll [.ref t_a, .int (iZ z), .int (iZ size), .int (iZ n)] [(t_a, .inr (2, [.ref t_lists_a, .ref t_lengths_a, .long (lZ t_seed)])), (t_lists_a, .inl (cI, 400, .inl (aI t_lists_f))), (t_lengths_a, .inl (cI, 4, .inl (aI t_lengths_f)))] sz (S := Int × Int × (Int → Int) × (Int → Int)) (fun (r : Int32) (u : Int × Int × (Int → Int) × (Int → Int)) => r = iZ u.1 ∧ (((0 ≤ n ∧ n ≤ size) ∧ u.1 = n ∧ (u.2.2.1, u.2.1) = drN (z * 100) size n.toNat (ini t_lists_f (z * 100) size, t_seed) ∧ u.2.2.2 = pu t_lengths_f z n) ∨ (¬ (0 ≤ n ∧ n ≤ size) ∧ u.1 = -1 ∧ (u.2.2.1, u.2.1) = (t_lists_f, t_seed) ∧ u.2.2.2 = t_lengths_f)) ∧ (∀ j, 0 ≤ u.2.2.1 j ∧ u.2.2.1 j ≤ 99)) (fun (u : Int × Int × (Int → Int) × (Int → Int)) => [(t_a, .inr (2, [.ref t_lists_a, .ref t_lengths_a, .long (lZ u.2.1)])), (t_lists_a, .inl (cI, 400, .inl (aI u.2.2.1))), (t_lengths_a, .inl (cI, 4, .inl (aI u.2.2.2)))]) 0 0 := by
  refine cq_enter (cc := cDr_take) (maxL := 6) (ret := some .int) (by decide) rfl (Nat.le_of_ble_eq_true rfl) ?_
  intro p e s m below meth c A args Q H hAe hQ hsz hAt hA hP hK hD hS ls hl
  obtain ⟨hx, hb, hr, hml, hown, hts, hlocks, hin⟩ := hAt
  have hown : s.vm.findClass RDr = some m.cls := hown
  have hl : lv_has ls 6 [(0, .ref t_a), (1, .int (iZ z)), (2, .int (iZ size)), (3, .int (iZ n))] := hl
  refine lv_iload_n hx hb dDr_take_0 rfl (lv_at hl 3 rfl) ?_
  refine z_if_lt (tgt := 9) hx hb (by omega) (by omega) dDr_take_1 (by decide) (fun c_1 => ?_) (fun c_1 => ?_)
  ·
    refine lv_iconst (v := iZ (-1)) hx hb dDr_take_9 (by decide) ?_
    exact cq_iret hx hb hr hlocks hAe hQ (-1, t_seed, t_lists_f, t_lengths_f) ⟨rfl, (by (try dsimp only) <;> (first | exact Or.inl ⟨by omega, by omega, dr_end hdr (by omega), rfl⟩ | exact Or.inr ⟨by omega, by omega, rfl, rfl⟩)), (by (try dsimp only) <;> (first | exact hlr | exact hli))⟩ (hP.sub [0, 1, 2] rfl) (hD.sub [0, 1, 2] (by decide) rfl) hS (by decide) (by decide) dDr_take_10
  ·
    refine lv_iload_n hx hb dDr_take_4 rfl (lv_at hl 3 rfl) ?_
    refine lv_iload_n hx hb dDr_take_5 rfl (lv_at hl 2 rfl) ?_
    refine z_icmp_le (tgt := 11) hx hb (by omega) (by omega) (by omega) (by omega) dDr_take_6 (by decide) (fun c_2 => ?_) (fun c_2 => ?_)
    ·
      refine lv_iload_n hx hb dDr_take_11 rfl (lv_at hl 1 rfl) ?_
      refine lv_bipush (v := iZ (100)) hx hb dDr_take_12 (by decide) ?_
      refine z_imul hx hb dDr_take_14 ?_
      refine lv_istore (lv' := [(4, .int (iZ (z * 100))), (0, .ref t_a), (1, .int (iZ z)), (2, .int (iZ size)), (3, .int (iZ n))]) hx hb dDr_take_15 hl (by decide) rfl (fun ls hl => ?_)
      refine lv_iconst (v := iZ 0) hx hb dDr_take_17 (by decide) ?_
      refine lv_istore (lv' := [(5, .int (iZ 0)), (4, .int (iZ (z * 100))), (0, .ref t_a), (1, .int (iZ z)), (2, .int (iZ size)), (3, .int (iZ n))]) hx hb dDr_take_18 hl (by decide) rfl (fun ls hl => ?_)
      have loop_3 : ∀ (n_5 : Nat) (i : Int) (lists : Int → Int), (0 ≤ i) → (i ≤ size) → (lists = ini t_lists_f (z * 100) i) → (∀ j, 0 ≤ lists j ∧ lists j ≤ 99) → (size - i < (n_5 : Int)) → ∀ (H : Heap) (locs : List Loc), va_P D clAll [(t_a, .inr (2, [.ref t_lists_a, .ref t_lengths_a, .long (lZ t_seed)])), (t_lists_a, .inl (cI, 400, .inl (aI lists))), (t_lengths_a, .inl (cI, 4, .inl (aI t_lengths_f)))] H → va_D A [(t_a, .inr (2, [.ref t_lists_a, .ref t_lengths_a, .long (lZ t_seed)])), (t_lists_a, .inl (cI, 400, .inl (aI lists))), (t_lengths_a, .inl (cI, 4, .inl (aI t_lengths_f)))] → va_S A s.heap H locs → ∀ ls : Array Slot, lv_has ls 6 [(0, .ref t_a), (1, .int (iZ z)), (2, .int (iZ size)), (3, .int (iZ n)), (4, .int (iZ (z * 100))), (5, .int (iZ i))] → W p l e { frames := 1, cells := 0, slots := 0, locals := 23 } s m args below meth c H locs 0 0 Q (F0 m 20 ls []) := by
        intro n_5
        induction n_5 with
        | zero => intro i lists hi hi2 hin0 hlr hm_6; exact absurd hm_6 (by omega)
        | succ n_5 ih_4 =>
          intro i lists hi hi2 hin0 hlr hm_6 H locs hP hD hS ls hl
          refine lv_iload hx hb dDr_take_20 (lv_at hl 5 rfl) ?_
          refine lv_iload_n hx hb dDr_take_22 rfl (lv_at hl 2 rfl) ?_
          refine z_icmp_ge (tgt := 44) hx hb (by omega) (by omega) (by omega) (by omega) dDr_take_23 (by decide) (fun c_7 => ?_) (fun c_7 => ?_)
          ·
            refine lv_iconst (v := iZ 0) hx hb dDr_take_44 (by decide) ?_
            refine lv_istore (lv' := [(5, .int (iZ 0)), (0, .ref t_a), (1, .int (iZ z)), (2, .int (iZ size)), (3, .int (iZ n)), (4, .int (iZ (z * 100)))]) hx hb dDr_take_45 hl (by decide) rfl (fun ls hl => ?_)
            have loop_8 : ∀ (n_10 : Nat) (i : Int) (lists : Int → Int) (seed : Int), (0 ≤ i) → (i ≤ n) → ((lists, seed) = drN (z * 100) size i.toNat (ini t_lists_f (z * 100) size, t_seed)) → (∀ j, 0 ≤ lists j ∧ lists j ≤ 99) → (n - i < (n_10 : Int)) → ∀ (H : Heap) (locs : List Loc), va_P D clAll [(t_a, .inr (2, [.ref t_lists_a, .ref t_lengths_a, .long (lZ seed)])), (t_lists_a, .inl (cI, 400, .inl (aI lists))), (t_lengths_a, .inl (cI, 4, .inl (aI t_lengths_f)))] H → va_D A [(t_a, .inr (2, [.ref t_lists_a, .ref t_lengths_a, .long (lZ seed)])), (t_lists_a, .inl (cI, 400, .inl (aI lists))), (t_lengths_a, .inl (cI, 4, .inl (aI t_lengths_f)))] → va_S A s.heap H locs → ∀ ls : Array Slot, lv_has ls 6 [(0, .ref t_a), (1, .int (iZ z)), (2, .int (iZ size)), (3, .int (iZ n)), (4, .int (iZ (z * 100))), (5, .int (iZ i))] → W p l e { frames := 1, cells := 0, slots := 0, locals := 23 } s m args below meth c H locs 0 0 Q (F0 m 47 ls []) := by
              intro n_10
              induction n_10 with
              | zero => intro i lists seed hi hi2 hdr hlr hm_11; exact absurd hm_11 (by omega)
              | succ n_10 ih_9 =>
                intro i lists seed hi hi2 hdr hlr hm_11 H locs hP hD hS ls hl
                refine lv_iload hx hb dDr_take_47 (lv_at hl 5 rfl) ?_
                refine lv_iload_n hx hb dDr_take_49 rfl (lv_at hl 3 rfl) ?_
                refine z_icmp_ge (tgt := 88) hx hb (by omega) (by omega) (by omega) (by omega) dDr_take_50 (by decide) (fun c_12 => ?_) (fun c_12 => ?_)
                ·
                  refine lv_aload_n hx hb dDr_take_88 rfl (lv_at hl 0 rfl) ?_
                  refine va_get (D := D) (ci := 2) (v := .ref t_lengths_a) (C := RDr) (T := TDr) (N := 3) hx hb hts layDr hown hK.1 hP 0 rfl rfl 1 (by decide) (hts _ (hm g117)) (fun _ h9 => h9) rfl dDr_take_89 ?_
                  refine lv_iload_n hx hb dDr_take_92 rfl (lv_at hl 1 rfl) ?_
                  refine lv_iload_n hx hb dDr_take_93 rfl (lv_at hl 3 rfl) ?_
                  refine z_iast hx hb hK hP hD hS 2 0 rfl rfl (by omega) (by omega) (by decide) dDr_take_94 (fun H locs hP hD hS => ?_)
                  have hP : va_P D clAll [(t_a, .inr (2, [.ref t_lists_a, .ref t_lengths_a, .long (lZ seed)])), (t_lists_a, .inl (cI, 400, .inl (aI lists))), (t_lengths_a, .inl (cI, 4, .inl (aI (pu t_lengths_f z n))))] H := hP
                  have hD : va_D A [(t_a, .inr (2, [.ref t_lists_a, .ref t_lengths_a, .long (lZ seed)])), (t_lists_a, .inl (cI, 400, .inl (aI lists))), (t_lengths_a, .inl (cI, 4, .inl (aI (pu t_lengths_f z n))))] := hD
                  refine lv_iload_n hx hb dDr_take_95 rfl (lv_at hl 3 rfl) ?_
                  exact cq_iret hx hb hr hlocks hAe hQ (n, seed, lists, (pu t_lengths_f z n)) ⟨rfl, (by (try dsimp only) <;> (first | exact Or.inl ⟨by omega, by omega, dr_end hdr (by omega), rfl⟩ | exact Or.inr ⟨by omega, by omega, rfl, rfl⟩)), (by (try dsimp only) <;> (first | exact hlr | exact hli))⟩ (hP.sub [0, 1, 2] rfl) (hD.sub [0, 1, 2] (by decide) rfl) hS (by decide) (by decide) dDr_take_96
                ·
                  refine lv_iload hx hb dDr_take_53 (lv_at hl 5 rfl) ?_
                  refine lv_iload_n hx hb dDr_take_55 rfl (lv_at hl 2 rfl) ?_
                  refine z_icmp_ge (tgt := 88) hx hb (by omega) (by omega) (by omega) (by omega) dDr_take_56 (by decide) (fun c_13 => ?_) (fun c_13 => ?_)
                  ·
                    refine lv_aload_n hx hb dDr_take_88 rfl (lv_at hl 0 rfl) ?_
                    refine va_get (D := D) (ci := 2) (v := .ref t_lengths_a) (C := RDr) (T := TDr) (N := 3) hx hb hts layDr hown hK.1 hP 0 rfl rfl 1 (by decide) (hts _ (hm g117)) (fun _ h9 => h9) rfl dDr_take_89 ?_
                    refine lv_iload_n hx hb dDr_take_92 rfl (lv_at hl 1 rfl) ?_
                    refine lv_iload_n hx hb dDr_take_93 rfl (lv_at hl 3 rfl) ?_
                    refine z_iast hx hb hK hP hD hS 2 0 rfl rfl (by omega) (by omega) (by decide) dDr_take_94 (fun H locs hP hD hS => ?_)
                    have hP : va_P D clAll [(t_a, .inr (2, [.ref t_lists_a, .ref t_lengths_a, .long (lZ seed)])), (t_lists_a, .inl (cI, 400, .inl (aI lists))), (t_lengths_a, .inl (cI, 4, .inl (aI (pu t_lengths_f z n))))] H := hP
                    have hD : va_D A [(t_a, .inr (2, [.ref t_lists_a, .ref t_lengths_a, .long (lZ seed)])), (t_lists_a, .inl (cI, 400, .inl (aI lists))), (t_lengths_a, .inl (cI, 4, .inl (aI (pu t_lengths_f z n))))] := hD
                    refine lv_iload_n hx hb dDr_take_95 rfl (lv_at hl 3 rfl) ?_
                    exact cq_iret hx hb hr hlocks hAe hQ (n, seed, lists, (pu t_lengths_f z n)) ⟨rfl, (by (try dsimp only) <;> (first | exact Or.inl ⟨by omega, by omega, dr_end hdr (by omega), rfl⟩ | exact Or.inr ⟨by omega, by omega, rfl, rfl⟩)), (by (try dsimp only) <;> (first | exact hlr | exact hli))⟩ (hP.sub [0, 1, 2] rfl) (hD.sub [0, 1, 2] (by decide) rfl) hS (by decide) (by decide) dDr_take_96
                  ·
                    refine lv_aload_n hx hb dDr_take_59 rfl (lv_at hl 0 rfl) ?_
                    refine lv_iload hx hb dDr_take_60 (lv_at hl 4 rfl) ?_
                    refine lv_iload hx hb dDr_take_62 (lv_at hl 5 rfl) ?_
                    refine z_iadd hx hb dDr_take_64 ?_
                    refine lv_iload hx hb dDr_take_65 (lv_at hl 4 rfl) ?_
                    refine lv_iload hx hb dDr_take_67 (lv_at hl 5 rfl) ?_
                    refine z_iadd hx hb dDr_take_69 ?_
                    refine lv_aload_n hx hb dDr_take_70 rfl (lv_at hl 0 rfl) ?_
                    refine lv_iload_n hx hb dDr_take_71 rfl (lv_at hl 2 rfl) ?_
                    refine lv_iload hx hb dDr_take_72 (lv_at hl 5 rfl) ?_
                    refine z_isub hx hb dDr_take_74 ?_
                    refine cq_calli (wr := [(t_lists_a, .inl (cI, 400, .inl (aI lists))), (t_lengths_a, .inl (cI, 4, .inl (aI t_lengths_f)))]) (va_runV (C := RDr) (As := [.int (iZ (size - i))]) (rest := [.int (iZ ((z * 100) + i)), .int (iZ ((z * 100) + i)), .ref t_a]) ⟨hx, hb, hml, hown, hts⟩ (k_Draws_nextBelow l D cI cJ cZ t_a t_lists_a t_lengths_a H.size seed (size - i) (by omega) (by omega) (by first | assumption | omega)) ⟨(callB_of 1 hts (gAll cmDr_nextBelow) rfl rfl rfl (hts _ (hm g61)) (hts _ (hm g275)) (by decide +kernel) ⟨Nat.le_of_ble_eq_true rfl, Nat.le_of_ble_eq_true rfl⟩), (hts _ (hm g276)), (hts _ (hm g10))⟩ (cq_preV (va_recv hK.1 hP (ci := 2) (q0 := 0) rfl rfl) (cq_preS hK hP hD [0] (by decide) rfl)) rfl rfl hl.1 rfl (lv_room (Nat.le_of_ble_eq_true rfl)) dDr_take_75 ⟨by decide, by decide⟩) hP hD hS hA [0] [1, 2] rfl rfl (by decide) (by decide) (fun r u H locs hw_14 hP hD hS => ?_)
                    obtain ⟨o_15, o_16⟩ := u
                    try dsimp only at hw_14
                    obtain ⟨rfl, rfl, rfl⟩ := hw_14
                    have hP : va_P D clAll [(t_lists_a, .inl (cI, 400, .inl (aI lists))), (t_lengths_a, .inl (cI, 4, .inl (aI t_lengths_f))), (t_a, .inr (2, [.ref t_lists_a, .ref t_lengths_a, .long (lZ (sd seed))]))] H := hP
                    have hD : va_D A [(t_lists_a, .inl (cI, 400, .inl (aI lists))), (t_lengths_a, .inl (cI, 4, .inl (aI t_lengths_f))), (t_a, .inr (2, [.ref t_lists_a, .ref t_lengths_a, .long (lZ (sd seed))]))] := hD
                    have hrn := rnd_b seed (size - i) (by omega)
                    refine z_iadd hx hb dDr_take_78 ?_
                    refine cq_callv (wr := [(t_lengths_a, .inl (cI, 4, .inl (aI t_lengths_f)))]) (va_runV (C := RDr) (As := [.int (iZ ((z * 100) + i)), .int (iZ (((z * 100) + i) + (rnd seed (size - i))))]) (rest := []) ⟨hx, hb, hml, hown, hts⟩ (k_Draws_swap l D cI cJ cZ t_a t_lists_a t_lengths_a H.size (sd seed) lists ((z * 100) + i) (((z * 100) + i) + (rnd seed (size - i))) (by omega) (by omega) (by omega) (by omega) (by first | assumption | omega) (by first | assumption | omega)) ⟨(callB_of 2 hts (gAll cmDr_swap) rfl rfl rfl (hts _ (hm g61)) (hts _ (hm g280)) (by decide +kernel) ⟨Nat.le_of_ble_eq_true rfl, Nat.le_of_ble_eq_true rfl⟩), (hts _ (hm g281)), (hts _ (hm g11))⟩ (cq_preV (va_recv hK.1 hP (ci := 2) (q0 := 2) rfl rfl) (cq_preS hK hP hD [2, 0] (by decide) rfl)) rfl rfl hl.1 rfl (lv_room (Nat.le_of_ble_eq_true rfl)) dDr_take_79 ⟨by decide, by decide⟩) hP hD hS hA [2, 0] [1] rfl rfl (by decide) (by decide) (fun u H locs hw_17 hP hD hS => ?_)
                    obtain ⟨o_18, rfl⟩ : ∃ z, z = u := ⟨_, rfl⟩
                    try dsimp only at hw_17
                    obtain rfl := hw_17
                    have hP : va_P D clAll [(t_lengths_a, .inl (cI, 4, .inl (aI t_lengths_f))), (t_a, .inr (2, [.ref t_lists_a, .ref t_lengths_a, .long (lZ (sd seed))])), (t_lists_a, .inl (cI, 400, .inl (aI (pu (pu lists ((z * 100) + i) (lists (((z * 100) + i) + (rnd seed (size - i))))) (((z * 100) + i) + (rnd seed (size - i))) (lists ((z * 100) + i))))))] H := hP
                    have hD : va_D A [(t_lengths_a, .inl (cI, 4, .inl (aI t_lengths_f))), (t_a, .inr (2, [.ref t_lists_a, .ref t_lengths_a, .long (lZ (sd seed))])), (t_lists_a, .inl (cI, 400, .inl (aI (pu (pu lists ((z * 100) + i) (lists (((z * 100) + i) + (rnd seed (size - i))))) (((z * 100) + i) + (rnd seed (size - i))) (lists ((z * 100) + i))))))] := hD
                    refine lv_iinc (v := iZ (i + 1)) (lv' := [(5, .int (iZ (i + 1))), (0, .ref t_a), (1, .int (iZ z)), (2, .int (iZ size)), (3, .int (iZ n)), (4, .int (iZ (z * 100)))]) hx hb dDr_take_82 hl (k := 5) rfl (iZ_add i 1) (by decide) rfl (fun ls hl => ?_)
                    refine lv_goto (tgt := 47) hx hb dDr_take_85 (by decide) ?_
                    exact ih_9  (i + 1) (pu (pu lists ((z * 100) + i) (lists (((z * 100) + i) + (rnd seed (size - i))))) (((z * 100) + i) + (rnd seed (size - i))) (lists ((z * 100) + i))) (sd seed) (by omega) (by omega) (by exact dr_s hdr hi) (by exact pu_all (pu_all hlr (hlr _).1 (hlr _).2) (hlr _).1 (hlr _).2) (by omega) _ _ (hP.sub [1, 2, 0] rfl) (hD.sub [1, 2, 0] (by decide) rfl) hS ls (lv_sub hl [1, 2, 3, 4, 5, 0] rfl)
            exact loop_8 ((n - 0 : Int).toNat + 1) 0 lists t_seed (by omega) (by omega) (by exact ini_d hin0 (by omega)) (by exact hlr) (by omega) _ _ (hP.sub [0, 1, 2] rfl) (hD.sub [0, 1, 2] (by decide) rfl) hS ls (lv_sub hl [1, 2, 3, 4, 5, 0] rfl)
          ·
            refine lv_aload_n hx hb dDr_take_26 rfl (lv_at hl 0 rfl) ?_
            refine va_get (D := D) (ci := 2) (v := .ref t_lists_a) (C := RDr) (T := TDr) (N := 3) hx hb hts layDr hown hK.1 hP 0 rfl rfl 0 (by decide) (hts _ (hm g116)) (fun _ h9 => h9) rfl dDr_take_27 ?_
            refine lv_iload hx hb dDr_take_30 (lv_at hl 4 rfl) ?_
            refine lv_iload hx hb dDr_take_32 (lv_at hl 5 rfl) ?_
            refine z_iadd hx hb dDr_take_34 ?_
            refine lv_iload hx hb dDr_take_35 (lv_at hl 5 rfl) ?_
            refine z_iast hx hb hK hP hD hS 1 0 rfl rfl (by omega) (by omega) (by decide) dDr_take_37 (fun H locs hP hD hS => ?_)
            have hP : va_P D clAll [(t_a, .inr (2, [.ref t_lists_a, .ref t_lengths_a, .long (lZ t_seed)])), (t_lists_a, .inl (cI, 400, .inl (aI (pu lists ((z * 100) + i) i)))), (t_lengths_a, .inl (cI, 4, .inl (aI t_lengths_f)))] H := hP
            have hD : va_D A [(t_a, .inr (2, [.ref t_lists_a, .ref t_lengths_a, .long (lZ t_seed)])), (t_lists_a, .inl (cI, 400, .inl (aI (pu lists ((z * 100) + i) i)))), (t_lengths_a, .inl (cI, 4, .inl (aI t_lengths_f)))] := hD
            refine lv_iinc (v := iZ (i + 1)) (lv' := [(5, .int (iZ (i + 1))), (0, .ref t_a), (1, .int (iZ z)), (2, .int (iZ size)), (3, .int (iZ n)), (4, .int (iZ (z * 100)))]) hx hb dDr_take_38 hl (k := 5) rfl (iZ_add i 1) (by decide) rfl (fun ls hl => ?_)
            refine lv_goto (tgt := 20) hx hb dDr_take_41 (by decide) ?_
            exact ih_4  (i + 1) (pu lists ((z * 100) + i) i) (by omega) (by omega) (by exact ini_s hin0 hi) (by exact pu_all hlr (by omega) (by omega)) (by omega) _ _ (hP.sub [0, 1, 2] rfl) (hD.sub [0, 1, 2] (by decide) rfl) hS ls (lv_sub hl [1, 2, 3, 4, 5, 0] rfl)
      exact loop_3 ((size - 0 : Int).toNat + 1) 0 t_lists_f (by omega) (by omega) (by exact ini_0) (by exact hli) (by omega) _ _ (hP.sub [0, 1, 2] rfl) (hD.sub [0, 1, 2] (by decide) rfl) hS ls (lv_sub hl [2, 3, 4, 5, 1, 0] rfl)
    ·
      refine lv_iconst (v := iZ (-1)) hx hb dDr_take_9 (by decide) ?_
      exact cq_iret hx hb hr hlocks hAe hQ (-1, t_seed, t_lists_f, t_lengths_f) ⟨rfl, (by (try dsimp only) <;> (first | exact Or.inl ⟨by omega, by omega, dr_end hdr (by omega), rfl⟩ | exact Or.inr ⟨by omega, by omega, rfl, rfl⟩)), (by (try dsimp only) <;> (first | exact hlr | exact hli))⟩ (hP.sub [0, 1, 2] rfl) (hD.sub [0, 1, 2] (by decide) rfl) hS (by decide) (by decide) dDr_take_10
end
section
set_option maxHeartbeats 4000000 in
set_option maxRecDepth 100000 in
theorem k_Repeats_add (l : Launch) (D : va_G) (cI cJ cZ : ClassId) (t_a t_sorted_a t_kinds_a t_found_a : Nat) (sz : Nat) (t_made : Int) (t_sorted_f : Int → Int) (t_kinds_f : Int → Int) (t_found_f : Int → Int) (z : Int) (kind : Int) (gm : Int) (h_z1 : -2147483648 ≤ z) (h_z2 : z < 2147483648) (h_kind1 : -2147483648 ≤ kind) (h_kind2 : kind < 2147483648) (h_gm1 : -9223372036854775808 ≤ gm) (h_gm2 : gm < 9223372036854775808) (hn1 : 0 ≤ t_made) (hn2 : t_made ≤ 40) : cq_i l yRp_add wsRp_add ({ frames := 0, cells := 0, slots := 0, locals := 0 }) D clAll [(cI, .int), (cJ, .long), (cZ, .boolean)] nwAll [.ref t_a, .int (iZ z), .int (iZ kind), .long (lZ gm)] [(t_a, .inr (5, [.ref t_sorted_a, .ref t_kinds_a, .ref t_found_a, .int (iZ t_made)])), (t_sorted_a, .inl (cI, 40, .inl (aI t_sorted_f))), (t_kinds_a, .inl (cI, 40, .inl (aI t_kinds_f))), (t_found_a, .inl (cJ, 40, .inr (.inl (aL t_found_f))))] sz (S := Int × Int × (Int → Int) × (Int → Int) × (Int → Int)) (fun (r : Int32) (u : Int × Int × (Int → Int) × (Int → Int) × (Int → Int)) => r = iZ u.1 ∧ ((t_made < 40 ∧ u.1 = t_made + 1 ∧ u.2.1 = t_made + 1 ∧ u.2.2.1 = pu t_sorted_f t_made z ∧ u.2.2.2.1 = pu t_kinds_f t_made kind ∧ u.2.2.2.2 = pu t_found_f t_made gm) ∨ (¬ t_made < 40 ∧ u.1 = -1 ∧ u.2.1 = t_made ∧ u.2.2.1 = t_sorted_f ∧ u.2.2.2.1 = t_kinds_f ∧ u.2.2.2.2 = t_found_f))) (fun (u : Int × Int × (Int → Int) × (Int → Int) × (Int → Int)) => [(t_a, .inr (5, [.ref t_sorted_a, .ref t_kinds_a, .ref t_found_a, .int (iZ u.2.1)])), (t_sorted_a, .inl (cI, 40, .inl (aI u.2.2.1))), (t_kinds_a, .inl (cI, 40, .inl (aI u.2.2.2.1))), (t_found_a, .inl (cJ, 40, .inr (.inl (aL u.2.2.2.2))))]) 0 0 := by
  refine cq_enter (cc := cRp_add) (maxL := 5) (ret := some .int) (by decide) rfl (Nat.le_of_ble_eq_true rfl) ?_
  intro p e s m below meth c A args Q H hAe hQ hsz hAt hA hP hK hD hS ls hl
  obtain ⟨hx, hb, hr, hml, hown, hts, hlocks, hin⟩ := hAt
  have hown : s.vm.findClass RRp = some m.cls := hown
  have hl : lv_has ls 5 [(0, .ref t_a), (1, .int (iZ z)), (2, .int (iZ kind)), (3, .long (lZ gm))] := hl
  refine lv_aload_n hx hb dRp_add_0 rfl (lv_at hl 0 rfl) ?_
  refine va_get (D := D) (ci := 5) (v := .int (iZ t_made)) (C := RRp) (T := TRp) (N := 4) hx hb hts layRp hown hK.1 hP 0 rfl rfl 3 (by decide) (hts _ (hm g130)) (fun _ h9 => h9) rfl dRp_add_1 ?_
  refine lv_bipush (v := iZ (40)) hx hb dRp_add_4 (by decide) ?_
  refine z_icmp_lt (tgt := 11) hx hb (by omega) (by omega) (by omega) (by omega) dRp_add_6 (by decide) (fun c_1 => ?_) (fun c_1 => ?_)
  ·
    refine lv_aload_n hx hb dRp_add_11 rfl (lv_at hl 0 rfl) ?_
    refine va_get (D := D) (ci := 5) (v := .ref t_sorted_a) (C := RRp) (T := TRp) (N := 4) hx hb hts layRp hown hK.1 hP 0 rfl rfl 0 (by decide) (hts _ (hm g127)) (fun _ h9 => h9) rfl dRp_add_12 ?_
    refine lv_aload_n hx hb dRp_add_15 rfl (lv_at hl 0 rfl) ?_
    refine va_get (D := D) (ci := 5) (v := .int (iZ t_made)) (C := RRp) (T := TRp) (N := 4) hx hb hts layRp hown hK.1 hP 0 rfl rfl 3 (by decide) (hts _ (hm g130)) (fun _ h9 => h9) rfl dRp_add_16 ?_
    refine lv_iload_n hx hb dRp_add_19 rfl (lv_at hl 1 rfl) ?_
    refine z_iast hx hb hK hP hD hS 1 0 rfl rfl (by omega) (by omega) (by decide) dRp_add_20 (fun H locs hP hD hS => ?_)
    have hP : va_P D clAll [(t_a, .inr (5, [.ref t_sorted_a, .ref t_kinds_a, .ref t_found_a, .int (iZ t_made)])), (t_sorted_a, .inl (cI, 40, .inl (aI (pu t_sorted_f t_made z)))), (t_kinds_a, .inl (cI, 40, .inl (aI t_kinds_f))), (t_found_a, .inl (cJ, 40, .inr (.inl (aL t_found_f))))] H := hP
    have hD : va_D A [(t_a, .inr (5, [.ref t_sorted_a, .ref t_kinds_a, .ref t_found_a, .int (iZ t_made)])), (t_sorted_a, .inl (cI, 40, .inl (aI (pu t_sorted_f t_made z)))), (t_kinds_a, .inl (cI, 40, .inl (aI t_kinds_f))), (t_found_a, .inl (cJ, 40, .inr (.inl (aL t_found_f))))] := hD
    refine lv_aload_n hx hb dRp_add_21 rfl (lv_at hl 0 rfl) ?_
    refine va_get (D := D) (ci := 5) (v := .ref t_kinds_a) (C := RRp) (T := TRp) (N := 4) hx hb hts layRp hown hK.1 hP 0 rfl rfl 1 (by decide) (hts _ (hm g128)) (fun _ h9 => h9) rfl dRp_add_22 ?_
    refine lv_aload_n hx hb dRp_add_25 rfl (lv_at hl 0 rfl) ?_
    refine va_get (D := D) (ci := 5) (v := .int (iZ t_made)) (C := RRp) (T := TRp) (N := 4) hx hb hts layRp hown hK.1 hP 0 rfl rfl 3 (by decide) (hts _ (hm g130)) (fun _ h9 => h9) rfl dRp_add_26 ?_
    refine lv_iload_n hx hb dRp_add_29 rfl (lv_at hl 2 rfl) ?_
    refine z_iast hx hb hK hP hD hS 2 0 rfl rfl (by omega) (by omega) (by decide) dRp_add_30 (fun H locs hP hD hS => ?_)
    have hP : va_P D clAll [(t_a, .inr (5, [.ref t_sorted_a, .ref t_kinds_a, .ref t_found_a, .int (iZ t_made)])), (t_sorted_a, .inl (cI, 40, .inl (aI (pu t_sorted_f t_made z)))), (t_kinds_a, .inl (cI, 40, .inl (aI (pu t_kinds_f t_made kind)))), (t_found_a, .inl (cJ, 40, .inr (.inl (aL t_found_f))))] H := hP
    have hD : va_D A [(t_a, .inr (5, [.ref t_sorted_a, .ref t_kinds_a, .ref t_found_a, .int (iZ t_made)])), (t_sorted_a, .inl (cI, 40, .inl (aI (pu t_sorted_f t_made z)))), (t_kinds_a, .inl (cI, 40, .inl (aI (pu t_kinds_f t_made kind)))), (t_found_a, .inl (cJ, 40, .inr (.inl (aL t_found_f))))] := hD
    refine lv_aload_n hx hb dRp_add_31 rfl (lv_at hl 0 rfl) ?_
    refine va_get (D := D) (ci := 5) (v := .ref t_found_a) (C := RRp) (T := TRp) (N := 4) hx hb hts layRp hown hK.1 hP 0 rfl rfl 2 (by decide) (hts _ (hm g129)) (fun _ h9 => h9) rfl dRp_add_32 ?_
    refine lv_aload_n hx hb dRp_add_35 rfl (lv_at hl 0 rfl) ?_
    refine va_get (D := D) (ci := 5) (v := .int (iZ t_made)) (C := RRp) (T := TRp) (N := 4) hx hb hts layRp hown hK.1 hP 0 rfl rfl 3 (by decide) (hts _ (hm g130)) (fun _ h9 => h9) rfl dRp_add_36 ?_
    refine lv_lload_n hx hb dRp_add_39 rfl (lv_at hl 3 rfl) ?_
    refine z_last hx hb hK hP hD hS 3 1 rfl rfl (by omega) (by omega) (by decide) dRp_add_40 (fun H locs hP hD hS => ?_)
    have hP : va_P D clAll [(t_a, .inr (5, [.ref t_sorted_a, .ref t_kinds_a, .ref t_found_a, .int (iZ t_made)])), (t_sorted_a, .inl (cI, 40, .inl (aI (pu t_sorted_f t_made z)))), (t_kinds_a, .inl (cI, 40, .inl (aI (pu t_kinds_f t_made kind)))), (t_found_a, .inl (cJ, 40, .inr (.inl (aL (pu t_found_f t_made gm)))))] H := hP
    have hD : va_D A [(t_a, .inr (5, [.ref t_sorted_a, .ref t_kinds_a, .ref t_found_a, .int (iZ t_made)])), (t_sorted_a, .inl (cI, 40, .inl (aI (pu t_sorted_f t_made z)))), (t_kinds_a, .inl (cI, 40, .inl (aI (pu t_kinds_f t_made kind)))), (t_found_a, .inl (cJ, 40, .inr (.inl (aL (pu t_found_f t_made gm)))))] := hD
    refine lv_aload_n hx hb dRp_add_41 rfl (lv_at hl 0 rfl) ?_
    refine lv_dup hx hb dRp_add_42 rfl ?_
    refine va_get (D := D) (ci := 5) (v := .int (iZ t_made)) (C := RRp) (T := TRp) (N := 4) hx hb hts layRp hown hK.1 hP 0 rfl rfl 3 (by decide) (hts _ (hm g130)) (fun _ h9 => h9) rfl dRp_add_43 ?_
    refine lv_iconst (v := iZ 1) hx hb dRp_add_46 (by decide) ?_
    refine z_iadd hx hb dRp_add_47 ?_
    refine va_put (D := D) (ci := 5) (v := .int (iZ (t_made + 1))) (ty := .int) (C := RRp) (T := TRp) (N := 4) hx hb hts layRp tyRp tyRp_ok nmRp hown hK.1 hP hD hS 0 rfl rfl 3 (by decide) (hts _ (hm g130)) (fun _ h9 => h9) rfl (by decide +kernel) rfl rfl (Nat.le_of_ble_eq_true rfl) dRp_add_48 (fun H locs hP hD hS => ?_)
    have hP : va_P D clAll [(t_a, .inr (5, [.ref t_sorted_a, .ref t_kinds_a, .ref t_found_a, .int (iZ (t_made + 1))])), (t_sorted_a, .inl (cI, 40, .inl (aI (pu t_sorted_f t_made z)))), (t_kinds_a, .inl (cI, 40, .inl (aI (pu t_kinds_f t_made kind)))), (t_found_a, .inl (cJ, 40, .inr (.inl (aL (pu t_found_f t_made gm)))))] H := hP
    have hD : va_D A [(t_a, .inr (5, [.ref t_sorted_a, .ref t_kinds_a, .ref t_found_a, .int (iZ (t_made + 1))])), (t_sorted_a, .inl (cI, 40, .inl (aI (pu t_sorted_f t_made z)))), (t_kinds_a, .inl (cI, 40, .inl (aI (pu t_kinds_f t_made kind)))), (t_found_a, .inl (cJ, 40, .inr (.inl (aL (pu t_found_f t_made gm)))))] := hD
    refine lv_aload_n hx hb dRp_add_51 rfl (lv_at hl 0 rfl) ?_
    refine va_get (D := D) (ci := 5) (v := .int (iZ (t_made + 1))) (C := RRp) (T := TRp) (N := 4) hx hb hts layRp hown hK.1 hP 0 rfl rfl 3 (by decide) (hts _ (hm g130)) (fun _ h9 => h9) rfl dRp_add_52 ?_
    exact cq_iret hx hb hr hlocks hAe hQ (t_made + 1, t_made + 1, (pu t_sorted_f t_made z), (pu t_kinds_f t_made kind), (pu t_found_f t_made gm)) ⟨rfl, (by (try dsimp only) <;> (first | rfl | omega | (refine Or.inl ?_; and_intros <;> first | rfl | omega) | (refine Or.inr ?_; and_intros <;> first | rfl | omega)))⟩ (hP.sub [0, 1, 2, 3] rfl) (hD.sub [0, 1, 2, 3] (by decide) rfl) hS (by decide) (by decide) dRp_add_55
  ·
    refine lv_iconst (v := iZ (-1)) hx hb dRp_add_9 (by decide) ?_
    exact cq_iret hx hb hr hlocks hAe hQ (-1, t_made, t_sorted_f, t_kinds_f, t_found_f) ⟨rfl, (by (try dsimp only) <;> (first | rfl | omega | (refine Or.inl ?_; and_intros <;> first | rfl | omega) | (refine Or.inr ?_; and_intros <;> first | rfl | omega)))⟩ (hP.sub [0, 1, 2, 3] rfl) (hD.sub [0, 1, 2, 3] (by decide) rfl) hS (by decide) (by decide) dRp_add_10
set_option maxHeartbeats 4000000 in
set_option maxRecDepth 100000 in
theorem k_Repeats_tellError (l : Launch) (D : va_G) (cI cJ cZ : ClassId) (t_a bags_a t_sorted_a t_kinds_a t_found_a bags_homes_a bags_dates_a bags_lost_a bags_grams_a : Nat) (sz : Nat) (t_made : Int) (t_sorted_f : Int → Int) (t_kinds_f : Int → Int) (t_found_f : Int → Int) (bags_made : Int) (bags_grams_f : Int → Int) (kind : Int) (part : Int) (h_kind1 : -2147483648 ≤ kind) (h_kind2 : kind < 2147483648) (h_part1 : -2147483648 ≤ part) (h_part2 : part < 2147483648) (hn1 : 0 ≤ t_made) (hn2 : t_made ≤ 40) (hbm : 0 ≤ bags_made ∧ bags_made ≤ 12) (hso : ∀ j, 0 ≤ j → j < t_made → 0 ≤ t_sorted_f j ∧ t_sorted_f j < bags_made) (hki : ∀ j, 0 ≤ t_kinds_f j ∧ t_kinds_f j ≤ 2) (hfo : ∀ j, 0 ≤ t_found_f j ∧ t_found_f j ≤ 10000) (hgr : ∀ j, 0 ≤ bags_grams_f j ∧ bags_grams_f j ≤ 10000) (hkd : 0 ≤ kind ∧ kind < 3) : cq_l l yRp_tellError wsRp_tellError ({ frames := 2, cells := 0, slots := 0, locals := 56 }) D clAll [(cI, .int), (cJ, .long), (cZ, .boolean)] nwAll [.ref t_a, .ref bags_a, .int (iZ kind), .int (iZ part)] [(t_a, .inr (5, [.ref t_sorted_a, .ref t_kinds_a, .ref t_found_a, .int (iZ t_made)])), (t_sorted_a, .inl (cI, 40, .inl (aI t_sorted_f))), (t_kinds_a, .inl (cI, 40, .inl (aI t_kinds_f))), (t_found_a, .inl (cJ, 40, .inr (.inl (aL t_found_f)))), (bags_a, .inr (0, [.ref bags_homes_a, .ref bags_dates_a, .ref bags_lost_a, .ref bags_grams_a, .int (iZ bags_made)])), (bags_grams_a, .inl (cJ, 36, .inr (.inl (aL bags_grams_f))))] sz (S := Int) (fun (r : Int64) (u : Int) => r = lZ u ∧ (u = ert (sZ (erq t_sorted_f t_kinds_f t_found_f bags_grams_f kind) t_made) (sZ (erc t_kinds_f kind) t_made) part)) (fun (u : Int) => [(t_a, .inr (5, [.ref t_sorted_a, .ref t_kinds_a, .ref t_found_a, .int (iZ t_made)])), (t_sorted_a, .inl (cI, 40, .inl (aI t_sorted_f))), (t_kinds_a, .inl (cI, 40, .inl (aI t_kinds_f))), (t_found_a, .inl (cJ, 40, .inr (.inl (aL t_found_f)))), (bags_a, .inr (0, [.ref bags_homes_a, .ref bags_dates_a, .ref bags_lost_a, .ref bags_grams_a, .int (iZ bags_made)])), (bags_grams_a, .inl (cJ, 36, .inr (.inl (aL bags_grams_f))))]) 0 0 := by
  refine cq_enter (cc := cRp_tellError) (maxL := 11) (ret := some .long) (by decide) rfl (Nat.le_of_ble_eq_true rfl) ?_
  intro p e s m below meth c A args Q H hAe hQ hsz hAt hA hP hK hD hS ls hl
  obtain ⟨hx, hb, hr, hml, hown, hts, hlocks, hin⟩ := hAt
  have hown : s.vm.findClass RRp = some m.cls := hown
  have hl : lv_has ls 11 [(0, .ref t_a), (1, .ref bags_a), (2, .int (iZ kind)), (3, .int (iZ part))] := hl
  refine lv_lconst (v := lZ 0) hx hb dRp_tellError_0 (by decide) ?_
  refine lv_lstore (lv' := [(4, .long (lZ 0)), (0, .ref t_a), (1, .ref bags_a), (2, .int (iZ kind)), (3, .int (iZ part))]) hx hb dRp_tellError_1 hl (by decide) rfl (fun ls hl => ?_)
  refine lv_lconst (v := lZ 0) hx hb dRp_tellError_3 (by decide) ?_
  refine lv_lstore (lv' := [(6, .long (lZ 0)), (4, .long (lZ 0)), (0, .ref t_a), (1, .ref bags_a), (2, .int (iZ kind)), (3, .int (iZ part))]) hx hb dRp_tellError_4 hl (by decide) rfl (fun ls hl => ?_)
  refine lv_iconst (v := iZ 0) hx hb dRp_tellError_6 (by decide) ?_
  refine lv_istore (lv' := [(8, .int (iZ 0)), (6, .long (lZ 0)), (4, .long (lZ 0)), (0, .ref t_a), (1, .ref bags_a), (2, .int (iZ kind)), (3, .int (iZ part))]) hx hb dRp_tellError_7 hl (by decide) rfl (fun ls hl => ?_)
  have loop_1 : ∀ (n_3 : Nat) (sq : Int) (tm : Int) (i : Int), (0 ≤ i) → (i ≤ t_made) → (sq = sZ (erq t_sorted_f t_kinds_f t_found_f bags_grams_f kind) i) → (tm = sZ (erc t_kinds_f kind) i) → (t_made - i < (n_3 : Int)) → ∀ (H : Heap) (locs : List Loc), va_P D clAll [(t_a, .inr (5, [.ref t_sorted_a, .ref t_kinds_a, .ref t_found_a, .int (iZ t_made)])), (t_sorted_a, .inl (cI, 40, .inl (aI t_sorted_f))), (t_kinds_a, .inl (cI, 40, .inl (aI t_kinds_f))), (t_found_a, .inl (cJ, 40, .inr (.inl (aL t_found_f)))), (bags_a, .inr (0, [.ref bags_homes_a, .ref bags_dates_a, .ref bags_lost_a, .ref bags_grams_a, .int (iZ bags_made)])), (bags_grams_a, .inl (cJ, 36, .inr (.inl (aL bags_grams_f))))] H → va_D A [(t_a, .inr (5, [.ref t_sorted_a, .ref t_kinds_a, .ref t_found_a, .int (iZ t_made)])), (t_sorted_a, .inl (cI, 40, .inl (aI t_sorted_f))), (t_kinds_a, .inl (cI, 40, .inl (aI t_kinds_f))), (t_found_a, .inl (cJ, 40, .inr (.inl (aL t_found_f)))), (bags_a, .inr (0, [.ref bags_homes_a, .ref bags_dates_a, .ref bags_lost_a, .ref bags_grams_a, .int (iZ bags_made)])), (bags_grams_a, .inl (cJ, 36, .inr (.inl (aL bags_grams_f))))] → va_S A s.heap H locs → ∀ ls : Array Slot, lv_has ls 11 [(0, .ref t_a), (1, .ref bags_a), (2, .int (iZ kind)), (3, .int (iZ part)), (4, .long (lZ sq)), (6, .long (lZ tm)), (8, .int (iZ i))] → W p l e { frames := 2, cells := 0, slots := 0, locals := 56 } s m args below meth c H locs 0 0 Q (F0 m 9 ls []) := by
    intro n_3
    induction n_3 with
    | zero => intro sq tm i hi hi2 hsq htm hm_4; exact absurd hm_4 (by omega)
    | succ n_3 ih_2 =>
      intro sq tm i hi hi2 hsq htm hm_4 H locs hP hD hS ls hl
      refine lv_iload hx hb dRp_tellError_9 (lv_at hl 6 rfl) ?_
      refine lv_aload_n hx hb dRp_tellError_11 rfl (lv_at hl 0 rfl) ?_
      refine va_get (D := D) (ci := 5) (v := .int (iZ t_made)) (C := RRp) (T := TRp) (N := 4) hx hb hts layRp hown hK.1 hP 0 rfl rfl 3 (by decide) (hts _ (hm g130)) (fun _ h9 => h9) rfl dRp_tellError_12 ?_
      refine z_icmp_ge (tgt := 73) hx hb (by omega) (by omega) (by omega) (by omega) dRp_tellError_15 (by decide) (fun c_5 => ?_) (fun c_5 => ?_)
      ·
        have hb1 := erq_b hsq hi (by omega) hfo hgr
        refine lv_lload hx hb dRp_tellError_73 (lv_at hl 5 rfl) ?_
        have hb2 := erc_b htm hi (by omega)
        refine lv_lconst (v := lZ 0) hx hb dRp_tellError_75 (by decide) ?_
        refine z_lcmp_le (tgt := 95) hx hb (by omega) (by omega) (by omega) (by omega) dRp_tellError_76 dRp_tellError_77 (by decide) (fun c_6 => ?_) (fun c_6 => ?_)
        ·
          refine lv_ldc2 (v := lZ (-1)) hx hb hown (hts _ (hm g420)) dRp_tellError_95 ?_
          exact cq_lret hx hb hr hlocks hAe hQ (-1) ⟨rfl, (by (try dsimp only) <;> (first | exact ert_1 hsq htm (by omega) (by omega) | exact ert_0 htm (by omega) (by omega)))⟩ (hP.sub [0, 1, 2, 3, 4, 5] rfl) (hD.sub [0, 1, 2, 3, 4, 5] (by decide) rfl) hS (by decide) (by decide) dRp_tellError_98
        ·
          refine lv_lload hx hb dRp_tellError_80 (lv_at hl 4 rfl) ?_
          refine lv_ldc2 (v := lZ (2)) hx hb hown (hts _ (hm g419)) dRp_tellError_82 ?_
          refine lv_lload hx hb dRp_tellError_85 (lv_at hl 5 rfl) ?_
          refine z_lmul hx hb dRp_tellError_87 ?_
          refine lv_iload_n hx hb dRp_tellError_88 rfl (lv_at hl 3 rfl) ?_
          refine cq_calll (wr := [(t_a, .inr (5, [.ref t_sorted_a, .ref t_kinds_a, .ref t_found_a, .int (iZ t_made)])), (t_sorted_a, .inl (cI, 40, .inl (aI t_sorted_f))), (t_kinds_a, .inl (cI, 40, .inl (aI t_kinds_f))), (t_found_a, .inl (cJ, 40, .inr (.inl (aL t_found_f)))), (bags_a, .inr (0, [.ref bags_homes_a, .ref bags_dates_a, .ref bags_lost_a, .ref bags_grams_a, .int (iZ bags_made)])), (bags_grams_a, .inl (cJ, 36, .inr (.inl (aL bags_grams_f))))]) (va_runSN (As := [.long (lZ sq), .long (lZ (2 * tm)), .int (iZ part)]) (rest := []) ⟨hx, hb, hml, hown, hts⟩ (k_StratumCounts_tell l D cI cJ cZ H.size sq (2 * tm) part (by omega) (by omega) (by omega) (by omega) (by omega) (by omega) (by first | assumption | omega) (by first | assumption | omega)) ⟨(va_cnB 3 hts (gAll cmSc_tell) rfl rfl rfl (hK.2.2 _ n63) (hts _ (hm g58)) (by decide +kernel) ⟨Nat.le_of_ble_eq_true rfl, Nat.le_of_ble_eq_true rfl⟩), (hts _ (hm g326)), trivial⟩ (cq_preS hK hP hD [] (by decide) rfl) rfl rfl hl.1 rfl (lv_room (Nat.le_of_ble_eq_true rfl)) dRp_tellError_89 ⟨by decide, by decide⟩) hP hD hS hA [] [0, 1, 2, 3, 4, 5] rfl rfl (by decide) (by decide) (fun r u H locs hw_7 hP hD hS => ?_)
          obtain ⟨o_8, rfl⟩ : ∃ z, z = u := ⟨_, rfl⟩
          try dsimp only at hw_7
          obtain ⟨rfl, rfl⟩ := hw_7
          have hP : va_P D clAll [(t_a, .inr (5, [.ref t_sorted_a, .ref t_kinds_a, .ref t_found_a, .int (iZ t_made)])), (t_sorted_a, .inl (cI, 40, .inl (aI t_sorted_f))), (t_kinds_a, .inl (cI, 40, .inl (aI t_kinds_f))), (t_found_a, .inl (cJ, 40, .inr (.inl (aL t_found_f)))), (bags_a, .inr (0, [.ref bags_homes_a, .ref bags_dates_a, .ref bags_lost_a, .ref bags_grams_a, .int (iZ bags_made)])), (bags_grams_a, .inl (cJ, 36, .inr (.inl (aL bags_grams_f))))] H := hP
          have hD : va_D A [(t_a, .inr (5, [.ref t_sorted_a, .ref t_kinds_a, .ref t_found_a, .int (iZ t_made)])), (t_sorted_a, .inl (cI, 40, .inl (aI t_sorted_f))), (t_kinds_a, .inl (cI, 40, .inl (aI t_kinds_f))), (t_found_a, .inl (cJ, 40, .inr (.inl (aL t_found_f)))), (bags_a, .inr (0, [.ref bags_homes_a, .ref bags_dates_a, .ref bags_lost_a, .ref bags_grams_a, .int (iZ bags_made)])), (bags_grams_a, .inl (cJ, 36, .inr (.inl (aL bags_grams_f))))] := hD
          refine lv_goto (tgt := 98) hx hb dRp_tellError_92 (by decide) ?_
          exact cq_lret hx hb hr hlocks hAe hQ ((if part = 0 then sq else (2 * tm)) / (Int.gcd sq (2 * tm) : Int)) ⟨rfl, (by (try dsimp only) <;> (first | exact ert_1 hsq htm (by omega) (by omega) | exact ert_0 htm (by omega) (by omega)))⟩ (hP.sub [0, 1, 2, 3, 4, 5] rfl) (hD.sub [0, 1, 2, 3, 4, 5] (by decide) rfl) hS (by decide) (by decide) dRp_tellError_98
      ·
        refine lv_aload_n hx hb dRp_tellError_18 rfl (lv_at hl 0 rfl) ?_
        refine va_get (D := D) (ci := 5) (v := .ref t_kinds_a) (C := RRp) (T := TRp) (N := 4) hx hb hts layRp hown hK.1 hP 0 rfl rfl 1 (by decide) (hts _ (hm g128)) (fun _ h9 => h9) rfl dRp_tellError_19 ?_
        refine lv_iload hx hb dRp_tellError_22 (lv_at hl 6 rfl) ?_
        refine z_iald hx hb hK hP 2 0 rfl rfl (by omega) (by omega) (by decide) dRp_tellError_24 ?_
        have f_9 := hki i
        refine lv_iload_n hx hb dRp_tellError_25 rfl (lv_at hl 2 rfl) ?_
        refine z_icmp_ne (tgt := 67) hx hb (by omega) (by omega) (by omega) (by omega) dRp_tellError_26 (by decide) (fun c_10 => ?_) (fun c_10 => ?_)
        ·
          refine lv_iinc (v := iZ (i + 1)) (lv' := [(8, .int (iZ (i + 1))), (0, .ref t_a), (1, .ref bags_a), (2, .int (iZ kind)), (3, .int (iZ part)), (4, .long (lZ sq)), (6, .long (lZ tm))]) hx hb dRp_tellError_67 hl (k := 6) rfl (iZ_add i 1) (by decide) rfl (fun ls hl => ?_)
          refine lv_goto (tgt := 9) hx hb dRp_tellError_70 (by decide) ?_
          exact ih_2  sq tm (i + 1) (by omega) (by omega) (by first | exact erq_1 hsq hi (by assumption) | exact erq_0 hsq hi (by assumption)) (by first | exact erc_1 htm hi (by assumption) | exact erc_0 htm hi (by assumption)) (by omega) _ _ (hP.sub [0, 1, 2, 3, 4, 5] rfl) (hD.sub [0, 1, 2, 3, 4, 5] (by decide) rfl) hS ls (lv_sub hl [1, 2, 3, 4, 5, 6, 0] rfl)
        ·
          refine lv_aload_n hx hb dRp_tellError_29 rfl (lv_at hl 0 rfl) ?_
          refine va_get (D := D) (ci := 5) (v := .ref t_found_a) (C := RRp) (T := TRp) (N := 4) hx hb hts layRp hown hK.1 hP 0 rfl rfl 2 (by decide) (hts _ (hm g129)) (fun _ h9 => h9) rfl dRp_tellError_30 ?_
          refine lv_iload hx hb dRp_tellError_33 (lv_at hl 6 rfl) ?_
          refine z_lald hx hb hK hP 3 1 rfl rfl (by omega) (by omega) (by decide) dRp_tellError_35 ?_
          have f_11 := hfo i
          refine lv_aload_n hx hb dRp_tellError_36 rfl (lv_at hl 1 rfl) ?_
          refine lv_aload_n hx hb dRp_tellError_37 rfl (lv_at hl 0 rfl) ?_
          refine va_get (D := D) (ci := 5) (v := .ref t_sorted_a) (C := RRp) (T := TRp) (N := 4) hx hb hts layRp hown hK.1 hP 0 rfl rfl 0 (by decide) (hts _ (hm g127)) (fun _ h9 => h9) rfl dRp_tellError_38 ?_
          refine lv_iload hx hb dRp_tellError_41 (lv_at hl 6 rfl) ?_
          refine z_iald hx hb hK hP 1 0 rfl rfl (by omega) (by omega) (by decide) dRp_tellError_43 ?_
          have f_12 := hso i (by omega) (by omega)
          refine lv_iload_n hx hb dRp_tellError_44 rfl (lv_at hl 2 rfl) ?_
          refine cq_calll (wr := [(t_a, .inr (5, [.ref t_sorted_a, .ref t_kinds_a, .ref t_found_a, .int (iZ t_made)])), (t_sorted_a, .inl (cI, 40, .inl (aI t_sorted_f))), (t_kinds_a, .inl (cI, 40, .inl (aI t_kinds_f))), (t_found_a, .inl (cJ, 40, .inr (.inl (aL t_found_f))))]) (va_runVN (C := RBg) (As := [.int (iZ (t_sorted_f i)), .int (iZ kind)]) (rest := [.long (lZ (t_found_f i))]) ⟨hx, hb, hml, hown, hts⟩ (k_Bags_gramsOf l D cI cJ cZ bags_a bags_homes_a bags_dates_a bags_lost_a bags_grams_a H.size bags_made bags_grams_f (t_sorted_f i) kind (by omega) (by omega) (by omega) (by omega) (by first | assumption | omega) (by first | assumption | omega) (by first | assumption | omega) (by first | assumption | omega)) ⟨(va_cnB 2 hts (gAll cmBg_gramsOf) rfl rfl rfl (hK.2.2 _ n62) (hts _ (hm g60)) (by decide +kernel) ⟨Nat.le_of_ble_eq_true rfl, Nat.le_of_ble_eq_true rfl⟩), (hts _ (hm g303)), (hts _ (hm g15))⟩ (cq_preV (va_recv hK.1 hP (ci := 0) (q0 := 4) rfl rfl) (cq_preS hK hP hD [4, 5] (by decide) rfl)) rfl rfl hl.1 rfl (lv_room (Nat.le_of_ble_eq_true rfl)) dRp_tellError_45 ⟨by decide, by decide⟩) hP hD hS hA [4, 5] [0, 1, 2, 3] rfl rfl (by decide) (by decide) (fun r u H locs hw_13 hP hD hS => ?_)
          obtain ⟨o_14, rfl⟩ : ∃ z, z = u := ⟨_, rfl⟩
          try dsimp only at hw_13
          obtain ⟨rfl, rfl⟩ := hw_13
          have hP : va_P D clAll [(t_a, .inr (5, [.ref t_sorted_a, .ref t_kinds_a, .ref t_found_a, .int (iZ t_made)])), (t_sorted_a, .inl (cI, 40, .inl (aI t_sorted_f))), (t_kinds_a, .inl (cI, 40, .inl (aI t_kinds_f))), (t_found_a, .inl (cJ, 40, .inr (.inl (aL t_found_f)))), (bags_a, .inr (0, [.ref bags_homes_a, .ref bags_dates_a, .ref bags_lost_a, .ref bags_grams_a, .int (iZ bags_made)])), (bags_grams_a, .inl (cJ, 36, .inr (.inl (aL bags_grams_f))))] H := hP
          have hD : va_D A [(t_a, .inr (5, [.ref t_sorted_a, .ref t_kinds_a, .ref t_found_a, .int (iZ t_made)])), (t_sorted_a, .inl (cI, 40, .inl (aI t_sorted_f))), (t_kinds_a, .inl (cI, 40, .inl (aI t_kinds_f))), (t_found_a, .inl (cJ, 40, .inr (.inl (aL t_found_f)))), (bags_a, .inr (0, [.ref bags_homes_a, .ref bags_dates_a, .ref bags_lost_a, .ref bags_grams_a, .int (iZ bags_made)])), (bags_grams_a, .inl (cJ, 36, .inr (.inl (aL bags_grams_f))))] := hD
          refine z_lsub hx hb dRp_tellError_48 ?_
          refine lv_lstore (lv' := [(9, .long (lZ ((t_found_f i) - (bags_grams_f ((t_sorted_f i) * 3 + kind))))), (0, .ref t_a), (1, .ref bags_a), (2, .int (iZ kind)), (3, .int (iZ part)), (4, .long (lZ sq)), (6, .long (lZ tm)), (8, .int (iZ i))]) hx hb dRp_tellError_49 hl (by decide) rfl (fun ls hl => ?_)
          refine lv_lload hx hb dRp_tellError_51 (lv_at hl 5 rfl) ?_
          refine lv_lload hx hb dRp_tellError_53 (lv_at hl 0 rfl) ?_
          refine lv_lload hx hb dRp_tellError_55 (lv_at hl 0 rfl) ?_
          refine z_lmul hx hb dRp_tellError_57 ?_
          refine z_ladd hx hb dRp_tellError_58 ?_
          refine lv_lstore (lv' := [(4, .long (lZ (sq + (((t_found_f i) - (bags_grams_f ((t_sorted_f i) * 3 + kind))) * ((t_found_f i) - (bags_grams_f ((t_sorted_f i) * 3 + kind))))))), (9, .long (lZ ((t_found_f i) - (bags_grams_f ((t_sorted_f i) * 3 + kind))))), (0, .ref t_a), (1, .ref bags_a), (2, .int (iZ kind)), (3, .int (iZ part)), (6, .long (lZ tm)), (8, .int (iZ i))]) hx hb dRp_tellError_59 hl (by decide) rfl (fun ls hl => ?_)
          refine lv_lload hx hb dRp_tellError_61 (lv_at hl 6 rfl) ?_
          refine lv_lconst (v := lZ 1) hx hb dRp_tellError_63 (by decide) ?_
          refine z_ladd hx hb dRp_tellError_64 ?_
          refine lv_lstore (lv' := [(6, .long (lZ (tm + 1))), (4, .long (lZ (sq + (((t_found_f i) - (bags_grams_f ((t_sorted_f i) * 3 + kind))) * ((t_found_f i) - (bags_grams_f ((t_sorted_f i) * 3 + kind))))))), (9, .long (lZ ((t_found_f i) - (bags_grams_f ((t_sorted_f i) * 3 + kind))))), (0, .ref t_a), (1, .ref bags_a), (2, .int (iZ kind)), (3, .int (iZ part)), (8, .int (iZ i))]) hx hb dRp_tellError_65 hl (by decide) rfl (fun ls hl => ?_)
          refine lv_iinc (v := iZ (i + 1)) (lv' := [(8, .int (iZ (i + 1))), (6, .long (lZ (tm + 1))), (4, .long (lZ (sq + (((t_found_f i) - (bags_grams_f ((t_sorted_f i) * 3 + kind))) * ((t_found_f i) - (bags_grams_f ((t_sorted_f i) * 3 + kind))))))), (9, .long (lZ ((t_found_f i) - (bags_grams_f ((t_sorted_f i) * 3 + kind))))), (0, .ref t_a), (1, .ref bags_a), (2, .int (iZ kind)), (3, .int (iZ part))]) hx hb dRp_tellError_67 hl (k := 7) rfl (iZ_add i 1) (by decide) rfl (fun ls hl => ?_)
          refine lv_goto (tgt := 9) hx hb dRp_tellError_70 (by decide) ?_
          exact ih_2  (sq + (((t_found_f i) - (bags_grams_f ((t_sorted_f i) * 3 + kind))) * ((t_found_f i) - (bags_grams_f ((t_sorted_f i) * 3 + kind))))) (tm + 1) (i + 1) (by omega) (by omega) (by first | exact erq_1 hsq hi (by assumption) | exact erq_0 hsq hi (by assumption)) (by first | exact erc_1 htm hi (by assumption) | exact erc_0 htm hi (by assumption)) (by omega) _ _ (hP.sub [0, 1, 2, 3, 4, 5] rfl) (hD.sub [0, 1, 2, 3, 4, 5] (by decide) rfl) hS ls (lv_sub hl [4, 5, 6, 7, 2, 1, 0] rfl)
  exact loop_1 ((t_made - 0 : Int).toNat + 1) 0 0 0 (by omega) (by omega) (by rfl) (by rfl) (by omega) _ _ (hP.sub [0, 1, 2, 3, 4, 5] rfl) (hD.sub [0, 1, 2, 3, 4, 5] (by decide) rfl) hS ls (lv_sub hl [3, 4, 5, 6, 2, 1, 0] rfl)
end
section
set_option maxHeartbeats 4000000 in
set_option maxRecDepth 100000 in
theorem k_Arrays_fill (l : Launch) (D : va_G) (cI cJ cZ : ClassId) (arr_a : Nat) (sz : Nat) (arr_f : Int → Int) (fv : Int) (h_fv1 : -9223372036854775808 ≤ fv) (h_fv2 : fv < 9223372036854775808) : cq_v l yJA_fill wsJA_fill ({ frames := 0, cells := 0, slots := 0, locals := 0 }) D clAll [(cI, .int), (cJ, .long), (cZ, .boolean)] nwAll [.ref arr_a, .long (lZ fv)] [(arr_a, .inl (cJ, 4, .inr (.inl (aL arr_f))))] sz (S := (Int → Int)) (fun (u : (Int → Int)) => (∀ j, 0 ≤ j → j < 4 → u j = fv)) (fun (u : (Int → Int)) => [(arr_a, .inl (cJ, 4, .inr (.inl (aL u))))]) 0 0 := by
  refine cq_enter (cc := cJA_fill) (maxL := 5) (ret := none) (by decide) rfl (Nat.le_of_ble_eq_true rfl) ?_
  intro p e s m below meth c A args Q H hAe hQ hsz hAt hA hP hK hD hS ls hl
  obtain ⟨hx, hb, hr, hml, hown, hts, hlocks, hin⟩ := hAt
  have hown : s.vm.findClass RJA = some m.cls := hown
  have hl : lv_has ls 5 [(0, .ref arr_a), (1, .long (lZ fv))] := hl
  refine lv_iconst (v := iZ 0) hx hb dJA_fill_0 (by decide) ?_
  refine lv_istore_n (lv' := [(3, .int (iZ 0)), (0, .ref arr_a), (1, .long (lZ fv))]) hx hb dJA_fill_1 rfl hl (by decide) rfl (fun ls hl => ?_)
  refine lv_aload_n hx hb dJA_fill_2 rfl (lv_at hl 1 rfl) ?_
  refine va_alen (v := iZ 4) hx hb hK.1 hP 0 1 rfl rfl (show Int32.ofNat 4 = iZ 4 by decide) dJA_fill_3 ?_
  refine lv_istore (lv' := [(4, .int (iZ 4)), (3, .int (iZ 0)), (0, .ref arr_a), (1, .long (lZ fv))]) hx hb dJA_fill_4 hl (by decide) rfl (fun ls hl => ?_)
  have loop_1 : ∀ (n_3 : Nat) (i : Int) (arr : Int → Int), (0 ≤ i) → (i ≤ 4) → (∀ j, 0 ≤ j → j < i → arr j = fv) → (4 - i < (n_3 : Int)) → ∀ (H : Heap) (locs : List Loc), va_P D clAll [(arr_a, .inl (cJ, 4, .inr (.inl (aL arr))))] H → va_D A [(arr_a, .inl (cJ, 4, .inr (.inl (aL arr))))] → va_S A s.heap H locs → ∀ ls : Array Slot, lv_has ls 5 [(0, .ref arr_a), (1, .long (lZ fv)), (3, .int (iZ i)), (4, .int (iZ 4))] → W p l e { frames := 0, cells := 0, slots := 0, locals := 0 } s m args below meth c H locs 0 0 Q (F0 m 6 ls []) := by
    intro n_3
    induction n_3 with
    | zero => intro i arr hi hi2 hup hm_4; exact absurd hm_4 (by omega)
    | succ n_3 ih_2 =>
      intro i arr hi hi2 hup hm_4 H locs hP hD hS ls hl
      refine lv_iload_n hx hb dJA_fill_6 rfl (lv_at hl 2 rfl) ?_
      refine lv_iload hx hb dJA_fill_7 (lv_at hl 3 rfl) ?_
      refine z_icmp_ge (tgt := 22) hx hb (by omega) (by omega) (by omega) (by omega) dJA_fill_9 (by decide) (fun c_5 => ?_) (fun c_5 => ?_)
      ·
        exact cq_vret hx hb hr hlocks hAe hQ arr (by (try dsimp only) <;> (exact up_end (g := fun _ => fv) hup (by omega))) (hP.sub [0] rfl) (hD.sub [0] (by decide) rfl) hS (by decide) (by decide) dJA_fill_22
      ·
        refine lv_aload_n hx hb dJA_fill_12 rfl (lv_at hl 0 rfl) ?_
        refine lv_iload_n hx hb dJA_fill_13 rfl (lv_at hl 2 rfl) ?_
        refine lv_lload_n hx hb dJA_fill_14 rfl (lv_at hl 1 rfl) ?_
        refine z_last hx hb hK hP hD hS 0 1 rfl rfl (by omega) (by omega) (by decide) dJA_fill_15 (fun H locs hP hD hS => ?_)
        have hP : va_P D clAll [(arr_a, .inl (cJ, 4, .inr (.inl (aL (pu arr i fv)))))] H := hP
        have hD : va_D A [(arr_a, .inl (cJ, 4, .inr (.inl (aL (pu arr i fv)))))] := hD
        refine lv_iinc (v := iZ (i + 1)) (lv' := [(3, .int (iZ (i + 1))), (0, .ref arr_a), (1, .long (lZ fv)), (4, .int (iZ 4))]) hx hb dJA_fill_16 hl (k := 2) rfl (iZ_add i 1) (by decide) rfl (fun ls hl => ?_)
        refine lv_goto (tgt := 6) hx hb dJA_fill_19 (by decide) ?_
        exact ih_2  (i + 1) (pu arr i fv) (by omega) (by omega) (by exact pu_upto (g := fun _ => fv) hup rfl) (by omega) _ _ (hP.sub [0] rfl) (hD.sub [0] (by decide) rfl) hS ls (lv_sub hl [1, 2, 0, 3] rfl)
  exact loop_1 ((4 - 0 : Int).toNat + 1) 0 arr_f (by omega) (by omega) (by exact fun j h1 h2 => absurd h2 (by omega)) (by omega) _ _ (hP.sub [0] rfl) (hD.sub [0] (by decide) rfl) hS ls (lv_sub hl [2, 3, 1, 0] rfl)
set_option maxHeartbeats 4000000 in
set_option maxRecDepth 100000 in
theorem k_Terms_clear (l : Launch) (D : va_G) (cI cJ cZ : ClassId) (t_a t_aboves_a t_belows_a : Nat) (sz : Nat) (t_aboves_f : Int → Int) (t_belows_f : Int → Int) : cq_v l yTm_clear wsTm_clear ({ frames := 1, cells := 0, slots := 0, locals := 24 }) D clAll [(cI, .int), (cJ, .long), (cZ, .boolean)] nwAll [.ref t_a] [(t_a, .inr (7, [.ref t_aboves_a, .ref t_belows_a])), (t_aboves_a, .inl (cJ, 4, .inr (.inl (aL t_aboves_f)))), (t_belows_a, .inl (cJ, 4, .inr (.inl (aL t_belows_f))))] sz (S := (Int → Int) × (Int → Int)) (fun (u : (Int → Int) × (Int → Int)) => (∀ j, 0 ≤ j → j < 4 → u.1 j = 0) ∧ (∀ j, 0 ≤ j → j < 4 → u.2 j = 1)) (fun (u : (Int → Int) × (Int → Int)) => [(t_a, .inr (7, [.ref t_aboves_a, .ref t_belows_a])), (t_aboves_a, .inl (cJ, 4, .inr (.inl (aL u.1)))), (t_belows_a, .inl (cJ, 4, .inr (.inl (aL u.2))))]) 0 0 := by
  refine cq_enter (cc := cTm_clear) (maxL := 1) (ret := none) (by decide) rfl (Nat.le_of_ble_eq_true rfl) ?_
  intro p e s m below meth c A args Q H hAe hQ hsz hAt hA hP hK hD hS ls hl
  obtain ⟨hx, hb, hr, hml, hown, hts, hlocks, hin⟩ := hAt
  have hown : s.vm.findClass RTm = some m.cls := hown
  have hl : lv_has ls 1 [(0, .ref t_a)] := hl
  refine lv_aload_n hx hb dTm_clear_0 rfl (lv_at hl 0 rfl) ?_
  refine va_get (D := D) (ci := 7) (v := .ref t_aboves_a) (C := RTm) (T := TTm) (N := 2) hx hb hts layTm hown hK.1 hP 0 rfl rfl 0 (by decide) (hts _ (hm g145)) (fun _ h9 => h9) rfl dTm_clear_1 ?_
  refine lv_lconst (v := lZ 0) hx hb dTm_clear_4 (by decide) ?_
  refine cq_callv (wr := [(t_a, .inr (7, [.ref t_aboves_a, .ref t_belows_a])), (t_belows_a, .inl (cJ, 4, .inr (.inl (aL t_belows_f))))]) (va_runS (As := [.ref t_aboves_a, .long (lZ 0)]) (rest := []) ⟨hx, hb, hml, hown, hts⟩ (k_Arrays_fill l D cI cJ cZ t_aboves_a H.size t_aboves_f 0 (by omega) (by omega)) ⟨(callB_of 2 hts (gAll cmJA_fill) rfl rfl rfl (hts _ (hm g68)) (hts _ (hm g309)) (by decide +kernel) ⟨Nat.le_of_ble_eq_true rfl, Nat.le_of_ble_eq_true rfl⟩), (hts _ (hm g310))⟩ (cq_preS hK hP hD [1] (by decide) rfl) rfl rfl hl.1 rfl (lv_room (Nat.le_of_ble_eq_true rfl)) dTm_clear_5 ⟨by decide, by decide⟩) hP hD hS hA [1] [0, 2] rfl rfl (by decide) (by decide) (fun u H locs hw_1 hP hD hS => ?_)
  obtain ⟨o_2, rfl⟩ : ∃ z, z = u := ⟨_, rfl⟩
  try dsimp only at hw_1
  have p_3 := hw_1
  have hP : va_P D clAll [(t_a, .inr (7, [.ref t_aboves_a, .ref t_belows_a])), (t_belows_a, .inl (cJ, 4, .inr (.inl (aL t_belows_f)))), (t_aboves_a, .inl (cJ, 4, .inr (.inl (aL o_2))))] H := hP
  have hD : va_D A [(t_a, .inr (7, [.ref t_aboves_a, .ref t_belows_a])), (t_belows_a, .inl (cJ, 4, .inr (.inl (aL t_belows_f)))), (t_aboves_a, .inl (cJ, 4, .inr (.inl (aL o_2))))] := hD
  refine lv_aload_n hx hb dTm_clear_8 rfl (lv_at hl 0 rfl) ?_
  refine va_get (D := D) (ci := 7) (v := .ref t_belows_a) (C := RTm) (T := TTm) (N := 2) hx hb hts layTm hown hK.1 hP 0 rfl rfl 1 (by decide) (hts _ (hm g146)) (fun _ h9 => h9) rfl dTm_clear_9 ?_
  refine lv_lconst (v := lZ 1) hx hb dTm_clear_12 (by decide) ?_
  refine cq_callv (wr := [(t_a, .inr (7, [.ref t_aboves_a, .ref t_belows_a])), (t_aboves_a, .inl (cJ, 4, .inr (.inl (aL o_2))))]) (va_runS (As := [.ref t_belows_a, .long (lZ 1)]) (rest := []) ⟨hx, hb, hml, hown, hts⟩ (k_Arrays_fill l D cI cJ cZ t_belows_a H.size t_belows_f 1 (by omega) (by omega)) ⟨(callB_of 2 hts (gAll cmJA_fill) rfl rfl rfl (hts _ (hm g68)) (hts _ (hm g309)) (by decide +kernel) ⟨Nat.le_of_ble_eq_true rfl, Nat.le_of_ble_eq_true rfl⟩), (hts _ (hm g310))⟩ (cq_preS hK hP hD [1] (by decide) rfl) rfl rfl hl.1 rfl (lv_room (Nat.le_of_ble_eq_true rfl)) dTm_clear_13 ⟨by decide, by decide⟩) hP hD hS hA [1] [0, 2] rfl rfl (by decide) (by decide) (fun u H locs hw_4 hP hD hS => ?_)
  obtain ⟨o_5, rfl⟩ : ∃ z, z = u := ⟨_, rfl⟩
  try dsimp only at hw_4
  have p_6 := hw_4
  have hP : va_P D clAll [(t_a, .inr (7, [.ref t_aboves_a, .ref t_belows_a])), (t_aboves_a, .inl (cJ, 4, .inr (.inl (aL o_2)))), (t_belows_a, .inl (cJ, 4, .inr (.inl (aL o_5))))] H := hP
  have hD : va_D A [(t_a, .inr (7, [.ref t_aboves_a, .ref t_belows_a])), (t_aboves_a, .inl (cJ, 4, .inr (.inl (aL o_2)))), (t_belows_a, .inl (cJ, 4, .inr (.inl (aL o_5))))] := hD
  exact cq_vret hx hb hr hlocks hAe hQ (o_2, o_5) ⟨(by (try dsimp only) <;> (assumption)), (by (try dsimp only) <;> (assumption))⟩ (hP.sub [0, 1, 2] rfl) (hD.sub [0, 1, 2] (by decide) rfl) hS (by decide) (by decide) dTm_clear_16
set_option maxHeartbeats 4000000 in
set_option maxRecDepth 100000 in
theorem k_Terms_set (l : Launch) (D : va_G) (cI cJ cZ : ClassId) (t_a t_aboves_a t_belows_a : Nat) (sz : Nat) (t_aboves_f : Int → Int) (t_belows_f : Int → Int) (z : Int) (na : Int) (nb : Int) (h_z1 : -2147483648 ≤ z) (h_z2 : z < 2147483648) (h_na1 : -9223372036854775808 ≤ na) (h_na2 : na < 9223372036854775808) (h_nb1 : -9223372036854775808 ≤ nb) (h_nb2 : nb < 9223372036854775808) (hz : 0 ≤ z ∧ z < 4) : cq_v l yTm_set wsTm_set ({ frames := 0, cells := 0, slots := 0, locals := 0 }) D clAll [(cI, .int), (cJ, .long), (cZ, .boolean)] nwAll [.ref t_a, .int (iZ z), .long (lZ na), .long (lZ nb)] [(t_a, .inr (7, [.ref t_aboves_a, .ref t_belows_a])), (t_aboves_a, .inl (cJ, 4, .inr (.inl (aL t_aboves_f)))), (t_belows_a, .inl (cJ, 4, .inr (.inl (aL t_belows_f))))] sz (S := (Int → Int) × (Int → Int)) (fun (u : (Int → Int) × (Int → Int)) => (u.1 = pu t_aboves_f z na) ∧ (u.2 = pu t_belows_f z nb)) (fun (u : (Int → Int) × (Int → Int)) => [(t_a, .inr (7, [.ref t_aboves_a, .ref t_belows_a])), (t_aboves_a, .inl (cJ, 4, .inr (.inl (aL u.1)))), (t_belows_a, .inl (cJ, 4, .inr (.inl (aL u.2))))]) 0 0 := by
  refine cq_enter (cc := cTm_set) (maxL := 6) (ret := none) (by decide) rfl (Nat.le_of_ble_eq_true rfl) ?_
  intro p e s m below meth c A args Q H hAe hQ hsz hAt hA hP hK hD hS ls hl
  obtain ⟨hx, hb, hr, hml, hown, hts, hlocks, hin⟩ := hAt
  have hown : s.vm.findClass RTm = some m.cls := hown
  have hl : lv_has ls 6 [(0, .ref t_a), (1, .int (iZ z)), (2, .long (lZ na)), (4, .long (lZ nb))] := hl
  refine lv_aload_n hx hb dTm_set_0 rfl (lv_at hl 0 rfl) ?_
  refine va_get (D := D) (ci := 7) (v := .ref t_aboves_a) (C := RTm) (T := TTm) (N := 2) hx hb hts layTm hown hK.1 hP 0 rfl rfl 0 (by decide) (hts _ (hm g145)) (fun _ h9 => h9) rfl dTm_set_1 ?_
  refine lv_iload_n hx hb dTm_set_4 rfl (lv_at hl 1 rfl) ?_
  refine lv_lload_n hx hb dTm_set_5 rfl (lv_at hl 2 rfl) ?_
  refine z_last hx hb hK hP hD hS 1 1 rfl rfl (by omega) (by omega) (by decide) dTm_set_6 (fun H locs hP hD hS => ?_)
  have hP : va_P D clAll [(t_a, .inr (7, [.ref t_aboves_a, .ref t_belows_a])), (t_aboves_a, .inl (cJ, 4, .inr (.inl (aL (pu t_aboves_f z na))))), (t_belows_a, .inl (cJ, 4, .inr (.inl (aL t_belows_f))))] H := hP
  have hD : va_D A [(t_a, .inr (7, [.ref t_aboves_a, .ref t_belows_a])), (t_aboves_a, .inl (cJ, 4, .inr (.inl (aL (pu t_aboves_f z na))))), (t_belows_a, .inl (cJ, 4, .inr (.inl (aL t_belows_f))))] := hD
  refine lv_aload_n hx hb dTm_set_7 rfl (lv_at hl 0 rfl) ?_
  refine va_get (D := D) (ci := 7) (v := .ref t_belows_a) (C := RTm) (T := TTm) (N := 2) hx hb hts layTm hown hK.1 hP 0 rfl rfl 1 (by decide) (hts _ (hm g146)) (fun _ h9 => h9) rfl dTm_set_8 ?_
  refine lv_iload_n hx hb dTm_set_11 rfl (lv_at hl 1 rfl) ?_
  refine lv_lload hx hb dTm_set_12 (lv_at hl 3 rfl) ?_
  refine z_last hx hb hK hP hD hS 2 1 rfl rfl (by omega) (by omega) (by decide) dTm_set_14 (fun H locs hP hD hS => ?_)
  have hP : va_P D clAll [(t_a, .inr (7, [.ref t_aboves_a, .ref t_belows_a])), (t_aboves_a, .inl (cJ, 4, .inr (.inl (aL (pu t_aboves_f z na))))), (t_belows_a, .inl (cJ, 4, .inr (.inl (aL (pu t_belows_f z nb)))))] H := hP
  have hD : va_D A [(t_a, .inr (7, [.ref t_aboves_a, .ref t_belows_a])), (t_aboves_a, .inl (cJ, 4, .inr (.inl (aL (pu t_aboves_f z na))))), (t_belows_a, .inl (cJ, 4, .inr (.inl (aL (pu t_belows_f z nb)))))] := hD
  exact cq_vret hx hb hr hlocks hAe hQ ((pu t_aboves_f z na), (pu t_belows_f z nb)) ⟨(by (try dsimp only) <;> (first | rfl | omega | (refine Or.inl ?_; and_intros <;> first | rfl | omega) | (refine Or.inr ?_; and_intros <;> first | rfl | omega))), (by (try dsimp only) <;> (first | rfl | omega | (refine Or.inl ?_; and_intros <;> first | rfl | omega) | (refine Or.inr ?_; and_intros <;> first | rfl | omega)))⟩ (hP.sub [0, 1, 2] rfl) (hD.sub [0, 1, 2] (by decide) rfl) hS (by decide) (by decide) dTm_set_15
set_option maxHeartbeats 4000000 in
set_option maxRecDepth 100000 in
theorem k_Terms_common (l : Launch) (D : va_G) (cI cJ cZ : ClassId) (t_a t_aboves_a t_belows_a : Nat) (sz : Nat) (t_belows_f : Int → Int) (hbl : ∀ j, 0 ≤ j → j < 4 → 1 ≤ t_belows_f j ∧ t_belows_f j ≤ 2000) : cq_l l yTm_common wsTm_common ({ frames := 2, cells := 0, slots := 0, locals := 55 }) D clAll [(cI, .int), (cJ, .long), (cZ, .boolean)] nwAll [.ref t_a] [(t_a, .inr (7, [.ref t_aboves_a, .ref t_belows_a])), (t_belows_a, .inl (cJ, 4, .inr (.inl (aL t_belows_f))))] sz (S := Int) (fun (r : Int64) (u : Int) => r = lZ u ∧ (u = cm t_belows_f 4)) (fun (u : Int) => [(t_a, .inr (7, [.ref t_aboves_a, .ref t_belows_a])), (t_belows_a, .inl (cJ, 4, .inr (.inl (aL t_belows_f))))]) 0 0 := by
  refine cq_enter (cc := cTm_common) (maxL := 4) (ret := some .long) (by decide) rfl (Nat.le_of_ble_eq_true rfl) ?_
  intro p e s m below meth c A args Q H hAe hQ hsz hAt hA hP hK hD hS ls hl
  obtain ⟨hx, hb, hr, hml, hown, hts, hlocks, hin⟩ := hAt
  have hown : s.vm.findClass RTm = some m.cls := hown
  have hl : lv_has ls 4 [(0, .ref t_a)] := hl
  refine lv_lconst (v := lZ 1) hx hb dTm_common_0 (by decide) ?_
  refine lv_lstore_n (lv' := [(1, .long (lZ 1)), (0, .ref t_a)]) hx hb dTm_common_1 rfl hl (by decide) rfl (fun ls hl => ?_)
  refine lv_iconst (v := iZ 0) hx hb dTm_common_2 (by decide) ?_
  refine lv_istore_n (lv' := [(3, .int (iZ 0)), (1, .long (lZ 1)), (0, .ref t_a)]) hx hb dTm_common_3 rfl hl (by decide) rfl (fun ls hl => ?_)
  have loop_1 : ∀ (n_3 : Nat) (co : Int) (i : Int), (0 ≤ i) → (i ≤ 4) → (co = cm t_belows_f i) → (4 - i < (n_3 : Int)) → ∀ (H : Heap) (locs : List Loc), va_P D clAll [(t_a, .inr (7, [.ref t_aboves_a, .ref t_belows_a])), (t_belows_a, .inl (cJ, 4, .inr (.inl (aL t_belows_f))))] H → va_D A [(t_a, .inr (7, [.ref t_aboves_a, .ref t_belows_a])), (t_belows_a, .inl (cJ, 4, .inr (.inl (aL t_belows_f))))] → va_S A s.heap H locs → ∀ ls : Array Slot, lv_has ls 4 [(0, .ref t_a), (1, .long (lZ co)), (3, .int (iZ i))] → W p l e { frames := 2, cells := 0, slots := 0, locals := 55 } s m args below meth c H locs 0 0 Q (F0 m 4 ls []) := by
    intro n_3
    induction n_3 with
    | zero => intro co i hi hi2 hcm hm_4; exact absurd hm_4 (by omega)
    | succ n_3 ih_2 =>
      intro co i hi hi2 hcm hm_4 H locs hP hD hS ls hl
      refine lv_iload_n hx hb dTm_common_4 rfl (lv_at hl 2 rfl) ?_
      refine lv_iconst (v := iZ 4) hx hb dTm_common_5 (by decide) ?_
      refine z_icmp_ge (tgt := 26) hx hb (by omega) (by omega) (by omega) (by omega) dTm_common_6 (by decide) (fun c_5 => ?_) (fun c_5 => ?_)
      ·
        refine lv_lload_n hx hb dTm_common_26 rfl (lv_at hl 1 rfl) ?_
        exact cq_lret hx hb hr hlocks hAe hQ co ⟨rfl, (by (try dsimp only) <;> (exact cm_end hcm (by omega)))⟩ (hP.sub [0, 1] rfl) (hD.sub [0, 1] (by decide) rfl) hS (by decide) (by decide) dTm_common_27
      ·
        have hcb := cm_b hcm hi hi2 hbl
        refine lv_lload_n hx hb dTm_common_9 rfl (lv_at hl 1 rfl) ?_
        refine lv_aload_n hx hb dTm_common_10 rfl (lv_at hl 0 rfl) ?_
        refine va_get (D := D) (ci := 7) (v := .ref t_belows_a) (C := RTm) (T := TTm) (N := 2) hx hb hts layTm hown hK.1 hP 0 rfl rfl 1 (by decide) (hts _ (hm g146)) (fun _ h9 => h9) rfl dTm_common_11 ?_
        refine lv_iload_n hx hb dTm_common_14 rfl (lv_at hl 2 rfl) ?_
        refine z_lald hx hb hK hP 1 1 rfl rfl (by omega) (by omega) (by decide) dTm_common_15 ?_
        have f_6 := hbl i (by omega) (by omega)
        refine cq_calll (wr := [(t_a, .inr (7, [.ref t_aboves_a, .ref t_belows_a])), (t_belows_a, .inl (cJ, 4, .inr (.inl (aL t_belows_f))))]) (va_runSN (As := [.long (lZ co), .long (lZ (t_belows_f i))]) (rest := []) ⟨hx, hb, hml, hown, hts⟩ (k_StratumCounts_leastCommon l D cI cJ cZ H.size co (t_belows_f i) (by omega) (by omega) (by omega) (by omega) (by first | assumption | omega) (by first | assumption | omega)) ⟨(va_cnB 2 hts (gAll cmSc_leastCommon) rfl rfl rfl (hK.2.2 _ n39) (hts _ (hm g58)) (by decide +kernel) ⟨Nat.le_of_ble_eq_true rfl, Nat.le_of_ble_eq_true rfl⟩), (hts _ (hm g316)), trivial⟩ (cq_preS hK hP hD [] (by decide) rfl) rfl rfl hl.1 rfl (lv_room (Nat.le_of_ble_eq_true rfl)) dTm_common_16 ⟨by decide, by decide⟩) hP hD hS hA [] [0, 1] rfl rfl (by decide) (by decide) (fun r u H locs hw_7 hP hD hS => ?_)
        obtain ⟨o_8, rfl⟩ : ∃ z, z = u := ⟨_, rfl⟩
        try dsimp only at hw_7
        obtain ⟨rfl, rfl⟩ := hw_7
        have hP : va_P D clAll [(t_a, .inr (7, [.ref t_aboves_a, .ref t_belows_a])), (t_belows_a, .inl (cJ, 4, .inr (.inl (aL t_belows_f))))] H := hP
        have hD : va_D A [(t_a, .inr (7, [.ref t_aboves_a, .ref t_belows_a])), (t_belows_a, .inl (cJ, 4, .inr (.inl (aL t_belows_f))))] := hD
        refine lv_lstore_n (lv' := [(1, .long (lZ (co / (Int.gcd co (t_belows_f i) : Int) * (t_belows_f i)))), (0, .ref t_a), (3, .int (iZ i))]) hx hb dTm_common_19 rfl hl (by decide) rfl (fun ls hl => ?_)
        refine lv_iinc (v := iZ (i + 1)) (lv' := [(3, .int (iZ (i + 1))), (1, .long (lZ (co / (Int.gcd co (t_belows_f i) : Int) * (t_belows_f i)))), (0, .ref t_a)]) hx hb dTm_common_20 hl (k := 2) rfl (iZ_add i 1) (by decide) rfl (fun ls hl => ?_)
        refine lv_goto (tgt := 4) hx hb dTm_common_23 (by decide) ?_
        exact ih_2  (co / (Int.gcd co (t_belows_f i) : Int) * (t_belows_f i)) (i + 1) (by omega) (by omega) (by exact cm_s hcm hi) (by omega) _ _ (hP.sub [0, 1] rfl) (hD.sub [0, 1] (by decide) rfl) hS ls (lv_sub hl [2, 1, 0] rfl)
  exact loop_1 ((4 - 0 : Int).toNat + 1) 1 0 (by omega) (by omega) (by rfl) (by omega) _ _ (hP.sub [0, 1] rfl) (hD.sub [0, 1] (by decide) rfl) hS ls (lv_sub hl [2, 1, 0] rfl)
set_option maxHeartbeats 4000000 in
set_option maxRecDepth 100000 in
theorem k_Terms_scaled (l : Launch) (D : va_G) (cI cJ cZ : ClassId) (t_a t_aboves_a t_belows_a : Nat) (sz : Nat) (t_aboves_f : Int → Int) (t_belows_f : Int → Int) (z : Int) (co : Int) (h_z1 : -2147483648 ≤ z) (h_z2 : z < 2147483648) (h_co1 : -9223372036854775808 ≤ co) (h_co2 : co < 9223372036854775808) (hz : 0 ≤ z ∧ z < 4) (hbl : ∀ j, 0 ≤ j → j < 4 → 1 ≤ t_belows_f j ∧ t_belows_f j ≤ 2000) (hco : 0 ≤ co) : cq_l l yTm_scaled wsTm_scaled ({ frames := 0, cells := 0, slots := 0, locals := 0 }) D clAll [(cI, .int), (cJ, .long), (cZ, .boolean)] nwAll [.ref t_a, .int (iZ z), .long (lZ co)] [(t_a, .inr (7, [.ref t_aboves_a, .ref t_belows_a])), (t_aboves_a, .inl (cJ, 4, .inr (.inl (aL t_aboves_f)))), (t_belows_a, .inl (cJ, 4, .inr (.inl (aL t_belows_f))))] sz (S := Int) (fun (r : Int64) (u : Int) => r = lZ u ∧ (u = t_aboves_f z * (co / t_belows_f z))) (fun (u : Int) => [(t_a, .inr (7, [.ref t_aboves_a, .ref t_belows_a])), (t_aboves_a, .inl (cJ, 4, .inr (.inl (aL t_aboves_f)))), (t_belows_a, .inl (cJ, 4, .inr (.inl (aL t_belows_f))))]) 0 0 := by
  refine cq_enter (cc := cTm_scaled) (maxL := 4) (ret := some .long) (by decide) rfl (Nat.le_of_ble_eq_true rfl) ?_
  intro p e s m below meth c A args Q H hAe hQ hsz hAt hA hP hK hD hS ls hl
  obtain ⟨hx, hb, hr, hml, hown, hts, hlocks, hin⟩ := hAt
  have hown : s.vm.findClass RTm = some m.cls := hown
  have hl : lv_has ls 4 [(0, .ref t_a), (1, .int (iZ z)), (2, .long (lZ co))] := hl
  refine lv_aload_n hx hb dTm_scaled_0 rfl (lv_at hl 0 rfl) ?_
  refine va_get (D := D) (ci := 7) (v := .ref t_belows_a) (C := RTm) (T := TTm) (N := 2) hx hb hts layTm hown hK.1 hP 0 rfl rfl 1 (by decide) (hts _ (hm g146)) (fun _ h9 => h9) rfl dTm_scaled_1 ?_
  refine lv_iload_n hx hb dTm_scaled_4 rfl (lv_at hl 1 rfl) ?_
  refine z_lald hx hb hK hP 2 1 rfl rfl (by omega) (by omega) (by decide) dTm_scaled_5 ?_
  have f_1 := hbl z (by omega) (by omega)
  refine lv_lconst (v := lZ 1) hx hb dTm_scaled_6 (by decide) ?_
  refine z_lcmp_ge (tgt := 15) hx hb (by omega) (by omega) (by omega) (by omega) dTm_scaled_7 dTm_scaled_8 (by decide) (fun c_2 => ?_) (fun c_2 => ?_)
  ·
    refine lv_aload_n hx hb dTm_scaled_15 rfl (lv_at hl 0 rfl) ?_
    refine va_get (D := D) (ci := 7) (v := .ref t_aboves_a) (C := RTm) (T := TTm) (N := 2) hx hb hts layTm hown hK.1 hP 0 rfl rfl 0 (by decide) (hts _ (hm g145)) (fun _ h9 => h9) rfl dTm_scaled_16 ?_
    refine lv_iload_n hx hb dTm_scaled_19 rfl (lv_at hl 1 rfl) ?_
    refine z_lald hx hb hK hP 1 1 rfl rfl (by omega) (by omega) (by decide) dTm_scaled_20 ?_
    refine lv_lload_n hx hb dTm_scaled_21 rfl (lv_at hl 2 rfl) ?_
    refine lv_aload_n hx hb dTm_scaled_22 rfl (lv_at hl 0 rfl) ?_
    refine va_get (D := D) (ci := 7) (v := .ref t_belows_a) (C := RTm) (T := TTm) (N := 2) hx hb hts layTm hown hK.1 hP 0 rfl rfl 1 (by decide) (hts _ (hm g146)) (fun _ h9 => h9) rfl dTm_scaled_23 ?_
    refine lv_iload_n hx hb dTm_scaled_26 rfl (lv_at hl 1 rfl) ?_
    refine z_lald hx hb hK hP 2 1 rfl rfl (by omega) (by omega) (by decide) dTm_scaled_27 ?_
    have f_3 := hbl z (by omega) (by omega)
    refine z_ldiv hx hb (by omega) (by omega) (by omega) (by omega) dTm_scaled_28 ?_
    refine z_lmul hx hb dTm_scaled_29 ?_
    exact cq_lret hx hb hr hlocks hAe hQ ((t_aboves_f z) * (co / (t_belows_f z))) ⟨rfl, (by (try dsimp only) <;> (first | rfl | omega | (refine Or.inl ?_; and_intros <;> first | rfl | omega) | (refine Or.inr ?_; and_intros <;> first | rfl | omega)))⟩ (hP.sub [0, 1, 2] rfl) (hD.sub [0, 1, 2] (by decide) rfl) hS (by decide) (by decide) dTm_scaled_30
  ·
    refine lv_lconst (v := lZ 0) hx hb dTm_scaled_11 (by decide) ?_
    refine lv_goto (tgt := 30) hx hb dTm_scaled_12 (by decide) ?_
    exact cq_lret hx hb hr hlocks hAe hQ 0 ⟨rfl, (by (try dsimp only) <;> (first | rfl | omega | (refine Or.inl ?_; and_intros <;> first | rfl | omega) | (refine Or.inr ?_; and_intros <;> first | rfl | omega)))⟩ (hP.sub [0, 1, 2] rfl) (hD.sub [0, 1, 2] (by decide) rfl) hS (by decide) (by decide) dTm_scaled_30
set_option maxHeartbeats 4000000 in
set_option maxRecDepth 100000 in
theorem k_Terms_sum (l : Launch) (D : va_G) (cI cJ cZ : ClassId) (t_a t_aboves_a t_belows_a : Nat) (sz : Nat) (t_aboves_f : Int → Int) (t_belows_f : Int → Int) (co : Int) (h_co1 : -9223372036854775808 ≤ co) (h_co2 : co < 9223372036854775808) (hbl : ∀ j, 0 ≤ j → j < 4 → 1 ≤ t_belows_f j ∧ t_belows_f j ≤ 2000) (hco : 0 ≤ co) : cq_l l yTm_sum wsTm_sum ({ frames := 1, cells := 0, slots := 0, locals := 23 }) D clAll [(cI, .int), (cJ, .long), (cZ, .boolean)] nwAll [.ref t_a, .long (lZ co)] [(t_a, .inr (7, [.ref t_aboves_a, .ref t_belows_a])), (t_aboves_a, .inl (cJ, 4, .inr (.inl (aL t_aboves_f)))), (t_belows_a, .inl (cJ, 4, .inr (.inl (aL t_belows_f))))] sz (S := Int) (fun (r : Int64) (u : Int) => r = lZ u ∧ (u = sZ (fun j => t_aboves_f j * (co / t_belows_f j)) 4)) (fun (u : Int) => [(t_a, .inr (7, [.ref t_aboves_a, .ref t_belows_a])), (t_aboves_a, .inl (cJ, 4, .inr (.inl (aL t_aboves_f)))), (t_belows_a, .inl (cJ, 4, .inr (.inl (aL t_belows_f))))]) 0 0 := by
  refine cq_enter (cc := cTm_sum) (maxL := 6) (ret := some .long) (by decide) rfl (Nat.le_of_ble_eq_true rfl) ?_
  intro p e s m below meth c A args Q H hAe hQ hsz hAt hA hP hK hD hS ls hl
  obtain ⟨hx, hb, hr, hml, hown, hts, hlocks, hin⟩ := hAt
  have hown : s.vm.findClass RTm = some m.cls := hown
  have hl : lv_has ls 6 [(0, .ref t_a), (1, .long (lZ co))] := hl
  refine lv_lconst (v := lZ 0) hx hb dTm_sum_0 (by decide) ?_
  refine lv_lstore_n (lv' := [(3, .long (lZ 0)), (0, .ref t_a), (1, .long (lZ co))]) hx hb dTm_sum_1 rfl hl (by decide) rfl (fun ls hl => ?_)
  refine lv_iconst (v := iZ 0) hx hb dTm_sum_2 (by decide) ?_
  refine lv_istore (lv' := [(5, .int (iZ 0)), (3, .long (lZ 0)), (0, .ref t_a), (1, .long (lZ co))]) hx hb dTm_sum_3 hl (by decide) rfl (fun ls hl => ?_)
  have loop_1 : ∀ (n_3 : Nat) (sm : Int) (i : Int), (0 ≤ i) → (i ≤ 4) → (sm = sZ (fun j => t_aboves_f j * (co / t_belows_f j)) i) → (4 - i < (n_3 : Int)) → ∀ (H : Heap) (locs : List Loc), va_P D clAll [(t_a, .inr (7, [.ref t_aboves_a, .ref t_belows_a])), (t_aboves_a, .inl (cJ, 4, .inr (.inl (aL t_aboves_f)))), (t_belows_a, .inl (cJ, 4, .inr (.inl (aL t_belows_f))))] H → va_D A [(t_a, .inr (7, [.ref t_aboves_a, .ref t_belows_a])), (t_aboves_a, .inl (cJ, 4, .inr (.inl (aL t_aboves_f)))), (t_belows_a, .inl (cJ, 4, .inr (.inl (aL t_belows_f))))] → va_S A s.heap H locs → ∀ ls : Array Slot, lv_has ls 6 [(0, .ref t_a), (1, .long (lZ co)), (3, .long (lZ sm)), (5, .int (iZ i))] → W p l e { frames := 1, cells := 0, slots := 0, locals := 23 } s m args below meth c H locs 0 0 Q (F0 m 5 ls []) := by
    intro n_3
    induction n_3 with
    | zero => intro sm i hi hi2 hsm hm_4; exact absurd hm_4 (by omega)
    | succ n_3 ih_2 =>
      intro sm i hi hi2 hsm hm_4 H locs hP hD hS ls hl
      refine lv_iload hx hb dTm_sum_5 (lv_at hl 3 rfl) ?_
      refine lv_iconst (v := iZ 4) hx hb dTm_sum_7 (by decide) ?_
      refine z_icmp_ge (tgt := 27) hx hb (by omega) (by omega) (by omega) (by omega) dTm_sum_8 (by decide) (fun c_5 => ?_) (fun c_5 => ?_)
      ·
        refine lv_lload_n hx hb dTm_sum_27 rfl (lv_at hl 2 rfl) ?_
        exact cq_lret hx hb hr hlocks hAe hQ sm ⟨rfl, (by (try dsimp only) <;> (exact sz_end hsm (by omega)))⟩ (hP.sub [0, 1, 2] rfl) (hD.sub [0, 1, 2] (by decide) rfl) hS (by decide) (by decide) dTm_sum_28
      ·
        refine lv_lload_n hx hb dTm_sum_11 rfl (lv_at hl 2 rfl) ?_
        refine lv_aload_n hx hb dTm_sum_12 rfl (lv_at hl 0 rfl) ?_
        refine lv_iload hx hb dTm_sum_13 (lv_at hl 3 rfl) ?_
        refine lv_lload_n hx hb dTm_sum_15 rfl (lv_at hl 1 rfl) ?_
        refine cq_calll (wr := []) (va_runV (C := RTm) (As := [.int (iZ i), .long (lZ co)]) (rest := [.long (lZ sm)]) ⟨hx, hb, hml, hown, hts⟩ (k_Terms_scaled l D cI cJ cZ t_a t_aboves_a t_belows_a H.size t_aboves_f t_belows_f i co (by omega) (by omega) (by omega) (by omega) (by first | assumption | omega) (by first | assumption | omega) (by first | assumption | omega)) ⟨(callB_of 2 hts (gAll cmTm_scaled) rfl rfl rfl (hts _ (hm g64)) (hts _ (hm g323)) (by decide +kernel) ⟨Nat.le_of_ble_eq_true rfl, Nat.le_of_ble_eq_true rfl⟩), (hts _ (hm g324)), (hts _ (hm g21))⟩ (cq_preV (va_recv hK.1 hP (ci := 7) (q0 := 0) rfl rfl) (cq_preS hK hP hD [0, 1, 2] (by decide) rfl)) rfl rfl hl.1 rfl (lv_room (Nat.le_of_ble_eq_true rfl)) dTm_sum_16 ⟨by decide, by decide⟩) hP hD hS hA [0, 1, 2] [] rfl rfl (by decide) (by decide) (fun r u H locs hw_6 hP hD hS => ?_)
        obtain ⟨o_7, rfl⟩ : ∃ z, z = u := ⟨_, rfl⟩
        try dsimp only at hw_6
        obtain ⟨rfl, rfl⟩ := hw_6
        have hP : va_P D clAll [(t_a, .inr (7, [.ref t_aboves_a, .ref t_belows_a])), (t_aboves_a, .inl (cJ, 4, .inr (.inl (aL t_aboves_f)))), (t_belows_a, .inl (cJ, 4, .inr (.inl (aL t_belows_f))))] H := hP
        have hD : va_D A [(t_a, .inr (7, [.ref t_aboves_a, .ref t_belows_a])), (t_aboves_a, .inl (cJ, 4, .inr (.inl (aL t_aboves_f)))), (t_belows_a, .inl (cJ, 4, .inr (.inl (aL t_belows_f))))] := hD
        refine z_ladd hx hb dTm_sum_19 ?_
        refine lv_lstore_n (lv' := [(3, .long (lZ (sm + (t_aboves_f i * (co / t_belows_f i))))), (0, .ref t_a), (1, .long (lZ co)), (5, .int (iZ i))]) hx hb dTm_sum_20 rfl hl (by decide) rfl (fun ls hl => ?_)
        refine lv_iinc (v := iZ (i + 1)) (lv' := [(5, .int (iZ (i + 1))), (3, .long (lZ (sm + (t_aboves_f i * (co / t_belows_f i))))), (0, .ref t_a), (1, .long (lZ co))]) hx hb dTm_sum_21 hl (k := 3) rfl (iZ_add i 1) (by decide) rfl (fun ls hl => ?_)
        refine lv_goto (tgt := 5) hx hb dTm_sum_24 (by decide) ?_
        exact ih_2  (sm + (t_aboves_f i * (co / t_belows_f i))) (i + 1) (by omega) (by omega) (by exact sz_step (g := fun j => t_aboves_f j * (co / t_belows_f j)) hsm hi) (by omega) _ _ (hP.sub [0, 1, 2] rfl) (hD.sub [0, 1, 2] (by decide) rfl) hS ls (lv_sub hl [2, 3, 1, 0] rfl)
  exact loop_1 ((4 - 0 : Int).toNat + 1) 0 0 (by omega) (by omega) (by rfl) (by omega) _ _ (hP.sub [0, 1, 2] rfl) (hD.sub [0, 1, 2] (by decide) rfl) hS ls (lv_sub hl [2, 3, 1, 0] rfl)
end
section
set_option maxHeartbeats 4000000 in
set_option maxRecDepth 100000 in
theorem k_Figures_gatherOne (l : Launch) (D : va_G) (cI cJ cZ : ClassId) (t_a bags_a t_sizes_a t_numbers_a t_sums_a t_scatters_a t_terms_a bags_homes_a bags_dates_a bags_lost_a bags_grams_a : Nat) (sz : Nat) (t_counted : Int) (t_total : Int) (t_numbers_f : Int → Int) (t_sums_f : Int → Int) (t_scatters_f : Int → Int) (bags_made : Int) (bags_homes_f : Int → Int) (bags_lost_f : Int → Int) (bags_grams_f : Int → Int) (z : Int) (kind : Int) (h_z1 : -2147483648 ≤ z) (h_z2 : z < 2147483648) (h_kind1 : -2147483648 ≤ kind) (h_kind2 : kind < 2147483648) (hz : 0 ≤ z ∧ z < 4) (hbm : 0 ≤ bags_made ∧ bags_made ≤ 12) (hho : ∀ j, 0 ≤ bags_homes_f j ∧ bags_homes_f j ≤ 3) (hlo : ∀ j, 0 ≤ bags_lost_f j ∧ bags_lost_f j ≤ 1) (hgr : ∀ j, 0 ≤ bags_grams_f j ∧ bags_grams_f j ≤ 10000) (hk : 0 ≤ kind ∧ kind < 3) : cq_v l yFg_gatherOne wsFg_gatherOne ({ frames := 2, cells := 0, slots := 0, locals := 43 }) D clAll [(cI, .int), (cJ, .long), (cZ, .boolean)] nwAll [.ref t_a, .int (iZ z), .ref bags_a, .int (iZ kind)] [(t_a, .inr (3, [.ref t_sizes_a, .ref t_numbers_a, .ref t_sums_a, .ref t_scatters_a, .ref t_terms_a, .int (iZ t_counted), .long (lZ t_total)])), (t_numbers_a, .inl (cJ, 4, .inr (.inl (aL t_numbers_f)))), (t_sums_a, .inl (cJ, 4, .inr (.inl (aL t_sums_f)))), (t_scatters_a, .inl (cJ, 4, .inr (.inl (aL t_scatters_f)))), (bags_a, .inr (0, [.ref bags_homes_a, .ref bags_dates_a, .ref bags_lost_a, .ref bags_grams_a, .int (iZ bags_made)])), (bags_homes_a, .inl (cI, 12, .inl (aI bags_homes_f))), (bags_lost_a, .inl (cZ, 12, .inl (aI bags_lost_f))), (bags_grams_a, .inl (cJ, 36, .inr (.inl (aL bags_grams_f))))] sz (S := (Int → Int) × (Int → Int) × (Int → Int)) (fun (u : (Int → Int) × (Int → Int) × (Int → Int)) => (u.1 = pu t_numbers_f z (sZ (gn bags_homes_f bags_lost_f z) bags_made)) ∧ (u.2.1 = pu t_sums_f z (sZ (gm_ bags_homes_f bags_lost_f bags_grams_f kind z) bags_made)) ∧ (u.2.2 = pu t_scatters_f z (sZ (gn bags_homes_f bags_lost_f z) bags_made * sZ (gq bags_homes_f bags_lost_f bags_grams_f kind z) bags_made - sZ (gm_ bags_homes_f bags_lost_f bags_grams_f kind z) bags_made * sZ (gm_ bags_homes_f bags_lost_f bags_grams_f kind z) bags_made))) (fun (u : (Int → Int) × (Int → Int) × (Int → Int)) => [(t_a, .inr (3, [.ref t_sizes_a, .ref t_numbers_a, .ref t_sums_a, .ref t_scatters_a, .ref t_terms_a, .int (iZ t_counted), .long (lZ t_total)])), (t_numbers_a, .inl (cJ, 4, .inr (.inl (aL u.1)))), (t_sums_a, .inl (cJ, 4, .inr (.inl (aL u.2.1)))), (t_scatters_a, .inl (cJ, 4, .inr (.inl (aL u.2.2)))), (bags_a, .inr (0, [.ref bags_homes_a, .ref bags_dates_a, .ref bags_lost_a, .ref bags_grams_a, .int (iZ bags_made)])), (bags_homes_a, .inl (cI, 12, .inl (aI bags_homes_f))), (bags_lost_a, .inl (cZ, 12, .inl (aI bags_lost_f))), (bags_grams_a, .inl (cJ, 36, .inr (.inl (aL bags_grams_f))))]) 0 0 := by
  refine cq_enter (cc := cFg_gatherOne) (maxL := 13) (ret := none) (by decide) rfl (Nat.le_of_ble_eq_true rfl) ?_
  intro p e s m below meth c A args Q H hAe hQ hsz hAt hA hP hK hD hS ls hl
  obtain ⟨hx, hb, hr, hml, hown, hts, hlocks, hin⟩ := hAt
  have hown : s.vm.findClass RFg = some m.cls := hown
  have hl : lv_has ls 13 [(0, .ref t_a), (1, .int (iZ z)), (2, .ref bags_a), (3, .int (iZ kind))] := hl
  refine lv_lconst (v := lZ 0) hx hb dFg_gatherOne_0 (by decide) ?_
  refine lv_lstore (lv' := [(4, .long (lZ 0)), (0, .ref t_a), (1, .int (iZ z)), (2, .ref bags_a), (3, .int (iZ kind))]) hx hb dFg_gatherOne_1 hl (by decide) rfl (fun ls hl => ?_)
  refine lv_lconst (v := lZ 0) hx hb dFg_gatherOne_3 (by decide) ?_
  refine lv_lstore (lv' := [(6, .long (lZ 0)), (4, .long (lZ 0)), (0, .ref t_a), (1, .int (iZ z)), (2, .ref bags_a), (3, .int (iZ kind))]) hx hb dFg_gatherOne_4 hl (by decide) rfl (fun ls hl => ?_)
  refine lv_lconst (v := lZ 0) hx hb dFg_gatherOne_6 (by decide) ?_
  refine lv_lstore (lv' := [(8, .long (lZ 0)), (6, .long (lZ 0)), (4, .long (lZ 0)), (0, .ref t_a), (1, .int (iZ z)), (2, .ref bags_a), (3, .int (iZ kind))]) hx hb dFg_gatherOne_7 hl (by decide) rfl (fun ls hl => ?_)
  refine lv_iconst (v := iZ 0) hx hb dFg_gatherOne_9 (by decide) ?_
  refine lv_istore (lv' := [(10, .int (iZ 0)), (8, .long (lZ 0)), (6, .long (lZ 0)), (4, .long (lZ 0)), (0, .ref t_a), (1, .int (iZ z)), (2, .ref bags_a), (3, .int (iZ kind))]) hx hb dFg_gatherOne_10 hl (by decide) rfl (fun ls hl => ?_)
  have loop_1 : ∀ (n_3 : Nat) (nu : Int) (su : Int) (sq : Int) (i : Int), (0 ≤ i) → (i ≤ bags_made) → (nu = sZ (gn bags_homes_f bags_lost_f z) i) → (su = sZ (gm_ bags_homes_f bags_lost_f bags_grams_f kind z) i) → (sq = sZ (gq bags_homes_f bags_lost_f bags_grams_f kind z) i) → (bags_made - i < (n_3 : Int)) → ∀ (H : Heap) (locs : List Loc), va_P D clAll [(t_a, .inr (3, [.ref t_sizes_a, .ref t_numbers_a, .ref t_sums_a, .ref t_scatters_a, .ref t_terms_a, .int (iZ t_counted), .long (lZ t_total)])), (t_numbers_a, .inl (cJ, 4, .inr (.inl (aL t_numbers_f)))), (t_sums_a, .inl (cJ, 4, .inr (.inl (aL t_sums_f)))), (t_scatters_a, .inl (cJ, 4, .inr (.inl (aL t_scatters_f)))), (bags_a, .inr (0, [.ref bags_homes_a, .ref bags_dates_a, .ref bags_lost_a, .ref bags_grams_a, .int (iZ bags_made)])), (bags_homes_a, .inl (cI, 12, .inl (aI bags_homes_f))), (bags_lost_a, .inl (cZ, 12, .inl (aI bags_lost_f))), (bags_grams_a, .inl (cJ, 36, .inr (.inl (aL bags_grams_f))))] H → va_D A [(t_a, .inr (3, [.ref t_sizes_a, .ref t_numbers_a, .ref t_sums_a, .ref t_scatters_a, .ref t_terms_a, .int (iZ t_counted), .long (lZ t_total)])), (t_numbers_a, .inl (cJ, 4, .inr (.inl (aL t_numbers_f)))), (t_sums_a, .inl (cJ, 4, .inr (.inl (aL t_sums_f)))), (t_scatters_a, .inl (cJ, 4, .inr (.inl (aL t_scatters_f)))), (bags_a, .inr (0, [.ref bags_homes_a, .ref bags_dates_a, .ref bags_lost_a, .ref bags_grams_a, .int (iZ bags_made)])), (bags_homes_a, .inl (cI, 12, .inl (aI bags_homes_f))), (bags_lost_a, .inl (cZ, 12, .inl (aI bags_lost_f))), (bags_grams_a, .inl (cJ, 36, .inr (.inl (aL bags_grams_f))))] → va_S A s.heap H locs → ∀ ls : Array Slot, lv_has ls 13 [(0, .ref t_a), (1, .int (iZ z)), (2, .ref bags_a), (3, .int (iZ kind)), (4, .long (lZ nu)), (6, .long (lZ su)), (8, .long (lZ sq)), (10, .int (iZ i))] → W p l e { frames := 2, cells := 0, slots := 0, locals := 43 } s m args below meth c H locs 0 0 Q (F0 m 12 ls []) := by
    intro n_3
    induction n_3 with
    | zero => intro nu su sq i hi hi2 hnu hsu hsq hm_4; exact absurd hm_4 (by omega)
    | succ n_3 ih_2 =>
      intro nu su sq i hi hi2 hnu hsu hsq hm_4 H locs hP hD hS ls hl
      refine lv_iload hx hb dFg_gatherOne_12 (lv_at hl 7 rfl) ?_
      refine lv_aload_n hx hb dFg_gatherOne_14 rfl (lv_at hl 2 rfl) ?_
      refine va_getN (D := D) (ci := 0) (v := .int (iZ bags_made)) (C := RBg) (T := TBg) (N := 5) (host := "StratumCounts") hx hb hts layBg hown hK.1 hP 4 rfl rfl 4 (by decide) (va_Nw.use rfl (hK.2.2 _ n10)) (fun _ h9 => h9) rfl dFg_gatherOne_15 ?_
      refine z_icmp_ge (tgt := 80) hx hb (by omega) (by omega) (by omega) (by omega) dFg_gatherOne_18 (by decide) (fun c_5 => ?_) (fun c_5 => ?_)
      ·
        refine lv_aload_n hx hb dFg_gatherOne_80 rfl (lv_at hl 0 rfl) ?_
        refine va_get (D := D) (ci := 3) (v := .ref t_numbers_a) (C := RFg) (T := TFg) (N := 7) hx hb hts layFg hown hK.1 hP 0 rfl rfl 1 (by decide) (hts _ (hm g150)) (fun _ h9 => h9) rfl dFg_gatherOne_81 ?_
        refine lv_iload_n hx hb dFg_gatherOne_84 rfl (lv_at hl 1 rfl) ?_
        refine lv_lload hx hb dFg_gatherOne_85 (lv_at hl 4 rfl) ?_
        refine z_last hx hb hK hP hD hS 1 1 rfl rfl (by omega) (by omega) (by decide) dFg_gatherOne_87 (fun H locs hP hD hS => ?_)
        have hP : va_P D clAll [(t_a, .inr (3, [.ref t_sizes_a, .ref t_numbers_a, .ref t_sums_a, .ref t_scatters_a, .ref t_terms_a, .int (iZ t_counted), .long (lZ t_total)])), (t_numbers_a, .inl (cJ, 4, .inr (.inl (aL (pu t_numbers_f z nu))))), (t_sums_a, .inl (cJ, 4, .inr (.inl (aL t_sums_f)))), (t_scatters_a, .inl (cJ, 4, .inr (.inl (aL t_scatters_f)))), (bags_a, .inr (0, [.ref bags_homes_a, .ref bags_dates_a, .ref bags_lost_a, .ref bags_grams_a, .int (iZ bags_made)])), (bags_homes_a, .inl (cI, 12, .inl (aI bags_homes_f))), (bags_lost_a, .inl (cZ, 12, .inl (aI bags_lost_f))), (bags_grams_a, .inl (cJ, 36, .inr (.inl (aL bags_grams_f))))] H := hP
        have hD : va_D A [(t_a, .inr (3, [.ref t_sizes_a, .ref t_numbers_a, .ref t_sums_a, .ref t_scatters_a, .ref t_terms_a, .int (iZ t_counted), .long (lZ t_total)])), (t_numbers_a, .inl (cJ, 4, .inr (.inl (aL (pu t_numbers_f z nu))))), (t_sums_a, .inl (cJ, 4, .inr (.inl (aL t_sums_f)))), (t_scatters_a, .inl (cJ, 4, .inr (.inl (aL t_scatters_f)))), (bags_a, .inr (0, [.ref bags_homes_a, .ref bags_dates_a, .ref bags_lost_a, .ref bags_grams_a, .int (iZ bags_made)])), (bags_homes_a, .inl (cI, 12, .inl (aI bags_homes_f))), (bags_lost_a, .inl (cZ, 12, .inl (aI bags_lost_f))), (bags_grams_a, .inl (cJ, 36, .inr (.inl (aL bags_grams_f))))] := hD
        refine lv_aload_n hx hb dFg_gatherOne_88 rfl (lv_at hl 0 rfl) ?_
        refine va_get (D := D) (ci := 3) (v := .ref t_sums_a) (C := RFg) (T := TFg) (N := 7) hx hb hts layFg hown hK.1 hP 0 rfl rfl 2 (by decide) (hts _ (hm g151)) (fun _ h9 => h9) rfl dFg_gatherOne_89 ?_
        refine lv_iload_n hx hb dFg_gatherOne_92 rfl (lv_at hl 1 rfl) ?_
        refine lv_lload hx hb dFg_gatherOne_93 (lv_at hl 5 rfl) ?_
        refine z_last hx hb hK hP hD hS 2 1 rfl rfl (by omega) (by omega) (by decide) dFg_gatherOne_95 (fun H locs hP hD hS => ?_)
        have hP : va_P D clAll [(t_a, .inr (3, [.ref t_sizes_a, .ref t_numbers_a, .ref t_sums_a, .ref t_scatters_a, .ref t_terms_a, .int (iZ t_counted), .long (lZ t_total)])), (t_numbers_a, .inl (cJ, 4, .inr (.inl (aL (pu t_numbers_f z nu))))), (t_sums_a, .inl (cJ, 4, .inr (.inl (aL (pu t_sums_f z su))))), (t_scatters_a, .inl (cJ, 4, .inr (.inl (aL t_scatters_f)))), (bags_a, .inr (0, [.ref bags_homes_a, .ref bags_dates_a, .ref bags_lost_a, .ref bags_grams_a, .int (iZ bags_made)])), (bags_homes_a, .inl (cI, 12, .inl (aI bags_homes_f))), (bags_lost_a, .inl (cZ, 12, .inl (aI bags_lost_f))), (bags_grams_a, .inl (cJ, 36, .inr (.inl (aL bags_grams_f))))] H := hP
        have hD : va_D A [(t_a, .inr (3, [.ref t_sizes_a, .ref t_numbers_a, .ref t_sums_a, .ref t_scatters_a, .ref t_terms_a, .int (iZ t_counted), .long (lZ t_total)])), (t_numbers_a, .inl (cJ, 4, .inr (.inl (aL (pu t_numbers_f z nu))))), (t_sums_a, .inl (cJ, 4, .inr (.inl (aL (pu t_sums_f z su))))), (t_scatters_a, .inl (cJ, 4, .inr (.inl (aL t_scatters_f)))), (bags_a, .inr (0, [.ref bags_homes_a, .ref bags_dates_a, .ref bags_lost_a, .ref bags_grams_a, .int (iZ bags_made)])), (bags_homes_a, .inl (cI, 12, .inl (aI bags_homes_f))), (bags_lost_a, .inl (cZ, 12, .inl (aI bags_lost_f))), (bags_grams_a, .inl (cJ, 36, .inr (.inl (aL bags_grams_f))))] := hD
        refine lv_aload_n hx hb dFg_gatherOne_96 rfl (lv_at hl 0 rfl) ?_
        refine va_get (D := D) (ci := 3) (v := .ref t_scatters_a) (C := RFg) (T := TFg) (N := 7) hx hb hts layFg hown hK.1 hP 0 rfl rfl 3 (by decide) (hts _ (hm g152)) (fun _ h9 => h9) rfl dFg_gatherOne_97 ?_
        refine lv_iload_n hx hb dFg_gatherOne_100 rfl (lv_at hl 1 rfl) ?_
        refine lv_lload hx hb dFg_gatherOne_101 (lv_at hl 4 rfl) ?_
        refine lv_lload hx hb dFg_gatherOne_103 (lv_at hl 6 rfl) ?_
        refine z_lmul hx hb dFg_gatherOne_105 ?_
        refine lv_lload hx hb dFg_gatherOne_106 (lv_at hl 5 rfl) ?_
        refine lv_lload hx hb dFg_gatherOne_108 (lv_at hl 5 rfl) ?_
        refine z_lmul hx hb dFg_gatherOne_110 ?_
        refine z_lsub hx hb dFg_gatherOne_111 ?_
        refine z_last hx hb hK hP hD hS 3 1 rfl rfl (by omega) (by omega) (by decide) dFg_gatherOne_112 (fun H locs hP hD hS => ?_)
        have hP : va_P D clAll [(t_a, .inr (3, [.ref t_sizes_a, .ref t_numbers_a, .ref t_sums_a, .ref t_scatters_a, .ref t_terms_a, .int (iZ t_counted), .long (lZ t_total)])), (t_numbers_a, .inl (cJ, 4, .inr (.inl (aL (pu t_numbers_f z nu))))), (t_sums_a, .inl (cJ, 4, .inr (.inl (aL (pu t_sums_f z su))))), (t_scatters_a, .inl (cJ, 4, .inr (.inl (aL (pu t_scatters_f z ((nu * sq) - (su * su))))))), (bags_a, .inr (0, [.ref bags_homes_a, .ref bags_dates_a, .ref bags_lost_a, .ref bags_grams_a, .int (iZ bags_made)])), (bags_homes_a, .inl (cI, 12, .inl (aI bags_homes_f))), (bags_lost_a, .inl (cZ, 12, .inl (aI bags_lost_f))), (bags_grams_a, .inl (cJ, 36, .inr (.inl (aL bags_grams_f))))] H := hP
        have hD : va_D A [(t_a, .inr (3, [.ref t_sizes_a, .ref t_numbers_a, .ref t_sums_a, .ref t_scatters_a, .ref t_terms_a, .int (iZ t_counted), .long (lZ t_total)])), (t_numbers_a, .inl (cJ, 4, .inr (.inl (aL (pu t_numbers_f z nu))))), (t_sums_a, .inl (cJ, 4, .inr (.inl (aL (pu t_sums_f z su))))), (t_scatters_a, .inl (cJ, 4, .inr (.inl (aL (pu t_scatters_f z ((nu * sq) - (su * su))))))), (bags_a, .inr (0, [.ref bags_homes_a, .ref bags_dates_a, .ref bags_lost_a, .ref bags_grams_a, .int (iZ bags_made)])), (bags_homes_a, .inl (cI, 12, .inl (aI bags_homes_f))), (bags_lost_a, .inl (cZ, 12, .inl (aI bags_lost_f))), (bags_grams_a, .inl (cJ, 36, .inr (.inl (aL bags_grams_f))))] := hD
        exact cq_vret hx hb hr hlocks hAe hQ ((pu t_numbers_f z nu), (pu t_sums_f z su), (pu t_scatters_f z ((nu * sq) - (su * su)))) ⟨(by (try dsimp only) <;> (exact gt_n hnu (by omega))), (by (try dsimp only) <;> (exact gt_n hsu (by omega))), (by (try dsimp only) <;> (exact gt_s hnu hsq hsu (by omega)))⟩ (hP.sub [0, 1, 2, 3, 4, 5, 6, 7] rfl) (hD.sub [0, 1, 2, 3, 4, 5, 6, 7] (by decide) rfl) hS (by decide) (by decide) dFg_gatherOne_113
      ·
        refine lv_aload_n hx hb dFg_gatherOne_21 rfl (lv_at hl 2 rfl) ?_
        refine va_getN (D := D) (ci := 0) (v := .ref bags_homes_a) (C := RBg) (T := TBg) (N := 5) (host := "StratumCounts") hx hb hts layBg hown hK.1 hP 4 rfl rfl 0 (by decide) (va_Nw.use rfl (hK.2.2 _ n5)) (fun _ h9 => h9) rfl dFg_gatherOne_22 ?_
        refine lv_iload hx hb dFg_gatherOne_25 (lv_at hl 7 rfl) ?_
        refine z_iald hx hb hK hP 5 0 rfl rfl (by omega) (by omega) (by decide) dFg_gatherOne_27 ?_
        have f_6 := hho i
        refine lv_iload_n hx hb dFg_gatherOne_28 rfl (lv_at hl 1 rfl) ?_
        refine z_icmp_ne (tgt := 74) hx hb (by omega) (by omega) (by omega) (by omega) dFg_gatherOne_29 (by decide) (fun c_7 => ?_) (fun c_7 => ?_)
        ·
          refine lv_iinc (v := iZ (i + 1)) (lv' := [(10, .int (iZ (i + 1))), (0, .ref t_a), (1, .int (iZ z)), (2, .ref bags_a), (3, .int (iZ kind)), (4, .long (lZ nu)), (6, .long (lZ su)), (8, .long (lZ sq))]) hx hb dFg_gatherOne_74 hl (k := 7) rfl (iZ_add i 1) (by decide) rfl (fun ls hl => ?_)
          refine lv_goto (tgt := 12) hx hb dFg_gatherOne_77 (by decide) ?_
          exact ih_2  nu su sq (i + 1) (by omega) (by omega) (by first | exact gn_1 hnu hi (by assumption) (by assumption) | exact gn_0 hnu hi (by first | exact Or.inl (by assumption) | exact Or.inr (by assumption))) (by first | exact gm_1 hsu hi (by assumption) (by assumption) | exact gm_0 hsu hi (by first | exact Or.inl (by assumption) | exact Or.inr (by assumption))) (by first | exact gq_1 hsq hi (by assumption) (by assumption) | exact gq_0 hsq hi (by first | exact Or.inl (by assumption) | exact Or.inr (by assumption))) (by omega) _ _ (hP.sub [0, 1, 2, 3, 4, 5, 6, 7] rfl) (hD.sub [0, 1, 2, 3, 4, 5, 6, 7] (by decide) rfl) hS ls (lv_sub hl [1, 2, 3, 4, 5, 6, 7, 0] rfl)
        ·
          refine lv_aload_n hx hb dFg_gatherOne_32 rfl (lv_at hl 2 rfl) ?_
          refine va_getN (D := D) (ci := 0) (v := .ref bags_lost_a) (C := RBg) (T := TBg) (N := 5) (host := "StratumCounts") hx hb hts layBg hown hK.1 hP 4 rfl rfl 2 (by decide) (va_Nw.use rfl (hK.2.2 _ n8)) (fun _ h9 => h9) rfl dFg_gatherOne_33 ?_
          refine lv_iload hx hb dFg_gatherOne_36 (lv_at hl 7 rfl) ?_
          refine z_zald hx hb hK hP 6 2 rfl rfl (by omega) (by omega) (by decide) dFg_gatherOne_38 ?_
          have f_8 := hlo i
          refine z_if_ne (tgt := 74) hx hb (by omega) (by omega) dFg_gatherOne_39 (by decide) (fun c_9 => ?_) (fun c_9 => ?_)
          ·
            refine lv_iinc (v := iZ (i + 1)) (lv' := [(10, .int (iZ (i + 1))), (0, .ref t_a), (1, .int (iZ z)), (2, .ref bags_a), (3, .int (iZ kind)), (4, .long (lZ nu)), (6, .long (lZ su)), (8, .long (lZ sq))]) hx hb dFg_gatherOne_74 hl (k := 7) rfl (iZ_add i 1) (by decide) rfl (fun ls hl => ?_)
            refine lv_goto (tgt := 12) hx hb dFg_gatherOne_77 (by decide) ?_
            exact ih_2  nu su sq (i + 1) (by omega) (by omega) (by first | exact gn_1 hnu hi (by assumption) (by assumption) | exact gn_0 hnu hi (by first | exact Or.inl (by assumption) | exact Or.inr (by assumption))) (by first | exact gm_1 hsu hi (by assumption) (by assumption) | exact gm_0 hsu hi (by first | exact Or.inl (by assumption) | exact Or.inr (by assumption))) (by first | exact gq_1 hsq hi (by assumption) (by assumption) | exact gq_0 hsq hi (by first | exact Or.inl (by assumption) | exact Or.inr (by assumption))) (by omega) _ _ (hP.sub [0, 1, 2, 3, 4, 5, 6, 7] rfl) (hD.sub [0, 1, 2, 3, 4, 5, 6, 7] (by decide) rfl) hS ls (lv_sub hl [1, 2, 3, 4, 5, 6, 7, 0] rfl)
          ·
            refine lv_aload_n hx hb dFg_gatherOne_42 rfl (lv_at hl 2 rfl) ?_
            refine lv_iload hx hb dFg_gatherOne_43 (lv_at hl 7 rfl) ?_
            refine lv_iload_n hx hb dFg_gatherOne_45 rfl (lv_at hl 3 rfl) ?_
            refine cq_calll (wr := [(t_a, .inr (3, [.ref t_sizes_a, .ref t_numbers_a, .ref t_sums_a, .ref t_scatters_a, .ref t_terms_a, .int (iZ t_counted), .long (lZ t_total)])), (t_numbers_a, .inl (cJ, 4, .inr (.inl (aL t_numbers_f)))), (t_sums_a, .inl (cJ, 4, .inr (.inl (aL t_sums_f)))), (t_scatters_a, .inl (cJ, 4, .inr (.inl (aL t_scatters_f)))), (bags_homes_a, .inl (cI, 12, .inl (aI bags_homes_f))), (bags_lost_a, .inl (cZ, 12, .inl (aI bags_lost_f)))]) (va_runVN (C := RBg) (As := [.int (iZ i), .int (iZ kind)]) (rest := []) ⟨hx, hb, hml, hown, hts⟩ (k_Bags_gramsOf l D cI cJ cZ bags_a bags_homes_a bags_dates_a bags_lost_a bags_grams_a H.size bags_made bags_grams_f i kind (by omega) (by omega) (by omega) (by omega) (by first | assumption | omega) (by first | assumption | omega) (by first | assumption | omega) (by first | assumption | omega)) ⟨(va_cnB 2 hts (gAll cmBg_gramsOf) rfl rfl rfl (hK.2.2 _ n34) (hts _ (hm g60)) (by decide +kernel) ⟨Nat.le_of_ble_eq_true rfl, Nat.le_of_ble_eq_true rfl⟩), (hts _ (hm g303)), (hts _ (hm g15))⟩ (cq_preV (va_recv hK.1 hP (ci := 0) (q0 := 4) rfl rfl) (cq_preS hK hP hD [4, 7] (by decide) rfl)) rfl rfl hl.1 rfl (lv_room (Nat.le_of_ble_eq_true rfl)) dFg_gatherOne_46 ⟨by decide, by decide⟩) hP hD hS hA [4, 7] [0, 1, 2, 3, 5, 6] rfl rfl (by decide) (by decide) (fun r u H locs hw_10 hP hD hS => ?_)
            obtain ⟨o_11, rfl⟩ : ∃ z, z = u := ⟨_, rfl⟩
            try dsimp only at hw_10
            obtain ⟨rfl, rfl⟩ := hw_10
            have hP : va_P D clAll [(t_a, .inr (3, [.ref t_sizes_a, .ref t_numbers_a, .ref t_sums_a, .ref t_scatters_a, .ref t_terms_a, .int (iZ t_counted), .long (lZ t_total)])), (t_numbers_a, .inl (cJ, 4, .inr (.inl (aL t_numbers_f)))), (t_sums_a, .inl (cJ, 4, .inr (.inl (aL t_sums_f)))), (t_scatters_a, .inl (cJ, 4, .inr (.inl (aL t_scatters_f)))), (bags_homes_a, .inl (cI, 12, .inl (aI bags_homes_f))), (bags_lost_a, .inl (cZ, 12, .inl (aI bags_lost_f))), (bags_a, .inr (0, [.ref bags_homes_a, .ref bags_dates_a, .ref bags_lost_a, .ref bags_grams_a, .int (iZ bags_made)])), (bags_grams_a, .inl (cJ, 36, .inr (.inl (aL bags_grams_f))))] H := hP
            have hD : va_D A [(t_a, .inr (3, [.ref t_sizes_a, .ref t_numbers_a, .ref t_sums_a, .ref t_scatters_a, .ref t_terms_a, .int (iZ t_counted), .long (lZ t_total)])), (t_numbers_a, .inl (cJ, 4, .inr (.inl (aL t_numbers_f)))), (t_sums_a, .inl (cJ, 4, .inr (.inl (aL t_sums_f)))), (t_scatters_a, .inl (cJ, 4, .inr (.inl (aL t_scatters_f)))), (bags_homes_a, .inl (cI, 12, .inl (aI bags_homes_f))), (bags_lost_a, .inl (cZ, 12, .inl (aI bags_lost_f))), (bags_a, .inr (0, [.ref bags_homes_a, .ref bags_dates_a, .ref bags_lost_a, .ref bags_grams_a, .int (iZ bags_made)])), (bags_grams_a, .inl (cJ, 36, .inr (.inl (aL bags_grams_f))))] := hD
            refine lv_lstore (lv' := [(11, .long (lZ (bags_grams_f (i * 3 + kind)))), (0, .ref t_a), (1, .int (iZ z)), (2, .ref bags_a), (3, .int (iZ kind)), (4, .long (lZ nu)), (6, .long (lZ su)), (8, .long (lZ sq)), (10, .int (iZ i))]) hx hb dFg_gatherOne_49 hl (by decide) rfl (fun ls hl => ?_)
            refine lv_lload hx hb dFg_gatherOne_51 (lv_at hl 5 rfl) ?_
            refine lv_lconst (v := lZ 1) hx hb dFg_gatherOne_53 (by decide) ?_
            refine z_ladd hx hb dFg_gatherOne_54 ?_
            refine lv_lstore (lv' := [(4, .long (lZ (nu + 1))), (11, .long (lZ (bags_grams_f (i * 3 + kind)))), (0, .ref t_a), (1, .int (iZ z)), (2, .ref bags_a), (3, .int (iZ kind)), (6, .long (lZ su)), (8, .long (lZ sq)), (10, .int (iZ i))]) hx hb dFg_gatherOne_55 hl (by decide) rfl (fun ls hl => ?_)
            refine lv_lload hx hb dFg_gatherOne_57 (lv_at hl 6 rfl) ?_
            refine lv_lload hx hb dFg_gatherOne_59 (lv_at hl 1 rfl) ?_
            refine z_ladd hx hb dFg_gatherOne_61 ?_
            refine lv_lstore (lv' := [(6, .long (lZ (su + (bags_grams_f (i * 3 + kind))))), (4, .long (lZ (nu + 1))), (11, .long (lZ (bags_grams_f (i * 3 + kind)))), (0, .ref t_a), (1, .int (iZ z)), (2, .ref bags_a), (3, .int (iZ kind)), (8, .long (lZ sq)), (10, .int (iZ i))]) hx hb dFg_gatherOne_62 hl (by decide) rfl (fun ls hl => ?_)
            refine lv_lload hx hb dFg_gatherOne_64 (lv_at hl 7 rfl) ?_
            refine lv_lload hx hb dFg_gatherOne_66 (lv_at hl 2 rfl) ?_
            refine lv_lload hx hb dFg_gatherOne_68 (lv_at hl 2 rfl) ?_
            refine z_lmul hx hb dFg_gatherOne_70 ?_
            refine z_ladd hx hb dFg_gatherOne_71 ?_
            refine lv_lstore (lv' := [(8, .long (lZ (sq + ((bags_grams_f (i * 3 + kind)) * (bags_grams_f (i * 3 + kind)))))), (6, .long (lZ (su + (bags_grams_f (i * 3 + kind))))), (4, .long (lZ (nu + 1))), (11, .long (lZ (bags_grams_f (i * 3 + kind)))), (0, .ref t_a), (1, .int (iZ z)), (2, .ref bags_a), (3, .int (iZ kind)), (10, .int (iZ i))]) hx hb dFg_gatherOne_72 hl (by decide) rfl (fun ls hl => ?_)
            refine lv_iinc (v := iZ (i + 1)) (lv' := [(10, .int (iZ (i + 1))), (8, .long (lZ (sq + ((bags_grams_f (i * 3 + kind)) * (bags_grams_f (i * 3 + kind)))))), (6, .long (lZ (su + (bags_grams_f (i * 3 + kind))))), (4, .long (lZ (nu + 1))), (11, .long (lZ (bags_grams_f (i * 3 + kind)))), (0, .ref t_a), (1, .int (iZ z)), (2, .ref bags_a), (3, .int (iZ kind))]) hx hb dFg_gatherOne_74 hl (k := 8) rfl (iZ_add i 1) (by decide) rfl (fun ls hl => ?_)
            refine lv_goto (tgt := 12) hx hb dFg_gatherOne_77 (by decide) ?_
            exact ih_2  (nu + 1) (su + (bags_grams_f (i * 3 + kind))) (sq + ((bags_grams_f (i * 3 + kind)) * (bags_grams_f (i * 3 + kind)))) (i + 1) (by omega) (by omega) (by first | exact gn_1 hnu hi (by assumption) (by assumption) | exact gn_0 hnu hi (by first | exact Or.inl (by assumption) | exact Or.inr (by assumption))) (by first | exact gm_1 hsu hi (by assumption) (by assumption) | exact gm_0 hsu hi (by first | exact Or.inl (by assumption) | exact Or.inr (by assumption))) (by first | exact gq_1 hsq hi (by assumption) (by assumption) | exact gq_0 hsq hi (by first | exact Or.inl (by assumption) | exact Or.inr (by assumption))) (by omega) _ _ (hP.sub [0, 1, 2, 3, 6, 4, 5, 7] rfl) (hD.sub [0, 1, 2, 3, 6, 4, 5, 7] (by decide) rfl) hS ls (lv_sub hl [5, 6, 7, 8, 3, 2, 1, 0] rfl)
  exact loop_1 ((bags_made - 0 : Int).toNat + 1) 0 0 0 0 (by omega) (by omega) (by rfl) (by rfl) (by rfl) (by omega) _ _ (hP.sub [0, 1, 2, 3, 4, 5, 6, 7] rfl) (hD.sub [0, 1, 2, 3, 4, 5, 6, 7] (by decide) rfl) hS ls (lv_sub hl [4, 5, 6, 7, 3, 2, 1, 0] rfl)
set_option maxHeartbeats 4000000 in
set_option maxRecDepth 100000 in
theorem k_Figures_gather (l : Launch) (D : va_G) (cI cJ cZ : ClassId) (t_a strata_a bags_a t_sizes_a t_numbers_a t_sums_a t_scatters_a t_terms_a strata_sizes_a strata_costs_a strata_gone_a bags_homes_a bags_dates_a bags_lost_a bags_grams_a : Nat) (sz : Nat) (t_counted : Int) (t_total : Int) (t_sizes_f : Int → Int) (t_numbers_f : Int → Int) (t_sums_f : Int → Int) (t_scatters_f : Int → Int) (strata_made : Int) (strata_sizes_f : Int → Int) (bags_made : Int) (bags_homes_f : Int → Int) (bags_lost_f : Int → Int) (bags_grams_f : Int → Int) (kind : Int) (h_kind1 : -2147483648 ≤ kind) (h_kind2 : kind < 2147483648) (hss : ∀ j, 0 ≤ strata_sizes_f j ∧ strata_sizes_f j ≤ 100) (hbm : 0 ≤ bags_made ∧ bags_made ≤ 12) (hho : ∀ j, 0 ≤ bags_homes_f j ∧ bags_homes_f j ≤ 3) (hlo : ∀ j, 0 ≤ bags_lost_f j ∧ bags_lost_f j ≤ 1) (hgr : ∀ j, 0 ≤ bags_grams_f j ∧ bags_grams_f j ≤ 10000) (hk : 0 ≤ kind ∧ kind < 3) : cq_v l yFg_gather wsFg_gather ({ frames := 3, cells := 0, slots := 0, locals := 75 }) D clAll [(cI, .int), (cJ, .long), (cZ, .boolean)] nwAll [.ref t_a, .ref strata_a, .ref bags_a, .int (iZ kind)] [(t_a, .inr (3, [.ref t_sizes_a, .ref t_numbers_a, .ref t_sums_a, .ref t_scatters_a, .ref t_terms_a, .int (iZ t_counted), .long (lZ t_total)])), (t_sizes_a, .inl (cJ, 4, .inr (.inl (aL t_sizes_f)))), (t_numbers_a, .inl (cJ, 4, .inr (.inl (aL t_numbers_f)))), (t_sums_a, .inl (cJ, 4, .inr (.inl (aL t_sums_f)))), (t_scatters_a, .inl (cJ, 4, .inr (.inl (aL t_scatters_f)))), (strata_a, .inr (6, [.ref strata_sizes_a, .ref strata_costs_a, .ref strata_gone_a, .int (iZ strata_made)])), (strata_sizes_a, .inl (cI, 4, .inl (aI strata_sizes_f))), (bags_a, .inr (0, [.ref bags_homes_a, .ref bags_dates_a, .ref bags_lost_a, .ref bags_grams_a, .int (iZ bags_made)])), (bags_homes_a, .inl (cI, 12, .inl (aI bags_homes_f))), (bags_lost_a, .inl (cZ, 12, .inl (aI bags_lost_f))), (bags_grams_a, .inl (cJ, 36, .inr (.inl (aL bags_grams_f))))] sz (S := (Int → Int) × (Int → Int) × (Int → Int) × (Int → Int) × Int × Int) (fun (u : (Int → Int) × (Int → Int) × (Int → Int) × (Int → Int) × Int × Int) => (∀ j, 0 ≤ j → j < 4 → u.1 j = strata_sizes_f j) ∧ (∀ j, 0 ≤ j → j < 4 → u.2.1 j = sZ (gn bags_homes_f bags_lost_f j) bags_made) ∧ (∀ j, 0 ≤ j → j < 4 → u.2.2.1 j = sZ (gm_ bags_homes_f bags_lost_f bags_grams_f kind j) bags_made) ∧ (∀ j, 0 ≤ j → j < 4 → u.2.2.2.1 j = sZ (gn bags_homes_f bags_lost_f j) bags_made * sZ (gq bags_homes_f bags_lost_f bags_grams_f kind j) bags_made - sZ (gm_ bags_homes_f bags_lost_f bags_grams_f kind j) bags_made * sZ (gm_ bags_homes_f bags_lost_f bags_grams_f kind j) bags_made) ∧ (u.2.2.2.2.1 = sZ (gc bags_homes_f bags_lost_f bags_made) 4) ∧ (u.2.2.2.2.2 = sZ (gt bags_homes_f bags_lost_f bags_made strata_sizes_f) 4)) (fun (u : (Int → Int) × (Int → Int) × (Int → Int) × (Int → Int) × Int × Int) => [(t_a, .inr (3, [.ref t_sizes_a, .ref t_numbers_a, .ref t_sums_a, .ref t_scatters_a, .ref t_terms_a, .int (iZ u.2.2.2.2.1), .long (lZ u.2.2.2.2.2)])), (t_sizes_a, .inl (cJ, 4, .inr (.inl (aL u.1)))), (t_numbers_a, .inl (cJ, 4, .inr (.inl (aL u.2.1)))), (t_sums_a, .inl (cJ, 4, .inr (.inl (aL u.2.2.1)))), (t_scatters_a, .inl (cJ, 4, .inr (.inl (aL u.2.2.2.1)))), (strata_a, .inr (6, [.ref strata_sizes_a, .ref strata_costs_a, .ref strata_gone_a, .int (iZ strata_made)])), (strata_sizes_a, .inl (cI, 4, .inl (aI strata_sizes_f))), (bags_a, .inr (0, [.ref bags_homes_a, .ref bags_dates_a, .ref bags_lost_a, .ref bags_grams_a, .int (iZ bags_made)])), (bags_homes_a, .inl (cI, 12, .inl (aI bags_homes_f))), (bags_lost_a, .inl (cZ, 12, .inl (aI bags_lost_f))), (bags_grams_a, .inl (cJ, 36, .inr (.inl (aL bags_grams_f))))]) 0 0 := by
  refine cq_enter (cc := cFg_gather) (maxL := 5) (ret := none) (by decide) rfl (Nat.le_of_ble_eq_true rfl) ?_
  intro p e s m below meth c A args Q H hAe hQ hsz hAt hA hP hK hD hS ls hl
  obtain ⟨hx, hb, hr, hml, hown, hts, hlocks, hin⟩ := hAt
  have hown : s.vm.findClass RFg = some m.cls := hown
  have hl : lv_has ls 5 [(0, .ref t_a), (1, .ref strata_a), (2, .ref bags_a), (3, .int (iZ kind))] := hl
  refine lv_aload_n hx hb dFg_gather_0 rfl (lv_at hl 0 rfl) ?_
  refine lv_iconst (v := iZ 0) hx hb dFg_gather_1 (by decide) ?_
  refine va_put (D := D) (ci := 3) (v := .int (iZ 0)) (ty := .int) (C := RFg) (T := TFg) (N := 7) hx hb hts layFg tyFg tyFg_ok nmFg hown hK.1 hP hD hS 0 rfl rfl 5 (by decide) (hts _ (hm g154)) (fun _ h9 => h9) rfl (by decide +kernel) rfl rfl (Nat.le_of_ble_eq_true rfl) dFg_gather_2 (fun H locs hP hD hS => ?_)
  have hP : va_P D clAll [(t_a, .inr (3, [.ref t_sizes_a, .ref t_numbers_a, .ref t_sums_a, .ref t_scatters_a, .ref t_terms_a, .int (iZ 0), .long (lZ t_total)])), (t_sizes_a, .inl (cJ, 4, .inr (.inl (aL t_sizes_f)))), (t_numbers_a, .inl (cJ, 4, .inr (.inl (aL t_numbers_f)))), (t_sums_a, .inl (cJ, 4, .inr (.inl (aL t_sums_f)))), (t_scatters_a, .inl (cJ, 4, .inr (.inl (aL t_scatters_f)))), (strata_a, .inr (6, [.ref strata_sizes_a, .ref strata_costs_a, .ref strata_gone_a, .int (iZ strata_made)])), (strata_sizes_a, .inl (cI, 4, .inl (aI strata_sizes_f))), (bags_a, .inr (0, [.ref bags_homes_a, .ref bags_dates_a, .ref bags_lost_a, .ref bags_grams_a, .int (iZ bags_made)])), (bags_homes_a, .inl (cI, 12, .inl (aI bags_homes_f))), (bags_lost_a, .inl (cZ, 12, .inl (aI bags_lost_f))), (bags_grams_a, .inl (cJ, 36, .inr (.inl (aL bags_grams_f))))] H := hP
  have hD : va_D A [(t_a, .inr (3, [.ref t_sizes_a, .ref t_numbers_a, .ref t_sums_a, .ref t_scatters_a, .ref t_terms_a, .int (iZ 0), .long (lZ t_total)])), (t_sizes_a, .inl (cJ, 4, .inr (.inl (aL t_sizes_f)))), (t_numbers_a, .inl (cJ, 4, .inr (.inl (aL t_numbers_f)))), (t_sums_a, .inl (cJ, 4, .inr (.inl (aL t_sums_f)))), (t_scatters_a, .inl (cJ, 4, .inr (.inl (aL t_scatters_f)))), (strata_a, .inr (6, [.ref strata_sizes_a, .ref strata_costs_a, .ref strata_gone_a, .int (iZ strata_made)])), (strata_sizes_a, .inl (cI, 4, .inl (aI strata_sizes_f))), (bags_a, .inr (0, [.ref bags_homes_a, .ref bags_dates_a, .ref bags_lost_a, .ref bags_grams_a, .int (iZ bags_made)])), (bags_homes_a, .inl (cI, 12, .inl (aI bags_homes_f))), (bags_lost_a, .inl (cZ, 12, .inl (aI bags_lost_f))), (bags_grams_a, .inl (cJ, 36, .inr (.inl (aL bags_grams_f))))] := hD
  refine lv_aload_n hx hb dFg_gather_5 rfl (lv_at hl 0 rfl) ?_
  refine lv_lconst (v := lZ 0) hx hb dFg_gather_6 (by decide) ?_
  refine va_put (D := D) (ci := 3) (v := .long (lZ 0)) (ty := .long) (C := RFg) (T := TFg) (N := 7) hx hb hts layFg tyFg tyFg_ok nmFg hown hK.1 hP hD hS 0 rfl rfl 6 (by decide) (hts _ (hm g155)) (fun _ h9 => h9) rfl (by decide +kernel) rfl rfl (Nat.le_of_ble_eq_true rfl) dFg_gather_7 (fun H locs hP hD hS => ?_)
  have hP : va_P D clAll [(t_a, .inr (3, [.ref t_sizes_a, .ref t_numbers_a, .ref t_sums_a, .ref t_scatters_a, .ref t_terms_a, .int (iZ 0), .long (lZ 0)])), (t_sizes_a, .inl (cJ, 4, .inr (.inl (aL t_sizes_f)))), (t_numbers_a, .inl (cJ, 4, .inr (.inl (aL t_numbers_f)))), (t_sums_a, .inl (cJ, 4, .inr (.inl (aL t_sums_f)))), (t_scatters_a, .inl (cJ, 4, .inr (.inl (aL t_scatters_f)))), (strata_a, .inr (6, [.ref strata_sizes_a, .ref strata_costs_a, .ref strata_gone_a, .int (iZ strata_made)])), (strata_sizes_a, .inl (cI, 4, .inl (aI strata_sizes_f))), (bags_a, .inr (0, [.ref bags_homes_a, .ref bags_dates_a, .ref bags_lost_a, .ref bags_grams_a, .int (iZ bags_made)])), (bags_homes_a, .inl (cI, 12, .inl (aI bags_homes_f))), (bags_lost_a, .inl (cZ, 12, .inl (aI bags_lost_f))), (bags_grams_a, .inl (cJ, 36, .inr (.inl (aL bags_grams_f))))] H := hP
  have hD : va_D A [(t_a, .inr (3, [.ref t_sizes_a, .ref t_numbers_a, .ref t_sums_a, .ref t_scatters_a, .ref t_terms_a, .int (iZ 0), .long (lZ 0)])), (t_sizes_a, .inl (cJ, 4, .inr (.inl (aL t_sizes_f)))), (t_numbers_a, .inl (cJ, 4, .inr (.inl (aL t_numbers_f)))), (t_sums_a, .inl (cJ, 4, .inr (.inl (aL t_sums_f)))), (t_scatters_a, .inl (cJ, 4, .inr (.inl (aL t_scatters_f)))), (strata_a, .inr (6, [.ref strata_sizes_a, .ref strata_costs_a, .ref strata_gone_a, .int (iZ strata_made)])), (strata_sizes_a, .inl (cI, 4, .inl (aI strata_sizes_f))), (bags_a, .inr (0, [.ref bags_homes_a, .ref bags_dates_a, .ref bags_lost_a, .ref bags_grams_a, .int (iZ bags_made)])), (bags_homes_a, .inl (cI, 12, .inl (aI bags_homes_f))), (bags_lost_a, .inl (cZ, 12, .inl (aI bags_lost_f))), (bags_grams_a, .inl (cJ, 36, .inr (.inl (aL bags_grams_f))))] := hD
  refine lv_iconst (v := iZ 0) hx hb dFg_gather_10 (by decide) ?_
  refine lv_istore (lv' := [(4, .int (iZ 0)), (0, .ref t_a), (1, .ref strata_a), (2, .ref bags_a), (3, .int (iZ kind))]) hx hb dFg_gather_11 hl (by decide) rfl (fun ls hl => ?_)
  have loop_1 : ∀ (n_3 : Nat) (i : Int) (sizes : Int → Int) (numbers : Int → Int) (sums : Int → Int) (scatters : Int → Int) (counted : Int) (total : Int), (0 ≤ i) → (i ≤ 4) → (∀ j, 0 ≤ j → j < i → sizes j = strata_sizes_f j) → (∀ j, 0 ≤ j → j < i → numbers j = sZ (gn bags_homes_f bags_lost_f j) bags_made) → (∀ j, 0 ≤ j → j < i → sums j = sZ (gm_ bags_homes_f bags_lost_f bags_grams_f kind j) bags_made) → (∀ j, 0 ≤ j → j < i → scatters j = sZ (gn bags_homes_f bags_lost_f j) bags_made * sZ (gq bags_homes_f bags_lost_f bags_grams_f kind j) bags_made - sZ (gm_ bags_homes_f bags_lost_f bags_grams_f kind j) bags_made * sZ (gm_ bags_homes_f bags_lost_f bags_grams_f kind j) bags_made) → (counted = sZ (gc bags_homes_f bags_lost_f bags_made) i) → (0 ≤ counted ∧ counted ≤ i) → (total = sZ (gt bags_homes_f bags_lost_f bags_made strata_sizes_f) i) → (4 - i < (n_3 : Int)) → ∀ (H : Heap) (locs : List Loc), va_P D clAll [(t_a, .inr (3, [.ref t_sizes_a, .ref t_numbers_a, .ref t_sums_a, .ref t_scatters_a, .ref t_terms_a, .int (iZ counted), .long (lZ total)])), (t_sizes_a, .inl (cJ, 4, .inr (.inl (aL sizes)))), (t_numbers_a, .inl (cJ, 4, .inr (.inl (aL numbers)))), (t_sums_a, .inl (cJ, 4, .inr (.inl (aL sums)))), (t_scatters_a, .inl (cJ, 4, .inr (.inl (aL scatters)))), (strata_a, .inr (6, [.ref strata_sizes_a, .ref strata_costs_a, .ref strata_gone_a, .int (iZ strata_made)])), (strata_sizes_a, .inl (cI, 4, .inl (aI strata_sizes_f))), (bags_a, .inr (0, [.ref bags_homes_a, .ref bags_dates_a, .ref bags_lost_a, .ref bags_grams_a, .int (iZ bags_made)])), (bags_homes_a, .inl (cI, 12, .inl (aI bags_homes_f))), (bags_lost_a, .inl (cZ, 12, .inl (aI bags_lost_f))), (bags_grams_a, .inl (cJ, 36, .inr (.inl (aL bags_grams_f))))] H → va_D A [(t_a, .inr (3, [.ref t_sizes_a, .ref t_numbers_a, .ref t_sums_a, .ref t_scatters_a, .ref t_terms_a, .int (iZ counted), .long (lZ total)])), (t_sizes_a, .inl (cJ, 4, .inr (.inl (aL sizes)))), (t_numbers_a, .inl (cJ, 4, .inr (.inl (aL numbers)))), (t_sums_a, .inl (cJ, 4, .inr (.inl (aL sums)))), (t_scatters_a, .inl (cJ, 4, .inr (.inl (aL scatters)))), (strata_a, .inr (6, [.ref strata_sizes_a, .ref strata_costs_a, .ref strata_gone_a, .int (iZ strata_made)])), (strata_sizes_a, .inl (cI, 4, .inl (aI strata_sizes_f))), (bags_a, .inr (0, [.ref bags_homes_a, .ref bags_dates_a, .ref bags_lost_a, .ref bags_grams_a, .int (iZ bags_made)])), (bags_homes_a, .inl (cI, 12, .inl (aI bags_homes_f))), (bags_lost_a, .inl (cZ, 12, .inl (aI bags_lost_f))), (bags_grams_a, .inl (cJ, 36, .inr (.inl (aL bags_grams_f))))] → va_S A s.heap H locs → ∀ ls : Array Slot, lv_has ls 5 [(0, .ref t_a), (1, .ref strata_a), (2, .ref bags_a), (3, .int (iZ kind)), (4, .int (iZ i))] → W p l e { frames := 3, cells := 0, slots := 0, locals := 75 } s m args below meth c H locs 0 0 Q (F0 m 13 ls []) := by
    intro n_3
    induction n_3 with
    | zero => intro i sizes numbers sums scatters counted total hi hi2 hs hn hm1 hsc hcn hcb hto hm_4; exact absurd hm_4 (by omega)
    | succ n_3 ih_2 =>
      intro i sizes numbers sums scatters counted total hi hi2 hs hn hm1 hsc hcn hcb hto hm_4 H locs hP hD hS ls hl
      refine lv_iload hx hb dFg_gather_13 (lv_at hl 4 rfl) ?_
      refine lv_iconst (v := iZ 4) hx hb dFg_gather_15 (by decide) ?_
      refine z_icmp_ge (tgt := 86) hx hb (by omega) (by omega) (by omega) (by omega) dFg_gather_16 (by decide) (fun c_5 => ?_) (fun c_5 => ?_)
      ·
        exact cq_vret hx hb hr hlocks hAe hQ (sizes, numbers, sums, scatters, counted, total) ⟨(by (try dsimp only) <;> (exact up_end hs (by omega))), (by (try dsimp only) <;> (exact up_end hn (by omega))), (by (try dsimp only) <;> (exact up_end hm1 (by omega))), (by (try dsimp only) <;> (exact up_end hsc (by omega))), (by (try dsimp only) <;> (exact sz_end hcn (by omega))), (by (try dsimp only) <;> (exact sz_end hto (by omega)))⟩ (hP.sub [0, 1, 2, 3, 4, 5, 6, 7, 8, 9, 10] rfl) (hD.sub [0, 1, 2, 3, 4, 5, 6, 7, 8, 9, 10] (by decide) rfl) hS (by decide) (by decide) dFg_gather_86
      ·
        refine lv_aload_n hx hb dFg_gather_19 rfl (lv_at hl 0 rfl) ?_
        refine lv_iload hx hb dFg_gather_20 (lv_at hl 4 rfl) ?_
        refine lv_aload_n hx hb dFg_gather_22 rfl (lv_at hl 2 rfl) ?_
        refine lv_iload_n hx hb dFg_gather_23 rfl (lv_at hl 3 rfl) ?_
        refine cq_callv (wr := [(t_sizes_a, .inl (cJ, 4, .inr (.inl (aL sizes)))), (strata_a, .inr (6, [.ref strata_sizes_a, .ref strata_costs_a, .ref strata_gone_a, .int (iZ strata_made)])), (strata_sizes_a, .inl (cI, 4, .inl (aI strata_sizes_f)))]) (va_runV (C := RFg) (As := [.int (iZ i), .ref bags_a, .int (iZ kind)]) (rest := []) ⟨hx, hb, hml, hown, hts⟩ (k_Figures_gatherOne l D cI cJ cZ t_a bags_a t_sizes_a t_numbers_a t_sums_a t_scatters_a t_terms_a bags_homes_a bags_dates_a bags_lost_a bags_grams_a H.size counted total numbers sums scatters bags_made bags_homes_f bags_lost_f bags_grams_f i kind (by omega) (by omega) (by omega) (by omega) (by first | assumption | omega) (by first | assumption | omega) (by first | assumption | omega) (by first | assumption | omega) (by first | assumption | omega) (by first | assumption | omega)) ⟨(callB_of 3 hts (gAll cmFg_gatherOne) rfl rfl rfl (hts _ (hm g63)) (hts _ (hm g300)) (by decide +kernel) ⟨Nat.le_of_ble_eq_true rfl, Nat.le_of_ble_eq_true rfl⟩), (hts _ (hm g301)), (hts _ (hm g14))⟩ (cq_preV (va_recv hK.1 hP (ci := 3) (q0 := 0) rfl rfl) (cq_preS hK hP hD [0, 2, 3, 4, 7, 8, 9, 10] (by decide) rfl)) rfl rfl hl.1 rfl (lv_room (Nat.le_of_ble_eq_true rfl)) dFg_gather_24 ⟨by decide, by decide⟩) hP hD hS hA [0, 2, 3, 4, 7, 8, 9, 10] [1, 5, 6] rfl rfl (by decide) (by decide) (fun u H locs hw_6 hP hD hS => ?_)
        obtain ⟨o_7, o_8, o_9⟩ := u
        try dsimp only at hw_6
        obtain ⟨rfl, rfl, rfl⟩ := hw_6
        have hP : va_P D clAll [(t_sizes_a, .inl (cJ, 4, .inr (.inl (aL sizes)))), (strata_a, .inr (6, [.ref strata_sizes_a, .ref strata_costs_a, .ref strata_gone_a, .int (iZ strata_made)])), (strata_sizes_a, .inl (cI, 4, .inl (aI strata_sizes_f))), (t_a, .inr (3, [.ref t_sizes_a, .ref t_numbers_a, .ref t_sums_a, .ref t_scatters_a, .ref t_terms_a, .int (iZ counted), .long (lZ total)])), (t_numbers_a, .inl (cJ, 4, .inr (.inl (aL (pu numbers i (sZ (gn bags_homes_f bags_lost_f i) bags_made)))))), (t_sums_a, .inl (cJ, 4, .inr (.inl (aL (pu sums i (sZ (gm_ bags_homes_f bags_lost_f bags_grams_f kind i) bags_made)))))), (t_scatters_a, .inl (cJ, 4, .inr (.inl (aL (pu scatters i (sZ (gn bags_homes_f bags_lost_f i) bags_made * sZ (gq bags_homes_f bags_lost_f bags_grams_f kind i) bags_made - sZ (gm_ bags_homes_f bags_lost_f bags_grams_f kind i) bags_made * sZ (gm_ bags_homes_f bags_lost_f bags_grams_f kind i) bags_made)))))), (bags_a, .inr (0, [.ref bags_homes_a, .ref bags_dates_a, .ref bags_lost_a, .ref bags_grams_a, .int (iZ bags_made)])), (bags_homes_a, .inl (cI, 12, .inl (aI bags_homes_f))), (bags_lost_a, .inl (cZ, 12, .inl (aI bags_lost_f))), (bags_grams_a, .inl (cJ, 36, .inr (.inl (aL bags_grams_f))))] H := hP
        have hD : va_D A [(t_sizes_a, .inl (cJ, 4, .inr (.inl (aL sizes)))), (strata_a, .inr (6, [.ref strata_sizes_a, .ref strata_costs_a, .ref strata_gone_a, .int (iZ strata_made)])), (strata_sizes_a, .inl (cI, 4, .inl (aI strata_sizes_f))), (t_a, .inr (3, [.ref t_sizes_a, .ref t_numbers_a, .ref t_sums_a, .ref t_scatters_a, .ref t_terms_a, .int (iZ counted), .long (lZ total)])), (t_numbers_a, .inl (cJ, 4, .inr (.inl (aL (pu numbers i (sZ (gn bags_homes_f bags_lost_f i) bags_made)))))), (t_sums_a, .inl (cJ, 4, .inr (.inl (aL (pu sums i (sZ (gm_ bags_homes_f bags_lost_f bags_grams_f kind i) bags_made)))))), (t_scatters_a, .inl (cJ, 4, .inr (.inl (aL (pu scatters i (sZ (gn bags_homes_f bags_lost_f i) bags_made * sZ (gq bags_homes_f bags_lost_f bags_grams_f kind i) bags_made - sZ (gm_ bags_homes_f bags_lost_f bags_grams_f kind i) bags_made * sZ (gm_ bags_homes_f bags_lost_f bags_grams_f kind i) bags_made)))))), (bags_a, .inr (0, [.ref bags_homes_a, .ref bags_dates_a, .ref bags_lost_a, .ref bags_grams_a, .int (iZ bags_made)])), (bags_homes_a, .inl (cI, 12, .inl (aI bags_homes_f))), (bags_lost_a, .inl (cZ, 12, .inl (aI bags_lost_f))), (bags_grams_a, .inl (cJ, 36, .inr (.inl (aL bags_grams_f))))] := hD
        refine lv_aload_n hx hb dFg_gather_27 rfl (lv_at hl 0 rfl) ?_
        refine va_get (D := D) (ci := 3) (v := .ref t_sizes_a) (C := RFg) (T := TFg) (N := 7) hx hb hts layFg hown hK.1 hP 3 rfl rfl 0 (by decide) (hts _ (hm g149)) (fun _ h9 => h9) rfl dFg_gather_28 ?_
        refine lv_iload hx hb dFg_gather_31 (lv_at hl 4 rfl) ?_
        refine lv_aload_n hx hb dFg_gather_33 rfl (lv_at hl 1 rfl) ?_
        refine va_getN (D := D) (ci := 6) (v := .ref strata_sizes_a) (C := RSt) (T := TSt) (N := 4) (host := "StratumCounts") hx hb hts laySt hown hK.1 hP 1 rfl rfl 0 (by decide) (va_Nw.use rfl (hK.2.2 _ n1)) (fun _ h9 => h9) rfl dFg_gather_34 ?_
        refine lv_iload hx hb dFg_gather_37 (lv_at hl 4 rfl) ?_
        refine z_iald hx hb hK hP 2 0 rfl rfl (by omega) (by omega) (by decide) dFg_gather_39 ?_
        have f_10 := hss i
        refine z_i2l hx hb (by omega) (by omega) dFg_gather_40 ?_
        refine z_last hx hb hK hP hD hS 0 1 rfl rfl (by omega) (by omega) (by decide) dFg_gather_41 (fun H locs hP hD hS => ?_)
        have hP : va_P D clAll [(t_sizes_a, .inl (cJ, 4, .inr (.inl (aL (pu sizes i (strata_sizes_f i)))))), (strata_a, .inr (6, [.ref strata_sizes_a, .ref strata_costs_a, .ref strata_gone_a, .int (iZ strata_made)])), (strata_sizes_a, .inl (cI, 4, .inl (aI strata_sizes_f))), (t_a, .inr (3, [.ref t_sizes_a, .ref t_numbers_a, .ref t_sums_a, .ref t_scatters_a, .ref t_terms_a, .int (iZ counted), .long (lZ total)])), (t_numbers_a, .inl (cJ, 4, .inr (.inl (aL (pu numbers i (sZ (gn bags_homes_f bags_lost_f i) bags_made)))))), (t_sums_a, .inl (cJ, 4, .inr (.inl (aL (pu sums i (sZ (gm_ bags_homes_f bags_lost_f bags_grams_f kind i) bags_made)))))), (t_scatters_a, .inl (cJ, 4, .inr (.inl (aL (pu scatters i (sZ (gn bags_homes_f bags_lost_f i) bags_made * sZ (gq bags_homes_f bags_lost_f bags_grams_f kind i) bags_made - sZ (gm_ bags_homes_f bags_lost_f bags_grams_f kind i) bags_made * sZ (gm_ bags_homes_f bags_lost_f bags_grams_f kind i) bags_made)))))), (bags_a, .inr (0, [.ref bags_homes_a, .ref bags_dates_a, .ref bags_lost_a, .ref bags_grams_a, .int (iZ bags_made)])), (bags_homes_a, .inl (cI, 12, .inl (aI bags_homes_f))), (bags_lost_a, .inl (cZ, 12, .inl (aI bags_lost_f))), (bags_grams_a, .inl (cJ, 36, .inr (.inl (aL bags_grams_f))))] H := hP
        have hD : va_D A [(t_sizes_a, .inl (cJ, 4, .inr (.inl (aL (pu sizes i (strata_sizes_f i)))))), (strata_a, .inr (6, [.ref strata_sizes_a, .ref strata_costs_a, .ref strata_gone_a, .int (iZ strata_made)])), (strata_sizes_a, .inl (cI, 4, .inl (aI strata_sizes_f))), (t_a, .inr (3, [.ref t_sizes_a, .ref t_numbers_a, .ref t_sums_a, .ref t_scatters_a, .ref t_terms_a, .int (iZ counted), .long (lZ total)])), (t_numbers_a, .inl (cJ, 4, .inr (.inl (aL (pu numbers i (sZ (gn bags_homes_f bags_lost_f i) bags_made)))))), (t_sums_a, .inl (cJ, 4, .inr (.inl (aL (pu sums i (sZ (gm_ bags_homes_f bags_lost_f bags_grams_f kind i) bags_made)))))), (t_scatters_a, .inl (cJ, 4, .inr (.inl (aL (pu scatters i (sZ (gn bags_homes_f bags_lost_f i) bags_made * sZ (gq bags_homes_f bags_lost_f bags_grams_f kind i) bags_made - sZ (gm_ bags_homes_f bags_lost_f bags_grams_f kind i) bags_made * sZ (gm_ bags_homes_f bags_lost_f bags_grams_f kind i) bags_made)))))), (bags_a, .inr (0, [.ref bags_homes_a, .ref bags_dates_a, .ref bags_lost_a, .ref bags_grams_a, .int (iZ bags_made)])), (bags_homes_a, .inl (cI, 12, .inl (aI bags_homes_f))), (bags_lost_a, .inl (cZ, 12, .inl (aI bags_lost_f))), (bags_grams_a, .inl (cJ, 36, .inr (.inl (aL bags_grams_f))))] := hD
        refine lv_aload_n hx hb dFg_gather_42 rfl (lv_at hl 0 rfl) ?_
        refine va_get (D := D) (ci := 3) (v := .ref t_numbers_a) (C := RFg) (T := TFg) (N := 7) hx hb hts layFg hown hK.1 hP 3 rfl rfl 1 (by decide) (hts _ (hm g150)) (fun _ h9 => h9) rfl dFg_gather_43 ?_
        refine lv_iload hx hb dFg_gather_46 (lv_at hl 4 rfl) ?_
        refine z_lald hx hb hK hP 4 1 rfl rfl (by omega) (by omega) (by decide) dFg_gather_48 ?_
        refine cq_tl (congrArg lZ (pu_eq _ _ _)) ?_
        have hnb := gn_b bags_homes_f bags_lost_f i hbm.1 hbm.2
        refine lv_lconst (v := lZ 0) hx hb dFg_gather_49 (by decide) ?_
        refine z_lcmp_le (tgt := 80) hx hb (by omega) (by omega) (by omega) (by omega) dFg_gather_50 dFg_gather_51 (by decide) (fun c_11 => ?_) (fun c_11 => ?_)
        ·
          refine lv_iinc (v := iZ (i + 1)) (lv' := [(4, .int (iZ (i + 1))), (0, .ref t_a), (1, .ref strata_a), (2, .ref bags_a), (3, .int (iZ kind))]) hx hb dFg_gather_80 hl (k := 4) rfl (iZ_add i 1) (by decide) rfl (fun ls hl => ?_)
          refine lv_goto (tgt := 13) hx hb dFg_gather_83 (by decide) ?_
          exact ih_2  (i + 1) (pu sizes i (strata_sizes_f i)) (pu numbers i (sZ (gn bags_homes_f bags_lost_f i) bags_made)) (pu sums i (sZ (gm_ bags_homes_f bags_lost_f bags_grams_f kind i) bags_made)) (pu scatters i (sZ (gn bags_homes_f bags_lost_f i) bags_made * sZ (gq bags_homes_f bags_lost_f bags_grams_f kind i) bags_made - sZ (gm_ bags_homes_f bags_lost_f bags_grams_f kind i) bags_made * sZ (gm_ bags_homes_f bags_lost_f bags_grams_f kind i) bags_made)) counted total (by omega) (by omega) (by exact pu_upto hs rfl) (by exact pu_upto hn rfl) (by exact pu_upto hm1 rfl) (by exact pu_upto hsc rfl) (by first | exact gc_1 hcn hi (by assumption) | exact gc_0 hcn hi (by assumption)) (by omega) (by first | exact gt_1 hto hi (by assumption) | exact gt_0 hto hi (by assumption)) (by omega) _ _ (hP.sub [3, 0, 4, 5, 6, 1, 2, 7, 8, 9, 10] rfl) (hD.sub [3, 0, 4, 5, 6, 1, 2, 7, 8, 9, 10] (by decide) rfl) hS ls (lv_sub hl [1, 2, 3, 4, 0] rfl)
        ·
          refine lv_aload_n hx hb dFg_gather_54 rfl (lv_at hl 0 rfl) ?_
          refine lv_dup hx hb dFg_gather_55 rfl ?_
          refine va_get (D := D) (ci := 3) (v := .int (iZ counted)) (C := RFg) (T := TFg) (N := 7) hx hb hts layFg hown hK.1 hP 3 rfl rfl 5 (by decide) (hts _ (hm g154)) (fun _ h9 => h9) rfl dFg_gather_56 ?_
          refine lv_iconst (v := iZ 1) hx hb dFg_gather_59 (by decide) ?_
          refine z_iadd hx hb dFg_gather_60 ?_
          refine va_put (D := D) (ci := 3) (v := .int (iZ (counted + 1))) (ty := .int) (C := RFg) (T := TFg) (N := 7) hx hb hts layFg tyFg tyFg_ok nmFg hown hK.1 hP hD hS 3 rfl rfl 5 (by decide) (hts _ (hm g154)) (fun _ h9 => h9) rfl (by decide +kernel) rfl rfl (Nat.le_of_ble_eq_true rfl) dFg_gather_61 (fun H locs hP hD hS => ?_)
          have hP : va_P D clAll [(t_sizes_a, .inl (cJ, 4, .inr (.inl (aL (pu sizes i (strata_sizes_f i)))))), (strata_a, .inr (6, [.ref strata_sizes_a, .ref strata_costs_a, .ref strata_gone_a, .int (iZ strata_made)])), (strata_sizes_a, .inl (cI, 4, .inl (aI strata_sizes_f))), (t_a, .inr (3, [.ref t_sizes_a, .ref t_numbers_a, .ref t_sums_a, .ref t_scatters_a, .ref t_terms_a, .int (iZ (counted + 1)), .long (lZ total)])), (t_numbers_a, .inl (cJ, 4, .inr (.inl (aL (pu numbers i (sZ (gn bags_homes_f bags_lost_f i) bags_made)))))), (t_sums_a, .inl (cJ, 4, .inr (.inl (aL (pu sums i (sZ (gm_ bags_homes_f bags_lost_f bags_grams_f kind i) bags_made)))))), (t_scatters_a, .inl (cJ, 4, .inr (.inl (aL (pu scatters i (sZ (gn bags_homes_f bags_lost_f i) bags_made * sZ (gq bags_homes_f bags_lost_f bags_grams_f kind i) bags_made - sZ (gm_ bags_homes_f bags_lost_f bags_grams_f kind i) bags_made * sZ (gm_ bags_homes_f bags_lost_f bags_grams_f kind i) bags_made)))))), (bags_a, .inr (0, [.ref bags_homes_a, .ref bags_dates_a, .ref bags_lost_a, .ref bags_grams_a, .int (iZ bags_made)])), (bags_homes_a, .inl (cI, 12, .inl (aI bags_homes_f))), (bags_lost_a, .inl (cZ, 12, .inl (aI bags_lost_f))), (bags_grams_a, .inl (cJ, 36, .inr (.inl (aL bags_grams_f))))] H := hP
          have hD : va_D A [(t_sizes_a, .inl (cJ, 4, .inr (.inl (aL (pu sizes i (strata_sizes_f i)))))), (strata_a, .inr (6, [.ref strata_sizes_a, .ref strata_costs_a, .ref strata_gone_a, .int (iZ strata_made)])), (strata_sizes_a, .inl (cI, 4, .inl (aI strata_sizes_f))), (t_a, .inr (3, [.ref t_sizes_a, .ref t_numbers_a, .ref t_sums_a, .ref t_scatters_a, .ref t_terms_a, .int (iZ (counted + 1)), .long (lZ total)])), (t_numbers_a, .inl (cJ, 4, .inr (.inl (aL (pu numbers i (sZ (gn bags_homes_f bags_lost_f i) bags_made)))))), (t_sums_a, .inl (cJ, 4, .inr (.inl (aL (pu sums i (sZ (gm_ bags_homes_f bags_lost_f bags_grams_f kind i) bags_made)))))), (t_scatters_a, .inl (cJ, 4, .inr (.inl (aL (pu scatters i (sZ (gn bags_homes_f bags_lost_f i) bags_made * sZ (gq bags_homes_f bags_lost_f bags_grams_f kind i) bags_made - sZ (gm_ bags_homes_f bags_lost_f bags_grams_f kind i) bags_made * sZ (gm_ bags_homes_f bags_lost_f bags_grams_f kind i) bags_made)))))), (bags_a, .inr (0, [.ref bags_homes_a, .ref bags_dates_a, .ref bags_lost_a, .ref bags_grams_a, .int (iZ bags_made)])), (bags_homes_a, .inl (cI, 12, .inl (aI bags_homes_f))), (bags_lost_a, .inl (cZ, 12, .inl (aI bags_lost_f))), (bags_grams_a, .inl (cJ, 36, .inr (.inl (aL bags_grams_f))))] := hD
          refine lv_aload_n hx hb dFg_gather_64 rfl (lv_at hl 0 rfl) ?_
          refine lv_dup hx hb dFg_gather_65 rfl ?_
          refine va_get (D := D) (ci := 3) (v := .long (lZ total)) (C := RFg) (T := TFg) (N := 7) hx hb hts layFg hown hK.1 hP 3 rfl rfl 6 (by decide) (hts _ (hm g155)) (fun _ h9 => h9) rfl dFg_gather_66 ?_
          refine lv_aload_n hx hb dFg_gather_69 rfl (lv_at hl 0 rfl) ?_
          refine va_get (D := D) (ci := 3) (v := .ref t_sizes_a) (C := RFg) (T := TFg) (N := 7) hx hb hts layFg hown hK.1 hP 3 rfl rfl 0 (by decide) (hts _ (hm g149)) (fun _ h9 => h9) rfl dFg_gather_70 ?_
          refine lv_iload hx hb dFg_gather_73 (lv_at hl 4 rfl) ?_
          refine z_lald hx hb hK hP 0 1 rfl rfl (by omega) (by omega) (by decide) dFg_gather_75 ?_
          refine cq_tl (congrArg lZ (pu_eq _ _ _)) ?_
          refine z_ladd hx hb dFg_gather_76 ?_
          refine va_put (D := D) (ci := 3) (v := .long (lZ (total + (strata_sizes_f i)))) (ty := .long) (C := RFg) (T := TFg) (N := 7) hx hb hts layFg tyFg tyFg_ok nmFg hown hK.1 hP hD hS 3 rfl rfl 6 (by decide) (hts _ (hm g155)) (fun _ h9 => h9) rfl (by decide +kernel) rfl rfl (Nat.le_of_ble_eq_true rfl) dFg_gather_77 (fun H locs hP hD hS => ?_)
          have hP : va_P D clAll [(t_sizes_a, .inl (cJ, 4, .inr (.inl (aL (pu sizes i (strata_sizes_f i)))))), (strata_a, .inr (6, [.ref strata_sizes_a, .ref strata_costs_a, .ref strata_gone_a, .int (iZ strata_made)])), (strata_sizes_a, .inl (cI, 4, .inl (aI strata_sizes_f))), (t_a, .inr (3, [.ref t_sizes_a, .ref t_numbers_a, .ref t_sums_a, .ref t_scatters_a, .ref t_terms_a, .int (iZ (counted + 1)), .long (lZ (total + (strata_sizes_f i)))])), (t_numbers_a, .inl (cJ, 4, .inr (.inl (aL (pu numbers i (sZ (gn bags_homes_f bags_lost_f i) bags_made)))))), (t_sums_a, .inl (cJ, 4, .inr (.inl (aL (pu sums i (sZ (gm_ bags_homes_f bags_lost_f bags_grams_f kind i) bags_made)))))), (t_scatters_a, .inl (cJ, 4, .inr (.inl (aL (pu scatters i (sZ (gn bags_homes_f bags_lost_f i) bags_made * sZ (gq bags_homes_f bags_lost_f bags_grams_f kind i) bags_made - sZ (gm_ bags_homes_f bags_lost_f bags_grams_f kind i) bags_made * sZ (gm_ bags_homes_f bags_lost_f bags_grams_f kind i) bags_made)))))), (bags_a, .inr (0, [.ref bags_homes_a, .ref bags_dates_a, .ref bags_lost_a, .ref bags_grams_a, .int (iZ bags_made)])), (bags_homes_a, .inl (cI, 12, .inl (aI bags_homes_f))), (bags_lost_a, .inl (cZ, 12, .inl (aI bags_lost_f))), (bags_grams_a, .inl (cJ, 36, .inr (.inl (aL bags_grams_f))))] H := hP
          have hD : va_D A [(t_sizes_a, .inl (cJ, 4, .inr (.inl (aL (pu sizes i (strata_sizes_f i)))))), (strata_a, .inr (6, [.ref strata_sizes_a, .ref strata_costs_a, .ref strata_gone_a, .int (iZ strata_made)])), (strata_sizes_a, .inl (cI, 4, .inl (aI strata_sizes_f))), (t_a, .inr (3, [.ref t_sizes_a, .ref t_numbers_a, .ref t_sums_a, .ref t_scatters_a, .ref t_terms_a, .int (iZ (counted + 1)), .long (lZ (total + (strata_sizes_f i)))])), (t_numbers_a, .inl (cJ, 4, .inr (.inl (aL (pu numbers i (sZ (gn bags_homes_f bags_lost_f i) bags_made)))))), (t_sums_a, .inl (cJ, 4, .inr (.inl (aL (pu sums i (sZ (gm_ bags_homes_f bags_lost_f bags_grams_f kind i) bags_made)))))), (t_scatters_a, .inl (cJ, 4, .inr (.inl (aL (pu scatters i (sZ (gn bags_homes_f bags_lost_f i) bags_made * sZ (gq bags_homes_f bags_lost_f bags_grams_f kind i) bags_made - sZ (gm_ bags_homes_f bags_lost_f bags_grams_f kind i) bags_made * sZ (gm_ bags_homes_f bags_lost_f bags_grams_f kind i) bags_made)))))), (bags_a, .inr (0, [.ref bags_homes_a, .ref bags_dates_a, .ref bags_lost_a, .ref bags_grams_a, .int (iZ bags_made)])), (bags_homes_a, .inl (cI, 12, .inl (aI bags_homes_f))), (bags_lost_a, .inl (cZ, 12, .inl (aI bags_lost_f))), (bags_grams_a, .inl (cJ, 36, .inr (.inl (aL bags_grams_f))))] := hD
          refine lv_iinc (v := iZ (i + 1)) (lv' := [(4, .int (iZ (i + 1))), (0, .ref t_a), (1, .ref strata_a), (2, .ref bags_a), (3, .int (iZ kind))]) hx hb dFg_gather_80 hl (k := 4) rfl (iZ_add i 1) (by decide) rfl (fun ls hl => ?_)
          refine lv_goto (tgt := 13) hx hb dFg_gather_83 (by decide) ?_
          exact ih_2  (i + 1) (pu sizes i (strata_sizes_f i)) (pu numbers i (sZ (gn bags_homes_f bags_lost_f i) bags_made)) (pu sums i (sZ (gm_ bags_homes_f bags_lost_f bags_grams_f kind i) bags_made)) (pu scatters i (sZ (gn bags_homes_f bags_lost_f i) bags_made * sZ (gq bags_homes_f bags_lost_f bags_grams_f kind i) bags_made - sZ (gm_ bags_homes_f bags_lost_f bags_grams_f kind i) bags_made * sZ (gm_ bags_homes_f bags_lost_f bags_grams_f kind i) bags_made)) (counted + 1) (total + (strata_sizes_f i)) (by omega) (by omega) (by exact pu_upto hs rfl) (by exact pu_upto hn rfl) (by exact pu_upto hm1 rfl) (by exact pu_upto hsc rfl) (by first | exact gc_1 hcn hi (by assumption) | exact gc_0 hcn hi (by assumption)) (by omega) (by first | exact gt_1 hto hi (by assumption) | exact gt_0 hto hi (by assumption)) (by omega) _ _ (hP.sub [3, 0, 4, 5, 6, 1, 2, 7, 8, 9, 10] rfl) (hD.sub [3, 0, 4, 5, 6, 1, 2, 7, 8, 9, 10] (by decide) rfl) hS ls (lv_sub hl [1, 2, 3, 4, 0] rfl)
  exact loop_1 ((4 - 0 : Int).toNat + 1) 0 t_sizes_f t_numbers_f t_sums_f t_scatters_f 0 0 (by omega) (by omega) (by exact up_0 _ _) (by exact up_0 _ _) (by exact up_0 _ _) (by exact up_0 _ _) (by rfl) (by omega) (by rfl) (by omega) _ _ (hP.sub [0, 1, 2, 3, 4, 5, 6, 7, 8, 9, 10] rfl) (hD.sub [0, 1, 2, 3, 4, 5, 6, 7, 8, 9, 10] (by decide) rfl) hS ls (lv_sub hl [1, 2, 3, 4, 0] rfl)
set_option maxHeartbeats 4000000 in
set_option maxRecDepth 100000 in
theorem k_Figures_haveSpread (l : Launch) (D : va_G) (cI cJ cZ : ClassId) (t_a t_sizes_a t_numbers_a t_sums_a t_scatters_a t_terms_a : Nat) (sz : Nat) (t_counted : Int) (t_total : Int) (t_numbers_f : Int → Int) (hnu : ∀ j, 0 ≤ j → j < 4 → 0 ≤ t_numbers_f j ∧ t_numbers_f j ≤ 12) (hct : 0 ≤ t_counted ∧ t_counted ≤ 4) : cq_i l yFg_haveSpread wsFg_haveSpread ({ frames := 0, cells := 0, slots := 0, locals := 0 }) D clAll [(cI, .int), (cJ, .long), (cZ, .boolean)] nwAll [.ref t_a] [(t_a, .inr (3, [.ref t_sizes_a, .ref t_numbers_a, .ref t_sums_a, .ref t_scatters_a, .ref t_terms_a, .int (iZ t_counted), .long (lZ t_total)])), (t_numbers_a, .inl (cJ, 4, .inr (.inl (aL t_numbers_f))))] sz (S := Int) (fun (r : Int32) (u : Int) => r = iZ u ∧ ((u = 1 ∧ (∀ j, 0 ≤ j → j < 4 → ¬ t_numbers_f j = 1) ∧ 0 < t_counted) ∨ (u = 0 ∧ ¬ ((∀ j, 0 ≤ j → j < 4 → ¬ t_numbers_f j = 1) ∧ 0 < t_counted)))) (fun (u : Int) => [(t_a, .inr (3, [.ref t_sizes_a, .ref t_numbers_a, .ref t_sums_a, .ref t_scatters_a, .ref t_terms_a, .int (iZ t_counted), .long (lZ t_total)])), (t_numbers_a, .inl (cJ, 4, .inr (.inl (aL t_numbers_f))))]) 0 0 := by
  refine cq_enter (cc := cFg_haveSpread) (maxL := 2) (ret := some .boolean) (by decide) rfl (Nat.le_of_ble_eq_true rfl) ?_
  intro p e s m below meth c A args Q H hAe hQ hsz hAt hA hP hK hD hS ls hl
  obtain ⟨hx, hb, hr, hml, hown, hts, hlocks, hin⟩ := hAt
  have hown : s.vm.findClass RFg = some m.cls := hown
  have hl : lv_has ls 2 [(0, .ref t_a)] := hl
  refine lv_iconst (v := iZ 0) hx hb dFg_haveSpread_0 (by decide) ?_
  refine lv_istore_n (lv' := [(1, .int (iZ 0)), (0, .ref t_a)]) hx hb dFg_haveSpread_1 rfl hl (by decide) rfl (fun ls hl => ?_)
  have loop_1 : ∀ (n_3 : Nat) (i : Int), (0 ≤ i) → (i ≤ 4) → (∀ j, 0 ≤ j → j < i → ¬ t_numbers_f j = 1) → (4 - i < (n_3 : Int)) → ∀ (H : Heap) (locs : List Loc), va_P D clAll [(t_a, .inr (3, [.ref t_sizes_a, .ref t_numbers_a, .ref t_sums_a, .ref t_scatters_a, .ref t_terms_a, .int (iZ t_counted), .long (lZ t_total)])), (t_numbers_a, .inl (cJ, 4, .inr (.inl (aL t_numbers_f))))] H → va_D A [(t_a, .inr (3, [.ref t_sizes_a, .ref t_numbers_a, .ref t_sums_a, .ref t_scatters_a, .ref t_terms_a, .int (iZ t_counted), .long (lZ t_total)])), (t_numbers_a, .inl (cJ, 4, .inr (.inl (aL t_numbers_f))))] → va_S A s.heap H locs → ∀ ls : Array Slot, lv_has ls 2 [(0, .ref t_a), (1, .int (iZ i))] → W p l e { frames := 0, cells := 0, slots := 0, locals := 0 } s m args below meth c H locs 0 0 Q (F0 m 2 ls []) := by
    intro n_3
    induction n_3 with
    | zero => intro i hi hi2 hno hm_4; exact absurd hm_4 (by omega)
    | succ n_3 ih_2 =>
      intro i hi hi2 hno hm_4 H locs hP hD hS ls hl
      refine lv_iload_n hx hb dFg_haveSpread_2 rfl (lv_at hl 1 rfl) ?_
      refine lv_iconst (v := iZ 4) hx hb dFg_haveSpread_3 (by decide) ?_
      refine z_icmp_ge (tgt := 26) hx hb (by omega) (by omega) (by omega) (by omega) dFg_haveSpread_4 (by decide) (fun c_5 => ?_) (fun c_5 => ?_)
      ·
        refine lv_aload_n hx hb dFg_haveSpread_26 rfl (lv_at hl 0 rfl) ?_
        refine va_get (D := D) (ci := 3) (v := .int (iZ t_counted)) (C := RFg) (T := TFg) (N := 7) hx hb hts layFg hown hK.1 hP 0 rfl rfl 5 (by decide) (hts _ (hm g154)) (fun _ h9 => h9) rfl dFg_haveSpread_27 ?_
        refine z_if_le (tgt := 37) hx hb (by omega) (by omega) dFg_haveSpread_30 (by decide) (fun c_6 => ?_) (fun c_6 => ?_)
        ·
          refine lv_iconst (v := iZ 0) hx hb dFg_haveSpread_37 (by decide) ?_
          exact cq_zret hx hb hr hlocks hAe hQ (bo_narr (by omega) (by omega)) 0 ⟨rfl, (by (try dsimp only) <;> (first | exact Or.inl ⟨rfl, up_all hno (by omega), by assumption⟩ | exact Or.inr ⟨rfl, fun q => q.1 i (by omega) (by omega) (by assumption)⟩ | exact Or.inr ⟨rfl, fun q => absurd q.2 (by assumption)⟩))⟩ (hP.sub [0, 1] rfl) (hD.sub [0, 1] (by decide) rfl) hS (by decide) (by decide) dFg_haveSpread_38
        ·
          refine lv_iconst (v := iZ 1) hx hb dFg_haveSpread_33 (by decide) ?_
          refine lv_goto (tgt := 38) hx hb dFg_haveSpread_34 (by decide) ?_
          exact cq_zret hx hb hr hlocks hAe hQ (bo_narr (by omega) (by omega)) 1 ⟨rfl, (by (try dsimp only) <;> (first | exact Or.inl ⟨rfl, up_all hno (by omega), by assumption⟩ | exact Or.inr ⟨rfl, fun q => q.1 i (by omega) (by omega) (by assumption)⟩ | exact Or.inr ⟨rfl, fun q => absurd q.2 (by assumption)⟩))⟩ (hP.sub [0, 1] rfl) (hD.sub [0, 1] (by decide) rfl) hS (by decide) (by decide) dFg_haveSpread_38
      ·
        refine lv_aload_n hx hb dFg_haveSpread_7 rfl (lv_at hl 0 rfl) ?_
        refine va_get (D := D) (ci := 3) (v := .ref t_numbers_a) (C := RFg) (T := TFg) (N := 7) hx hb hts layFg hown hK.1 hP 0 rfl rfl 1 (by decide) (hts _ (hm g150)) (fun _ h9 => h9) rfl dFg_haveSpread_8 ?_
        refine lv_iload_n hx hb dFg_haveSpread_11 rfl (lv_at hl 1 rfl) ?_
        refine z_lald hx hb hK hP 1 1 rfl rfl (by omega) (by omega) (by decide) dFg_haveSpread_12 ?_
        have f_7 := hnu i (by omega) (by omega)
        refine lv_lconst (v := lZ 1) hx hb dFg_haveSpread_13 (by decide) ?_
        refine z_lcmp_ne (tgt := 20) hx hb (by omega) (by omega) (by omega) (by omega) dFg_haveSpread_14 dFg_haveSpread_15 (by decide) (fun c_8 => ?_) (fun c_8 => ?_)
        ·
          refine lv_iinc (v := iZ (i + 1)) (lv' := [(1, .int (iZ (i + 1))), (0, .ref t_a)]) hx hb dFg_haveSpread_20 hl (k := 1) rfl (iZ_add i 1) (by decide) rfl (fun ls hl => ?_)
          refine lv_goto (tgt := 2) hx hb dFg_haveSpread_23 (by decide) ?_
          exact ih_2  (i + 1) (by omega) (by omega) (by exact up_no hno (by assumption)) (by omega) _ _ (hP.sub [0, 1] rfl) (hD.sub [0, 1] (by decide) rfl) hS ls (lv_sub hl [1, 0] rfl)
        ·
          refine lv_iconst (v := iZ 0) hx hb dFg_haveSpread_18 (by decide) ?_
          exact cq_zret hx hb hr hlocks hAe hQ (bo_narr (by omega) (by omega)) 0 ⟨rfl, (by (try dsimp only) <;> (first | exact Or.inl ⟨rfl, up_all hno (by omega), by assumption⟩ | exact Or.inr ⟨rfl, fun q => q.1 i (by omega) (by omega) (by assumption)⟩ | exact Or.inr ⟨rfl, fun q => absurd q.2 (by assumption)⟩))⟩ (hP.sub [0, 1] rfl) (hD.sub [0, 1] (by decide) rfl) hS (by decide) (by decide) dFg_haveSpread_19
  exact loop_1 ((4 - 0 : Int).toNat + 1) 0 (by omega) (by omega) (by exact fun j h1 h2 => absurd h2 (by omega)) (by omega) _ _ (hP.sub [0, 1] rfl) (hD.sub [0, 1] (by decide) rfl) hS ls (lv_sub hl [1, 0] rfl)
set_option maxHeartbeats 4000000 in
set_option maxRecDepth 100000 in
theorem k_Figures_weighedScatter (l : Launch) (D : va_G) (cI cJ cZ : ClassId) (t_a t_sizes_a t_numbers_a t_sums_a t_scatters_a t_terms_a : Nat) (sz : Nat) (t_counted : Int) (t_total : Int) (t_sizes_f : Int → Int) (t_scatters_f : Int → Int) (z : Int) (h_z1 : -2147483648 ≤ z) (h_z2 : z < 2147483648) (hz : 0 ≤ z ∧ z < 4) : cq_l l yFg_weighedScatter wsFg_weighedScatter ({ frames := 0, cells := 0, slots := 0, locals := 0 }) D clAll [(cI, .int), (cJ, .long), (cZ, .boolean)] nwAll [.ref t_a, .int (iZ z)] [(t_a, .inr (3, [.ref t_sizes_a, .ref t_numbers_a, .ref t_sums_a, .ref t_scatters_a, .ref t_terms_a, .int (iZ t_counted), .long (lZ t_total)])), (t_sizes_a, .inl (cJ, 4, .inr (.inl (aL t_sizes_f)))), (t_scatters_a, .inl (cJ, 4, .inr (.inl (aL t_scatters_f))))] sz (S := Int) (fun (r : Int64) (u : Int) => r = lZ u ∧ (u = t_sizes_f z * t_sizes_f z * t_scatters_f z)) (fun (u : Int) => [(t_a, .inr (3, [.ref t_sizes_a, .ref t_numbers_a, .ref t_sums_a, .ref t_scatters_a, .ref t_terms_a, .int (iZ t_counted), .long (lZ t_total)])), (t_sizes_a, .inl (cJ, 4, .inr (.inl (aL t_sizes_f)))), (t_scatters_a, .inl (cJ, 4, .inr (.inl (aL t_scatters_f))))]) 0 0 := by
  refine cq_enter (cc := cFg_weighedScatter) (maxL := 2) (ret := some .long) (by decide) rfl (Nat.le_of_ble_eq_true rfl) ?_
  intro p e s m below meth c A args Q H hAe hQ hsz hAt hA hP hK hD hS ls hl
  obtain ⟨hx, hb, hr, hml, hown, hts, hlocks, hin⟩ := hAt
  have hown : s.vm.findClass RFg = some m.cls := hown
  have hl : lv_has ls 2 [(0, .ref t_a), (1, .int (iZ z))] := hl
  refine lv_aload_n hx hb dFg_weighedScatter_0 rfl (lv_at hl 0 rfl) ?_
  refine va_get (D := D) (ci := 3) (v := .ref t_sizes_a) (C := RFg) (T := TFg) (N := 7) hx hb hts layFg hown hK.1 hP 0 rfl rfl 0 (by decide) (hts _ (hm g149)) (fun _ h9 => h9) rfl dFg_weighedScatter_1 ?_
  refine lv_iload_n hx hb dFg_weighedScatter_4 rfl (lv_at hl 1 rfl) ?_
  refine z_lald hx hb hK hP 1 1 rfl rfl (by omega) (by omega) (by decide) dFg_weighedScatter_5 ?_
  refine lv_aload_n hx hb dFg_weighedScatter_6 rfl (lv_at hl 0 rfl) ?_
  refine va_get (D := D) (ci := 3) (v := .ref t_sizes_a) (C := RFg) (T := TFg) (N := 7) hx hb hts layFg hown hK.1 hP 0 rfl rfl 0 (by decide) (hts _ (hm g149)) (fun _ h9 => h9) rfl dFg_weighedScatter_7 ?_
  refine lv_iload_n hx hb dFg_weighedScatter_10 rfl (lv_at hl 1 rfl) ?_
  refine z_lald hx hb hK hP 1 1 rfl rfl (by omega) (by omega) (by decide) dFg_weighedScatter_11 ?_
  refine z_lmul hx hb dFg_weighedScatter_12 ?_
  refine lv_aload_n hx hb dFg_weighedScatter_13 rfl (lv_at hl 0 rfl) ?_
  refine va_get (D := D) (ci := 3) (v := .ref t_scatters_a) (C := RFg) (T := TFg) (N := 7) hx hb hts layFg hown hK.1 hP 0 rfl rfl 3 (by decide) (hts _ (hm g152)) (fun _ h9 => h9) rfl dFg_weighedScatter_14 ?_
  refine lv_iload_n hx hb dFg_weighedScatter_17 rfl (lv_at hl 1 rfl) ?_
  refine z_lald hx hb hK hP 2 1 rfl rfl (by omega) (by omega) (by decide) dFg_weighedScatter_18 ?_
  refine z_lmul hx hb dFg_weighedScatter_19 ?_
  exact cq_lret hx hb hr hlocks hAe hQ (((t_sizes_f z) * (t_sizes_f z)) * (t_scatters_f z)) ⟨rfl, (by (try dsimp only) <;> (first | rfl | omega | (refine Or.inl ?_; and_intros <;> first | rfl | omega) | (refine Or.inr ?_; and_intros <;> first | rfl | omega)))⟩ (hP.sub [0, 1, 2] rfl) (hD.sub [0, 1, 2] (by decide) rfl) hS (by decide) (by decide) dFg_weighedScatter_20
set_option maxHeartbeats 4000000 in
set_option maxRecDepth 100000 in
theorem k_Figures_pairs (l : Launch) (D : va_G) (cI cJ cZ : ClassId) (t_a t_sizes_a t_numbers_a t_sums_a t_scatters_a t_terms_a : Nat) (sz : Nat) (t_counted : Int) (t_total : Int) (t_numbers_f : Int → Int) (z : Int) (h_z1 : -2147483648 ≤ z) (h_z2 : z < 2147483648) (hz : 0 ≤ z ∧ z < 4) : cq_l l yFg_pairs wsFg_pairs ({ frames := 0, cells := 0, slots := 0, locals := 0 }) D clAll [(cI, .int), (cJ, .long), (cZ, .boolean)] nwAll [.ref t_a, .int (iZ z)] [(t_a, .inr (3, [.ref t_sizes_a, .ref t_numbers_a, .ref t_sums_a, .ref t_scatters_a, .ref t_terms_a, .int (iZ t_counted), .long (lZ t_total)])), (t_numbers_a, .inl (cJ, 4, .inr (.inl (aL t_numbers_f))))] sz (S := Int) (fun (r : Int64) (u : Int) => r = lZ u ∧ (u = t_numbers_f z * (t_numbers_f z - 1))) (fun (u : Int) => [(t_a, .inr (3, [.ref t_sizes_a, .ref t_numbers_a, .ref t_sums_a, .ref t_scatters_a, .ref t_terms_a, .int (iZ t_counted), .long (lZ t_total)])), (t_numbers_a, .inl (cJ, 4, .inr (.inl (aL t_numbers_f))))]) 0 0 := by
  refine cq_enter (cc := cFg_pairs) (maxL := 2) (ret := some .long) (by decide) rfl (Nat.le_of_ble_eq_true rfl) ?_
  intro p e s m below meth c A args Q H hAe hQ hsz hAt hA hP hK hD hS ls hl
  obtain ⟨hx, hb, hr, hml, hown, hts, hlocks, hin⟩ := hAt
  have hown : s.vm.findClass RFg = some m.cls := hown
  have hl : lv_has ls 2 [(0, .ref t_a), (1, .int (iZ z))] := hl
  refine lv_aload_n hx hb dFg_pairs_0 rfl (lv_at hl 0 rfl) ?_
  refine va_get (D := D) (ci := 3) (v := .ref t_numbers_a) (C := RFg) (T := TFg) (N := 7) hx hb hts layFg hown hK.1 hP 0 rfl rfl 1 (by decide) (hts _ (hm g150)) (fun _ h9 => h9) rfl dFg_pairs_1 ?_
  refine lv_iload_n hx hb dFg_pairs_4 rfl (lv_at hl 1 rfl) ?_
  refine z_lald hx hb hK hP 1 1 rfl rfl (by omega) (by omega) (by decide) dFg_pairs_5 ?_
  refine lv_aload_n hx hb dFg_pairs_6 rfl (lv_at hl 0 rfl) ?_
  refine va_get (D := D) (ci := 3) (v := .ref t_numbers_a) (C := RFg) (T := TFg) (N := 7) hx hb hts layFg hown hK.1 hP 0 rfl rfl 1 (by decide) (hts _ (hm g150)) (fun _ h9 => h9) rfl dFg_pairs_7 ?_
  refine lv_iload_n hx hb dFg_pairs_10 rfl (lv_at hl 1 rfl) ?_
  refine z_lald hx hb hK hP 1 1 rfl rfl (by omega) (by omega) (by decide) dFg_pairs_11 ?_
  refine lv_lconst (v := lZ 1) hx hb dFg_pairs_12 (by decide) ?_
  refine z_lsub hx hb dFg_pairs_13 ?_
  refine z_lmul hx hb dFg_pairs_14 ?_
  exact cq_lret hx hb hr hlocks hAe hQ ((t_numbers_f z) * ((t_numbers_f z) - 1)) ⟨rfl, (by (try dsimp only) <;> (first | rfl | omega | (refine Or.inl ?_; and_intros <;> first | rfl | omega) | (refine Or.inr ?_; and_intros <;> first | rfl | omega)))⟩ (hP.sub [0, 1] rfl) (hD.sub [0, 1] (by decide) rfl) hS (by decide) (by decide) dFg_pairs_15
end
section
set_option maxHeartbeats 4000000 in
set_option maxRecDepth 100000 in
theorem k_Figures_tellMean (l : Launch) (D : va_G) (cI cJ cZ : ClassId) (t_a t_sizes_a t_numbers_a t_sums_a t_scatters_a t_terms_a t_terms_aboves_a t_terms_belows_a : Nat) (sz : Nat) (t_counted : Int) (t_total : Int) (t_sizes_f : Int → Int) (t_numbers_f : Int → Int) (t_sums_f : Int → Int) (t_terms_aboves_f : Int → Int) (t_terms_belows_f : Int → Int) (part : Int) (h_part1 : -2147483648 ≤ part) (h_part2 : part < 2147483648) (hsi : ∀ j, 0 ≤ j → j < 4 → 0 ≤ t_sizes_f j ∧ t_sizes_f j ≤ 100) (hnu : ∀ j, 0 ≤ j → j < 4 → 0 ≤ t_numbers_f j ∧ t_numbers_f j ≤ 12) (hsm : ∀ j, 0 ≤ j → j < 4 → 0 ≤ t_sums_f j ∧ t_sums_f j ≤ 120000) (hto : 1 ≤ t_total ∧ t_total ≤ 400) : cq_l l yFg_tellMean wsFg_tellMean ({ frames := 3, cells := 0, slots := 0, locals := 78 }) D clAll [(cI, .int), (cJ, .long), (cZ, .boolean)] nwAll [.ref t_a, .int (iZ part)] [(t_a, .inr (3, [.ref t_sizes_a, .ref t_numbers_a, .ref t_sums_a, .ref t_scatters_a, .ref t_terms_a, .int (iZ t_counted), .long (lZ t_total)])), (t_sizes_a, .inl (cJ, 4, .inr (.inl (aL t_sizes_f)))), (t_numbers_a, .inl (cJ, 4, .inr (.inl (aL t_numbers_f)))), (t_sums_a, .inl (cJ, 4, .inr (.inl (aL t_sums_f)))), (t_terms_a, .inr (7, [.ref t_terms_aboves_a, .ref t_terms_belows_a])), (t_terms_aboves_a, .inl (cJ, 4, .inr (.inl (aL t_terms_aboves_f)))), (t_terms_belows_a, .inl (cJ, 4, .inr (.inl (aL t_terms_belows_f))))] sz (S := Int × (Int → Int) × (Int → Int)) (fun (r : Int64) (u : Int × (Int → Int) × (Int → Int)) => r = lZ u.1 ∧ (u.1 = telv (mnO 0 t_numbers_f (fun j => t_sizes_f j * t_sums_f j) t_numbers_f) (mnC 0 t_numbers_f t_numbers_f * t_total) part)) (fun (u : Int × (Int → Int) × (Int → Int)) => [(t_a, .inr (3, [.ref t_sizes_a, .ref t_numbers_a, .ref t_sums_a, .ref t_scatters_a, .ref t_terms_a, .int (iZ t_counted), .long (lZ t_total)])), (t_sizes_a, .inl (cJ, 4, .inr (.inl (aL t_sizes_f)))), (t_numbers_a, .inl (cJ, 4, .inr (.inl (aL t_numbers_f)))), (t_sums_a, .inl (cJ, 4, .inr (.inl (aL t_sums_f)))), (t_terms_a, .inr (7, [.ref t_terms_aboves_a, .ref t_terms_belows_a])), (t_terms_aboves_a, .inl (cJ, 4, .inr (.inl (aL u.2.1)))), (t_terms_belows_a, .inl (cJ, 4, .inr (.inl (aL u.2.2))))]) 0 0 := by
  refine cq_enter (cc := cFg_tellMean) (maxL := 4) (ret := some .long) (by decide) rfl (Nat.le_of_ble_eq_true rfl) ?_
  intro p e s m below meth c A args Q H hAe hQ hsz hAt hA hP hK hD hS ls hl
  obtain ⟨hx, hb, hr, hml, hown, hts, hlocks, hin⟩ := hAt
  have hown : s.vm.findClass RFg = some m.cls := hown
  have hl : lv_has ls 4 [(0, .ref t_a), (1, .int (iZ part))] := hl
  refine lv_aload_n hx hb dFg_tellMean_0 rfl (lv_at hl 0 rfl) ?_
  refine va_get (D := D) (ci := 3) (v := .ref t_terms_a) (C := RFg) (T := TFg) (N := 7) hx hb hts layFg hown hK.1 hP 0 rfl rfl 4 (by decide) (hts _ (hm g153)) (fun _ h9 => h9) rfl dFg_tellMean_1 ?_
  refine cq_callv (wr := [(t_a, .inr (3, [.ref t_sizes_a, .ref t_numbers_a, .ref t_sums_a, .ref t_scatters_a, .ref t_terms_a, .int (iZ t_counted), .long (lZ t_total)])), (t_sizes_a, .inl (cJ, 4, .inr (.inl (aL t_sizes_f)))), (t_numbers_a, .inl (cJ, 4, .inr (.inl (aL t_numbers_f)))), (t_sums_a, .inl (cJ, 4, .inr (.inl (aL t_sums_f))))]) (va_runVN (C := RTm) (As := []) (rest := []) ⟨hx, hb, hml, hown, hts⟩ (k_Terms_clear l D cI cJ cZ t_terms_a t_terms_aboves_a t_terms_belows_a H.size t_terms_aboves_f t_terms_belows_f) ⟨(va_cnB 0 hts (gAll cmTm_clear) rfl rfl rfl (hK.2.2 _ n36) (hts _ (hm g64)) (by decide +kernel) ⟨Nat.le_of_ble_eq_true rfl, Nat.le_of_ble_eq_true rfl⟩), (hts _ (hm g307)), (hts _ (hm g17))⟩ (cq_preV (va_recv hK.1 hP (ci := 7) (q0 := 4) rfl rfl) (cq_preS hK hP hD [4, 5, 6] (by decide) rfl)) rfl rfl hl.1 rfl (lv_room (Nat.le_of_ble_eq_true rfl)) dFg_tellMean_4 ⟨by decide, by decide⟩) hP hD hS hA [4, 5, 6] [0, 1, 2, 3] rfl rfl (by decide) (by decide) (fun u H locs hw_1 hP hD hS => ?_)
  obtain ⟨o_2, o_3⟩ := u
  try dsimp only at hw_1
  obtain ⟨p_4, p_5⟩ := hw_1
  have hP : va_P D clAll [(t_a, .inr (3, [.ref t_sizes_a, .ref t_numbers_a, .ref t_sums_a, .ref t_scatters_a, .ref t_terms_a, .int (iZ t_counted), .long (lZ t_total)])), (t_sizes_a, .inl (cJ, 4, .inr (.inl (aL t_sizes_f)))), (t_numbers_a, .inl (cJ, 4, .inr (.inl (aL t_numbers_f)))), (t_sums_a, .inl (cJ, 4, .inr (.inl (aL t_sums_f)))), (t_terms_a, .inr (7, [.ref t_terms_aboves_a, .ref t_terms_belows_a])), (t_terms_aboves_a, .inl (cJ, 4, .inr (.inl (aL o_2)))), (t_terms_belows_a, .inl (cJ, 4, .inr (.inl (aL o_3))))] H := hP
  have hD : va_D A [(t_a, .inr (3, [.ref t_sizes_a, .ref t_numbers_a, .ref t_sums_a, .ref t_scatters_a, .ref t_terms_a, .int (iZ t_counted), .long (lZ t_total)])), (t_sizes_a, .inl (cJ, 4, .inr (.inl (aL t_sizes_f)))), (t_numbers_a, .inl (cJ, 4, .inr (.inl (aL t_numbers_f)))), (t_sums_a, .inl (cJ, 4, .inr (.inl (aL t_sums_f)))), (t_terms_a, .inr (7, [.ref t_terms_aboves_a, .ref t_terms_belows_a])), (t_terms_aboves_a, .inl (cJ, 4, .inr (.inl (aL o_2)))), (t_terms_belows_a, .inl (cJ, 4, .inr (.inl (aL o_3))))] := hD
  refine lv_iconst (v := iZ 0) hx hb dFg_tellMean_7 (by decide) ?_
  refine lv_istore_n (lv' := [(2, .int (iZ 0)), (0, .ref t_a), (1, .int (iZ part))]) hx hb dFg_tellMean_8 rfl hl (by decide) rfl (fun ls hl => ?_)
  have loop_6 : ∀ (n_8 : Nat) (i : Int) (ab : Int → Int) (be : Int → Int), (0 ≤ i) → (i ≤ 4) → (∀ j, 0 ≤ j → j < 4 → ab j = tA 0 t_numbers_f (fun j => t_sizes_f j * t_sums_f j) i j) → (∀ j, 0 ≤ j → j < 4 → be j = tB 0 t_numbers_f t_numbers_f i j) → (4 - i < (n_8 : Int)) → ∀ (H : Heap) (locs : List Loc), va_P D clAll [(t_a, .inr (3, [.ref t_sizes_a, .ref t_numbers_a, .ref t_sums_a, .ref t_scatters_a, .ref t_terms_a, .int (iZ t_counted), .long (lZ t_total)])), (t_sizes_a, .inl (cJ, 4, .inr (.inl (aL t_sizes_f)))), (t_numbers_a, .inl (cJ, 4, .inr (.inl (aL t_numbers_f)))), (t_sums_a, .inl (cJ, 4, .inr (.inl (aL t_sums_f)))), (t_terms_a, .inr (7, [.ref t_terms_aboves_a, .ref t_terms_belows_a])), (t_terms_aboves_a, .inl (cJ, 4, .inr (.inl (aL ab)))), (t_terms_belows_a, .inl (cJ, 4, .inr (.inl (aL be))))] H → va_D A [(t_a, .inr (3, [.ref t_sizes_a, .ref t_numbers_a, .ref t_sums_a, .ref t_scatters_a, .ref t_terms_a, .int (iZ t_counted), .long (lZ t_total)])), (t_sizes_a, .inl (cJ, 4, .inr (.inl (aL t_sizes_f)))), (t_numbers_a, .inl (cJ, 4, .inr (.inl (aL t_numbers_f)))), (t_sums_a, .inl (cJ, 4, .inr (.inl (aL t_sums_f)))), (t_terms_a, .inr (7, [.ref t_terms_aboves_a, .ref t_terms_belows_a])), (t_terms_aboves_a, .inl (cJ, 4, .inr (.inl (aL ab)))), (t_terms_belows_a, .inl (cJ, 4, .inr (.inl (aL be))))] → va_S A s.heap H locs → ∀ ls : Array Slot, lv_has ls 4 [(0, .ref t_a), (1, .int (iZ part)), (2, .int (iZ i))] → W p l e { frames := 3, cells := 0, slots := 0, locals := 78 } s m args below meth c H locs 0 0 Q (F0 m 9 ls []) := by
    intro n_8
    induction n_8 with
    | zero => intro i ab be hi hi2 hab hbe hm_9; exact absurd hm_9 (by omega)
    | succ n_8 ih_7 =>
      intro i ab be hi hi2 hab hbe hm_9 H locs hP hD hS ls hl
      refine lv_iload_n hx hb dFg_tellMean_9 rfl (lv_at hl 2 rfl) ?_
      refine lv_iconst (v := iZ 4) hx hb dFg_tellMean_10 (by decide) ?_
      refine z_icmp_ge (tgt := 58) hx hb (by omega) (by omega) (by omega) (by omega) dFg_tellMean_11 (by decide) (fun c_10 => ?_) (fun c_10 => ?_)
      ·
        have hE := mn_end hab hbe (by omega)
        have hb12 := tB_b12 hbe hnu
        have hbl := up_2000 hb12 (by omega)
        have hcb := cm_b12 hb12
        have hsb := mn_sb hab hb12 hsi hsm hcb
        have hub := mul_bd1 hcb.1 hcb.2 hto.1 hto.2
        refine lv_aload_n hx hb dFg_tellMean_58 rfl (lv_at hl 0 rfl) ?_
        refine va_get (D := D) (ci := 3) (v := .ref t_terms_a) (C := RFg) (T := TFg) (N := 7) hx hb hts layFg hown hK.1 hP 0 rfl rfl 4 (by decide) (hts _ (hm g153)) (fun _ h9 => h9) rfl dFg_tellMean_59 ?_
        refine cq_calll (wr := [(t_a, .inr (3, [.ref t_sizes_a, .ref t_numbers_a, .ref t_sums_a, .ref t_scatters_a, .ref t_terms_a, .int (iZ t_counted), .long (lZ t_total)])), (t_sizes_a, .inl (cJ, 4, .inr (.inl (aL t_sizes_f)))), (t_numbers_a, .inl (cJ, 4, .inr (.inl (aL t_numbers_f)))), (t_sums_a, .inl (cJ, 4, .inr (.inl (aL t_sums_f)))), (t_terms_aboves_a, .inl (cJ, 4, .inr (.inl (aL ab))))]) (va_runVN (C := RTm) (As := []) (rest := []) ⟨hx, hb, hml, hown, hts⟩ (k_Terms_common l D cI cJ cZ t_terms_a t_terms_aboves_a t_terms_belows_a H.size be (by first | assumption | omega)) ⟨(va_cnB 0 hts (gAll cmTm_common) rfl rfl rfl (hK.2.2 _ n38) (hts _ (hm g64)) (by decide +kernel) ⟨Nat.le_of_ble_eq_true rfl, Nat.le_of_ble_eq_true rfl⟩), (hts _ (hm g314)), (hts _ (hm g19))⟩ (cq_preV (va_recv hK.1 hP (ci := 7) (q0 := 4) rfl rfl) (cq_preS hK hP hD [4, 6] (by decide) rfl)) rfl rfl hl.1 rfl (lv_room (Nat.le_of_ble_eq_true rfl)) dFg_tellMean_62 ⟨by decide, by decide⟩) hP hD hS hA [4, 6] [0, 1, 2, 3, 5] rfl rfl (by decide) (by decide) (fun r u H locs hw_11 hP hD hS => ?_)
        obtain ⟨o_12, rfl⟩ : ∃ z, z = u := ⟨_, rfl⟩
        try dsimp only at hw_11
        obtain ⟨rfl, rfl⟩ := hw_11
        have hP : va_P D clAll [(t_a, .inr (3, [.ref t_sizes_a, .ref t_numbers_a, .ref t_sums_a, .ref t_scatters_a, .ref t_terms_a, .int (iZ t_counted), .long (lZ t_total)])), (t_sizes_a, .inl (cJ, 4, .inr (.inl (aL t_sizes_f)))), (t_numbers_a, .inl (cJ, 4, .inr (.inl (aL t_numbers_f)))), (t_sums_a, .inl (cJ, 4, .inr (.inl (aL t_sums_f)))), (t_terms_aboves_a, .inl (cJ, 4, .inr (.inl (aL ab)))), (t_terms_a, .inr (7, [.ref t_terms_aboves_a, .ref t_terms_belows_a])), (t_terms_belows_a, .inl (cJ, 4, .inr (.inl (aL be))))] H := hP
        have hD : va_D A [(t_a, .inr (3, [.ref t_sizes_a, .ref t_numbers_a, .ref t_sums_a, .ref t_scatters_a, .ref t_terms_a, .int (iZ t_counted), .long (lZ t_total)])), (t_sizes_a, .inl (cJ, 4, .inr (.inl (aL t_sizes_f)))), (t_numbers_a, .inl (cJ, 4, .inr (.inl (aL t_numbers_f)))), (t_sums_a, .inl (cJ, 4, .inr (.inl (aL t_sums_f)))), (t_terms_aboves_a, .inl (cJ, 4, .inr (.inl (aL ab)))), (t_terms_a, .inr (7, [.ref t_terms_aboves_a, .ref t_terms_belows_a])), (t_terms_belows_a, .inl (cJ, 4, .inr (.inl (aL be))))] := hD
        refine lv_lstore_n (lv' := [(2, .long (lZ (cm be 4))), (0, .ref t_a), (1, .int (iZ part))]) hx hb dFg_tellMean_65 rfl hl (by decide) rfl (fun ls hl => ?_)
        refine lv_aload_n hx hb dFg_tellMean_66 rfl (lv_at hl 1 rfl) ?_
        refine va_get (D := D) (ci := 3) (v := .ref t_terms_a) (C := RFg) (T := TFg) (N := 7) hx hb hts layFg hown hK.1 hP 0 rfl rfl 4 (by decide) (hts _ (hm g153)) (fun _ h9 => h9) rfl dFg_tellMean_67 ?_
        refine lv_lload_n hx hb dFg_tellMean_70 rfl (lv_at hl 0 rfl) ?_
        refine cq_calll (wr := [(t_a, .inr (3, [.ref t_sizes_a, .ref t_numbers_a, .ref t_sums_a, .ref t_scatters_a, .ref t_terms_a, .int (iZ t_counted), .long (lZ t_total)])), (t_sizes_a, .inl (cJ, 4, .inr (.inl (aL t_sizes_f)))), (t_numbers_a, .inl (cJ, 4, .inr (.inl (aL t_numbers_f)))), (t_sums_a, .inl (cJ, 4, .inr (.inl (aL t_sums_f))))]) (va_runVN (C := RTm) (As := [.long (lZ (cm be 4))]) (rest := []) ⟨hx, hb, hml, hown, hts⟩ (k_Terms_sum l D cI cJ cZ t_terms_a t_terms_aboves_a t_terms_belows_a H.size ab be (cm be 4) (by omega) (by omega) (by first | assumption | omega) (by first | assumption | omega)) ⟨(va_cnB 1 hts (gAll cmTm_sum) rfl rfl rfl (hK.2.2 _ n40) (hts _ (hm g64)) (by decide +kernel) ⟨Nat.le_of_ble_eq_true rfl, Nat.le_of_ble_eq_true rfl⟩), (hts _ (hm g321)), (hts _ (hm g20))⟩ (cq_preV (va_recv hK.1 hP (ci := 7) (q0 := 5) rfl rfl) (cq_preS hK hP hD [5, 4, 6] (by decide) rfl)) rfl rfl hl.1 rfl (lv_room (Nat.le_of_ble_eq_true rfl)) dFg_tellMean_71 ⟨by decide, by decide⟩) hP hD hS hA [5, 4, 6] [0, 1, 2, 3] rfl rfl (by decide) (by decide) (fun r u H locs hw_13 hP hD hS => ?_)
        obtain ⟨o_14, rfl⟩ : ∃ z, z = u := ⟨_, rfl⟩
        try dsimp only at hw_13
        obtain ⟨rfl, rfl⟩ := hw_13
        have hP : va_P D clAll [(t_a, .inr (3, [.ref t_sizes_a, .ref t_numbers_a, .ref t_sums_a, .ref t_scatters_a, .ref t_terms_a, .int (iZ t_counted), .long (lZ t_total)])), (t_sizes_a, .inl (cJ, 4, .inr (.inl (aL t_sizes_f)))), (t_numbers_a, .inl (cJ, 4, .inr (.inl (aL t_numbers_f)))), (t_sums_a, .inl (cJ, 4, .inr (.inl (aL t_sums_f)))), (t_terms_a, .inr (7, [.ref t_terms_aboves_a, .ref t_terms_belows_a])), (t_terms_aboves_a, .inl (cJ, 4, .inr (.inl (aL ab)))), (t_terms_belows_a, .inl (cJ, 4, .inr (.inl (aL be))))] H := hP
        have hD : va_D A [(t_a, .inr (3, [.ref t_sizes_a, .ref t_numbers_a, .ref t_sums_a, .ref t_scatters_a, .ref t_terms_a, .int (iZ t_counted), .long (lZ t_total)])), (t_sizes_a, .inl (cJ, 4, .inr (.inl (aL t_sizes_f)))), (t_numbers_a, .inl (cJ, 4, .inr (.inl (aL t_numbers_f)))), (t_sums_a, .inl (cJ, 4, .inr (.inl (aL t_sums_f)))), (t_terms_a, .inr (7, [.ref t_terms_aboves_a, .ref t_terms_belows_a])), (t_terms_aboves_a, .inl (cJ, 4, .inr (.inl (aL ab)))), (t_terms_belows_a, .inl (cJ, 4, .inr (.inl (aL be))))] := hD
        refine lv_lload_n hx hb dFg_tellMean_74 rfl (lv_at hl 0 rfl) ?_
        refine lv_aload_n hx hb dFg_tellMean_75 rfl (lv_at hl 1 rfl) ?_
        refine va_get (D := D) (ci := 3) (v := .long (lZ t_total)) (C := RFg) (T := TFg) (N := 7) hx hb hts layFg hown hK.1 hP 0 rfl rfl 6 (by decide) (hts _ (hm g155)) (fun _ h9 => h9) rfl dFg_tellMean_76 ?_
        refine z_lmul hx hb dFg_tellMean_79 ?_
        refine lv_iload_n hx hb dFg_tellMean_80 rfl (lv_at hl 2 rfl) ?_
        refine cq_calll (wr := [(t_a, .inr (3, [.ref t_sizes_a, .ref t_numbers_a, .ref t_sums_a, .ref t_scatters_a, .ref t_terms_a, .int (iZ t_counted), .long (lZ t_total)])), (t_sizes_a, .inl (cJ, 4, .inr (.inl (aL t_sizes_f)))), (t_numbers_a, .inl (cJ, 4, .inr (.inl (aL t_numbers_f)))), (t_sums_a, .inl (cJ, 4, .inr (.inl (aL t_sums_f)))), (t_terms_a, .inr (7, [.ref t_terms_aboves_a, .ref t_terms_belows_a])), (t_terms_aboves_a, .inl (cJ, 4, .inr (.inl (aL ab)))), (t_terms_belows_a, .inl (cJ, 4, .inr (.inl (aL be))))]) (va_runSN (As := [.long (lZ (sZ (fun j => ab j * ((cm be 4) / be j)) 4)), .long (lZ ((cm be 4) * t_total)), .int (iZ part)]) (rest := []) ⟨hx, hb, hml, hown, hts⟩ (k_StratumCounts_tell l D cI cJ cZ H.size (sZ (fun j => ab j * ((cm be 4) / be j)) 4) ((cm be 4) * t_total) part (by omega) (by omega) (by omega) (by omega) (by omega) (by omega) (by first | assumption | omega) (by first | assumption | omega)) ⟨(va_cnB 3 hts (gAll cmSc_tell) rfl rfl rfl (hK.2.2 _ n41) (hts _ (hm g58)) (by decide +kernel) ⟨Nat.le_of_ble_eq_true rfl, Nat.le_of_ble_eq_true rfl⟩), (hts _ (hm g326)), trivial⟩ (cq_preS hK hP hD [] (by decide) rfl) rfl rfl hl.1 rfl (lv_room (Nat.le_of_ble_eq_true rfl)) dFg_tellMean_81 ⟨by decide, by decide⟩) hP hD hS hA [] [0, 1, 2, 3, 4, 5, 6] rfl rfl (by decide) (by decide) (fun r u H locs hw_15 hP hD hS => ?_)
        obtain ⟨o_16, rfl⟩ : ∃ z, z = u := ⟨_, rfl⟩
        try dsimp only at hw_15
        obtain ⟨rfl, rfl⟩ := hw_15
        have hP : va_P D clAll [(t_a, .inr (3, [.ref t_sizes_a, .ref t_numbers_a, .ref t_sums_a, .ref t_scatters_a, .ref t_terms_a, .int (iZ t_counted), .long (lZ t_total)])), (t_sizes_a, .inl (cJ, 4, .inr (.inl (aL t_sizes_f)))), (t_numbers_a, .inl (cJ, 4, .inr (.inl (aL t_numbers_f)))), (t_sums_a, .inl (cJ, 4, .inr (.inl (aL t_sums_f)))), (t_terms_a, .inr (7, [.ref t_terms_aboves_a, .ref t_terms_belows_a])), (t_terms_aboves_a, .inl (cJ, 4, .inr (.inl (aL ab)))), (t_terms_belows_a, .inl (cJ, 4, .inr (.inl (aL be))))] H := hP
        have hD : va_D A [(t_a, .inr (3, [.ref t_sizes_a, .ref t_numbers_a, .ref t_sums_a, .ref t_scatters_a, .ref t_terms_a, .int (iZ t_counted), .long (lZ t_total)])), (t_sizes_a, .inl (cJ, 4, .inr (.inl (aL t_sizes_f)))), (t_numbers_a, .inl (cJ, 4, .inr (.inl (aL t_numbers_f)))), (t_sums_a, .inl (cJ, 4, .inr (.inl (aL t_sums_f)))), (t_terms_a, .inr (7, [.ref t_terms_aboves_a, .ref t_terms_belows_a])), (t_terms_aboves_a, .inl (cJ, 4, .inr (.inl (aL ab)))), (t_terms_belows_a, .inl (cJ, 4, .inr (.inl (aL be))))] := hD
        exact cq_lret hx hb hr hlocks hAe hQ ((if part = 0 then (sZ (fun j => ab j * ((cm be 4) / be j)) 4) else ((cm be 4) * t_total)) / (Int.gcd (sZ (fun j => ab j * ((cm be 4) / be j)) 4) ((cm be 4) * t_total) : Int), ab, be) ⟨rfl, (by (try dsimp only) <;> (rw [hE.1, hE.2]; rfl))⟩ (hP.sub [0, 1, 2, 3, 4, 5, 6] rfl) (hD.sub [0, 1, 2, 3, 4, 5, 6] (by decide) rfl) hS (by decide) (by decide) dFg_tellMean_84
      ·
        refine lv_aload_n hx hb dFg_tellMean_14 rfl (lv_at hl 0 rfl) ?_
        refine va_get (D := D) (ci := 3) (v := .ref t_numbers_a) (C := RFg) (T := TFg) (N := 7) hx hb hts layFg hown hK.1 hP 0 rfl rfl 1 (by decide) (hts _ (hm g150)) (fun _ h9 => h9) rfl dFg_tellMean_15 ?_
        refine lv_iload_n hx hb dFg_tellMean_18 rfl (lv_at hl 2 rfl) ?_
        refine z_lald hx hb hK hP 2 1 rfl rfl (by omega) (by omega) (by decide) dFg_tellMean_19 ?_
        have f_17 := hnu i (by omega) (by omega)
        refine lv_lconst (v := lZ 0) hx hb dFg_tellMean_20 (by decide) ?_
        refine z_lcmp_le (tgt := 52) hx hb (by omega) (by omega) (by omega) (by omega) dFg_tellMean_21 dFg_tellMean_22 (by decide) (fun c_18 => ?_) (fun c_18 => ?_)
        ·
          refine lv_iinc (v := iZ (i + 1)) (lv' := [(2, .int (iZ (i + 1))), (0, .ref t_a), (1, .int (iZ part))]) hx hb dFg_tellMean_52 hl (k := 2) rfl (iZ_add i 1) (by decide) rfl (fun ls hl => ?_)
          refine lv_goto (tgt := 9) hx hb dFg_tellMean_55 (by decide) ?_
          exact ih_7  (i + 1) ab be (by omega) (by omega) (by first | exact tA_hit hab (by assumption) | exact tA_miss hab (by assumption)) (by first | exact tB_hit hbe (by assumption) | exact tB_miss hbe (by assumption)) (by omega) _ _ (hP.sub [0, 1, 2, 3, 4, 5, 6] rfl) (hD.sub [0, 1, 2, 3, 4, 5, 6] (by decide) rfl) hS ls (lv_sub hl [1, 2, 0] rfl)
        ·
          refine lv_aload_n hx hb dFg_tellMean_25 rfl (lv_at hl 0 rfl) ?_
          refine va_get (D := D) (ci := 3) (v := .ref t_terms_a) (C := RFg) (T := TFg) (N := 7) hx hb hts layFg hown hK.1 hP 0 rfl rfl 4 (by decide) (hts _ (hm g153)) (fun _ h9 => h9) rfl dFg_tellMean_26 ?_
          refine lv_iload_n hx hb dFg_tellMean_29 rfl (lv_at hl 2 rfl) ?_
          refine lv_aload_n hx hb dFg_tellMean_30 rfl (lv_at hl 0 rfl) ?_
          refine va_get (D := D) (ci := 3) (v := .ref t_sizes_a) (C := RFg) (T := TFg) (N := 7) hx hb hts layFg hown hK.1 hP 0 rfl rfl 0 (by decide) (hts _ (hm g149)) (fun _ h9 => h9) rfl dFg_tellMean_31 ?_
          refine lv_iload_n hx hb dFg_tellMean_34 rfl (lv_at hl 2 rfl) ?_
          refine z_lald hx hb hK hP 1 1 rfl rfl (by omega) (by omega) (by decide) dFg_tellMean_35 ?_
          have f_19 := hsi i (by omega) (by omega)
          refine lv_aload_n hx hb dFg_tellMean_36 rfl (lv_at hl 0 rfl) ?_
          refine va_get (D := D) (ci := 3) (v := .ref t_sums_a) (C := RFg) (T := TFg) (N := 7) hx hb hts layFg hown hK.1 hP 0 rfl rfl 2 (by decide) (hts _ (hm g151)) (fun _ h9 => h9) rfl dFg_tellMean_37 ?_
          refine lv_iload_n hx hb dFg_tellMean_40 rfl (lv_at hl 2 rfl) ?_
          refine z_lald hx hb hK hP 3 1 rfl rfl (by omega) (by omega) (by decide) dFg_tellMean_41 ?_
          have f_20 := hsm i (by omega) (by omega)
          refine z_lmul hx hb dFg_tellMean_42 ?_
          refine lv_aload_n hx hb dFg_tellMean_43 rfl (lv_at hl 0 rfl) ?_
          refine va_get (D := D) (ci := 3) (v := .ref t_numbers_a) (C := RFg) (T := TFg) (N := 7) hx hb hts layFg hown hK.1 hP 0 rfl rfl 1 (by decide) (hts _ (hm g150)) (fun _ h9 => h9) rfl dFg_tellMean_44 ?_
          refine lv_iload_n hx hb dFg_tellMean_47 rfl (lv_at hl 2 rfl) ?_
          refine z_lald hx hb hK hP 2 1 rfl rfl (by omega) (by omega) (by decide) dFg_tellMean_48 ?_
          have f_21 := hnu i (by omega) (by omega)
          have hq := mul_bd (hsi i (by omega) (by omega)).1 (hsi i (by omega) (by omega)).2 (hsm i (by omega) (by omega)).1 (hsm i (by omega) (by omega)).2
          refine cq_callv (wr := [(t_a, .inr (3, [.ref t_sizes_a, .ref t_numbers_a, .ref t_sums_a, .ref t_scatters_a, .ref t_terms_a, .int (iZ t_counted), .long (lZ t_total)])), (t_sizes_a, .inl (cJ, 4, .inr (.inl (aL t_sizes_f)))), (t_numbers_a, .inl (cJ, 4, .inr (.inl (aL t_numbers_f)))), (t_sums_a, .inl (cJ, 4, .inr (.inl (aL t_sums_f))))]) (va_runVN (C := RTm) (As := [.int (iZ i), .long (lZ ((t_sizes_f i) * (t_sums_f i))), .long (lZ (t_numbers_f i))]) (rest := []) ⟨hx, hb, hml, hown, hts⟩ (k_Terms_set l D cI cJ cZ t_terms_a t_terms_aboves_a t_terms_belows_a H.size ab be i ((t_sizes_f i) * (t_sums_f i)) (t_numbers_f i) (by omega) (by omega) (by omega) (by omega) (by omega) (by omega) (by first | assumption | omega)) ⟨(va_cnB 3 hts (gAll cmTm_set) rfl rfl rfl (hK.2.2 _ n37) (hts _ (hm g64)) (by decide +kernel) ⟨Nat.le_of_ble_eq_true rfl, Nat.le_of_ble_eq_true rfl⟩), (hts _ (hm g312)), (hts _ (hm g18))⟩ (cq_preV (va_recv hK.1 hP (ci := 7) (q0 := 4) rfl rfl) (cq_preS hK hP hD [4, 5, 6] (by decide) rfl)) rfl rfl hl.1 rfl (lv_room (Nat.le_of_ble_eq_true rfl)) dFg_tellMean_49 ⟨by decide, by decide⟩) hP hD hS hA [4, 5, 6] [0, 1, 2, 3] rfl rfl (by decide) (by decide) (fun u H locs hw_22 hP hD hS => ?_)
          obtain ⟨o_23, o_24⟩ := u
          try dsimp only at hw_22
          obtain ⟨rfl, rfl⟩ := hw_22
          have hP : va_P D clAll [(t_a, .inr (3, [.ref t_sizes_a, .ref t_numbers_a, .ref t_sums_a, .ref t_scatters_a, .ref t_terms_a, .int (iZ t_counted), .long (lZ t_total)])), (t_sizes_a, .inl (cJ, 4, .inr (.inl (aL t_sizes_f)))), (t_numbers_a, .inl (cJ, 4, .inr (.inl (aL t_numbers_f)))), (t_sums_a, .inl (cJ, 4, .inr (.inl (aL t_sums_f)))), (t_terms_a, .inr (7, [.ref t_terms_aboves_a, .ref t_terms_belows_a])), (t_terms_aboves_a, .inl (cJ, 4, .inr (.inl (aL (pu ab i ((t_sizes_f i) * (t_sums_f i))))))), (t_terms_belows_a, .inl (cJ, 4, .inr (.inl (aL (pu be i (t_numbers_f i))))))] H := hP
          have hD : va_D A [(t_a, .inr (3, [.ref t_sizes_a, .ref t_numbers_a, .ref t_sums_a, .ref t_scatters_a, .ref t_terms_a, .int (iZ t_counted), .long (lZ t_total)])), (t_sizes_a, .inl (cJ, 4, .inr (.inl (aL t_sizes_f)))), (t_numbers_a, .inl (cJ, 4, .inr (.inl (aL t_numbers_f)))), (t_sums_a, .inl (cJ, 4, .inr (.inl (aL t_sums_f)))), (t_terms_a, .inr (7, [.ref t_terms_aboves_a, .ref t_terms_belows_a])), (t_terms_aboves_a, .inl (cJ, 4, .inr (.inl (aL (pu ab i ((t_sizes_f i) * (t_sums_f i))))))), (t_terms_belows_a, .inl (cJ, 4, .inr (.inl (aL (pu be i (t_numbers_f i))))))] := hD
          refine lv_iinc (v := iZ (i + 1)) (lv' := [(2, .int (iZ (i + 1))), (0, .ref t_a), (1, .int (iZ part))]) hx hb dFg_tellMean_52 hl (k := 2) rfl (iZ_add i 1) (by decide) rfl (fun ls hl => ?_)
          refine lv_goto (tgt := 9) hx hb dFg_tellMean_55 (by decide) ?_
          exact ih_7  (i + 1) (pu ab i ((t_sizes_f i) * (t_sums_f i))) (pu be i (t_numbers_f i)) (by omega) (by omega) (by first | exact tA_hit hab (by assumption) | exact tA_miss hab (by assumption)) (by first | exact tB_hit hbe (by assumption) | exact tB_miss hbe (by assumption)) (by omega) _ _ (hP.sub [0, 1, 2, 3, 4, 5, 6] rfl) (hD.sub [0, 1, 2, 3, 4, 5, 6] (by decide) rfl) hS ls (lv_sub hl [1, 2, 0] rfl)
  exact loop_6 ((4 - 0 : Int).toNat + 1) 0 o_2 o_3 (by omega) (by omega) (by exact tA_0 (by assumption)) (by exact tB_0 (by assumption)) (by omega) _ _ (hP.sub [0, 1, 2, 3, 4, 5, 6] rfl) (hD.sub [0, 1, 2, 3, 4, 5, 6] (by decide) rfl) hS ls (lv_sub hl [1, 2, 0] rfl)
set_option maxHeartbeats 4000000 in
set_option maxRecDepth 100000 in
theorem k_Figures_tellSpread (l : Launch) (D : va_G) (cI cJ cZ : ClassId) (t_a t_sizes_a t_numbers_a t_sums_a t_scatters_a t_terms_a t_terms_aboves_a t_terms_belows_a : Nat) (sz : Nat) (t_counted : Int) (t_total : Int) (t_sizes_f : Int → Int) (t_numbers_f : Int → Int) (t_scatters_f : Int → Int) (t_terms_aboves_f : Int → Int) (t_terms_belows_f : Int → Int) (part : Int) (h_part1 : -2147483648 ≤ part) (h_part2 : part < 2147483648) (hsi : ∀ j, 0 ≤ j → j < 4 → 0 ≤ t_sizes_f j ∧ t_sizes_f j ≤ 100) (hnu : ∀ j, 0 ≤ j → j < 4 → 0 ≤ t_numbers_f j ∧ t_numbers_f j ≤ 12) (hsc : ∀ j, 0 ≤ j → j < 4 → 0 ≤ t_scatters_f j ∧ t_scatters_f j ≤ t_numbers_f j * t_numbers_f j * 100000000) (hto : 1 ≤ t_total ∧ t_total ≤ 400) (hco : mnC 1 t_numbers_f (fun j => t_numbers_f j * (t_numbers_f j * (t_numbers_f j - 1))) ≤ 110592) : cq_l l yFg_tellSpread wsFg_tellSpread ({ frames := 3, cells := 0, slots := 0, locals := 78 }) D clAll [(cI, .int), (cJ, .long), (cZ, .boolean)] nwAll [.ref t_a, .int (iZ part)] [(t_a, .inr (3, [.ref t_sizes_a, .ref t_numbers_a, .ref t_sums_a, .ref t_scatters_a, .ref t_terms_a, .int (iZ t_counted), .long (lZ t_total)])), (t_sizes_a, .inl (cJ, 4, .inr (.inl (aL t_sizes_f)))), (t_numbers_a, .inl (cJ, 4, .inr (.inl (aL t_numbers_f)))), (t_scatters_a, .inl (cJ, 4, .inr (.inl (aL t_scatters_f)))), (t_terms_a, .inr (7, [.ref t_terms_aboves_a, .ref t_terms_belows_a])), (t_terms_aboves_a, .inl (cJ, 4, .inr (.inl (aL t_terms_aboves_f)))), (t_terms_belows_a, .inl (cJ, 4, .inr (.inl (aL t_terms_belows_f))))] sz (S := Int × (Int → Int) × (Int → Int)) (fun (r : Int64) (u : Int × (Int → Int) × (Int → Int)) => r = lZ u.1 ∧ (u.1 = telv (mnO 1 t_numbers_f (fun j => t_sizes_f j * t_sizes_f j * t_scatters_f j) (fun j => t_numbers_f j * (t_numbers_f j * (t_numbers_f j - 1)))) (mnC 1 t_numbers_f (fun j => t_numbers_f j * (t_numbers_f j * (t_numbers_f j - 1))) * t_total * t_total) part)) (fun (u : Int × (Int → Int) × (Int → Int)) => [(t_a, .inr (3, [.ref t_sizes_a, .ref t_numbers_a, .ref t_sums_a, .ref t_scatters_a, .ref t_terms_a, .int (iZ t_counted), .long (lZ t_total)])), (t_sizes_a, .inl (cJ, 4, .inr (.inl (aL t_sizes_f)))), (t_numbers_a, .inl (cJ, 4, .inr (.inl (aL t_numbers_f)))), (t_scatters_a, .inl (cJ, 4, .inr (.inl (aL t_scatters_f)))), (t_terms_a, .inr (7, [.ref t_terms_aboves_a, .ref t_terms_belows_a])), (t_terms_aboves_a, .inl (cJ, 4, .inr (.inl (aL u.2.1)))), (t_terms_belows_a, .inl (cJ, 4, .inr (.inl (aL u.2.2))))]) 0 0 := by
  refine cq_enter (cc := cFg_tellSpread) (maxL := 4) (ret := some .long) (by decide) rfl (Nat.le_of_ble_eq_true rfl) ?_
  intro p e s m below meth c A args Q H hAe hQ hsz hAt hA hP hK hD hS ls hl
  obtain ⟨hx, hb, hr, hml, hown, hts, hlocks, hin⟩ := hAt
  have hown : s.vm.findClass RFg = some m.cls := hown
  have hl : lv_has ls 4 [(0, .ref t_a), (1, .int (iZ part))] := hl
  refine lv_aload_n hx hb dFg_tellSpread_0 rfl (lv_at hl 0 rfl) ?_
  refine va_get (D := D) (ci := 3) (v := .ref t_terms_a) (C := RFg) (T := TFg) (N := 7) hx hb hts layFg hown hK.1 hP 0 rfl rfl 4 (by decide) (hts _ (hm g153)) (fun _ h9 => h9) rfl dFg_tellSpread_1 ?_
  refine cq_callv (wr := [(t_a, .inr (3, [.ref t_sizes_a, .ref t_numbers_a, .ref t_sums_a, .ref t_scatters_a, .ref t_terms_a, .int (iZ t_counted), .long (lZ t_total)])), (t_sizes_a, .inl (cJ, 4, .inr (.inl (aL t_sizes_f)))), (t_numbers_a, .inl (cJ, 4, .inr (.inl (aL t_numbers_f)))), (t_scatters_a, .inl (cJ, 4, .inr (.inl (aL t_scatters_f))))]) (va_runVN (C := RTm) (As := []) (rest := []) ⟨hx, hb, hml, hown, hts⟩ (k_Terms_clear l D cI cJ cZ t_terms_a t_terms_aboves_a t_terms_belows_a H.size t_terms_aboves_f t_terms_belows_f) ⟨(va_cnB 0 hts (gAll cmTm_clear) rfl rfl rfl (hK.2.2 _ n36) (hts _ (hm g64)) (by decide +kernel) ⟨Nat.le_of_ble_eq_true rfl, Nat.le_of_ble_eq_true rfl⟩), (hts _ (hm g307)), (hts _ (hm g17))⟩ (cq_preV (va_recv hK.1 hP (ci := 7) (q0 := 4) rfl rfl) (cq_preS hK hP hD [4, 5, 6] (by decide) rfl)) rfl rfl hl.1 rfl (lv_room (Nat.le_of_ble_eq_true rfl)) dFg_tellSpread_4 ⟨by decide, by decide⟩) hP hD hS hA [4, 5, 6] [0, 1, 2, 3] rfl rfl (by decide) (by decide) (fun u H locs hw_1 hP hD hS => ?_)
  obtain ⟨o_2, o_3⟩ := u
  try dsimp only at hw_1
  obtain ⟨p_4, p_5⟩ := hw_1
  have hP : va_P D clAll [(t_a, .inr (3, [.ref t_sizes_a, .ref t_numbers_a, .ref t_sums_a, .ref t_scatters_a, .ref t_terms_a, .int (iZ t_counted), .long (lZ t_total)])), (t_sizes_a, .inl (cJ, 4, .inr (.inl (aL t_sizes_f)))), (t_numbers_a, .inl (cJ, 4, .inr (.inl (aL t_numbers_f)))), (t_scatters_a, .inl (cJ, 4, .inr (.inl (aL t_scatters_f)))), (t_terms_a, .inr (7, [.ref t_terms_aboves_a, .ref t_terms_belows_a])), (t_terms_aboves_a, .inl (cJ, 4, .inr (.inl (aL o_2)))), (t_terms_belows_a, .inl (cJ, 4, .inr (.inl (aL o_3))))] H := hP
  have hD : va_D A [(t_a, .inr (3, [.ref t_sizes_a, .ref t_numbers_a, .ref t_sums_a, .ref t_scatters_a, .ref t_terms_a, .int (iZ t_counted), .long (lZ t_total)])), (t_sizes_a, .inl (cJ, 4, .inr (.inl (aL t_sizes_f)))), (t_numbers_a, .inl (cJ, 4, .inr (.inl (aL t_numbers_f)))), (t_scatters_a, .inl (cJ, 4, .inr (.inl (aL t_scatters_f)))), (t_terms_a, .inr (7, [.ref t_terms_aboves_a, .ref t_terms_belows_a])), (t_terms_aboves_a, .inl (cJ, 4, .inr (.inl (aL o_2)))), (t_terms_belows_a, .inl (cJ, 4, .inr (.inl (aL o_3))))] := hD
  refine lv_iconst (v := iZ 0) hx hb dFg_tellSpread_7 (by decide) ?_
  refine lv_istore_n (lv' := [(2, .int (iZ 0)), (0, .ref t_a), (1, .int (iZ part))]) hx hb dFg_tellSpread_8 rfl hl (by decide) rfl (fun ls hl => ?_)
  have loop_6 : ∀ (n_8 : Nat) (i : Int) (ab : Int → Int) (be : Int → Int), (0 ≤ i) → (i ≤ 4) → (∀ j, 0 ≤ j → j < 4 → ab j = tA 1 t_numbers_f (fun j => t_sizes_f j * t_sizes_f j * t_scatters_f j) i j) → (∀ j, 0 ≤ j → j < 4 → be j = tB 1 t_numbers_f (fun j => t_numbers_f j * (t_numbers_f j * (t_numbers_f j - 1))) i j) → (4 - i < (n_8 : Int)) → ∀ (H : Heap) (locs : List Loc), va_P D clAll [(t_a, .inr (3, [.ref t_sizes_a, .ref t_numbers_a, .ref t_sums_a, .ref t_scatters_a, .ref t_terms_a, .int (iZ t_counted), .long (lZ t_total)])), (t_sizes_a, .inl (cJ, 4, .inr (.inl (aL t_sizes_f)))), (t_numbers_a, .inl (cJ, 4, .inr (.inl (aL t_numbers_f)))), (t_scatters_a, .inl (cJ, 4, .inr (.inl (aL t_scatters_f)))), (t_terms_a, .inr (7, [.ref t_terms_aboves_a, .ref t_terms_belows_a])), (t_terms_aboves_a, .inl (cJ, 4, .inr (.inl (aL ab)))), (t_terms_belows_a, .inl (cJ, 4, .inr (.inl (aL be))))] H → va_D A [(t_a, .inr (3, [.ref t_sizes_a, .ref t_numbers_a, .ref t_sums_a, .ref t_scatters_a, .ref t_terms_a, .int (iZ t_counted), .long (lZ t_total)])), (t_sizes_a, .inl (cJ, 4, .inr (.inl (aL t_sizes_f)))), (t_numbers_a, .inl (cJ, 4, .inr (.inl (aL t_numbers_f)))), (t_scatters_a, .inl (cJ, 4, .inr (.inl (aL t_scatters_f)))), (t_terms_a, .inr (7, [.ref t_terms_aboves_a, .ref t_terms_belows_a])), (t_terms_aboves_a, .inl (cJ, 4, .inr (.inl (aL ab)))), (t_terms_belows_a, .inl (cJ, 4, .inr (.inl (aL be))))] → va_S A s.heap H locs → ∀ ls : Array Slot, lv_has ls 4 [(0, .ref t_a), (1, .int (iZ part)), (2, .int (iZ i))] → W p l e { frames := 3, cells := 0, slots := 0, locals := 78 } s m args below meth c H locs 0 0 Q (F0 m 9 ls []) := by
    intro n_8
    induction n_8 with
    | zero => intro i ab be hi hi2 hab hbe hm_9; exact absurd hm_9 (by omega)
    | succ n_8 ih_7 =>
      intro i ab be hi hi2 hab hbe hm_9 H locs hP hD hS ls hl
      refine lv_iload_n hx hb dFg_tellSpread_9 rfl (lv_at hl 2 rfl) ?_
      refine lv_iconst (v := iZ 4) hx hb dFg_tellSpread_10 (by decide) ?_
      refine z_icmp_ge (tgt := 56) hx hb (by omega) (by omega) (by omega) (by omega) dFg_tellSpread_11 (by decide) (fun c_10 => ?_) (fun c_10 => ?_)
      ·
        have hE := mn_end hab hbe (by omega)
        have hbl := tB_bp hbe hnu
        have hcb := cm_b rfl (show (0 : Int) ≤ 4 by omega) (by omega) hbl
        have hcc : cm be 4 ≤ 110592 := by rw [hE.2]; exact hco
        have hsb := sp_sb hab hbe (by omega) hsi hnu hsc hcb.1 hcc
        have hub := tt_bd hcb.1 hcc hto
        refine lv_aload_n hx hb dFg_tellSpread_56 rfl (lv_at hl 0 rfl) ?_
        refine va_get (D := D) (ci := 3) (v := .ref t_terms_a) (C := RFg) (T := TFg) (N := 7) hx hb hts layFg hown hK.1 hP 0 rfl rfl 4 (by decide) (hts _ (hm g153)) (fun _ h9 => h9) rfl dFg_tellSpread_57 ?_
        refine cq_calll (wr := [(t_a, .inr (3, [.ref t_sizes_a, .ref t_numbers_a, .ref t_sums_a, .ref t_scatters_a, .ref t_terms_a, .int (iZ t_counted), .long (lZ t_total)])), (t_sizes_a, .inl (cJ, 4, .inr (.inl (aL t_sizes_f)))), (t_numbers_a, .inl (cJ, 4, .inr (.inl (aL t_numbers_f)))), (t_scatters_a, .inl (cJ, 4, .inr (.inl (aL t_scatters_f)))), (t_terms_aboves_a, .inl (cJ, 4, .inr (.inl (aL ab))))]) (va_runVN (C := RTm) (As := []) (rest := []) ⟨hx, hb, hml, hown, hts⟩ (k_Terms_common l D cI cJ cZ t_terms_a t_terms_aboves_a t_terms_belows_a H.size be (by first | assumption | omega)) ⟨(va_cnB 0 hts (gAll cmTm_common) rfl rfl rfl (hK.2.2 _ n38) (hts _ (hm g64)) (by decide +kernel) ⟨Nat.le_of_ble_eq_true rfl, Nat.le_of_ble_eq_true rfl⟩), (hts _ (hm g314)), (hts _ (hm g19))⟩ (cq_preV (va_recv hK.1 hP (ci := 7) (q0 := 4) rfl rfl) (cq_preS hK hP hD [4, 6] (by decide) rfl)) rfl rfl hl.1 rfl (lv_room (Nat.le_of_ble_eq_true rfl)) dFg_tellSpread_60 ⟨by decide, by decide⟩) hP hD hS hA [4, 6] [0, 1, 2, 3, 5] rfl rfl (by decide) (by decide) (fun r u H locs hw_11 hP hD hS => ?_)
        obtain ⟨o_12, rfl⟩ : ∃ z, z = u := ⟨_, rfl⟩
        try dsimp only at hw_11
        obtain ⟨rfl, rfl⟩ := hw_11
        have hP : va_P D clAll [(t_a, .inr (3, [.ref t_sizes_a, .ref t_numbers_a, .ref t_sums_a, .ref t_scatters_a, .ref t_terms_a, .int (iZ t_counted), .long (lZ t_total)])), (t_sizes_a, .inl (cJ, 4, .inr (.inl (aL t_sizes_f)))), (t_numbers_a, .inl (cJ, 4, .inr (.inl (aL t_numbers_f)))), (t_scatters_a, .inl (cJ, 4, .inr (.inl (aL t_scatters_f)))), (t_terms_aboves_a, .inl (cJ, 4, .inr (.inl (aL ab)))), (t_terms_a, .inr (7, [.ref t_terms_aboves_a, .ref t_terms_belows_a])), (t_terms_belows_a, .inl (cJ, 4, .inr (.inl (aL be))))] H := hP
        have hD : va_D A [(t_a, .inr (3, [.ref t_sizes_a, .ref t_numbers_a, .ref t_sums_a, .ref t_scatters_a, .ref t_terms_a, .int (iZ t_counted), .long (lZ t_total)])), (t_sizes_a, .inl (cJ, 4, .inr (.inl (aL t_sizes_f)))), (t_numbers_a, .inl (cJ, 4, .inr (.inl (aL t_numbers_f)))), (t_scatters_a, .inl (cJ, 4, .inr (.inl (aL t_scatters_f)))), (t_terms_aboves_a, .inl (cJ, 4, .inr (.inl (aL ab)))), (t_terms_a, .inr (7, [.ref t_terms_aboves_a, .ref t_terms_belows_a])), (t_terms_belows_a, .inl (cJ, 4, .inr (.inl (aL be))))] := hD
        refine lv_lstore_n (lv' := [(2, .long (lZ (cm be 4))), (0, .ref t_a), (1, .int (iZ part))]) hx hb dFg_tellSpread_63 rfl hl (by decide) rfl (fun ls hl => ?_)
        refine lv_aload_n hx hb dFg_tellSpread_64 rfl (lv_at hl 1 rfl) ?_
        refine va_get (D := D) (ci := 3) (v := .ref t_terms_a) (C := RFg) (T := TFg) (N := 7) hx hb hts layFg hown hK.1 hP 0 rfl rfl 4 (by decide) (hts _ (hm g153)) (fun _ h9 => h9) rfl dFg_tellSpread_65 ?_
        refine lv_lload_n hx hb dFg_tellSpread_68 rfl (lv_at hl 0 rfl) ?_
        refine cq_calll (wr := [(t_a, .inr (3, [.ref t_sizes_a, .ref t_numbers_a, .ref t_sums_a, .ref t_scatters_a, .ref t_terms_a, .int (iZ t_counted), .long (lZ t_total)])), (t_sizes_a, .inl (cJ, 4, .inr (.inl (aL t_sizes_f)))), (t_numbers_a, .inl (cJ, 4, .inr (.inl (aL t_numbers_f)))), (t_scatters_a, .inl (cJ, 4, .inr (.inl (aL t_scatters_f))))]) (va_runVN (C := RTm) (As := [.long (lZ (cm be 4))]) (rest := []) ⟨hx, hb, hml, hown, hts⟩ (k_Terms_sum l D cI cJ cZ t_terms_a t_terms_aboves_a t_terms_belows_a H.size ab be (cm be 4) (by omega) (by omega) (by first | assumption | omega) (by first | assumption | omega)) ⟨(va_cnB 1 hts (gAll cmTm_sum) rfl rfl rfl (hK.2.2 _ n40) (hts _ (hm g64)) (by decide +kernel) ⟨Nat.le_of_ble_eq_true rfl, Nat.le_of_ble_eq_true rfl⟩), (hts _ (hm g321)), (hts _ (hm g20))⟩ (cq_preV (va_recv hK.1 hP (ci := 7) (q0 := 5) rfl rfl) (cq_preS hK hP hD [5, 4, 6] (by decide) rfl)) rfl rfl hl.1 rfl (lv_room (Nat.le_of_ble_eq_true rfl)) dFg_tellSpread_69 ⟨by decide, by decide⟩) hP hD hS hA [5, 4, 6] [0, 1, 2, 3] rfl rfl (by decide) (by decide) (fun r u H locs hw_13 hP hD hS => ?_)
        obtain ⟨o_14, rfl⟩ : ∃ z, z = u := ⟨_, rfl⟩
        try dsimp only at hw_13
        obtain ⟨rfl, rfl⟩ := hw_13
        have hP : va_P D clAll [(t_a, .inr (3, [.ref t_sizes_a, .ref t_numbers_a, .ref t_sums_a, .ref t_scatters_a, .ref t_terms_a, .int (iZ t_counted), .long (lZ t_total)])), (t_sizes_a, .inl (cJ, 4, .inr (.inl (aL t_sizes_f)))), (t_numbers_a, .inl (cJ, 4, .inr (.inl (aL t_numbers_f)))), (t_scatters_a, .inl (cJ, 4, .inr (.inl (aL t_scatters_f)))), (t_terms_a, .inr (7, [.ref t_terms_aboves_a, .ref t_terms_belows_a])), (t_terms_aboves_a, .inl (cJ, 4, .inr (.inl (aL ab)))), (t_terms_belows_a, .inl (cJ, 4, .inr (.inl (aL be))))] H := hP
        have hD : va_D A [(t_a, .inr (3, [.ref t_sizes_a, .ref t_numbers_a, .ref t_sums_a, .ref t_scatters_a, .ref t_terms_a, .int (iZ t_counted), .long (lZ t_total)])), (t_sizes_a, .inl (cJ, 4, .inr (.inl (aL t_sizes_f)))), (t_numbers_a, .inl (cJ, 4, .inr (.inl (aL t_numbers_f)))), (t_scatters_a, .inl (cJ, 4, .inr (.inl (aL t_scatters_f)))), (t_terms_a, .inr (7, [.ref t_terms_aboves_a, .ref t_terms_belows_a])), (t_terms_aboves_a, .inl (cJ, 4, .inr (.inl (aL ab)))), (t_terms_belows_a, .inl (cJ, 4, .inr (.inl (aL be))))] := hD
        refine lv_lload_n hx hb dFg_tellSpread_72 rfl (lv_at hl 0 rfl) ?_
        refine lv_aload_n hx hb dFg_tellSpread_73 rfl (lv_at hl 1 rfl) ?_
        refine va_get (D := D) (ci := 3) (v := .long (lZ t_total)) (C := RFg) (T := TFg) (N := 7) hx hb hts layFg hown hK.1 hP 0 rfl rfl 6 (by decide) (hts _ (hm g155)) (fun _ h9 => h9) rfl dFg_tellSpread_74 ?_
        refine z_lmul hx hb dFg_tellSpread_77 ?_
        refine lv_aload_n hx hb dFg_tellSpread_78 rfl (lv_at hl 1 rfl) ?_
        refine va_get (D := D) (ci := 3) (v := .long (lZ t_total)) (C := RFg) (T := TFg) (N := 7) hx hb hts layFg hown hK.1 hP 0 rfl rfl 6 (by decide) (hts _ (hm g155)) (fun _ h9 => h9) rfl dFg_tellSpread_79 ?_
        refine z_lmul hx hb dFg_tellSpread_82 ?_
        refine lv_iload_n hx hb dFg_tellSpread_83 rfl (lv_at hl 2 rfl) ?_
        refine cq_calll (wr := [(t_a, .inr (3, [.ref t_sizes_a, .ref t_numbers_a, .ref t_sums_a, .ref t_scatters_a, .ref t_terms_a, .int (iZ t_counted), .long (lZ t_total)])), (t_sizes_a, .inl (cJ, 4, .inr (.inl (aL t_sizes_f)))), (t_numbers_a, .inl (cJ, 4, .inr (.inl (aL t_numbers_f)))), (t_scatters_a, .inl (cJ, 4, .inr (.inl (aL t_scatters_f)))), (t_terms_a, .inr (7, [.ref t_terms_aboves_a, .ref t_terms_belows_a])), (t_terms_aboves_a, .inl (cJ, 4, .inr (.inl (aL ab)))), (t_terms_belows_a, .inl (cJ, 4, .inr (.inl (aL be))))]) (va_runSN (As := [.long (lZ (sZ (fun j => ab j * ((cm be 4) / be j)) 4)), .long (lZ (((cm be 4) * t_total) * t_total)), .int (iZ part)]) (rest := []) ⟨hx, hb, hml, hown, hts⟩ (k_StratumCounts_tell l D cI cJ cZ H.size (sZ (fun j => ab j * ((cm be 4) / be j)) 4) (((cm be 4) * t_total) * t_total) part (by omega) (by omega) (by omega) (by omega) (by omega) (by omega) (by first | assumption | omega) (by first | assumption | omega)) ⟨(va_cnB 3 hts (gAll cmSc_tell) rfl rfl rfl (hK.2.2 _ n41) (hts _ (hm g58)) (by decide +kernel) ⟨Nat.le_of_ble_eq_true rfl, Nat.le_of_ble_eq_true rfl⟩), (hts _ (hm g326)), trivial⟩ (cq_preS hK hP hD [] (by decide) rfl) rfl rfl hl.1 rfl (lv_room (Nat.le_of_ble_eq_true rfl)) dFg_tellSpread_84 ⟨by decide, by decide⟩) hP hD hS hA [] [0, 1, 2, 3, 4, 5, 6] rfl rfl (by decide) (by decide) (fun r u H locs hw_15 hP hD hS => ?_)
        obtain ⟨o_16, rfl⟩ : ∃ z, z = u := ⟨_, rfl⟩
        try dsimp only at hw_15
        obtain ⟨rfl, rfl⟩ := hw_15
        have hP : va_P D clAll [(t_a, .inr (3, [.ref t_sizes_a, .ref t_numbers_a, .ref t_sums_a, .ref t_scatters_a, .ref t_terms_a, .int (iZ t_counted), .long (lZ t_total)])), (t_sizes_a, .inl (cJ, 4, .inr (.inl (aL t_sizes_f)))), (t_numbers_a, .inl (cJ, 4, .inr (.inl (aL t_numbers_f)))), (t_scatters_a, .inl (cJ, 4, .inr (.inl (aL t_scatters_f)))), (t_terms_a, .inr (7, [.ref t_terms_aboves_a, .ref t_terms_belows_a])), (t_terms_aboves_a, .inl (cJ, 4, .inr (.inl (aL ab)))), (t_terms_belows_a, .inl (cJ, 4, .inr (.inl (aL be))))] H := hP
        have hD : va_D A [(t_a, .inr (3, [.ref t_sizes_a, .ref t_numbers_a, .ref t_sums_a, .ref t_scatters_a, .ref t_terms_a, .int (iZ t_counted), .long (lZ t_total)])), (t_sizes_a, .inl (cJ, 4, .inr (.inl (aL t_sizes_f)))), (t_numbers_a, .inl (cJ, 4, .inr (.inl (aL t_numbers_f)))), (t_scatters_a, .inl (cJ, 4, .inr (.inl (aL t_scatters_f)))), (t_terms_a, .inr (7, [.ref t_terms_aboves_a, .ref t_terms_belows_a])), (t_terms_aboves_a, .inl (cJ, 4, .inr (.inl (aL ab)))), (t_terms_belows_a, .inl (cJ, 4, .inr (.inl (aL be))))] := hD
        exact cq_lret hx hb hr hlocks hAe hQ ((if part = 0 then (sZ (fun j => ab j * ((cm be 4) / be j)) 4) else (((cm be 4) * t_total) * t_total)) / (Int.gcd (sZ (fun j => ab j * ((cm be 4) / be j)) 4) (((cm be 4) * t_total) * t_total) : Int), ab, be) ⟨rfl, (by (try dsimp only) <;> (rw [hE.1, hE.2]; rfl))⟩ (hP.sub [0, 1, 2, 3, 4, 5, 6] rfl) (hD.sub [0, 1, 2, 3, 4, 5, 6] (by decide) rfl) hS (by decide) (by decide) dFg_tellSpread_87
      ·
        refine lv_aload_n hx hb dFg_tellSpread_14 rfl (lv_at hl 0 rfl) ?_
        refine va_get (D := D) (ci := 3) (v := .ref t_numbers_a) (C := RFg) (T := TFg) (N := 7) hx hb hts layFg hown hK.1 hP 0 rfl rfl 1 (by decide) (hts _ (hm g150)) (fun _ h9 => h9) rfl dFg_tellSpread_15 ?_
        refine lv_iload_n hx hb dFg_tellSpread_18 rfl (lv_at hl 2 rfl) ?_
        refine z_lald hx hb hK hP 2 1 rfl rfl (by omega) (by omega) (by decide) dFg_tellSpread_19 ?_
        have f_17 := hnu i (by omega) (by omega)
        refine lv_lconst (v := lZ 1) hx hb dFg_tellSpread_20 (by decide) ?_
        refine z_lcmp_le (tgt := 50) hx hb (by omega) (by omega) (by omega) (by omega) dFg_tellSpread_21 dFg_tellSpread_22 (by decide) (fun c_18 => ?_) (fun c_18 => ?_)
        ·
          refine lv_iinc (v := iZ (i + 1)) (lv' := [(2, .int (iZ (i + 1))), (0, .ref t_a), (1, .int (iZ part))]) hx hb dFg_tellSpread_50 hl (k := 2) rfl (iZ_add i 1) (by decide) rfl (fun ls hl => ?_)
          refine lv_goto (tgt := 9) hx hb dFg_tellSpread_53 (by decide) ?_
          exact ih_7  (i + 1) ab be (by omega) (by omega) (by first | exact tA_hit (a := (fun j => t_sizes_f j * t_sizes_f j * t_scatters_f j)) hab (by assumption) | exact tA_miss hab (by assumption)) (by first | exact tB_hit (b := (fun j => t_numbers_f j * (t_numbers_f j * (t_numbers_f j - 1)))) hbe (by assumption) | exact tB_miss hbe (by assumption)) (by omega) _ _ (hP.sub [0, 1, 2, 3, 4, 5, 6] rfl) (hD.sub [0, 1, 2, 3, 4, 5, 6] (by decide) rfl) hS ls (lv_sub hl [1, 2, 0] rfl)
        ·
          refine lv_aload_n hx hb dFg_tellSpread_25 rfl (lv_at hl 0 rfl) ?_
          refine va_get (D := D) (ci := 3) (v := .ref t_terms_a) (C := RFg) (T := TFg) (N := 7) hx hb hts layFg hown hK.1 hP 0 rfl rfl 4 (by decide) (hts _ (hm g153)) (fun _ h9 => h9) rfl dFg_tellSpread_26 ?_
          refine lv_iload_n hx hb dFg_tellSpread_29 rfl (lv_at hl 2 rfl) ?_
          refine lv_aload_n hx hb dFg_tellSpread_30 rfl (lv_at hl 0 rfl) ?_
          refine lv_iload_n hx hb dFg_tellSpread_31 rfl (lv_at hl 2 rfl) ?_
          refine cq_calll (wr := [(t_numbers_a, .inl (cJ, 4, .inr (.inl (aL t_numbers_f)))), (t_terms_a, .inr (7, [.ref t_terms_aboves_a, .ref t_terms_belows_a])), (t_terms_aboves_a, .inl (cJ, 4, .inr (.inl (aL ab)))), (t_terms_belows_a, .inl (cJ, 4, .inr (.inl (aL be))))]) (va_runV (C := RFg) (As := [.int (iZ i)]) (rest := [.int (iZ i), .ref t_terms_a]) ⟨hx, hb, hml, hown, hts⟩ (k_Figures_weighedScatter l D cI cJ cZ t_a t_sizes_a t_numbers_a t_sums_a t_scatters_a t_terms_a H.size t_counted t_total t_sizes_f t_scatters_f i (by omega) (by omega) (by first | assumption | omega)) ⟨(callB_of 1 hts (gAll cmFg_weighedScatter) rfl rfl rfl (hts _ (hm g63)) (hts _ (hm g336)) (by decide +kernel) ⟨Nat.le_of_ble_eq_true rfl, Nat.le_of_ble_eq_true rfl⟩), (hts _ (hm g337)), (hts _ (hm g24))⟩ (cq_preV (va_recv hK.1 hP (ci := 3) (q0 := 0) rfl rfl) (cq_preS hK hP hD [0, 1, 3] (by decide) rfl)) rfl rfl hl.1 rfl (lv_room (Nat.le_of_ble_eq_true rfl)) dFg_tellSpread_32 ⟨by decide, by decide⟩) hP hD hS hA [0, 1, 3] [2, 4, 5, 6] rfl rfl (by decide) (by decide) (fun r u H locs hw_19 hP hD hS => ?_)
          obtain ⟨o_20, rfl⟩ : ∃ z, z = u := ⟨_, rfl⟩
          try dsimp only at hw_19
          obtain ⟨rfl, rfl⟩ := hw_19
          have hP : va_P D clAll [(t_numbers_a, .inl (cJ, 4, .inr (.inl (aL t_numbers_f)))), (t_terms_a, .inr (7, [.ref t_terms_aboves_a, .ref t_terms_belows_a])), (t_terms_aboves_a, .inl (cJ, 4, .inr (.inl (aL ab)))), (t_terms_belows_a, .inl (cJ, 4, .inr (.inl (aL be)))), (t_a, .inr (3, [.ref t_sizes_a, .ref t_numbers_a, .ref t_sums_a, .ref t_scatters_a, .ref t_terms_a, .int (iZ t_counted), .long (lZ t_total)])), (t_sizes_a, .inl (cJ, 4, .inr (.inl (aL t_sizes_f)))), (t_scatters_a, .inl (cJ, 4, .inr (.inl (aL t_scatters_f))))] H := hP
          have hD : va_D A [(t_numbers_a, .inl (cJ, 4, .inr (.inl (aL t_numbers_f)))), (t_terms_a, .inr (7, [.ref t_terms_aboves_a, .ref t_terms_belows_a])), (t_terms_aboves_a, .inl (cJ, 4, .inr (.inl (aL ab)))), (t_terms_belows_a, .inl (cJ, 4, .inr (.inl (aL be)))), (t_a, .inr (3, [.ref t_sizes_a, .ref t_numbers_a, .ref t_sums_a, .ref t_scatters_a, .ref t_terms_a, .int (iZ t_counted), .long (lZ t_total)])), (t_sizes_a, .inl (cJ, 4, .inr (.inl (aL t_sizes_f)))), (t_scatters_a, .inl (cJ, 4, .inr (.inl (aL t_scatters_f))))] := hD
          refine lv_aload_n hx hb dFg_tellSpread_35 rfl (lv_at hl 0 rfl) ?_
          refine va_get (D := D) (ci := 3) (v := .ref t_numbers_a) (C := RFg) (T := TFg) (N := 7) hx hb hts layFg hown hK.1 hP 4 rfl rfl 1 (by decide) (hts _ (hm g150)) (fun _ h9 => h9) rfl dFg_tellSpread_36 ?_
          refine lv_iload_n hx hb dFg_tellSpread_39 rfl (lv_at hl 2 rfl) ?_
          refine z_lald hx hb hK hP 0 1 rfl rfl (by omega) (by omega) (by decide) dFg_tellSpread_40 ?_
          have f_21 := hnu i (by omega) (by omega)
          refine lv_aload_n hx hb dFg_tellSpread_41 rfl (lv_at hl 0 rfl) ?_
          refine lv_iload_n hx hb dFg_tellSpread_42 rfl (lv_at hl 2 rfl) ?_
          refine cq_calll (wr := [(t_terms_a, .inr (7, [.ref t_terms_aboves_a, .ref t_terms_belows_a])), (t_terms_aboves_a, .inl (cJ, 4, .inr (.inl (aL ab)))), (t_terms_belows_a, .inl (cJ, 4, .inr (.inl (aL be)))), (t_sizes_a, .inl (cJ, 4, .inr (.inl (aL t_sizes_f)))), (t_scatters_a, .inl (cJ, 4, .inr (.inl (aL t_scatters_f))))]) (va_runV (C := RFg) (As := [.int (iZ i)]) (rest := [.long (lZ (t_numbers_f i)), .long (lZ (t_sizes_f i * t_sizes_f i * t_scatters_f i)), .int (iZ i), .ref t_terms_a]) ⟨hx, hb, hml, hown, hts⟩ (k_Figures_pairs l D cI cJ cZ t_a t_sizes_a t_numbers_a t_sums_a t_scatters_a t_terms_a H.size t_counted t_total t_numbers_f i (by omega) (by omega) (by first | assumption | omega)) ⟨(callB_of 1 hts (gAll cmFg_pairs) rfl rfl rfl (hts _ (hm g63)) (hts _ (hm g339)) (by decide +kernel) ⟨Nat.le_of_ble_eq_true rfl, Nat.le_of_ble_eq_true rfl⟩), (hts _ (hm g340)), (hts _ (hm g25))⟩ (cq_preV (va_recv hK.1 hP (ci := 3) (q0 := 4) rfl rfl) (cq_preS hK hP hD [4, 0] (by decide) rfl)) rfl rfl hl.1 rfl (lv_room (Nat.le_of_ble_eq_true rfl)) dFg_tellSpread_43 ⟨by decide, by decide⟩) hP hD hS hA [4, 0] [1, 2, 3, 5, 6] rfl rfl (by decide) (by decide) (fun r u H locs hw_22 hP hD hS => ?_)
          obtain ⟨o_23, rfl⟩ : ∃ z, z = u := ⟨_, rfl⟩
          try dsimp only at hw_22
          obtain ⟨rfl, rfl⟩ := hw_22
          have hP : va_P D clAll [(t_terms_a, .inr (7, [.ref t_terms_aboves_a, .ref t_terms_belows_a])), (t_terms_aboves_a, .inl (cJ, 4, .inr (.inl (aL ab)))), (t_terms_belows_a, .inl (cJ, 4, .inr (.inl (aL be)))), (t_sizes_a, .inl (cJ, 4, .inr (.inl (aL t_sizes_f)))), (t_scatters_a, .inl (cJ, 4, .inr (.inl (aL t_scatters_f)))), (t_a, .inr (3, [.ref t_sizes_a, .ref t_numbers_a, .ref t_sums_a, .ref t_scatters_a, .ref t_terms_a, .int (iZ t_counted), .long (lZ t_total)])), (t_numbers_a, .inl (cJ, 4, .inr (.inl (aL t_numbers_f))))] H := hP
          have hD : va_D A [(t_terms_a, .inr (7, [.ref t_terms_aboves_a, .ref t_terms_belows_a])), (t_terms_aboves_a, .inl (cJ, 4, .inr (.inl (aL ab)))), (t_terms_belows_a, .inl (cJ, 4, .inr (.inl (aL be)))), (t_sizes_a, .inl (cJ, 4, .inr (.inl (aL t_sizes_f)))), (t_scatters_a, .inl (cJ, 4, .inr (.inl (aL t_scatters_f)))), (t_a, .inr (3, [.ref t_sizes_a, .ref t_numbers_a, .ref t_sums_a, .ref t_scatters_a, .ref t_terms_a, .int (iZ t_counted), .long (lZ t_total)])), (t_numbers_a, .inl (cJ, 4, .inr (.inl (aL t_numbers_f))))] := hD
          refine z_lmul hx hb dFg_tellSpread_46 ?_
          have hq := ws_bd (hsi i (by omega) (by omega)) (hsc i (by omega) (by omega)) (hnu i (by omega) (by omega))
          have hq2 := np_bd (hnu i (by omega) (by omega)) (by assumption)
          refine cq_callv (wr := [(t_sizes_a, .inl (cJ, 4, .inr (.inl (aL t_sizes_f)))), (t_scatters_a, .inl (cJ, 4, .inr (.inl (aL t_scatters_f)))), (t_a, .inr (3, [.ref t_sizes_a, .ref t_numbers_a, .ref t_sums_a, .ref t_scatters_a, .ref t_terms_a, .int (iZ t_counted), .long (lZ t_total)])), (t_numbers_a, .inl (cJ, 4, .inr (.inl (aL t_numbers_f))))]) (va_runVN (C := RTm) (As := [.int (iZ i), .long (lZ (t_sizes_f i * t_sizes_f i * t_scatters_f i)), .long (lZ ((t_numbers_f i) * (t_numbers_f i * (t_numbers_f i - 1))))]) (rest := []) ⟨hx, hb, hml, hown, hts⟩ (k_Terms_set l D cI cJ cZ t_terms_a t_terms_aboves_a t_terms_belows_a H.size ab be i (t_sizes_f i * t_sizes_f i * t_scatters_f i) ((t_numbers_f i) * (t_numbers_f i * (t_numbers_f i - 1))) (by omega) (by omega) (by omega) (by omega) (by omega) (by omega) (by first | assumption | omega)) ⟨(va_cnB 3 hts (gAll cmTm_set) rfl rfl rfl (hK.2.2 _ n37) (hts _ (hm g64)) (by decide +kernel) ⟨Nat.le_of_ble_eq_true rfl, Nat.le_of_ble_eq_true rfl⟩), (hts _ (hm g312)), (hts _ (hm g18))⟩ (cq_preV (va_recv hK.1 hP (ci := 7) (q0 := 0) rfl rfl) (cq_preS hK hP hD [0, 1, 2] (by decide) rfl)) rfl rfl hl.1 rfl (lv_room (Nat.le_of_ble_eq_true rfl)) dFg_tellSpread_47 ⟨by decide, by decide⟩) hP hD hS hA [0, 1, 2] [3, 4, 5, 6] rfl rfl (by decide) (by decide) (fun u H locs hw_24 hP hD hS => ?_)
          obtain ⟨o_25, o_26⟩ := u
          try dsimp only at hw_24
          obtain ⟨rfl, rfl⟩ := hw_24
          have hP : va_P D clAll [(t_sizes_a, .inl (cJ, 4, .inr (.inl (aL t_sizes_f)))), (t_scatters_a, .inl (cJ, 4, .inr (.inl (aL t_scatters_f)))), (t_a, .inr (3, [.ref t_sizes_a, .ref t_numbers_a, .ref t_sums_a, .ref t_scatters_a, .ref t_terms_a, .int (iZ t_counted), .long (lZ t_total)])), (t_numbers_a, .inl (cJ, 4, .inr (.inl (aL t_numbers_f)))), (t_terms_a, .inr (7, [.ref t_terms_aboves_a, .ref t_terms_belows_a])), (t_terms_aboves_a, .inl (cJ, 4, .inr (.inl (aL (pu ab i (t_sizes_f i * t_sizes_f i * t_scatters_f i)))))), (t_terms_belows_a, .inl (cJ, 4, .inr (.inl (aL (pu be i ((t_numbers_f i) * (t_numbers_f i * (t_numbers_f i - 1))))))))] H := hP
          have hD : va_D A [(t_sizes_a, .inl (cJ, 4, .inr (.inl (aL t_sizes_f)))), (t_scatters_a, .inl (cJ, 4, .inr (.inl (aL t_scatters_f)))), (t_a, .inr (3, [.ref t_sizes_a, .ref t_numbers_a, .ref t_sums_a, .ref t_scatters_a, .ref t_terms_a, .int (iZ t_counted), .long (lZ t_total)])), (t_numbers_a, .inl (cJ, 4, .inr (.inl (aL t_numbers_f)))), (t_terms_a, .inr (7, [.ref t_terms_aboves_a, .ref t_terms_belows_a])), (t_terms_aboves_a, .inl (cJ, 4, .inr (.inl (aL (pu ab i (t_sizes_f i * t_sizes_f i * t_scatters_f i)))))), (t_terms_belows_a, .inl (cJ, 4, .inr (.inl (aL (pu be i ((t_numbers_f i) * (t_numbers_f i * (t_numbers_f i - 1))))))))] := hD
          refine lv_iinc (v := iZ (i + 1)) (lv' := [(2, .int (iZ (i + 1))), (0, .ref t_a), (1, .int (iZ part))]) hx hb dFg_tellSpread_50 hl (k := 2) rfl (iZ_add i 1) (by decide) rfl (fun ls hl => ?_)
          refine lv_goto (tgt := 9) hx hb dFg_tellSpread_53 (by decide) ?_
          exact ih_7  (i + 1) (pu ab i (t_sizes_f i * t_sizes_f i * t_scatters_f i)) (pu be i ((t_numbers_f i) * (t_numbers_f i * (t_numbers_f i - 1)))) (by omega) (by omega) (by first | exact tA_hit (a := (fun j => t_sizes_f j * t_sizes_f j * t_scatters_f j)) hab (by assumption) | exact tA_miss hab (by assumption)) (by first | exact tB_hit (b := (fun j => t_numbers_f j * (t_numbers_f j * (t_numbers_f j - 1)))) hbe (by assumption) | exact tB_miss hbe (by assumption)) (by omega) _ _ (hP.sub [2, 0, 3, 1, 4, 5, 6] rfl) (hD.sub [2, 0, 3, 1, 4, 5, 6] (by decide) rfl) hS ls (lv_sub hl [1, 2, 0] rfl)
  exact loop_6 ((4 - 0 : Int).toNat + 1) 0 o_2 o_3 (by omega) (by omega) (by exact tA_0 (by assumption)) (by exact tB_0 (by assumption)) (by omega) _ _ (hP.sub [0, 1, 2, 3, 4, 5, 6] rfl) (hD.sub [0, 1, 2, 3, 4, 5, 6] (by decide) rfl) hS ls (lv_sub hl [1, 2, 0] rfl)
end
section
set_option maxHeartbeats 4000000 in
set_option maxRecDepth 100000 in
theorem k_Integer_bitCount (l : Launch) (D : va_G) (cI cJ cZ : ClassId) (sz : Nat) (z : Int) (h_z1 : -2147483648 ≤ z) (h_z2 : z < 2147483648) (hz : 0 ≤ z ∧ z < 1024) : cq_i l yJI_bitCount wsJI_bitCount ({ frames := 0, cells := 0, slots := 0, locals := 0 }) D clAll [(cI, .int), (cJ, .long), (cZ, .boolean)] nwAll [.int (iZ z)] [] sz (S := Int) (fun (r : Int32) (u : Int) => r = iZ u ∧ (u = pcn z 10)) (fun (u : Int) => []) 0 0 := by
  refine cq_enter (cc := cJI_bitCount) (maxL := 1) (ret := some .int) (by decide) rfl (Nat.le_of_ble_eq_true rfl) ?_
  intro p e s m below meth c A args Q H hAe hQ hsz hAt hA hP hK hD hS ls hl
  obtain ⟨hx, hb, hr, hml, hown, hts, hlocks, hin⟩ := hAt
  have hown : s.vm.findClass RJI = some m.cls := hown
  have hl : lv_has ls 1 [(0, .int (iZ z))] := hl
  refine lv_iload_n hx hb dJI_bitCount_0 rfl (lv_at hl 0 rfl) ?_
  refine lv_iload_n hx hb dJI_bitCount_1 rfl (lv_at hl 0 rfl) ?_
  refine lv_iconst (v := iZ 1) hx hb dJI_bitCount_2 (by decide) ?_
  refine lv_iushr hx hb dJI_bitCount_3 rfl ?_
  refine lv_ldcw (v := iZ (1431655765)) hx hb hown (hts _ (hm g385)) dJI_bitCount_4 ?_
  refine lv_iand hx hb dJI_bitCount_7 ?_
  refine lv_isub hx hb dJI_bitCount_8 ?_
  refine lv_istore_n (lv' := [(0, .int ((iZ z) - ((((iZ z).toUInt32 >>> ((iZ 1).toUInt32 &&& Int32.toUInt32 31)).toInt32) &&& (iZ 1431655765))))]) hx hb dJI_bitCount_9 rfl hl (by decide) rfl (fun ls hl => ?_)
  refine lv_iload_n hx hb dJI_bitCount_10 rfl (lv_at hl 0 rfl) ?_
  refine lv_ldcw (v := iZ (858993459)) hx hb hown (hts _ (hm g386)) dJI_bitCount_11 ?_
  refine lv_iand hx hb dJI_bitCount_14 ?_
  refine lv_iload_n hx hb dJI_bitCount_15 rfl (lv_at hl 0 rfl) ?_
  refine lv_iconst (v := iZ 2) hx hb dJI_bitCount_16 (by decide) ?_
  refine lv_iushr hx hb dJI_bitCount_17 rfl ?_
  refine lv_ldcw (v := iZ (858993459)) hx hb hown (hts _ (hm g386)) dJI_bitCount_18 ?_
  refine lv_iand hx hb dJI_bitCount_21 ?_
  refine lv_iadd hx hb dJI_bitCount_22 ?_
  refine lv_istore_n (lv' := [(0, .int ((((iZ z) - ((((iZ z).toUInt32 >>> ((iZ 1).toUInt32 &&& Int32.toUInt32 31)).toInt32) &&& (iZ 1431655765))) &&& (iZ 858993459)) + (((((iZ z) - ((((iZ z).toUInt32 >>> ((iZ 1).toUInt32 &&& Int32.toUInt32 31)).toInt32) &&& (iZ 1431655765))).toUInt32 >>> ((iZ 2).toUInt32 &&& Int32.toUInt32 31)).toInt32) &&& (iZ 858993459))))]) hx hb dJI_bitCount_23 rfl hl (by decide) rfl (fun ls hl => ?_)
  refine lv_iload_n hx hb dJI_bitCount_24 rfl (lv_at hl 0 rfl) ?_
  refine lv_iload_n hx hb dJI_bitCount_25 rfl (lv_at hl 0 rfl) ?_
  refine lv_iconst (v := iZ 4) hx hb dJI_bitCount_26 (by decide) ?_
  refine lv_iushr hx hb dJI_bitCount_27 rfl ?_
  refine lv_iadd hx hb dJI_bitCount_28 ?_
  refine lv_ldcw (v := iZ (252645135)) hx hb hown (hts _ (hm g387)) dJI_bitCount_29 ?_
  refine lv_iand hx hb dJI_bitCount_32 ?_
  refine lv_istore_n (lv' := [(0, .int ((((((iZ z) - ((((iZ z).toUInt32 >>> ((iZ 1).toUInt32 &&& Int32.toUInt32 31)).toInt32) &&& (iZ 1431655765))) &&& (iZ 858993459)) + (((((iZ z) - ((((iZ z).toUInt32 >>> ((iZ 1).toUInt32 &&& Int32.toUInt32 31)).toInt32) &&& (iZ 1431655765))).toUInt32 >>> ((iZ 2).toUInt32 &&& Int32.toUInt32 31)).toInt32) &&& (iZ 858993459))) + ((((((iZ z) - ((((iZ z).toUInt32 >>> ((iZ 1).toUInt32 &&& Int32.toUInt32 31)).toInt32) &&& (iZ 1431655765))) &&& (iZ 858993459)) + (((((iZ z) - ((((iZ z).toUInt32 >>> ((iZ 1).toUInt32 &&& Int32.toUInt32 31)).toInt32) &&& (iZ 1431655765))).toUInt32 >>> ((iZ 2).toUInt32 &&& Int32.toUInt32 31)).toInt32) &&& (iZ 858993459))).toUInt32 >>> ((iZ 4).toUInt32 &&& Int32.toUInt32 31)).toInt32)) &&& (iZ 252645135)))]) hx hb dJI_bitCount_33 rfl hl (by decide) rfl (fun ls hl => ?_)
  refine lv_iload_n hx hb dJI_bitCount_34 rfl (lv_at hl 0 rfl) ?_
  refine lv_iload_n hx hb dJI_bitCount_35 rfl (lv_at hl 0 rfl) ?_
  refine lv_bipush (v := iZ (8)) hx hb dJI_bitCount_36 (by decide) ?_
  refine lv_iushr hx hb dJI_bitCount_38 rfl ?_
  refine lv_iadd hx hb dJI_bitCount_39 ?_
  refine lv_istore_n (lv' := [(0, .int (((((((iZ z) - ((((iZ z).toUInt32 >>> ((iZ 1).toUInt32 &&& Int32.toUInt32 31)).toInt32) &&& (iZ 1431655765))) &&& (iZ 858993459)) + (((((iZ z) - ((((iZ z).toUInt32 >>> ((iZ 1).toUInt32 &&& Int32.toUInt32 31)).toInt32) &&& (iZ 1431655765))).toUInt32 >>> ((iZ 2).toUInt32 &&& Int32.toUInt32 31)).toInt32) &&& (iZ 858993459))) + ((((((iZ z) - ((((iZ z).toUInt32 >>> ((iZ 1).toUInt32 &&& Int32.toUInt32 31)).toInt32) &&& (iZ 1431655765))) &&& (iZ 858993459)) + (((((iZ z) - ((((iZ z).toUInt32 >>> ((iZ 1).toUInt32 &&& Int32.toUInt32 31)).toInt32) &&& (iZ 1431655765))).toUInt32 >>> ((iZ 2).toUInt32 &&& Int32.toUInt32 31)).toInt32) &&& (iZ 858993459))).toUInt32 >>> ((iZ 4).toUInt32 &&& Int32.toUInt32 31)).toInt32)) &&& (iZ 252645135)) + ((((((((iZ z) - ((((iZ z).toUInt32 >>> ((iZ 1).toUInt32 &&& Int32.toUInt32 31)).toInt32) &&& (iZ 1431655765))) &&& (iZ 858993459)) + (((((iZ z) - ((((iZ z).toUInt32 >>> ((iZ 1).toUInt32 &&& Int32.toUInt32 31)).toInt32) &&& (iZ 1431655765))).toUInt32 >>> ((iZ 2).toUInt32 &&& Int32.toUInt32 31)).toInt32) &&& (iZ 858993459))) + ((((((iZ z) - ((((iZ z).toUInt32 >>> ((iZ 1).toUInt32 &&& Int32.toUInt32 31)).toInt32) &&& (iZ 1431655765))) &&& (iZ 858993459)) + (((((iZ z) - ((((iZ z).toUInt32 >>> ((iZ 1).toUInt32 &&& Int32.toUInt32 31)).toInt32) &&& (iZ 1431655765))).toUInt32 >>> ((iZ 2).toUInt32 &&& Int32.toUInt32 31)).toInt32) &&& (iZ 858993459))).toUInt32 >>> ((iZ 4).toUInt32 &&& Int32.toUInt32 31)).toInt32)) &&& (iZ 252645135)).toUInt32 >>> ((iZ 8).toUInt32 &&& Int32.toUInt32 31)).toInt32)))]) hx hb dJI_bitCount_40 rfl hl (by decide) rfl (fun ls hl => ?_)
  refine lv_iload_n hx hb dJI_bitCount_41 rfl (lv_at hl 0 rfl) ?_
  refine lv_iload_n hx hb dJI_bitCount_42 rfl (lv_at hl 0 rfl) ?_
  refine lv_bipush (v := iZ (16)) hx hb dJI_bitCount_43 (by decide) ?_
  refine lv_iushr hx hb dJI_bitCount_45 rfl ?_
  refine lv_iadd hx hb dJI_bitCount_46 ?_
  refine lv_istore_n (lv' := [(0, .int ((((((((iZ z) - ((((iZ z).toUInt32 >>> ((iZ 1).toUInt32 &&& Int32.toUInt32 31)).toInt32) &&& (iZ 1431655765))) &&& (iZ 858993459)) + (((((iZ z) - ((((iZ z).toUInt32 >>> ((iZ 1).toUInt32 &&& Int32.toUInt32 31)).toInt32) &&& (iZ 1431655765))).toUInt32 >>> ((iZ 2).toUInt32 &&& Int32.toUInt32 31)).toInt32) &&& (iZ 858993459))) + ((((((iZ z) - ((((iZ z).toUInt32 >>> ((iZ 1).toUInt32 &&& Int32.toUInt32 31)).toInt32) &&& (iZ 1431655765))) &&& (iZ 858993459)) + (((((iZ z) - ((((iZ z).toUInt32 >>> ((iZ 1).toUInt32 &&& Int32.toUInt32 31)).toInt32) &&& (iZ 1431655765))).toUInt32 >>> ((iZ 2).toUInt32 &&& Int32.toUInt32 31)).toInt32) &&& (iZ 858993459))).toUInt32 >>> ((iZ 4).toUInt32 &&& Int32.toUInt32 31)).toInt32)) &&& (iZ 252645135)) + ((((((((iZ z) - ((((iZ z).toUInt32 >>> ((iZ 1).toUInt32 &&& Int32.toUInt32 31)).toInt32) &&& (iZ 1431655765))) &&& (iZ 858993459)) + (((((iZ z) - ((((iZ z).toUInt32 >>> ((iZ 1).toUInt32 &&& Int32.toUInt32 31)).toInt32) &&& (iZ 1431655765))).toUInt32 >>> ((iZ 2).toUInt32 &&& Int32.toUInt32 31)).toInt32) &&& (iZ 858993459))) + ((((((iZ z) - ((((iZ z).toUInt32 >>> ((iZ 1).toUInt32 &&& Int32.toUInt32 31)).toInt32) &&& (iZ 1431655765))) &&& (iZ 858993459)) + (((((iZ z) - ((((iZ z).toUInt32 >>> ((iZ 1).toUInt32 &&& Int32.toUInt32 31)).toInt32) &&& (iZ 1431655765))).toUInt32 >>> ((iZ 2).toUInt32 &&& Int32.toUInt32 31)).toInt32) &&& (iZ 858993459))).toUInt32 >>> ((iZ 4).toUInt32 &&& Int32.toUInt32 31)).toInt32)) &&& (iZ 252645135)).toUInt32 >>> ((iZ 8).toUInt32 &&& Int32.toUInt32 31)).toInt32)) + (((((((((iZ z) - ((((iZ z).toUInt32 >>> ((iZ 1).toUInt32 &&& Int32.toUInt32 31)).toInt32) &&& (iZ 1431655765))) &&& (iZ 858993459)) + (((((iZ z) - ((((iZ z).toUInt32 >>> ((iZ 1).toUInt32 &&& Int32.toUInt32 31)).toInt32) &&& (iZ 1431655765))).toUInt32 >>> ((iZ 2).toUInt32 &&& Int32.toUInt32 31)).toInt32) &&& (iZ 858993459))) + ((((((iZ z) - ((((iZ z).toUInt32 >>> ((iZ 1).toUInt32 &&& Int32.toUInt32 31)).toInt32) &&& (iZ 1431655765))) &&& (iZ 858993459)) + (((((iZ z) - ((((iZ z).toUInt32 >>> ((iZ 1).toUInt32 &&& Int32.toUInt32 31)).toInt32) &&& (iZ 1431655765))).toUInt32 >>> ((iZ 2).toUInt32 &&& Int32.toUInt32 31)).toInt32) &&& (iZ 858993459))).toUInt32 >>> ((iZ 4).toUInt32 &&& Int32.toUInt32 31)).toInt32)) &&& (iZ 252645135)) + ((((((((iZ z) - ((((iZ z).toUInt32 >>> ((iZ 1).toUInt32 &&& Int32.toUInt32 31)).toInt32) &&& (iZ 1431655765))) &&& (iZ 858993459)) + (((((iZ z) - ((((iZ z).toUInt32 >>> ((iZ 1).toUInt32 &&& Int32.toUInt32 31)).toInt32) &&& (iZ 1431655765))).toUInt32 >>> ((iZ 2).toUInt32 &&& Int32.toUInt32 31)).toInt32) &&& (iZ 858993459))) + ((((((iZ z) - ((((iZ z).toUInt32 >>> ((iZ 1).toUInt32 &&& Int32.toUInt32 31)).toInt32) &&& (iZ 1431655765))) &&& (iZ 858993459)) + (((((iZ z) - ((((iZ z).toUInt32 >>> ((iZ 1).toUInt32 &&& Int32.toUInt32 31)).toInt32) &&& (iZ 1431655765))).toUInt32 >>> ((iZ 2).toUInt32 &&& Int32.toUInt32 31)).toInt32) &&& (iZ 858993459))).toUInt32 >>> ((iZ 4).toUInt32 &&& Int32.toUInt32 31)).toInt32)) &&& (iZ 252645135)).toUInt32 >>> ((iZ 8).toUInt32 &&& Int32.toUInt32 31)).toInt32)).toUInt32 >>> ((iZ 16).toUInt32 &&& Int32.toUInt32 31)).toInt32)))]) hx hb dJI_bitCount_47 rfl hl (by decide) rfl (fun ls hl => ?_)
  refine lv_iload_n hx hb dJI_bitCount_48 rfl (lv_at hl 0 rfl) ?_
  refine lv_bipush (v := iZ (63)) hx hb dJI_bitCount_49 (by decide) ?_
  refine lv_iand hx hb dJI_bitCount_51 ?_
  refine cq_ti ((show _ = bcx (iZ z) from rfl).trans (bcx_ok hz.1 hz.2)) ?_
  exact cq_iret hx hb hr hlocks hAe hQ (pcn z 10) ⟨rfl, (by (try dsimp only) <;> (first | rfl | omega | (refine Or.inl ?_; and_intros <;> first | rfl | omega) | (refine Or.inr ?_; and_intros <;> first | rfl | omega)))⟩ (hP.sub [] rfl) (hD.sub [] (by decide) rfl) hS (by decide) (by decide) dJI_bitCount_52
set_option maxHeartbeats 4000000 in
set_option maxRecDepth 100000 in
theorem k_Comparison_take (l : Launch) (D : va_G) (cI cJ cZ : ClassId) (t_a t_grams_a : Nat) (sz : Nat) (t_number : Int) (t_firsts : Int) (t_actual : Int) (t_total : Int) (t_grams_f : Int → Int) (am : Int) (da : Int) (h_am1 : -9223372036854775808 ≤ am) (h_am2 : am < 9223372036854775808) (h_da1 : -2147483648 ≤ da) (h_da2 : da < 2147483648) (hnb : 0 ≤ t_number ∧ t_number < 10) (hac : 0 ≤ t_actual ∧ t_actual < p2 t_number) (hda : 0 ≤ da ∧ da ≤ 1) : cq_v l yCp_take wsCp_take ({ frames := 0, cells := 0, slots := 0, locals := 0 }) D clAll [(cI, .int), (cJ, .long), (cZ, .boolean)] nwAll [.ref t_a, .long (lZ am), .int (iZ da)] [(t_a, .inr (1, [.ref t_grams_a, .int (iZ t_number), .int (iZ t_firsts), .int (iZ t_actual), .long (lZ t_total)])), (t_grams_a, .inl (cJ, 10, .inr (.inl (aL t_grams_f))))] sz (S := Int × Int × Int × (Int → Int)) (fun (u : Int × Int × Int × (Int → Int)) => (u.1 = t_number + 1) ∧ (u.2.1 = (if da = 0 then t_actual + p2 t_number else t_actual)) ∧ (u.2.2.1 = t_total + am) ∧ (u.2.2.2 = pu t_grams_f t_number am)) (fun (u : Int × Int × Int × (Int → Int)) => [(t_a, .inr (1, [.ref t_grams_a, .int (iZ u.1), .int (iZ t_firsts), .int (iZ u.2.1), .long (lZ u.2.2.1)])), (t_grams_a, .inl (cJ, 10, .inr (.inl (aL u.2.2.2))))]) 0 0 := by
  refine cq_enter (cc := cCp_take) (maxL := 4) (ret := none) (by decide) rfl (Nat.le_of_ble_eq_true rfl) ?_
  intro p e s m below meth c A args Q H hAe hQ hsz hAt hA hP hK hD hS ls hl
  obtain ⟨hx, hb, hr, hml, hown, hts, hlocks, hin⟩ := hAt
  have hown : s.vm.findClass RCp = some m.cls := hown
  have hl : lv_has ls 4 [(0, .ref t_a), (1, .long (lZ am)), (3, .int (iZ da))] := hl
  refine lv_aload_n hx hb dCp_take_0 rfl (lv_at hl 0 rfl) ?_
  refine va_get (D := D) (ci := 1) (v := .ref t_grams_a) (C := RCp) (T := TCp) (N := 5) hx hb hts layCp hown hK.1 hP 0 rfl rfl 0 (by decide) (hts _ (hm g194)) (fun _ h9 => h9) rfl dCp_take_1 ?_
  refine lv_aload_n hx hb dCp_take_4 rfl (lv_at hl 0 rfl) ?_
  refine va_get (D := D) (ci := 1) (v := .int (iZ t_number)) (C := RCp) (T := TCp) (N := 5) hx hb hts layCp hown hK.1 hP 0 rfl rfl 1 (by decide) (hts _ (hm g195)) (fun _ h9 => h9) rfl dCp_take_5 ?_
  refine lv_lload_n hx hb dCp_take_8 rfl (lv_at hl 1 rfl) ?_
  refine z_last hx hb hK hP hD hS 1 1 rfl rfl (by omega) (by omega) (by decide) dCp_take_9 (fun H locs hP hD hS => ?_)
  have hP : va_P D clAll [(t_a, .inr (1, [.ref t_grams_a, .int (iZ t_number), .int (iZ t_firsts), .int (iZ t_actual), .long (lZ t_total)])), (t_grams_a, .inl (cJ, 10, .inr (.inl (aL (pu t_grams_f t_number am)))))] H := hP
  have hD : va_D A [(t_a, .inr (1, [.ref t_grams_a, .int (iZ t_number), .int (iZ t_firsts), .int (iZ t_actual), .long (lZ t_total)])), (t_grams_a, .inl (cJ, 10, .inr (.inl (aL (pu t_grams_f t_number am)))))] := hD
  refine lv_aload_n hx hb dCp_take_10 rfl (lv_at hl 0 rfl) ?_
  refine lv_dup hx hb dCp_take_11 rfl ?_
  refine va_get (D := D) (ci := 1) (v := .long (lZ t_total)) (C := RCp) (T := TCp) (N := 5) hx hb hts layCp hown hK.1 hP 0 rfl rfl 4 (by decide) (hts _ (hm g198)) (fun _ h9 => h9) rfl dCp_take_12 ?_
  refine lv_lload_n hx hb dCp_take_15 rfl (lv_at hl 1 rfl) ?_
  refine z_ladd hx hb dCp_take_16 ?_
  refine va_put (D := D) (ci := 1) (v := .long (lZ (t_total + am))) (ty := .long) (C := RCp) (T := TCp) (N := 5) hx hb hts layCp tyCp tyCp_ok nmCp hown hK.1 hP hD hS 0 rfl rfl 4 (by decide) (hts _ (hm g198)) (fun _ h9 => h9) rfl (by decide +kernel) rfl rfl (Nat.le_of_ble_eq_true rfl) dCp_take_17 (fun H locs hP hD hS => ?_)
  have hP : va_P D clAll [(t_a, .inr (1, [.ref t_grams_a, .int (iZ t_number), .int (iZ t_firsts), .int (iZ t_actual), .long (lZ (t_total + am))])), (t_grams_a, .inl (cJ, 10, .inr (.inl (aL (pu t_grams_f t_number am)))))] H := hP
  have hD : va_D A [(t_a, .inr (1, [.ref t_grams_a, .int (iZ t_number), .int (iZ t_firsts), .int (iZ t_actual), .long (lZ (t_total + am))])), (t_grams_a, .inl (cJ, 10, .inr (.inl (aL (pu t_grams_f t_number am)))))] := hD
  refine lv_iload_n hx hb dCp_take_20 rfl (lv_at hl 2 rfl) ?_
  refine z_if_ne (tgt := 39) hx hb (by omega) (by omega) dCp_take_21 (by decide) (fun c_1 => ?_) (fun c_1 => ?_)
  ·
    refine lv_aload_n hx hb dCp_take_39 rfl (lv_at hl 0 rfl) ?_
    refine lv_dup hx hb dCp_take_40 rfl ?_
    refine va_get (D := D) (ci := 1) (v := .int (iZ t_number)) (C := RCp) (T := TCp) (N := 5) hx hb hts layCp hown hK.1 hP 0 rfl rfl 1 (by decide) (hts _ (hm g195)) (fun _ h9 => h9) rfl dCp_take_41 ?_
    refine lv_iconst (v := iZ 1) hx hb dCp_take_44 (by decide) ?_
    refine z_iadd hx hb dCp_take_45 ?_
    refine va_put (D := D) (ci := 1) (v := .int (iZ (t_number + 1))) (ty := .int) (C := RCp) (T := TCp) (N := 5) hx hb hts layCp tyCp tyCp_ok nmCp hown hK.1 hP hD hS 0 rfl rfl 1 (by decide) (hts _ (hm g195)) (fun _ h9 => h9) rfl (by decide +kernel) rfl rfl (Nat.le_of_ble_eq_true rfl) dCp_take_46 (fun H locs hP hD hS => ?_)
    have hP : va_P D clAll [(t_a, .inr (1, [.ref t_grams_a, .int (iZ (t_number + 1)), .int (iZ t_firsts), .int (iZ t_actual), .long (lZ (t_total + am))])), (t_grams_a, .inl (cJ, 10, .inr (.inl (aL (pu t_grams_f t_number am)))))] H := hP
    have hD : va_D A [(t_a, .inr (1, [.ref t_grams_a, .int (iZ (t_number + 1)), .int (iZ t_firsts), .int (iZ t_actual), .long (lZ (t_total + am))])), (t_grams_a, .inl (cJ, 10, .inr (.inl (aL (pu t_grams_f t_number am)))))] := hD
    exact cq_vret hx hb hr hlocks hAe hQ (t_number + 1, t_actual, t_total + am, (pu t_grams_f t_number am)) ⟨(by (try dsimp only) <;> (first | rfl | (rw [if_pos (by assumption)]; done) | (rw [if_neg (by assumption)]; done))), (by (try dsimp only) <;> (first | rfl | (rw [if_pos (by assumption)]; done) | (rw [if_neg (by assumption)]; done))), (by (try dsimp only) <;> (first | rfl | (rw [if_pos (by assumption)]; done) | (rw [if_neg (by assumption)]; done))), (by (try dsimp only) <;> (first | rfl | (rw [if_pos (by assumption)]; done) | (rw [if_neg (by assumption)]; done)))⟩ (hP.sub [0, 1] rfl) (hD.sub [0, 1] (by decide) rfl) hS (by decide) (by decide) dCp_take_49
  ·
    refine lv_aload_n hx hb dCp_take_24 rfl (lv_at hl 0 rfl) ?_
    refine lv_dup hx hb dCp_take_25 rfl ?_
    refine va_get (D := D) (ci := 1) (v := .int (iZ t_actual)) (C := RCp) (T := TCp) (N := 5) hx hb hts layCp hown hK.1 hP 0 rfl rfl 3 (by decide) (hts _ (hm g197)) (fun _ h9 => h9) rfl dCp_take_26 ?_
    refine lv_iconst (v := iZ 1) hx hb dCp_take_29 (by decide) ?_
    refine lv_aload_n hx hb dCp_take_30 rfl (lv_at hl 0 rfl) ?_
    refine va_get (D := D) (ci := 1) (v := .int (iZ t_number)) (C := RCp) (T := TCp) (N := 5) hx hb hts layCp hown hK.1 hP 0 rfl rfl 1 (by decide) (hts _ (hm g195)) (fun _ h9 => h9) rfl dCp_take_31 ?_
    refine lv_ishl hx hb dCp_take_34 ?_
    refine lv_ior hx hb dCp_take_35 ?_
    refine cq_ti (or_p2 hac.1 hac.2 hnb.1 (by omega)) ?_
    refine va_put (D := D) (ci := 1) (v := .int (iZ (t_actual + p2 t_number))) (ty := .int) (C := RCp) (T := TCp) (N := 5) hx hb hts layCp tyCp tyCp_ok nmCp hown hK.1 hP hD hS 0 rfl rfl 3 (by decide) (hts _ (hm g197)) (fun _ h9 => h9) rfl (by decide +kernel) rfl rfl (Nat.le_of_ble_eq_true rfl) dCp_take_36 (fun H locs hP hD hS => ?_)
    have hP : va_P D clAll [(t_a, .inr (1, [.ref t_grams_a, .int (iZ t_number), .int (iZ t_firsts), .int (iZ (t_actual + p2 t_number)), .long (lZ (t_total + am))])), (t_grams_a, .inl (cJ, 10, .inr (.inl (aL (pu t_grams_f t_number am)))))] H := hP
    have hD : va_D A [(t_a, .inr (1, [.ref t_grams_a, .int (iZ t_number), .int (iZ t_firsts), .int (iZ (t_actual + p2 t_number)), .long (lZ (t_total + am))])), (t_grams_a, .inl (cJ, 10, .inr (.inl (aL (pu t_grams_f t_number am)))))] := hD
    refine lv_aload_n hx hb dCp_take_39 rfl (lv_at hl 0 rfl) ?_
    refine lv_dup hx hb dCp_take_40 rfl ?_
    refine va_get (D := D) (ci := 1) (v := .int (iZ t_number)) (C := RCp) (T := TCp) (N := 5) hx hb hts layCp hown hK.1 hP 0 rfl rfl 1 (by decide) (hts _ (hm g195)) (fun _ h9 => h9) rfl dCp_take_41 ?_
    refine lv_iconst (v := iZ 1) hx hb dCp_take_44 (by decide) ?_
    refine z_iadd hx hb dCp_take_45 ?_
    refine va_put (D := D) (ci := 1) (v := .int (iZ (t_number + 1))) (ty := .int) (C := RCp) (T := TCp) (N := 5) hx hb hts layCp tyCp tyCp_ok nmCp hown hK.1 hP hD hS 0 rfl rfl 1 (by decide) (hts _ (hm g195)) (fun _ h9 => h9) rfl (by decide +kernel) rfl rfl (Nat.le_of_ble_eq_true rfl) dCp_take_46 (fun H locs hP hD hS => ?_)
    have hP : va_P D clAll [(t_a, .inr (1, [.ref t_grams_a, .int (iZ (t_number + 1)), .int (iZ t_firsts), .int (iZ (t_actual + p2 t_number)), .long (lZ (t_total + am))])), (t_grams_a, .inl (cJ, 10, .inr (.inl (aL (pu t_grams_f t_number am)))))] H := hP
    have hD : va_D A [(t_a, .inr (1, [.ref t_grams_a, .int (iZ (t_number + 1)), .int (iZ t_firsts), .int (iZ (t_actual + p2 t_number)), .long (lZ (t_total + am))])), (t_grams_a, .inl (cJ, 10, .inr (.inl (aL (pu t_grams_f t_number am)))))] := hD
    exact cq_vret hx hb hr hlocks hAe hQ (t_number + 1, t_actual + p2 t_number, t_total + am, (pu t_grams_f t_number am)) ⟨(by (try dsimp only) <;> (first | rfl | (rw [if_pos (by assumption)]; done) | (rw [if_neg (by assumption)]; done))), (by (try dsimp only) <;> (first | rfl | (rw [if_pos (by assumption)]; done) | (rw [if_neg (by assumption)]; done))), (by (try dsimp only) <;> (first | rfl | (rw [if_pos (by assumption)]; done) | (rw [if_neg (by assumption)]; done))), (by (try dsimp only) <;> (first | rfl | (rw [if_pos (by assumption)]; done) | (rw [if_neg (by assumption)]; done)))⟩ (hP.sub [0, 1] rfl) (hD.sub [0, 1] (by decide) rfl) hS (by decide) (by decide) dCp_take_49
set_option maxHeartbeats 4000000 in
set_option maxRecDepth 100000 in
theorem k_Comparison_apart (l : Launch) (D : va_G) (cI cJ cZ : ClassId) (t_a t_grams_a : Nat) (sz : Nat) (t_number : Int) (t_firsts : Int) (t_actual : Int) (t_total : Int) (t_grams_f : Int → Int) (w : Int) (h_w1 : -2147483648 ≤ w) (h_w2 : w < 2147483648) (hw0 : 0 ≤ w ∧ w < 1024) (hnb : 0 ≤ t_number ∧ t_number ≤ 10) (hf : 0 ≤ t_firsts ∧ t_firsts ≤ 10) (ht : 0 ≤ t_total ∧ t_total ≤ 200000) (hgr : ∀ j, 0 ≤ t_grams_f j ∧ t_grams_f j ≤ 10000) : cq_l l yCp_apart wsCp_apart ({ frames := 1, cells := 0, slots := 0, locals := 60 }) D clAll [(cI, .int), (cJ, .long), (cZ, .boolean)] nwAll [.ref t_a, .int (iZ w)] [(t_a, .inr (1, [.ref t_grams_a, .int (iZ t_number), .int (iZ t_firsts), .int (iZ t_actual), .long (lZ t_total)])), (t_grams_a, .inl (cJ, 10, .inr (.inl (aL t_grams_f))))] sz (S := Int) (fun (r : Int64) (u : Int) => r = lZ u ∧ (u = apv t_grams_f w t_number t_firsts t_total)) (fun (u : Int) => [(t_a, .inr (1, [.ref t_grams_a, .int (iZ t_number), .int (iZ t_firsts), .int (iZ t_actual), .long (lZ t_total)])), (t_grams_a, .inl (cJ, 10, .inr (.inl (aL t_grams_f))))]) 0 0 := by
  refine cq_enter (cc := cCp_apart) (maxL := 5) (ret := some .long) (by decide) rfl (Nat.le_of_ble_eq_true rfl) ?_
  intro p e s m below meth c A args Q H hAe hQ hsz hAt hA hP hK hD hS ls hl
  obtain ⟨hx, hb, hr, hml, hown, hts, hlocks, hin⟩ := hAt
  have hown : s.vm.findClass RCp = some m.cls := hown
  have hl : lv_has ls 5 [(0, .ref t_a), (1, .int (iZ w))] := hl
  refine lv_lconst (v := lZ 0) hx hb dCp_apart_0 (by decide) ?_
  refine lv_lstore_n (lv' := [(2, .long (lZ 0)), (0, .ref t_a), (1, .int (iZ w))]) hx hb dCp_apart_1 rfl hl (by decide) rfl (fun ls hl => ?_)
  refine lv_iconst (v := iZ 0) hx hb dCp_apart_2 (by decide) ?_
  refine lv_istore (lv' := [(4, .int (iZ 0)), (2, .long (lZ 0)), (0, .ref t_a), (1, .int (iZ w))]) hx hb dCp_apart_3 hl (by decide) rfl (fun ls hl => ?_)
  have loop_1 : ∀ (n_3 : Nat) (sm : Int) (i : Int), (0 ≤ i) → (i ≤ t_number) → (sm = sZ (fun j => if bi w j = 1 then t_grams_f j else 0) i) → (t_number - i < (n_3 : Int)) → ∀ (H : Heap) (locs : List Loc), va_P D clAll [(t_a, .inr (1, [.ref t_grams_a, .int (iZ t_number), .int (iZ t_firsts), .int (iZ t_actual), .long (lZ t_total)])), (t_grams_a, .inl (cJ, 10, .inr (.inl (aL t_grams_f))))] H → va_D A [(t_a, .inr (1, [.ref t_grams_a, .int (iZ t_number), .int (iZ t_firsts), .int (iZ t_actual), .long (lZ t_total)])), (t_grams_a, .inl (cJ, 10, .inr (.inl (aL t_grams_f))))] → va_S A s.heap H locs → ∀ ls : Array Slot, lv_has ls 5 [(0, .ref t_a), (1, .int (iZ w)), (2, .long (lZ sm)), (4, .int (iZ i))] → W p l e { frames := 1, cells := 0, slots := 0, locals := 60 } s m args below meth c H locs 0 0 Q (F0 m 5 ls []) := by
    intro n_3
    induction n_3 with
    | zero => intro sm i hi hi2 hsm hm_4; exact absurd hm_4 (by omega)
    | succ n_3 ih_2 =>
      intro sm i hi hi2 hsm hm_4 H locs hP hD hS ls hl
      refine lv_iload hx hb dCp_apart_5 (lv_at hl 3 rfl) ?_
      refine lv_aload_n hx hb dCp_apart_7 rfl (lv_at hl 0 rfl) ?_
      refine va_get (D := D) (ci := 1) (v := .int (iZ t_number)) (C := RCp) (T := TCp) (N := 5) hx hb hts layCp hown hK.1 hP 0 rfl rfl 1 (by decide) (hts _ (hm g195)) (fun _ h9 => h9) rfl dCp_apart_8 ?_
      refine z_icmp_ge (tgt := 40) hx hb (by omega) (by omega) (by omega) (by omega) dCp_apart_11 (by decide) (fun c_5 => ?_) (fun c_5 => ?_)
      ·
        have hb1 := ap_b hsm hi (by omega) hgr
        have hb2 := ap_bd hb1 hnb hf ht
        refine lv_lload_n hx hb dCp_apart_40 rfl (lv_at hl 2 rfl) ?_
        refine lv_aload_n hx hb dCp_apart_41 rfl (lv_at hl 0 rfl) ?_
        refine va_get (D := D) (ci := 1) (v := .int (iZ t_number)) (C := RCp) (T := TCp) (N := 5) hx hb hts layCp hown hK.1 hP 0 rfl rfl 1 (by decide) (hts _ (hm g195)) (fun _ h9 => h9) rfl dCp_apart_42 ?_
        refine lv_aload_n hx hb dCp_apart_45 rfl (lv_at hl 0 rfl) ?_
        refine va_get (D := D) (ci := 1) (v := .int (iZ t_firsts)) (C := RCp) (T := TCp) (N := 5) hx hb hts layCp hown hK.1 hP 0 rfl rfl 2 (by decide) (hts _ (hm g196)) (fun _ h9 => h9) rfl dCp_apart_46 ?_
        refine z_isub hx hb dCp_apart_49 ?_
        refine z_i2l hx hb (by omega) (by omega) dCp_apart_50 ?_
        refine z_lmul hx hb dCp_apart_51 ?_
        refine lv_aload_n hx hb dCp_apart_52 rfl (lv_at hl 0 rfl) ?_
        refine va_get (D := D) (ci := 1) (v := .long (lZ t_total)) (C := RCp) (T := TCp) (N := 5) hx hb hts layCp hown hK.1 hP 0 rfl rfl 4 (by decide) (hts _ (hm g198)) (fun _ h9 => h9) rfl dCp_apart_53 ?_
        refine lv_lload_n hx hb dCp_apart_56 rfl (lv_at hl 2 rfl) ?_
        refine z_lsub hx hb dCp_apart_57 ?_
        refine lv_aload_n hx hb dCp_apart_58 rfl (lv_at hl 0 rfl) ?_
        refine va_get (D := D) (ci := 1) (v := .int (iZ t_firsts)) (C := RCp) (T := TCp) (N := 5) hx hb hts layCp hown hK.1 hP 0 rfl rfl 2 (by decide) (hts _ (hm g196)) (fun _ h9 => h9) rfl dCp_apart_59 ?_
        refine z_i2l hx hb (by omega) (by omega) dCp_apart_62 ?_
        refine z_lmul hx hb dCp_apart_63 ?_
        refine z_lsub hx hb dCp_apart_64 ?_
        refine va_mabs_long hx hb (hml.trans hl.1.symm) hown (hts _ (hm g393)) (hts _ (hm g394)) (hts _ (hm g71)) (hts _ (hm g395)) (by decide) (by decide) (by decide) (by decide) dCp_apart_65 ?_
        refine cq_tl (abs_l (by omega) (by omega)) ?_
        exact cq_lret hx hb hr hlocks hAe hQ (if 0 < (sm * (t_number - t_firsts)) - ((t_total - sm) * t_firsts) then (sm * (t_number - t_firsts)) - ((t_total - sm) * t_firsts) else -((sm * (t_number - t_firsts)) - ((t_total - sm) * t_firsts))) ⟨rfl, (by (try dsimp only) <;> (exact ap_end hsm (by omega)))⟩ (hP.sub [0, 1] rfl) (hD.sub [0, 1] (by decide) rfl) hS (by decide) (by decide) dCp_apart_68
      ·
        refine lv_iload_n hx hb dCp_apart_14 rfl (lv_at hl 1 rfl) ?_
        refine lv_iload hx hb dCp_apart_15 (lv_at hl 3 rfl) ?_
        refine lv_ishr hx hb dCp_apart_17 ?_
        refine lv_iconst (v := iZ 1) hx hb dCp_apart_18 (by decide) ?_
        refine lv_iand hx hb dCp_apart_19 ?_
        refine cq_ti (sh_bit hw0.1 (by omega) hi (by omega)) ?_
        have hbb := bi_b w i
        refine lv_iconst (v := iZ 1) hx hb dCp_apart_20 (by decide) ?_
        refine z_icmp_ne (tgt := 34) hx hb (by omega) (by omega) (by omega) (by omega) dCp_apart_21 (by decide) (fun c_6 => ?_) (fun c_6 => ?_)
        ·
          refine lv_iinc (v := iZ (i + 1)) (lv' := [(4, .int (iZ (i + 1))), (0, .ref t_a), (1, .int (iZ w)), (2, .long (lZ sm))]) hx hb dCp_apart_34 hl (k := 3) rfl (iZ_add i 1) (by decide) rfl (fun ls hl => ?_)
          refine lv_goto (tgt := 5) hx hb dCp_apart_37 (by decide) ?_
          exact ih_2  sm (i + 1) (by omega) (by omega) (by first | exact ap_1 hsm hi (by assumption) | exact ap_0 hsm hi (by assumption)) (by omega) _ _ (hP.sub [0, 1] rfl) (hD.sub [0, 1] (by decide) rfl) hS ls (lv_sub hl [1, 2, 3, 0] rfl)
        ·
          refine lv_lload_n hx hb dCp_apart_24 rfl (lv_at hl 2 rfl) ?_
          refine lv_aload_n hx hb dCp_apart_25 rfl (lv_at hl 0 rfl) ?_
          refine va_get (D := D) (ci := 1) (v := .ref t_grams_a) (C := RCp) (T := TCp) (N := 5) hx hb hts layCp hown hK.1 hP 0 rfl rfl 0 (by decide) (hts _ (hm g194)) (fun _ h9 => h9) rfl dCp_apart_26 ?_
          refine lv_iload hx hb dCp_apart_29 (lv_at hl 3 rfl) ?_
          refine z_lald hx hb hK hP 1 1 rfl rfl (by omega) (by omega) (by decide) dCp_apart_31 ?_
          have f_7 := hgr i
          refine z_ladd hx hb dCp_apart_32 ?_
          refine lv_lstore_n (lv' := [(2, .long (lZ (sm + (t_grams_f i)))), (0, .ref t_a), (1, .int (iZ w)), (4, .int (iZ i))]) hx hb dCp_apart_33 rfl hl (by decide) rfl (fun ls hl => ?_)
          refine lv_iinc (v := iZ (i + 1)) (lv' := [(4, .int (iZ (i + 1))), (2, .long (lZ (sm + (t_grams_f i)))), (0, .ref t_a), (1, .int (iZ w))]) hx hb dCp_apart_34 hl (k := 3) rfl (iZ_add i 1) (by decide) rfl (fun ls hl => ?_)
          refine lv_goto (tgt := 5) hx hb dCp_apart_37 (by decide) ?_
          exact ih_2  (sm + (t_grams_f i)) (i + 1) (by omega) (by omega) (by first | exact ap_1 hsm hi (by assumption) | exact ap_0 hsm hi (by assumption)) (by omega) _ _ (hP.sub [0, 1] rfl) (hD.sub [0, 1] (by decide) rfl) hS ls (lv_sub hl [2, 3, 1, 0] rfl)
  exact loop_1 ((t_number - 0 : Int).toNat + 1) 0 0 (by omega) (by omega) (by rfl) (by omega) _ _ (hP.sub [0, 1] rfl) (hD.sub [0, 1] (by decide) rfl) hS ls (lv_sub hl [2, 3, 1, 0] rfl)
set_option maxHeartbeats 4000000 in
set_option maxRecDepth 100000 in
theorem k_Comparison_countWays (l : Launch) (D : va_G) (cI cJ cZ : ClassId) (t_a t_grams_a : Nat) (sz : Nat) (t_number : Int) (t_firsts : Int) (t_actual : Int) (t_total : Int) (hnb : 0 ≤ t_number ∧ t_number ≤ 10) (hf : 0 ≤ t_firsts ∧ t_firsts ≤ 10) : cq_l l yCp_countWays wsCp_countWays ({ frames := 1, cells := 0, slots := 0, locals := 20 }) D clAll [(cI, .int), (cJ, .long), (cZ, .boolean)] nwAll [.ref t_a] [(t_a, .inr (1, [.ref t_grams_a, .int (iZ t_number), .int (iZ t_firsts), .int (iZ t_actual), .long (lZ t_total)]))] sz (S := Int) (fun (r : Int64) (u : Int) => r = lZ u ∧ (u = sZ (fun w => if pcn w 10 = t_firsts then 1 else 0) (p2 t_number))) (fun (u : Int) => [(t_a, .inr (1, [.ref t_grams_a, .int (iZ t_number), .int (iZ t_firsts), .int (iZ t_actual), .long (lZ t_total)]))]) 0 0 := by
  refine cq_enter (cc := cCp_countWays) (maxL := 4) (ret := some .long) (by decide) rfl (Nat.le_of_ble_eq_true rfl) ?_
  intro p e s m below meth c A args Q H hAe hQ hsz hAt hA hP hK hD hS ls hl
  obtain ⟨hx, hb, hr, hml, hown, hts, hlocks, hin⟩ := hAt
  have hown : s.vm.findClass RCp = some m.cls := hown
  have hl : lv_has ls 4 [(0, .ref t_a)] := hl
  refine lv_lconst (v := lZ 0) hx hb dCp_countWays_0 (by decide) ?_
  refine lv_lstore_n (lv' := [(1, .long (lZ 0)), (0, .ref t_a)]) hx hb dCp_countWays_1 rfl hl (by decide) rfl (fun ls hl => ?_)
  refine lv_iconst (v := iZ 0) hx hb dCp_countWays_2 (by decide) ?_
  refine lv_istore_n (lv' := [(3, .int (iZ 0)), (1, .long (lZ 0)), (0, .ref t_a)]) hx hb dCp_countWays_3 rfl hl (by decide) rfl (fun ls hl => ?_)
  have hp2 := p2_10 hnb.1 hnb.2
  have loop_1 : ∀ (n_3 : Nat) (wy : Int) (i : Int), (0 ≤ i) → (i ≤ p2 t_number) → (wy = sZ (fun w => if pcn w 10 = t_firsts then 1 else 0) i) → (p2 t_number - i < (n_3 : Int)) → ∀ (H : Heap) (locs : List Loc), va_P D clAll [(t_a, .inr (1, [.ref t_grams_a, .int (iZ t_number), .int (iZ t_firsts), .int (iZ t_actual), .long (lZ t_total)]))] H → va_D A [(t_a, .inr (1, [.ref t_grams_a, .int (iZ t_number), .int (iZ t_firsts), .int (iZ t_actual), .long (lZ t_total)]))] → va_S A s.heap H locs → ∀ ls : Array Slot, lv_has ls 4 [(0, .ref t_a), (1, .long (lZ wy)), (3, .int (iZ i))] → W p l e { frames := 1, cells := 0, slots := 0, locals := 20 } s m args below meth c H locs 0 0 Q (F0 m 4 ls []) := by
    intro n_3
    induction n_3 with
    | zero => intro wy i hi hi2 hwy hm_4; exact absurd hm_4 (by omega)
    | succ n_3 ih_2 =>
      intro wy i hi hi2 hwy hm_4 H locs hP hD hS ls hl
      refine lv_iload_n hx hb dCp_countWays_4 rfl (lv_at hl 2 rfl) ?_
      refine lv_iconst (v := iZ 1) hx hb dCp_countWays_5 (by decide) ?_
      refine lv_aload_n hx hb dCp_countWays_6 rfl (lv_at hl 0 rfl) ?_
      refine va_get (D := D) (ci := 1) (v := .int (iZ t_number)) (C := RCp) (T := TCp) (N := 5) hx hb hts layCp hown hK.1 hP 0 rfl rfl 1 (by decide) (hts _ (hm g195)) (fun _ h9 => h9) rfl dCp_countWays_7 ?_
      refine lv_ishl hx hb dCp_countWays_10 ?_
      refine cq_ti (sh_p2 hnb.1 (by omega)) ?_
      refine z_icmp_ge (tgt := 35) hx hb (by omega) (by omega) (by omega) (by omega) dCp_countWays_11 (by decide) (fun c_5 => ?_) (fun c_5 => ?_)
      ·
        refine lv_lload_n hx hb dCp_countWays_35 rfl (lv_at hl 1 rfl) ?_
        exact cq_lret hx hb hr hlocks hAe hQ wy ⟨rfl, (by (try dsimp only) <;> (exact sz_end hwy (by omega)))⟩ (hP.sub [0] rfl) (hD.sub [0] (by decide) rfl) hS (by decide) (by decide) dCp_countWays_36
      ·
        refine lv_iload_n hx hb dCp_countWays_14 rfl (lv_at hl 2 rfl) ?_
        refine cq_calli (wr := [(t_a, .inr (1, [.ref t_grams_a, .int (iZ t_number), .int (iZ t_firsts), .int (iZ t_actual), .long (lZ t_total)]))]) (va_runS (As := [.int (iZ i)]) (rest := []) ⟨hx, hb, hml, hown, hts⟩ (k_Integer_bitCount l D cI cJ cZ H.size i (by omega) (by omega) (by first | assumption | omega)) ⟨(callB_of 1 hts (gAll cmJI_bitCount) rfl rfl rfl (hts _ (hm g70)) (hts _ (hm g382)) (by decide +kernel) ⟨Nat.le_of_ble_eq_true rfl, Nat.le_of_ble_eq_true rfl⟩), (hts _ (hm g383))⟩ (cq_preS hK hP hD [] (by decide) rfl) rfl rfl hl.1 rfl (lv_room (Nat.le_of_ble_eq_true rfl)) dCp_countWays_15 ⟨by decide, by decide⟩) hP hD hS hA [] [0] rfl rfl (by decide) (by decide) (fun r u H locs hw_6 hP hD hS => ?_)
        obtain ⟨o_7, rfl⟩ : ∃ z, z = u := ⟨_, rfl⟩
        try dsimp only at hw_6
        obtain ⟨rfl, rfl⟩ := hw_6
        have hP : va_P D clAll [(t_a, .inr (1, [.ref t_grams_a, .int (iZ t_number), .int (iZ t_firsts), .int (iZ t_actual), .long (lZ t_total)]))] H := hP
        have hD : va_D A [(t_a, .inr (1, [.ref t_grams_a, .int (iZ t_number), .int (iZ t_firsts), .int (iZ t_actual), .long (lZ t_total)]))] := hD
        refine lv_aload_n hx hb dCp_countWays_18 rfl (lv_at hl 0 rfl) ?_
        refine va_get (D := D) (ci := 1) (v := .int (iZ t_firsts)) (C := RCp) (T := TCp) (N := 5) hx hb hts layCp hown hK.1 hP 0 rfl rfl 2 (by decide) (hts _ (hm g196)) (fun _ h9 => h9) rfl dCp_countWays_19 ?_
        have hpb := pcn_b (z := i) (n := 10) (by omega)
        refine z_icmp_ne (tgt := 29) hx hb (by omega) (by omega) (by omega) (by omega) dCp_countWays_22 (by decide) (fun c_8 => ?_) (fun c_8 => ?_)
        ·
          refine lv_iinc (v := iZ (i + 1)) (lv' := [(3, .int (iZ (i + 1))), (0, .ref t_a), (1, .long (lZ wy))]) hx hb dCp_countWays_29 hl (k := 2) rfl (iZ_add i 1) (by decide) rfl (fun ls hl => ?_)
          refine lv_goto (tgt := 4) hx hb dCp_countWays_32 (by decide) ?_
          exact ih_2  wy (i + 1) (by omega) (by omega) (by first | exact wy_1 (q := fun w => pcn w 10 = t_firsts) hwy hi (by assumption) | exact wy_0 (q := fun w => pcn w 10 = t_firsts) hwy hi (by assumption)) (by omega) _ _ (hP.sub [0] rfl) (hD.sub [0] (by decide) rfl) hS ls (lv_sub hl [1, 2, 0] rfl)
        ·
          refine lv_lload_n hx hb dCp_countWays_25 rfl (lv_at hl 1 rfl) ?_
          refine lv_lconst (v := lZ 1) hx hb dCp_countWays_26 (by decide) ?_
          refine z_ladd hx hb dCp_countWays_27 ?_
          refine lv_lstore_n (lv' := [(1, .long (lZ (wy + 1))), (0, .ref t_a), (3, .int (iZ i))]) hx hb dCp_countWays_28 rfl hl (by decide) rfl (fun ls hl => ?_)
          refine lv_iinc (v := iZ (i + 1)) (lv' := [(3, .int (iZ (i + 1))), (1, .long (lZ (wy + 1))), (0, .ref t_a)]) hx hb dCp_countWays_29 hl (k := 2) rfl (iZ_add i 1) (by decide) rfl (fun ls hl => ?_)
          refine lv_goto (tgt := 4) hx hb dCp_countWays_32 (by decide) ?_
          exact ih_2  (wy + 1) (i + 1) (by omega) (by omega) (by first | exact wy_1 (q := fun w => pcn w 10 = t_firsts) hwy hi (by assumption) | exact wy_0 (q := fun w => pcn w 10 = t_firsts) hwy hi (by assumption)) (by omega) _ _ (hP.sub [0] rfl) (hD.sub [0] (by decide) rfl) hS ls (lv_sub hl [2, 1, 0] rfl)
  exact loop_1 ((p2 t_number - 0 : Int).toNat + 1) 0 0 (by omega) (by exact Int.le_trans (by decide) (p2_pos _)) (by rfl) (by omega) _ _ (hP.sub [0] rfl) (hD.sub [0] (by decide) rfl) hS ls (lv_sub hl [2, 1, 0] rfl)
set_option maxHeartbeats 4000000 in
set_option maxRecDepth 100000 in
theorem k_Comparison_countFarWays (l : Launch) (D : va_G) (cI cJ cZ : ClassId) (t_a t_grams_a : Nat) (sz : Nat) (t_number : Int) (t_firsts : Int) (t_actual : Int) (t_total : Int) (t_grams_f : Int → Int) (hnb : 0 ≤ t_number ∧ t_number ≤ 10) (hf : 0 ≤ t_firsts ∧ t_firsts ≤ 10) (hac : 0 ≤ t_actual ∧ t_actual < p2 t_number) (ht : 0 ≤ t_total ∧ t_total ≤ 200000) (hgr : ∀ j, 0 ≤ t_grams_f j ∧ t_grams_f j ≤ 10000) : cq_l l yCp_countFarWays wsCp_countFarWays ({ frames := 2, cells := 0, slots := 0, locals := 84 }) D clAll [(cI, .int), (cJ, .long), (cZ, .boolean)] nwAll [.ref t_a] [(t_a, .inr (1, [.ref t_grams_a, .int (iZ t_number), .int (iZ t_firsts), .int (iZ t_actual), .long (lZ t_total)])), (t_grams_a, .inl (cJ, 10, .inr (.inl (aL t_grams_f))))] sz (S := Int) (fun (r : Int64) (u : Int) => r = lZ u ∧ (u = sZ (fun w => if pcn w 10 = t_firsts ∧ apv t_grams_f t_actual t_number t_firsts t_total ≤ apv t_grams_f w t_number t_firsts t_total then 1 else 0) (p2 t_number))) (fun (u : Int) => [(t_a, .inr (1, [.ref t_grams_a, .int (iZ t_number), .int (iZ t_firsts), .int (iZ t_actual), .long (lZ t_total)])), (t_grams_a, .inl (cJ, 10, .inr (.inl (aL t_grams_f))))]) 0 0 := by
  refine cq_enter (cc := cCp_countFarWays) (maxL := 6) (ret := some .long) (by decide) rfl (Nat.le_of_ble_eq_true rfl) ?_
  intro p e s m below meth c A args Q H hAe hQ hsz hAt hA hP hK hD hS ls hl
  obtain ⟨hx, hb, hr, hml, hown, hts, hlocks, hin⟩ := hAt
  have hown : s.vm.findClass RCp = some m.cls := hown
  have hl : lv_has ls 6 [(0, .ref t_a)] := hl
  have hp2 := p2_10 hnb.1 hnb.2
  have hab := apv_b (w := t_actual) hnb hf ht hgr
  refine lv_aload_n hx hb dCp_countFarWays_0 rfl (lv_at hl 0 rfl) ?_
  refine lv_aload_n hx hb dCp_countFarWays_1 rfl (lv_at hl 0 rfl) ?_
  refine va_get (D := D) (ci := 1) (v := .int (iZ t_actual)) (C := RCp) (T := TCp) (N := 5) hx hb hts layCp hown hK.1 hP 0 rfl rfl 3 (by decide) (hts _ (hm g197)) (fun _ h9 => h9) rfl dCp_countFarWays_2 ?_
  refine cq_calll (wr := []) (va_runV (C := RCp) (As := [.int (iZ t_actual)]) (rest := []) ⟨hx, hb, hml, hown, hts⟩ (k_Comparison_apart l D cI cJ cZ t_a t_grams_a H.size t_number t_firsts t_actual t_total t_grams_f t_actual (by omega) (by omega) (by first | assumption | omega) (by first | assumption | omega) (by first | assumption | omega) (by first | assumption | omega) (by first | assumption | omega)) ⟨(callB_of 1 hts (gAll cmCp_apart) rfl rfl rfl (hts _ (hm g66)) (hts _ (hm g390)) (by decide +kernel) ⟨Nat.le_of_ble_eq_true rfl, Nat.le_of_ble_eq_true rfl⟩), (hts _ (hm g391)), (hts _ (hm g35))⟩ (cq_preV (va_recv hK.1 hP (ci := 1) (q0 := 0) rfl rfl) (cq_preS hK hP hD [0, 1] (by decide) rfl)) rfl rfl hl.1 rfl (lv_room (Nat.le_of_ble_eq_true rfl)) dCp_countFarWays_5 ⟨by decide, by decide⟩) hP hD hS hA [0, 1] [] rfl rfl (by decide) (by decide) (fun r u H locs hw_1 hP hD hS => ?_)
  obtain ⟨o_2, rfl⟩ : ∃ z, z = u := ⟨_, rfl⟩
  try dsimp only at hw_1
  obtain ⟨rfl, rfl⟩ := hw_1
  have hP : va_P D clAll [(t_a, .inr (1, [.ref t_grams_a, .int (iZ t_number), .int (iZ t_firsts), .int (iZ t_actual), .long (lZ t_total)])), (t_grams_a, .inl (cJ, 10, .inr (.inl (aL t_grams_f))))] H := hP
  have hD : va_D A [(t_a, .inr (1, [.ref t_grams_a, .int (iZ t_number), .int (iZ t_firsts), .int (iZ t_actual), .long (lZ t_total)])), (t_grams_a, .inl (cJ, 10, .inr (.inl (aL t_grams_f))))] := hD
  refine lv_lstore_n (lv' := [(1, .long (lZ (apv t_grams_f t_actual t_number t_firsts t_total))), (0, .ref t_a)]) hx hb dCp_countFarWays_8 rfl hl (by decide) rfl (fun ls hl => ?_)
  refine lv_lconst (v := lZ 0) hx hb dCp_countFarWays_9 (by decide) ?_
  refine lv_lstore_n (lv' := [(3, .long (lZ 0)), (1, .long (lZ (apv t_grams_f t_actual t_number t_firsts t_total))), (0, .ref t_a)]) hx hb dCp_countFarWays_10 rfl hl (by decide) rfl (fun ls hl => ?_)
  refine lv_iconst (v := iZ 0) hx hb dCp_countFarWays_11 (by decide) ?_
  refine lv_istore (lv' := [(5, .int (iZ 0)), (3, .long (lZ 0)), (1, .long (lZ (apv t_grams_f t_actual t_number t_firsts t_total))), (0, .ref t_a)]) hx hb dCp_countFarWays_12 hl (by decide) rfl (fun ls hl => ?_)
  have loop_3 : ∀ (n_5 : Nat) (wy : Int) (i : Int), (0 ≤ i) → (i ≤ p2 t_number) → (wy = sZ (fun w => if pcn w 10 = t_firsts ∧ apv t_grams_f t_actual t_number t_firsts t_total ≤ apv t_grams_f w t_number t_firsts t_total then 1 else 0) i) → (p2 t_number - i < (n_5 : Int)) → ∀ (H : Heap) (locs : List Loc), va_P D clAll [(t_a, .inr (1, [.ref t_grams_a, .int (iZ t_number), .int (iZ t_firsts), .int (iZ t_actual), .long (lZ t_total)])), (t_grams_a, .inl (cJ, 10, .inr (.inl (aL t_grams_f))))] H → va_D A [(t_a, .inr (1, [.ref t_grams_a, .int (iZ t_number), .int (iZ t_firsts), .int (iZ t_actual), .long (lZ t_total)])), (t_grams_a, .inl (cJ, 10, .inr (.inl (aL t_grams_f))))] → va_S A s.heap H locs → ∀ ls : Array Slot, lv_has ls 6 [(0, .ref t_a), (1, .long (lZ (apv t_grams_f t_actual t_number t_firsts t_total))), (3, .long (lZ wy)), (5, .int (iZ i))] → W p l e { frames := 2, cells := 0, slots := 0, locals := 84 } s m args below meth c H locs 0 0 Q (F0 m 14 ls []) := by
    intro n_5
    induction n_5 with
    | zero => intro wy i hi hi2 hwy hm_6; exact absurd hm_6 (by omega)
    | succ n_5 ih_4 =>
      intro wy i hi hi2 hwy hm_6 H locs hP hD hS ls hl
      refine lv_iload hx hb dCp_countFarWays_14 (lv_at hl 3 rfl) ?_
      refine lv_iconst (v := iZ 1) hx hb dCp_countFarWays_16 (by decide) ?_
      refine lv_aload_n hx hb dCp_countFarWays_17 rfl (lv_at hl 0 rfl) ?_
      refine va_get (D := D) (ci := 1) (v := .int (iZ t_number)) (C := RCp) (T := TCp) (N := 5) hx hb hts layCp hown hK.1 hP 0 rfl rfl 1 (by decide) (hts _ (hm g195)) (fun _ h9 => h9) rfl dCp_countFarWays_18 ?_
      refine lv_ishl hx hb dCp_countFarWays_21 ?_
      refine cq_ti (sh_p2 hnb.1 (by omega)) ?_
      refine z_icmp_ge (tgt := 58) hx hb (by omega) (by omega) (by omega) (by omega) dCp_countFarWays_22 (by decide) (fun c_7 => ?_) (fun c_7 => ?_)
      ·
        refine lv_lload_n hx hb dCp_countFarWays_58 rfl (lv_at hl 2 rfl) ?_
        exact cq_lret hx hb hr hlocks hAe hQ wy ⟨rfl, (by (try dsimp only) <;> (exact sz_end hwy (by omega)))⟩ (hP.sub [0, 1] rfl) (hD.sub [0, 1] (by decide) rfl) hS (by decide) (by decide) dCp_countFarWays_59
      ·
        refine lv_iload hx hb dCp_countFarWays_25 (lv_at hl 3 rfl) ?_
        refine cq_calli (wr := [(t_a, .inr (1, [.ref t_grams_a, .int (iZ t_number), .int (iZ t_firsts), .int (iZ t_actual), .long (lZ t_total)])), (t_grams_a, .inl (cJ, 10, .inr (.inl (aL t_grams_f))))]) (va_runS (As := [.int (iZ i)]) (rest := []) ⟨hx, hb, hml, hown, hts⟩ (k_Integer_bitCount l D cI cJ cZ H.size i (by omega) (by omega) (by first | assumption | omega)) ⟨(callB_of 1 hts (gAll cmJI_bitCount) rfl rfl rfl (hts _ (hm g70)) (hts _ (hm g382)) (by decide +kernel) ⟨Nat.le_of_ble_eq_true rfl, Nat.le_of_ble_eq_true rfl⟩), (hts _ (hm g383))⟩ (cq_preS hK hP hD [] (by decide) rfl) rfl rfl hl.1 rfl (lv_room (Nat.le_of_ble_eq_true rfl)) dCp_countFarWays_27 ⟨by decide, by decide⟩) hP hD hS hA [] [0, 1] rfl rfl (by decide) (by decide) (fun r u H locs hw_8 hP hD hS => ?_)
        obtain ⟨o_9, rfl⟩ : ∃ z, z = u := ⟨_, rfl⟩
        try dsimp only at hw_8
        obtain ⟨rfl, rfl⟩ := hw_8
        have hP : va_P D clAll [(t_a, .inr (1, [.ref t_grams_a, .int (iZ t_number), .int (iZ t_firsts), .int (iZ t_actual), .long (lZ t_total)])), (t_grams_a, .inl (cJ, 10, .inr (.inl (aL t_grams_f))))] H := hP
        have hD : va_D A [(t_a, .inr (1, [.ref t_grams_a, .int (iZ t_number), .int (iZ t_firsts), .int (iZ t_actual), .long (lZ t_total)])), (t_grams_a, .inl (cJ, 10, .inr (.inl (aL t_grams_f))))] := hD
        refine lv_aload_n hx hb dCp_countFarWays_30 rfl (lv_at hl 0 rfl) ?_
        refine va_get (D := D) (ci := 1) (v := .int (iZ t_firsts)) (C := RCp) (T := TCp) (N := 5) hx hb hts layCp hown hK.1 hP 0 rfl rfl 2 (by decide) (hts _ (hm g196)) (fun _ h9 => h9) rfl dCp_countFarWays_31 ?_
        have hpb := pcn_b (z := i) (n := 10) (by omega)
        refine z_icmp_ne (tgt := 52) hx hb (by omega) (by omega) (by omega) (by omega) dCp_countFarWays_34 (by decide) (fun c_10 => ?_) (fun c_10 => ?_)
        ·
          refine lv_iinc (v := iZ (i + 1)) (lv' := [(5, .int (iZ (i + 1))), (0, .ref t_a), (1, .long (lZ (apv t_grams_f t_actual t_number t_firsts t_total))), (3, .long (lZ wy))]) hx hb dCp_countFarWays_52 hl (k := 3) rfl (iZ_add i 1) (by decide) rfl (fun ls hl => ?_)
          refine lv_goto (tgt := 14) hx hb dCp_countFarWays_55 (by decide) ?_
          exact ih_4  wy (i + 1) (by omega) (by omega) (by first | exact wy_1 (q := fun w => pcn w 10 = t_firsts ∧ apv t_grams_f t_actual t_number t_firsts t_total ≤ apv t_grams_f w t_number t_firsts t_total) hwy hi ⟨by assumption, by omega⟩ | exact wy_0 (q := fun w => pcn w 10 = t_firsts ∧ apv t_grams_f t_actual t_number t_firsts t_total ≤ apv t_grams_f w t_number t_firsts t_total) hwy hi (fun z => absurd z.1 (by assumption)) | exact wy_0 (q := fun w => pcn w 10 = t_firsts ∧ apv t_grams_f t_actual t_number t_firsts t_total ≤ apv t_grams_f w t_number t_firsts t_total) hwy hi (fun z => absurd z.2 (by omega))) (by omega) _ _ (hP.sub [0, 1] rfl) (hD.sub [0, 1] (by decide) rfl) hS ls (lv_sub hl [1, 2, 3, 0] rfl)
        ·
          refine lv_aload_n hx hb dCp_countFarWays_37 rfl (lv_at hl 0 rfl) ?_
          refine lv_iload hx hb dCp_countFarWays_38 (lv_at hl 3 rfl) ?_
          refine cq_calll (wr := []) (va_runV (C := RCp) (As := [.int (iZ i)]) (rest := []) ⟨hx, hb, hml, hown, hts⟩ (k_Comparison_apart l D cI cJ cZ t_a t_grams_a H.size t_number t_firsts t_actual t_total t_grams_f i (by omega) (by omega) (by first | assumption | omega) (by first | assumption | omega) (by first | assumption | omega) (by first | assumption | omega) (by first | assumption | omega)) ⟨(callB_of 1 hts (gAll cmCp_apart) rfl rfl rfl (hts _ (hm g66)) (hts _ (hm g390)) (by decide +kernel) ⟨Nat.le_of_ble_eq_true rfl, Nat.le_of_ble_eq_true rfl⟩), (hts _ (hm g391)), (hts _ (hm g35))⟩ (cq_preV (va_recv hK.1 hP (ci := 1) (q0 := 0) rfl rfl) (cq_preS hK hP hD [0, 1] (by decide) rfl)) rfl rfl hl.1 rfl (lv_room (Nat.le_of_ble_eq_true rfl)) dCp_countFarWays_40 ⟨by decide, by decide⟩) hP hD hS hA [0, 1] [] rfl rfl (by decide) (by decide) (fun r u H locs hw_11 hP hD hS => ?_)
          obtain ⟨o_12, rfl⟩ : ∃ z, z = u := ⟨_, rfl⟩
          try dsimp only at hw_11
          obtain ⟨rfl, rfl⟩ := hw_11
          have hP : va_P D clAll [(t_a, .inr (1, [.ref t_grams_a, .int (iZ t_number), .int (iZ t_firsts), .int (iZ t_actual), .long (lZ t_total)])), (t_grams_a, .inl (cJ, 10, .inr (.inl (aL t_grams_f))))] H := hP
          have hD : va_D A [(t_a, .inr (1, [.ref t_grams_a, .int (iZ t_number), .int (iZ t_firsts), .int (iZ t_actual), .long (lZ t_total)])), (t_grams_a, .inl (cJ, 10, .inr (.inl (aL t_grams_f))))] := hD
          have hai := apv_b (w := i) hnb hf ht hgr
          refine lv_lload_n hx hb dCp_countFarWays_43 rfl (lv_at hl 1 rfl) ?_
          refine z_lcmp_lt (tgt := 52) hx hb (by omega) (by omega) (by omega) (by omega) dCp_countFarWays_44 dCp_countFarWays_45 (by decide) (fun c_13 => ?_) (fun c_13 => ?_)
          ·
            refine lv_iinc (v := iZ (i + 1)) (lv' := [(5, .int (iZ (i + 1))), (0, .ref t_a), (1, .long (lZ (apv t_grams_f t_actual t_number t_firsts t_total))), (3, .long (lZ wy))]) hx hb dCp_countFarWays_52 hl (k := 3) rfl (iZ_add i 1) (by decide) rfl (fun ls hl => ?_)
            refine lv_goto (tgt := 14) hx hb dCp_countFarWays_55 (by decide) ?_
            exact ih_4  wy (i + 1) (by omega) (by omega) (by first | exact wy_1 (q := fun w => pcn w 10 = t_firsts ∧ apv t_grams_f t_actual t_number t_firsts t_total ≤ apv t_grams_f w t_number t_firsts t_total) hwy hi ⟨by assumption, by omega⟩ | exact wy_0 (q := fun w => pcn w 10 = t_firsts ∧ apv t_grams_f t_actual t_number t_firsts t_total ≤ apv t_grams_f w t_number t_firsts t_total) hwy hi (fun z => absurd z.1 (by assumption)) | exact wy_0 (q := fun w => pcn w 10 = t_firsts ∧ apv t_grams_f t_actual t_number t_firsts t_total ≤ apv t_grams_f w t_number t_firsts t_total) hwy hi (fun z => absurd z.2 (by omega))) (by omega) _ _ (hP.sub [0, 1] rfl) (hD.sub [0, 1] (by decide) rfl) hS ls (lv_sub hl [1, 2, 3, 0] rfl)
          ·
            refine lv_lload_n hx hb dCp_countFarWays_48 rfl (lv_at hl 2 rfl) ?_
            refine lv_lconst (v := lZ 1) hx hb dCp_countFarWays_49 (by decide) ?_
            refine z_ladd hx hb dCp_countFarWays_50 ?_
            refine lv_lstore_n (lv' := [(3, .long (lZ (wy + 1))), (0, .ref t_a), (1, .long (lZ (apv t_grams_f t_actual t_number t_firsts t_total))), (5, .int (iZ i))]) hx hb dCp_countFarWays_51 rfl hl (by decide) rfl (fun ls hl => ?_)
            refine lv_iinc (v := iZ (i + 1)) (lv' := [(5, .int (iZ (i + 1))), (3, .long (lZ (wy + 1))), (0, .ref t_a), (1, .long (lZ (apv t_grams_f t_actual t_number t_firsts t_total)))]) hx hb dCp_countFarWays_52 hl (k := 3) rfl (iZ_add i 1) (by decide) rfl (fun ls hl => ?_)
            refine lv_goto (tgt := 14) hx hb dCp_countFarWays_55 (by decide) ?_
            exact ih_4  (wy + 1) (i + 1) (by omega) (by omega) (by first | exact wy_1 (q := fun w => pcn w 10 = t_firsts ∧ apv t_grams_f t_actual t_number t_firsts t_total ≤ apv t_grams_f w t_number t_firsts t_total) hwy hi ⟨by assumption, by omega⟩ | exact wy_0 (q := fun w => pcn w 10 = t_firsts ∧ apv t_grams_f t_actual t_number t_firsts t_total ≤ apv t_grams_f w t_number t_firsts t_total) hwy hi (fun z => absurd z.1 (by assumption)) | exact wy_0 (q := fun w => pcn w 10 = t_firsts ∧ apv t_grams_f t_actual t_number t_firsts t_total ≤ apv t_grams_f w t_number t_firsts t_total) hwy hi (fun z => absurd z.2 (by omega))) (by omega) _ _ (hP.sub [0, 1] rfl) (hD.sub [0, 1] (by decide) rfl) hS ls (lv_sub hl [2, 3, 1, 0] rfl)
  exact loop_3 ((p2 t_number - 0 : Int).toNat + 1) 0 0 (by omega) (by exact Int.le_trans (by decide) (p2_pos _)) (by rfl) (by omega) _ _ (hP.sub [0, 1] rfl) (hD.sub [0, 1] (by decide) rfl) hS ls (lv_sub hl [3, 2, 1, 0] rfl)
set_option maxHeartbeats 4000000 in
set_option maxRecDepth 100000 in
theorem k_Comparison_gather (l : Launch) (D : va_G) (cI cJ cZ : ClassId) (t_a bags_a t_grams_a bags_homes_a bags_dates_a bags_lost_a bags_grams_a : Nat) (sz : Nat) (t_number : Int) (t_firsts : Int) (t_actual : Int) (t_total : Int) (t_grams_f : Int → Int) (bags_made : Int) (bags_lost_f : Int → Int) (bags_dates_f : Int → Int) (bags_grams_f : Int → Int) (kind : Int) (h_kind1 : -2147483648 ≤ kind) (h_kind2 : kind < 2147483648) (hbm : 0 ≤ bags_made ∧ bags_made ≤ 12) (hlo : ∀ j, 0 ≤ bags_lost_f j ∧ bags_lost_f j ≤ 1) (hda : ∀ j, 0 ≤ bags_dates_f j ∧ bags_dates_f j ≤ 1) (hgb : ∀ j, 0 ≤ bags_grams_f j ∧ bags_grams_f j ≤ 10000) (hgr : ∀ j, 0 ≤ t_grams_f j ∧ t_grams_f j ≤ 10000) (hk : 0 ≤ kind ∧ kind < 3) : cq_i l yCp_gather wsCp_gather ({ frames := 2, cells := 0, slots := 0, locals := 43 }) D clAll [(cI, .int), (cJ, .long), (cZ, .boolean)] nwAll [.ref t_a, .ref bags_a, .int (iZ kind)] [(t_a, .inr (1, [.ref t_grams_a, .int (iZ t_number), .int (iZ t_firsts), .int (iZ t_actual), .long (lZ t_total)])), (t_grams_a, .inl (cJ, 10, .inr (.inl (aL t_grams_f)))), (bags_a, .inr (0, [.ref bags_homes_a, .ref bags_dates_a, .ref bags_lost_a, .ref bags_grams_a, .int (iZ bags_made)])), (bags_lost_a, .inl (cZ, 12, .inl (aI bags_lost_f))), (bags_dates_a, .inl (cI, 12, .inl (aI bags_dates_f))), (bags_grams_a, .inl (cJ, 36, .inr (.inl (aL bags_grams_f))))] sz (S := Int × Int × Int × Int × Int × (Int → Int)) (fun (r : Int32) (u : Int × Int × Int × Int × Int × (Int → Int)) => r = iZ u.1 ∧ ((u.1 = 0 ∧ 10 < cN bags_lost_f bags_made) ∨ (cN bags_lost_f bags_made ≤ 10 ∧ u.2.1 = cN bags_lost_f bags_made ∧ u.2.2.2.1 = cA bags_lost_f bags_dates_f bags_made ∧ u.2.2.2.2.1 = cT bags_lost_f bags_grams_f kind bags_made ∧ u.2.2.1 = pcn (cA bags_lost_f bags_dates_f bags_made) 10 ∧ (∀ b, 0 ≤ b → b < bags_made → bags_lost_f b = 0 → u.2.2.2.2.2 (cN bags_lost_f b) = bags_grams_f (b * 3 + kind)) ∧ ((u.1 = 1 ∧ 0 < u.2.2.1 ∧ u.2.2.1 < cN bags_lost_f bags_made) ∨ (u.1 = 0 ∧ ¬ (0 < u.2.2.1 ∧ u.2.2.1 < cN bags_lost_f bags_made))))) ∧ (∀ j, 0 ≤ u.2.2.2.2.2 j ∧ u.2.2.2.2.2 j ≤ 10000)) (fun (u : Int × Int × Int × Int × Int × (Int → Int)) => [(t_a, .inr (1, [.ref t_grams_a, .int (iZ u.2.1), .int (iZ u.2.2.1), .int (iZ u.2.2.2.1), .long (lZ u.2.2.2.2.1)])), (t_grams_a, .inl (cJ, 10, .inr (.inl (aL u.2.2.2.2.2)))), (bags_a, .inr (0, [.ref bags_homes_a, .ref bags_dates_a, .ref bags_lost_a, .ref bags_grams_a, .int (iZ bags_made)])), (bags_lost_a, .inl (cZ, 12, .inl (aI bags_lost_f))), (bags_dates_a, .inl (cI, 12, .inl (aI bags_dates_f))), (bags_grams_a, .inl (cJ, 36, .inr (.inl (aL bags_grams_f))))]) 0 0 := by
  refine cq_enter (cc := cCp_gather) (maxL := 4) (ret := some .boolean) (by decide) rfl (Nat.le_of_ble_eq_true rfl) ?_
  intro p e s m below meth c A args Q H hAe hQ hsz hAt hA hP hK hD hS ls hl
  obtain ⟨hx, hb, hr, hml, hown, hts, hlocks, hin⟩ := hAt
  have hown : s.vm.findClass RCp = some m.cls := hown
  have hl : lv_has ls 4 [(0, .ref t_a), (1, .ref bags_a), (2, .int (iZ kind))] := hl
  refine lv_aload_n hx hb dCp_gather_0 rfl (lv_at hl 0 rfl) ?_
  refine lv_iconst (v := iZ 0) hx hb dCp_gather_1 (by decide) ?_
  refine va_put (D := D) (ci := 1) (v := .int (iZ 0)) (ty := .int) (C := RCp) (T := TCp) (N := 5) hx hb hts layCp tyCp tyCp_ok nmCp hown hK.1 hP hD hS 0 rfl rfl 1 (by decide) (hts _ (hm g195)) (fun _ h9 => h9) rfl (by decide +kernel) rfl rfl (Nat.le_of_ble_eq_true rfl) dCp_gather_2 (fun H locs hP hD hS => ?_)
  have hP : va_P D clAll [(t_a, .inr (1, [.ref t_grams_a, .int (iZ 0), .int (iZ t_firsts), .int (iZ t_actual), .long (lZ t_total)])), (t_grams_a, .inl (cJ, 10, .inr (.inl (aL t_grams_f)))), (bags_a, .inr (0, [.ref bags_homes_a, .ref bags_dates_a, .ref bags_lost_a, .ref bags_grams_a, .int (iZ bags_made)])), (bags_lost_a, .inl (cZ, 12, .inl (aI bags_lost_f))), (bags_dates_a, .inl (cI, 12, .inl (aI bags_dates_f))), (bags_grams_a, .inl (cJ, 36, .inr (.inl (aL bags_grams_f))))] H := hP
  have hD : va_D A [(t_a, .inr (1, [.ref t_grams_a, .int (iZ 0), .int (iZ t_firsts), .int (iZ t_actual), .long (lZ t_total)])), (t_grams_a, .inl (cJ, 10, .inr (.inl (aL t_grams_f)))), (bags_a, .inr (0, [.ref bags_homes_a, .ref bags_dates_a, .ref bags_lost_a, .ref bags_grams_a, .int (iZ bags_made)])), (bags_lost_a, .inl (cZ, 12, .inl (aI bags_lost_f))), (bags_dates_a, .inl (cI, 12, .inl (aI bags_dates_f))), (bags_grams_a, .inl (cJ, 36, .inr (.inl (aL bags_grams_f))))] := hD
  refine lv_aload_n hx hb dCp_gather_5 rfl (lv_at hl 0 rfl) ?_
  refine lv_iconst (v := iZ 0) hx hb dCp_gather_6 (by decide) ?_
  refine va_put (D := D) (ci := 1) (v := .int (iZ 0)) (ty := .int) (C := RCp) (T := TCp) (N := 5) hx hb hts layCp tyCp tyCp_ok nmCp hown hK.1 hP hD hS 0 rfl rfl 3 (by decide) (hts _ (hm g197)) (fun _ h9 => h9) rfl (by decide +kernel) rfl rfl (Nat.le_of_ble_eq_true rfl) dCp_gather_7 (fun H locs hP hD hS => ?_)
  have hP : va_P D clAll [(t_a, .inr (1, [.ref t_grams_a, .int (iZ 0), .int (iZ t_firsts), .int (iZ 0), .long (lZ t_total)])), (t_grams_a, .inl (cJ, 10, .inr (.inl (aL t_grams_f)))), (bags_a, .inr (0, [.ref bags_homes_a, .ref bags_dates_a, .ref bags_lost_a, .ref bags_grams_a, .int (iZ bags_made)])), (bags_lost_a, .inl (cZ, 12, .inl (aI bags_lost_f))), (bags_dates_a, .inl (cI, 12, .inl (aI bags_dates_f))), (bags_grams_a, .inl (cJ, 36, .inr (.inl (aL bags_grams_f))))] H := hP
  have hD : va_D A [(t_a, .inr (1, [.ref t_grams_a, .int (iZ 0), .int (iZ t_firsts), .int (iZ 0), .long (lZ t_total)])), (t_grams_a, .inl (cJ, 10, .inr (.inl (aL t_grams_f)))), (bags_a, .inr (0, [.ref bags_homes_a, .ref bags_dates_a, .ref bags_lost_a, .ref bags_grams_a, .int (iZ bags_made)])), (bags_lost_a, .inl (cZ, 12, .inl (aI bags_lost_f))), (bags_dates_a, .inl (cI, 12, .inl (aI bags_dates_f))), (bags_grams_a, .inl (cJ, 36, .inr (.inl (aL bags_grams_f))))] := hD
  refine lv_aload_n hx hb dCp_gather_10 rfl (lv_at hl 0 rfl) ?_
  refine lv_lconst (v := lZ 0) hx hb dCp_gather_11 (by decide) ?_
  refine va_put (D := D) (ci := 1) (v := .long (lZ 0)) (ty := .long) (C := RCp) (T := TCp) (N := 5) hx hb hts layCp tyCp tyCp_ok nmCp hown hK.1 hP hD hS 0 rfl rfl 4 (by decide) (hts _ (hm g198)) (fun _ h9 => h9) rfl (by decide +kernel) rfl rfl (Nat.le_of_ble_eq_true rfl) dCp_gather_12 (fun H locs hP hD hS => ?_)
  have hP : va_P D clAll [(t_a, .inr (1, [.ref t_grams_a, .int (iZ 0), .int (iZ t_firsts), .int (iZ 0), .long (lZ 0)])), (t_grams_a, .inl (cJ, 10, .inr (.inl (aL t_grams_f)))), (bags_a, .inr (0, [.ref bags_homes_a, .ref bags_dates_a, .ref bags_lost_a, .ref bags_grams_a, .int (iZ bags_made)])), (bags_lost_a, .inl (cZ, 12, .inl (aI bags_lost_f))), (bags_dates_a, .inl (cI, 12, .inl (aI bags_dates_f))), (bags_grams_a, .inl (cJ, 36, .inr (.inl (aL bags_grams_f))))] H := hP
  have hD : va_D A [(t_a, .inr (1, [.ref t_grams_a, .int (iZ 0), .int (iZ t_firsts), .int (iZ 0), .long (lZ 0)])), (t_grams_a, .inl (cJ, 10, .inr (.inl (aL t_grams_f)))), (bags_a, .inr (0, [.ref bags_homes_a, .ref bags_dates_a, .ref bags_lost_a, .ref bags_grams_a, .int (iZ bags_made)])), (bags_lost_a, .inl (cZ, 12, .inl (aI bags_lost_f))), (bags_dates_a, .inl (cI, 12, .inl (aI bags_dates_f))), (bags_grams_a, .inl (cJ, 36, .inr (.inl (aL bags_grams_f))))] := hD
  refine lv_iconst (v := iZ 0) hx hb dCp_gather_15 (by decide) ?_
  refine lv_istore_n (lv' := [(3, .int (iZ 0)), (0, .ref t_a), (1, .ref bags_a), (2, .int (iZ kind))]) hx hb dCp_gather_16 rfl hl (by decide) rfl (fun ls hl => ?_)
  have loop_1 : ∀ (n_3 : Nat) (i : Int) (number : Int) (actual : Int) (total : Int) (gm : Int → Int), (0 ≤ i) → (i ≤ bags_made) → (number = cN bags_lost_f i) → (number ≤ 10) → (actual = cA bags_lost_f bags_dates_f i) → (total = cT bags_lost_f bags_grams_f kind i) → (∀ b, 0 ≤ b → b < i → bags_lost_f b = 0 → gm (cN bags_lost_f b) = bags_grams_f (b * 3 + kind)) → (∀ j, 0 ≤ gm j ∧ gm j ≤ 10000) → (bags_made - i < (n_3 : Int)) → ∀ (H : Heap) (locs : List Loc), va_P D clAll [(t_a, .inr (1, [.ref t_grams_a, .int (iZ number), .int (iZ t_firsts), .int (iZ actual), .long (lZ total)])), (t_grams_a, .inl (cJ, 10, .inr (.inl (aL gm)))), (bags_a, .inr (0, [.ref bags_homes_a, .ref bags_dates_a, .ref bags_lost_a, .ref bags_grams_a, .int (iZ bags_made)])), (bags_lost_a, .inl (cZ, 12, .inl (aI bags_lost_f))), (bags_dates_a, .inl (cI, 12, .inl (aI bags_dates_f))), (bags_grams_a, .inl (cJ, 36, .inr (.inl (aL bags_grams_f))))] H → va_D A [(t_a, .inr (1, [.ref t_grams_a, .int (iZ number), .int (iZ t_firsts), .int (iZ actual), .long (lZ total)])), (t_grams_a, .inl (cJ, 10, .inr (.inl (aL gm)))), (bags_a, .inr (0, [.ref bags_homes_a, .ref bags_dates_a, .ref bags_lost_a, .ref bags_grams_a, .int (iZ bags_made)])), (bags_lost_a, .inl (cZ, 12, .inl (aI bags_lost_f))), (bags_dates_a, .inl (cI, 12, .inl (aI bags_dates_f))), (bags_grams_a, .inl (cJ, 36, .inr (.inl (aL bags_grams_f))))] → va_S A s.heap H locs → ∀ ls : Array Slot, lv_has ls 4 [(0, .ref t_a), (1, .ref bags_a), (2, .int (iZ kind)), (3, .int (iZ i))] → W p l e { frames := 2, cells := 0, slots := 0, locals := 43 } s m args below meth c H locs 0 0 Q (F0 m 17 ls []) := by
    intro n_3
    induction n_3 with
    | zero => intro i number actual total gm hi hi2 hnu hn10 hac hto hgm hgg hm_4; exact absurd hm_4 (by omega)
    | succ n_3 ih_2 =>
      intro i number actual total gm hi hi2 hnu hn10 hac hto hgm hgg hm_4 H locs hP hD hS ls hl
      refine lv_iload_n hx hb dCp_gather_17 rfl (lv_at hl 3 rfl) ?_
      refine lv_aload_n hx hb dCp_gather_18 rfl (lv_at hl 1 rfl) ?_
      have hcn := cN_b (lo := bags_lost_f) hi
      have hcb := cA_b (lo := bags_lost_f) (da := bags_dates_f) hi
      refine va_getN (D := D) (ci := 0) (v := .int (iZ bags_made)) (C := RBg) (T := TBg) (N := 5) (host := "StratumCounts") hx hb hts layBg hown hK.1 hP 2 rfl rfl 4 (by decide) (va_Nw.use rfl (hK.2.2 _ n9)) (fun _ h9 => h9) rfl dCp_gather_19 ?_
      refine z_icmp_ge (tgt := 67) hx hb (by omega) (by omega) (by omega) (by omega) dCp_gather_22 (by decide) (fun c_5 => ?_) (fun c_5 => ?_)
      ·
        refine lv_aload_n hx hb dCp_gather_67 rfl (lv_at hl 0 rfl) ?_
        refine lv_aload_n hx hb dCp_gather_68 rfl (lv_at hl 0 rfl) ?_
        have hpp := p2_10 (n := number) (by omega) (by omega)
        have hax : 0 ≤ actual ∧ actual < 1024 := by rw [← hnu, ← hac] at hcb; omega
        refine va_get (D := D) (ci := 1) (v := .int (iZ actual)) (C := RCp) (T := TCp) (N := 5) hx hb hts layCp hown hK.1 hP 0 rfl rfl 3 (by decide) (hts _ (hm g197)) (fun _ h9 => h9) rfl dCp_gather_69 ?_
        refine cq_calli (wr := [(t_a, .inr (1, [.ref t_grams_a, .int (iZ number), .int (iZ t_firsts), .int (iZ actual), .long (lZ total)])), (t_grams_a, .inl (cJ, 10, .inr (.inl (aL gm)))), (bags_a, .inr (0, [.ref bags_homes_a, .ref bags_dates_a, .ref bags_lost_a, .ref bags_grams_a, .int (iZ bags_made)])), (bags_lost_a, .inl (cZ, 12, .inl (aI bags_lost_f))), (bags_dates_a, .inl (cI, 12, .inl (aI bags_dates_f))), (bags_grams_a, .inl (cJ, 36, .inr (.inl (aL bags_grams_f))))]) (va_runS (As := [.int (iZ actual)]) (rest := [.ref t_a]) ⟨hx, hb, hml, hown, hts⟩ (k_Integer_bitCount l D cI cJ cZ H.size actual (by omega) (by omega) (hax)) ⟨(callB_of 1 hts (gAll cmJI_bitCount) rfl rfl rfl (hts _ (hm g70)) (hts _ (hm g382)) (by decide +kernel) ⟨Nat.le_of_ble_eq_true rfl, Nat.le_of_ble_eq_true rfl⟩), (hts _ (hm g383))⟩ (cq_preS hK hP hD [] (by decide) rfl) rfl rfl hl.1 rfl (lv_room (Nat.le_of_ble_eq_true rfl)) dCp_gather_72 ⟨by decide, by decide⟩) hP hD hS hA [] [0, 1, 2, 3, 4, 5] rfl rfl (by decide) (by decide) (fun r u H locs hw_6 hP hD hS => ?_)
        obtain ⟨o_7, rfl⟩ : ∃ z, z = u := ⟨_, rfl⟩
        try dsimp only at hw_6
        obtain ⟨rfl, rfl⟩ := hw_6
        have hP : va_P D clAll [(t_a, .inr (1, [.ref t_grams_a, .int (iZ number), .int (iZ t_firsts), .int (iZ actual), .long (lZ total)])), (t_grams_a, .inl (cJ, 10, .inr (.inl (aL gm)))), (bags_a, .inr (0, [.ref bags_homes_a, .ref bags_dates_a, .ref bags_lost_a, .ref bags_grams_a, .int (iZ bags_made)])), (bags_lost_a, .inl (cZ, 12, .inl (aI bags_lost_f))), (bags_dates_a, .inl (cI, 12, .inl (aI bags_dates_f))), (bags_grams_a, .inl (cJ, 36, .inr (.inl (aL bags_grams_f))))] H := hP
        have hD : va_D A [(t_a, .inr (1, [.ref t_grams_a, .int (iZ number), .int (iZ t_firsts), .int (iZ actual), .long (lZ total)])), (t_grams_a, .inl (cJ, 10, .inr (.inl (aL gm)))), (bags_a, .inr (0, [.ref bags_homes_a, .ref bags_dates_a, .ref bags_lost_a, .ref bags_grams_a, .int (iZ bags_made)])), (bags_lost_a, .inl (cZ, 12, .inl (aI bags_lost_f))), (bags_dates_a, .inl (cI, 12, .inl (aI bags_dates_f))), (bags_grams_a, .inl (cJ, 36, .inr (.inl (aL bags_grams_f))))] := hD
        refine va_put (D := D) (ci := 1) (v := .int (iZ (pcn actual 10))) (ty := .int) (C := RCp) (T := TCp) (N := 5) hx hb hts layCp tyCp tyCp_ok nmCp hown hK.1 hP hD hS 0 rfl rfl 2 (by decide) (hts _ (hm g196)) (fun _ h9 => h9) rfl (by decide +kernel) rfl rfl (Nat.le_of_ble_eq_true rfl) dCp_gather_75 (fun H locs hP hD hS => ?_)
        have hP : va_P D clAll [(t_a, .inr (1, [.ref t_grams_a, .int (iZ number), .int (iZ (pcn actual 10)), .int (iZ actual), .long (lZ total)])), (t_grams_a, .inl (cJ, 10, .inr (.inl (aL gm)))), (bags_a, .inr (0, [.ref bags_homes_a, .ref bags_dates_a, .ref bags_lost_a, .ref bags_grams_a, .int (iZ bags_made)])), (bags_lost_a, .inl (cZ, 12, .inl (aI bags_lost_f))), (bags_dates_a, .inl (cI, 12, .inl (aI bags_dates_f))), (bags_grams_a, .inl (cJ, 36, .inr (.inl (aL bags_grams_f))))] H := hP
        have hD : va_D A [(t_a, .inr (1, [.ref t_grams_a, .int (iZ number), .int (iZ (pcn actual 10)), .int (iZ actual), .long (lZ total)])), (t_grams_a, .inl (cJ, 10, .inr (.inl (aL gm)))), (bags_a, .inr (0, [.ref bags_homes_a, .ref bags_dates_a, .ref bags_lost_a, .ref bags_grams_a, .int (iZ bags_made)])), (bags_lost_a, .inl (cZ, 12, .inl (aI bags_lost_f))), (bags_dates_a, .inl (cI, 12, .inl (aI bags_dates_f))), (bags_grams_a, .inl (cJ, 36, .inr (.inl (aL bags_grams_f))))] := hD
        have hpb := pcn_b (z := actual) (n := 10) (by omega)
        refine lv_aload_n hx hb dCp_gather_78 rfl (lv_at hl 0 rfl) ?_
        refine va_get (D := D) (ci := 1) (v := .int (iZ (pcn actual 10))) (C := RCp) (T := TCp) (N := 5) hx hb hts layCp hown hK.1 hP 0 rfl rfl 2 (by decide) (hts _ (hm g196)) (fun _ h9 => h9) rfl dCp_gather_79 ?_
        refine z_if_le (tgt := 100) hx hb (by omega) (by omega) dCp_gather_82 (by decide) (fun c_8 => ?_) (fun c_8 => ?_)
        ·
          refine lv_iconst (v := iZ 0) hx hb dCp_gather_100 (by decide) ?_
          exact cq_zret hx hb hr hlocks hAe hQ (bo_narr (by omega) (by omega)) (0, number, pcn actual 10, actual, total, gm) ⟨rfl, (by (try dsimp only) <;> (first | exact Or.inl ⟨rfl, cN_ov hnu hi (by assumption) (by omega) (by assumption)⟩ | exact Or.inr ⟨cg_le hnu (by omega) (by omega), cg_eq hnu (by omega), cg_eqA hac (by omega), cg_eqT hto (by omega), cg_eqF hac (by omega), up_all3 hgm (by omega), cg_or1 (f := pcn actual 10) hnu (by omega) (by assumption) (by omega)⟩ | exact Or.inr ⟨cg_le hnu (by omega) (by omega), cg_eq hnu (by omega), cg_eqA hac (by omega), cg_eqT hto (by omega), cg_eqF hac (by omega), up_all3 hgm (by omega), cg_or0 (f := pcn actual 10) hnu (by omega) (by omega)⟩)), (by (try dsimp only) <;> (exact hgg))⟩ (hP.sub [0, 1, 2, 3, 4, 5] rfl) (hD.sub [0, 1, 2, 3, 4, 5] (by decide) rfl) hS (by decide) (by decide) dCp_gather_101
        ·
          refine lv_aload_n hx hb dCp_gather_85 rfl (lv_at hl 0 rfl) ?_
          refine va_get (D := D) (ci := 1) (v := .int (iZ (pcn actual 10))) (C := RCp) (T := TCp) (N := 5) hx hb hts layCp hown hK.1 hP 0 rfl rfl 2 (by decide) (hts _ (hm g196)) (fun _ h9 => h9) rfl dCp_gather_86 ?_
          refine lv_aload_n hx hb dCp_gather_89 rfl (lv_at hl 0 rfl) ?_
          refine va_get (D := D) (ci := 1) (v := .int (iZ number)) (C := RCp) (T := TCp) (N := 5) hx hb hts layCp hown hK.1 hP 0 rfl rfl 1 (by decide) (hts _ (hm g195)) (fun _ h9 => h9) rfl dCp_gather_90 ?_
          refine z_icmp_ge (tgt := 100) hx hb (by omega) (by omega) (by omega) (by omega) dCp_gather_93 (by decide) (fun c_9 => ?_) (fun c_9 => ?_)
          ·
            refine lv_iconst (v := iZ 0) hx hb dCp_gather_100 (by decide) ?_
            exact cq_zret hx hb hr hlocks hAe hQ (bo_narr (by omega) (by omega)) (0, number, pcn actual 10, actual, total, gm) ⟨rfl, (by (try dsimp only) <;> (first | exact Or.inl ⟨rfl, cN_ov hnu hi (by assumption) (by omega) (by assumption)⟩ | exact Or.inr ⟨cg_le hnu (by omega) (by omega), cg_eq hnu (by omega), cg_eqA hac (by omega), cg_eqT hto (by omega), cg_eqF hac (by omega), up_all3 hgm (by omega), cg_or1 (f := pcn actual 10) hnu (by omega) (by assumption) (by omega)⟩ | exact Or.inr ⟨cg_le hnu (by omega) (by omega), cg_eq hnu (by omega), cg_eqA hac (by omega), cg_eqT hto (by omega), cg_eqF hac (by omega), up_all3 hgm (by omega), cg_or0 (f := pcn actual 10) hnu (by omega) (by omega)⟩)), (by (try dsimp only) <;> (exact hgg))⟩ (hP.sub [0, 1, 2, 3, 4, 5] rfl) (hD.sub [0, 1, 2, 3, 4, 5] (by decide) rfl) hS (by decide) (by decide) dCp_gather_101
          ·
            refine lv_iconst (v := iZ 1) hx hb dCp_gather_96 (by decide) ?_
            refine lv_goto (tgt := 101) hx hb dCp_gather_97 (by decide) ?_
            exact cq_zret hx hb hr hlocks hAe hQ (bo_narr (by omega) (by omega)) (1, number, pcn actual 10, actual, total, gm) ⟨rfl, (by (try dsimp only) <;> (first | exact Or.inl ⟨rfl, cN_ov hnu hi (by assumption) (by omega) (by assumption)⟩ | exact Or.inr ⟨cg_le hnu (by omega) (by omega), cg_eq hnu (by omega), cg_eqA hac (by omega), cg_eqT hto (by omega), cg_eqF hac (by omega), up_all3 hgm (by omega), cg_or1 (f := pcn actual 10) hnu (by omega) (by assumption) (by omega)⟩ | exact Or.inr ⟨cg_le hnu (by omega) (by omega), cg_eq hnu (by omega), cg_eqA hac (by omega), cg_eqT hto (by omega), cg_eqF hac (by omega), up_all3 hgm (by omega), cg_or0 (f := pcn actual 10) hnu (by omega) (by omega)⟩)), (by (try dsimp only) <;> (exact hgg))⟩ (hP.sub [0, 1, 2, 3, 4, 5] rfl) (hD.sub [0, 1, 2, 3, 4, 5] (by decide) rfl) hS (by decide) (by decide) dCp_gather_101
      ·
        refine lv_aload_n hx hb dCp_gather_25 rfl (lv_at hl 1 rfl) ?_
        refine va_getN (D := D) (ci := 0) (v := .ref bags_lost_a) (C := RBg) (T := TBg) (N := 5) (host := "StratumCounts") hx hb hts layBg hown hK.1 hP 2 rfl rfl 2 (by decide) (va_Nw.use rfl (hK.2.2 _ n7)) (fun _ h9 => h9) rfl dCp_gather_26 ?_
        refine lv_iload_n hx hb dCp_gather_29 rfl (lv_at hl 3 rfl) ?_
        refine z_zald hx hb hK hP 3 2 rfl rfl (by omega) (by omega) (by decide) dCp_gather_30 ?_
        have f_10 := hlo i
        refine z_if_ne (tgt := 61) hx hb (by omega) (by omega) dCp_gather_31 (by decide) (fun c_11 => ?_) (fun c_11 => ?_)
        ·
          refine lv_iinc (v := iZ (i + 1)) (lv' := [(3, .int (iZ (i + 1))), (0, .ref t_a), (1, .ref bags_a), (2, .int (iZ kind))]) hx hb dCp_gather_61 hl (k := 3) rfl (iZ_add i 1) (by decide) rfl (fun ls hl => ?_)
          refine lv_goto (tgt := 17) hx hb dCp_gather_64 (by decide) ?_
          exact ih_2  (i + 1) number actual total gm (by omega) (by omega) (by first | exact cN_1 hnu hi (by assumption) | exact cN_0 hnu hi (by assumption)) (by omega) (by first | exact cA_1 hac hnu hi (by assumption) | exact cA_0 hac hi (by assumption)) (by first | exact cT_1 hto hi (by assumption) | exact cT_0 hto hi (by assumption)) (by first | exact cg_hit hgm hnu hi (by assumption) | exact cg_miss hgm (by assumption)) (by first | exact pu_all hgg (hgb _).1 (hgb _).2 | exact hgg) (by omega) _ _ (hP.sub [0, 1, 2, 3, 4, 5] rfl) (hD.sub [0, 1, 2, 3, 4, 5] (by decide) rfl) hS ls (lv_sub hl [1, 2, 3, 0] rfl)
        ·
          refine lv_aload_n hx hb dCp_gather_34 rfl (lv_at hl 0 rfl) ?_
          refine va_get (D := D) (ci := 1) (v := .int (iZ number)) (C := RCp) (T := TCp) (N := 5) hx hb hts layCp hown hK.1 hP 0 rfl rfl 1 (by decide) (hts _ (hm g195)) (fun _ h9 => h9) rfl dCp_gather_35 ?_
          refine lv_bipush (v := iZ (10)) hx hb dCp_gather_38 (by decide) ?_
          refine z_icmp_lt (tgt := 45) hx hb (by omega) (by omega) (by omega) (by omega) dCp_gather_40 (by decide) (fun c_12 => ?_) (fun c_12 => ?_)
          ·
            refine lv_aload_n hx hb dCp_gather_45 rfl (lv_at hl 0 rfl) ?_
            refine lv_aload_n hx hb dCp_gather_46 rfl (lv_at hl 1 rfl) ?_
            refine lv_iload_n hx hb dCp_gather_47 rfl (lv_at hl 3 rfl) ?_
            refine lv_iload_n hx hb dCp_gather_48 rfl (lv_at hl 2 rfl) ?_
            refine cq_calll (wr := [(t_a, .inr (1, [.ref t_grams_a, .int (iZ number), .int (iZ t_firsts), .int (iZ actual), .long (lZ total)])), (t_grams_a, .inl (cJ, 10, .inr (.inl (aL gm)))), (bags_lost_a, .inl (cZ, 12, .inl (aI bags_lost_f))), (bags_dates_a, .inl (cI, 12, .inl (aI bags_dates_f)))]) (va_runVN (C := RBg) (As := [.int (iZ i), .int (iZ kind)]) (rest := [.ref t_a]) ⟨hx, hb, hml, hown, hts⟩ (k_Bags_gramsOf l D cI cJ cZ bags_a bags_homes_a bags_dates_a bags_lost_a bags_grams_a H.size bags_made bags_grams_f i kind (by omega) (by omega) (by omega) (by omega) (by first | assumption | omega) (by first | assumption | omega) (by first | assumption | omega) (by first | assumption | omega)) ⟨(va_cnB 2 hts (gAll cmBg_gramsOf) rfl rfl rfl (hK.2.2 _ n54) (hts _ (hm g60)) (by decide +kernel) ⟨Nat.le_of_ble_eq_true rfl, Nat.le_of_ble_eq_true rfl⟩), (hts _ (hm g303)), (hts _ (hm g15))⟩ (cq_preV (va_recv hK.1 hP (ci := 0) (q0 := 2) rfl rfl) (cq_preS hK hP hD [2, 5] (by decide) rfl)) rfl rfl hl.1 rfl (lv_room (Nat.le_of_ble_eq_true rfl)) dCp_gather_49 ⟨by decide, by decide⟩) hP hD hS hA [2, 5] [0, 1, 3, 4] rfl rfl (by decide) (by decide) (fun r u H locs hw_13 hP hD hS => ?_)
            obtain ⟨o_14, rfl⟩ : ∃ z, z = u := ⟨_, rfl⟩
            try dsimp only at hw_13
            obtain ⟨rfl, rfl⟩ := hw_13
            have hP : va_P D clAll [(t_a, .inr (1, [.ref t_grams_a, .int (iZ number), .int (iZ t_firsts), .int (iZ actual), .long (lZ total)])), (t_grams_a, .inl (cJ, 10, .inr (.inl (aL gm)))), (bags_lost_a, .inl (cZ, 12, .inl (aI bags_lost_f))), (bags_dates_a, .inl (cI, 12, .inl (aI bags_dates_f))), (bags_a, .inr (0, [.ref bags_homes_a, .ref bags_dates_a, .ref bags_lost_a, .ref bags_grams_a, .int (iZ bags_made)])), (bags_grams_a, .inl (cJ, 36, .inr (.inl (aL bags_grams_f))))] H := hP
            have hD : va_D A [(t_a, .inr (1, [.ref t_grams_a, .int (iZ number), .int (iZ t_firsts), .int (iZ actual), .long (lZ total)])), (t_grams_a, .inl (cJ, 10, .inr (.inl (aL gm)))), (bags_lost_a, .inl (cZ, 12, .inl (aI bags_lost_f))), (bags_dates_a, .inl (cI, 12, .inl (aI bags_dates_f))), (bags_a, .inr (0, [.ref bags_homes_a, .ref bags_dates_a, .ref bags_lost_a, .ref bags_grams_a, .int (iZ bags_made)])), (bags_grams_a, .inl (cJ, 36, .inr (.inl (aL bags_grams_f))))] := hD
            refine lv_aload_n hx hb dCp_gather_52 rfl (lv_at hl 1 rfl) ?_
            refine va_getN (D := D) (ci := 0) (v := .ref bags_dates_a) (C := RBg) (T := TBg) (N := 5) (host := "StratumCounts") hx hb hts layBg hown hK.1 hP 4 rfl rfl 1 (by decide) (va_Nw.use rfl (hK.2.2 _ n6)) (fun _ h9 => h9) rfl dCp_gather_53 ?_
            refine lv_iload_n hx hb dCp_gather_56 rfl (lv_at hl 3 rfl) ?_
            refine z_iald hx hb hK hP 3 0 rfl rfl (by omega) (by omega) (by decide) dCp_gather_57 ?_
            have f_15 := hda i
            have hgq := hgb (i * 3 + kind)
            refine cq_callv (wr := [(bags_lost_a, .inl (cZ, 12, .inl (aI bags_lost_f))), (bags_dates_a, .inl (cI, 12, .inl (aI bags_dates_f))), (bags_a, .inr (0, [.ref bags_homes_a, .ref bags_dates_a, .ref bags_lost_a, .ref bags_grams_a, .int (iZ bags_made)])), (bags_grams_a, .inl (cJ, 36, .inr (.inl (aL bags_grams_f))))]) (va_runV (C := RCp) (As := [.long (lZ (bags_grams_f (i * 3 + kind))), .int (iZ (bags_dates_f i))]) (rest := []) ⟨hx, hb, hml, hown, hts⟩ (k_Comparison_take l D cI cJ cZ t_a t_grams_a H.size number t_firsts actual total gm (bags_grams_f (i * 3 + kind)) (bags_dates_f i) (by omega) (by omega) (by omega) (by omega) (by omega) (by rw [hac, hnu]; exact hcb) (by first | assumption | omega)) ⟨(callB_of 2 hts (gAll cmCp_take) rfl rfl rfl (hts _ (hm g66)) (hts _ (hm g379)) (by decide +kernel) ⟨Nat.le_of_ble_eq_true rfl, Nat.le_of_ble_eq_true rfl⟩), (hts _ (hm g380)), (hts _ (hm g33))⟩ (cq_preV (va_recv hK.1 hP (ci := 1) (q0 := 0) rfl rfl) (cq_preS hK hP hD [0, 1] (by decide) rfl)) rfl rfl hl.1 rfl (lv_room (Nat.le_of_ble_eq_true rfl)) dCp_gather_58 ⟨by decide, by decide⟩) hP hD hS hA [0, 1] [2, 3, 4, 5] rfl rfl (by decide) (by decide) (fun u H locs hw_16 hP hD hS => ?_)
            obtain ⟨o_17, o_18, o_19, o_20⟩ := u
            try dsimp only at hw_16
            obtain ⟨rfl, rfl, rfl, rfl⟩ := hw_16
            have hP : va_P D clAll [(bags_lost_a, .inl (cZ, 12, .inl (aI bags_lost_f))), (bags_dates_a, .inl (cI, 12, .inl (aI bags_dates_f))), (bags_a, .inr (0, [.ref bags_homes_a, .ref bags_dates_a, .ref bags_lost_a, .ref bags_grams_a, .int (iZ bags_made)])), (bags_grams_a, .inl (cJ, 36, .inr (.inl (aL bags_grams_f)))), (t_a, .inr (1, [.ref t_grams_a, .int (iZ (number + 1)), .int (iZ t_firsts), .int (iZ (if (bags_dates_f i) = 0 then actual + p2 number else actual)), .long (lZ (total + (bags_grams_f (i * 3 + kind))))])), (t_grams_a, .inl (cJ, 10, .inr (.inl (aL (pu gm number (bags_grams_f (i * 3 + kind)))))))] H := hP
            have hD : va_D A [(bags_lost_a, .inl (cZ, 12, .inl (aI bags_lost_f))), (bags_dates_a, .inl (cI, 12, .inl (aI bags_dates_f))), (bags_a, .inr (0, [.ref bags_homes_a, .ref bags_dates_a, .ref bags_lost_a, .ref bags_grams_a, .int (iZ bags_made)])), (bags_grams_a, .inl (cJ, 36, .inr (.inl (aL bags_grams_f)))), (t_a, .inr (1, [.ref t_grams_a, .int (iZ (number + 1)), .int (iZ t_firsts), .int (iZ (if (bags_dates_f i) = 0 then actual + p2 number else actual)), .long (lZ (total + (bags_grams_f (i * 3 + kind))))])), (t_grams_a, .inl (cJ, 10, .inr (.inl (aL (pu gm number (bags_grams_f (i * 3 + kind)))))))] := hD
            refine lv_iinc (v := iZ (i + 1)) (lv' := [(3, .int (iZ (i + 1))), (0, .ref t_a), (1, .ref bags_a), (2, .int (iZ kind))]) hx hb dCp_gather_61 hl (k := 3) rfl (iZ_add i 1) (by decide) rfl (fun ls hl => ?_)
            refine lv_goto (tgt := 17) hx hb dCp_gather_64 (by decide) ?_
            exact ih_2  (i + 1) (number + 1) (if (bags_dates_f i) = 0 then actual + p2 number else actual) (total + (bags_grams_f (i * 3 + kind))) (pu gm number (bags_grams_f (i * 3 + kind))) (by omega) (by omega) (by first | exact cN_1 hnu hi (by assumption) | exact cN_0 hnu hi (by assumption)) (by omega) (by first | exact cA_1 hac hnu hi (by assumption) | exact cA_0 hac hi (by assumption)) (by first | exact cT_1 hto hi (by assumption) | exact cT_0 hto hi (by assumption)) (by first | exact cg_hit hgm hnu hi (by assumption) | exact cg_miss hgm (by assumption)) (by first | exact pu_all hgg (hgb _).1 (hgb _).2 | exact hgg) (by omega) _ _ (hP.sub [4, 5, 2, 0, 1, 3] rfl) (hD.sub [4, 5, 2, 0, 1, 3] (by decide) rfl) hS ls (lv_sub hl [1, 2, 3, 0] rfl)
          ·
            refine lv_iconst (v := iZ 0) hx hb dCp_gather_43 (by decide) ?_
            exact cq_zret hx hb hr hlocks hAe hQ (bo_narr (by omega) (by omega)) (0, number, t_firsts, actual, total, gm) ⟨rfl, (by (try dsimp only) <;> (first | exact Or.inl ⟨rfl, cN_ov hnu hi (by assumption) (by omega) (by assumption)⟩ | exact Or.inr ⟨cg_le hnu (by omega) (by omega), cg_eq hnu (by omega), cg_eqA hac (by omega), cg_eqT hto (by omega), cg_eqF hac (by omega), up_all3 hgm (by omega), cg_or1 (f := pcn actual 10) hnu (by omega) (by assumption) (by omega)⟩ | exact Or.inr ⟨cg_le hnu (by omega) (by omega), cg_eq hnu (by omega), cg_eqA hac (by omega), cg_eqT hto (by omega), cg_eqF hac (by omega), up_all3 hgm (by omega), cg_or0 (f := pcn actual 10) hnu (by omega) (by omega)⟩)), (by (try dsimp only) <;> (exact hgg))⟩ (hP.sub [0, 1, 2, 3, 4, 5] rfl) (hD.sub [0, 1, 2, 3, 4, 5] (by decide) rfl) hS (by decide) (by decide) dCp_gather_44
  exact loop_1 ((bags_made - 0 : Int).toNat + 1) 0 0 0 0 t_grams_f (by omega) (by omega) (by rfl) (by omega) (by rfl) (by rfl) (by exact fun b h1 h2 => absurd h2 (by omega)) (by exact hgr) (by omega) _ _ (hP.sub [0, 1, 2, 3, 4, 5] rfl) (hD.sub [0, 1, 2, 3, 4, 5] (by decide) rfl) hS ls (lv_sub hl [1, 2, 3, 0] rfl)
end
section
set_option maxHeartbeats 4000000 in
set_option maxRecDepth 100000 in
theorem k_Planner_heldBags (l : Launch) (D : va_G) (cI cJ cZ : ClassId) (t_a t_held_a t_trial_a t_fewest_a t_most_a t_costs_a t_burdens_a t_terms_a : Nat) (sz : Nat) (t_holds : Int) (t_limit : Int) (t_cheapest : Int) (t_held_f : Int → Int) (z : Int) (h_z1 : -2147483648 ≤ z) (h_z2 : z < 2147483648) (hz : 0 ≤ z ∧ z < 4) (hho : 0 ≤ t_holds ∧ t_holds ≤ 1) : cq_i l yPl_heldBags wsPl_heldBags ({ frames := 0, cells := 0, slots := 0, locals := 0 }) D clAll [(cI, .int), (cJ, .long), (cZ, .boolean)] nwAll [.ref t_a, .int (iZ z)] [(t_a, .inr (4, [.ref t_held_a, .ref t_trial_a, .ref t_fewest_a, .ref t_most_a, .ref t_costs_a, .ref t_burdens_a, .ref t_terms_a, .int (iZ t_holds), .long (lZ t_limit), .long (lZ t_cheapest)])), (t_held_a, .inl (cI, 4, .inl (aI t_held_f)))] sz (S := Int) (fun (r : Int32) (u : Int) => r = iZ u ∧ ((t_holds = 0 ∧ u = -1) ∨ (¬ t_holds = 0 ∧ u = t_held_f z))) (fun (u : Int) => [(t_a, .inr (4, [.ref t_held_a, .ref t_trial_a, .ref t_fewest_a, .ref t_most_a, .ref t_costs_a, .ref t_burdens_a, .ref t_terms_a, .int (iZ t_holds), .long (lZ t_limit), .long (lZ t_cheapest)])), (t_held_a, .inl (cI, 4, .inl (aI t_held_f)))]) 0 0 := by
  refine cq_enter (cc := cPl_heldBags) (maxL := 2) (ret := some .int) (by decide) rfl (Nat.le_of_ble_eq_true rfl) ?_
  intro p e s m below meth c A args Q H hAe hQ hsz hAt hA hP hK hD hS ls hl
  obtain ⟨hx, hb, hr, hml, hown, hts, hlocks, hin⟩ := hAt
  have hown : s.vm.findClass RPl = some m.cls := hown
  have hl : lv_has ls 2 [(0, .ref t_a), (1, .int (iZ z))] := hl
  refine lv_aload_n hx hb dPl_heldBags_0 rfl (lv_at hl 0 rfl) ?_
  refine va_get (D := D) (ci := 4) (v := .int (iZ t_holds)) (C := RPl) (T := TPl) (N := 10) hx hb hts layPl hown hK.1 hP 0 rfl rfl 7 (by decide) (hts _ (hm g176)) (fun _ h9 => h9) rfl dPl_heldBags_1 ?_
  refine z_if_eq (tgt := 16) hx hb (by omega) (by omega) dPl_heldBags_4 (by decide) (fun c_1 => ?_) (fun c_1 => ?_)
  ·
    refine lv_iconst (v := iZ (-1)) hx hb dPl_heldBags_16 (by decide) ?_
    exact cq_iret hx hb hr hlocks hAe hQ (-1) ⟨rfl, (by (try dsimp only) <;> (first | rfl | omega | (refine Or.inl ?_; and_intros <;> first | rfl | omega) | (refine Or.inr ?_; and_intros <;> first | rfl | omega)))⟩ (hP.sub [0, 1] rfl) (hD.sub [0, 1] (by decide) rfl) hS (by decide) (by decide) dPl_heldBags_17
  ·
    refine lv_aload_n hx hb dPl_heldBags_7 rfl (lv_at hl 0 rfl) ?_
    refine va_get (D := D) (ci := 4) (v := .ref t_held_a) (C := RPl) (T := TPl) (N := 10) hx hb hts layPl hown hK.1 hP 0 rfl rfl 0 (by decide) (hts _ (hm g169)) (fun _ h9 => h9) rfl dPl_heldBags_8 ?_
    refine lv_iload_n hx hb dPl_heldBags_11 rfl (lv_at hl 1 rfl) ?_
    refine z_iald hx hb hK hP 1 0 rfl rfl (by omega) (by omega) (by decide) dPl_heldBags_12 ?_
    refine lv_goto (tgt := 17) hx hb dPl_heldBags_13 (by decide) ?_
    exact cq_iret hx hb hr hlocks hAe hQ (t_held_f z) ⟨rfl, (by (try dsimp only) <;> (first | rfl | omega | (refine Or.inl ?_; and_intros <;> first | rfl | omega) | (refine Or.inr ?_; and_intros <;> first | rfl | omega)))⟩ (hP.sub [0, 1] rfl) (hD.sub [0, 1] (by decide) rfl) hS (by decide) (by decide) dPl_heldBags_17
set_option maxHeartbeats 4000000 in
set_option maxRecDepth 100000 in
theorem k_Planner_stepTrial (l : Launch) (D : va_G) (cI cJ cZ : ClassId) (t_a t_held_a t_trial_a t_fewest_a t_most_a t_costs_a t_burdens_a t_terms_a : Nat) (sz : Nat) (t_holds : Int) (t_limit : Int) (t_cheapest : Int) (t_trial_f : Int → Int) (t_fewest_f : Int → Int) (t_most_f : Int → Int) (htr : ∀ j, 0 ≤ j → j < 4 → 0 ≤ t_trial_f j ∧ t_trial_f j ≤ 6) (hfe : ∀ j, 0 ≤ j → j < 4 → 0 ≤ t_fewest_f j ∧ t_fewest_f j ≤ 6) (hmo : ∀ j, 0 ≤ j → j < 4 → 0 ≤ t_most_f j ∧ t_most_f j ≤ 6) : cq_i l yPl_stepTrial wsPl_stepTrial ({ frames := 0, cells := 0, slots := 0, locals := 0 }) D clAll [(cI, .int), (cJ, .long), (cZ, .boolean)] nwAll [.ref t_a] [(t_a, .inr (4, [.ref t_held_a, .ref t_trial_a, .ref t_fewest_a, .ref t_most_a, .ref t_costs_a, .ref t_burdens_a, .ref t_terms_a, .int (iZ t_holds), .long (lZ t_limit), .long (lZ t_cheapest)])), (t_trial_a, .inl (cI, 4, .inl (aI t_trial_f))), (t_fewest_a, .inl (cI, 4, .inl (aI t_fewest_f))), (t_most_a, .inl (cI, 4, .inl (aI t_most_f)))] sz (S := Int × (Int → Int)) (fun (r : Int32) (u : Int × (Int → Int)) => r = iZ u.1 ∧ ((u.1, u.2) = odN t_fewest_f t_most_f 4 t_trial_f)) (fun (u : Int × (Int → Int)) => [(t_a, .inr (4, [.ref t_held_a, .ref t_trial_a, .ref t_fewest_a, .ref t_most_a, .ref t_costs_a, .ref t_burdens_a, .ref t_terms_a, .int (iZ t_holds), .long (lZ t_limit), .long (lZ t_cheapest)])), (t_trial_a, .inl (cI, 4, .inl (aI u.2))), (t_fewest_a, .inl (cI, 4, .inl (aI t_fewest_f))), (t_most_a, .inl (cI, 4, .inl (aI t_most_f)))]) 0 0 := by
  refine cq_enter (cc := cPl_stepTrial) (maxL := 2) (ret := some .boolean) (by decide) rfl (Nat.le_of_ble_eq_true rfl) ?_
  intro p e s m below meth c A args Q H hAe hQ hsz hAt hA hP hK hD hS ls hl
  obtain ⟨hx, hb, hr, hml, hown, hts, hlocks, hin⟩ := hAt
  have hown : s.vm.findClass RPl = some m.cls := hown
  have hl : lv_has ls 2 [(0, .ref t_a)] := hl
  refine lv_iconst (v := iZ 3) hx hb dPl_stepTrial_0 (by decide) ?_
  refine lv_istore_n (lv' := [(1, .int (iZ 3)), (0, .ref t_a)]) hx hb dPl_stepTrial_1 rfl hl (by decide) rfl (fun ls hl => ?_)
  have loop_1 : ∀ (n_3 : Nat) (i : Int) (tr : Int → Int), (-1 ≤ i) → (i ≤ 3) → (odN t_fewest_f t_most_f (i + 1).toNat tr = odN t_fewest_f t_most_f 4 t_trial_f) → (∀ j, 0 ≤ j → j < 4 → 0 ≤ tr j ∧ tr j ≤ 6) → (i + 1 < (n_3 : Int)) → ∀ (H : Heap) (locs : List Loc), va_P D clAll [(t_a, .inr (4, [.ref t_held_a, .ref t_trial_a, .ref t_fewest_a, .ref t_most_a, .ref t_costs_a, .ref t_burdens_a, .ref t_terms_a, .int (iZ t_holds), .long (lZ t_limit), .long (lZ t_cheapest)])), (t_trial_a, .inl (cI, 4, .inl (aI tr))), (t_fewest_a, .inl (cI, 4, .inl (aI t_fewest_f))), (t_most_a, .inl (cI, 4, .inl (aI t_most_f)))] H → va_D A [(t_a, .inr (4, [.ref t_held_a, .ref t_trial_a, .ref t_fewest_a, .ref t_most_a, .ref t_costs_a, .ref t_burdens_a, .ref t_terms_a, .int (iZ t_holds), .long (lZ t_limit), .long (lZ t_cheapest)])), (t_trial_a, .inl (cI, 4, .inl (aI tr))), (t_fewest_a, .inl (cI, 4, .inl (aI t_fewest_f))), (t_most_a, .inl (cI, 4, .inl (aI t_most_f)))] → va_S A s.heap H locs → ∀ ls : Array Slot, lv_has ls 2 [(0, .ref t_a), (1, .int (iZ i))] → W p l e { frames := 0, cells := 0, slots := 0, locals := 0 } s m args below meth c H locs 0 0 Q (F0 m 2 ls []) := by
    intro n_3
    induction n_3 with
    | zero => intro i tr hi hi2 hod hrr hm_4; exact absurd hm_4 (by omega)
    | succ n_3 ih_2 =>
      intro i tr hi hi2 hod hrr hm_4 H locs hP hD hS ls hl
      refine lv_iload_n hx hb dPl_stepTrial_2 rfl (lv_at hl 1 rfl) ?_
      refine z_if_lt (tgt := 51) hx hb (by omega) (by omega) dPl_stepTrial_3 (by decide) (fun c_5 => ?_) (fun c_5 => ?_)
      ·
        refine lv_iconst (v := iZ 0) hx hb dPl_stepTrial_51 (by decide) ?_
        exact cq_zret hx hb hr hlocks hAe hQ (bo_narr (by omega) (by omega)) (0, tr) ⟨rfl, (by (try dsimp only) <;> (first | exact od_yes hod (by omega) (by omega) | exact od_z hod (by omega)))⟩ (hP.sub [0, 1, 2, 3] rfl) (hD.sub [0, 1, 2, 3] (by decide) rfl) hS (by decide) (by decide) dPl_stepTrial_52
      ·
        refine lv_aload_n hx hb dPl_stepTrial_6 rfl (lv_at hl 0 rfl) ?_
        refine va_get (D := D) (ci := 4) (v := .ref t_trial_a) (C := RPl) (T := TPl) (N := 10) hx hb hts layPl hown hK.1 hP 0 rfl rfl 1 (by decide) (hts _ (hm g170)) (fun _ h9 => h9) rfl dPl_stepTrial_7 ?_
        refine lv_iload_n hx hb dPl_stepTrial_10 rfl (lv_at hl 1 rfl) ?_
        refine z_iald hx hb hK hP 1 0 rfl rfl (by omega) (by omega) (by decide) dPl_stepTrial_11 ?_
        have f_6 := hrr i (by omega) (by omega)
        refine lv_aload_n hx hb dPl_stepTrial_12 rfl (lv_at hl 0 rfl) ?_
        refine va_get (D := D) (ci := 4) (v := .ref t_most_a) (C := RPl) (T := TPl) (N := 10) hx hb hts layPl hown hK.1 hP 0 rfl rfl 3 (by decide) (hts _ (hm g172)) (fun _ h9 => h9) rfl dPl_stepTrial_13 ?_
        refine lv_iload_n hx hb dPl_stepTrial_16 rfl (lv_at hl 1 rfl) ?_
        refine z_iald hx hb hK hP 3 0 rfl rfl (by omega) (by omega) (by decide) dPl_stepTrial_17 ?_
        have f_7 := hmo i (by omega) (by omega)
        refine z_icmp_ge (tgt := 33) hx hb (by omega) (by omega) (by omega) (by omega) dPl_stepTrial_18 (by decide) (fun c_8 => ?_) (fun c_8 => ?_)
        ·
          refine lv_aload_n hx hb dPl_stepTrial_33 rfl (lv_at hl 0 rfl) ?_
          refine va_get (D := D) (ci := 4) (v := .ref t_trial_a) (C := RPl) (T := TPl) (N := 10) hx hb hts layPl hown hK.1 hP 0 rfl rfl 1 (by decide) (hts _ (hm g170)) (fun _ h9 => h9) rfl dPl_stepTrial_34 ?_
          refine lv_iload_n hx hb dPl_stepTrial_37 rfl (lv_at hl 1 rfl) ?_
          refine lv_aload_n hx hb dPl_stepTrial_38 rfl (lv_at hl 0 rfl) ?_
          refine va_get (D := D) (ci := 4) (v := .ref t_fewest_a) (C := RPl) (T := TPl) (N := 10) hx hb hts layPl hown hK.1 hP 0 rfl rfl 2 (by decide) (hts _ (hm g171)) (fun _ h9 => h9) rfl dPl_stepTrial_39 ?_
          refine lv_iload_n hx hb dPl_stepTrial_42 rfl (lv_at hl 1 rfl) ?_
          refine z_iald hx hb hK hP 2 0 rfl rfl (by omega) (by omega) (by decide) dPl_stepTrial_43 ?_
          have f_9 := hfe i (by omega) (by omega)
          refine z_iast hx hb hK hP hD hS 1 0 rfl rfl (by omega) (by omega) (by decide) dPl_stepTrial_44 (fun H locs hP hD hS => ?_)
          have hP : va_P D clAll [(t_a, .inr (4, [.ref t_held_a, .ref t_trial_a, .ref t_fewest_a, .ref t_most_a, .ref t_costs_a, .ref t_burdens_a, .ref t_terms_a, .int (iZ t_holds), .long (lZ t_limit), .long (lZ t_cheapest)])), (t_trial_a, .inl (cI, 4, .inl (aI (pu tr i (t_fewest_f i))))), (t_fewest_a, .inl (cI, 4, .inl (aI t_fewest_f))), (t_most_a, .inl (cI, 4, .inl (aI t_most_f)))] H := hP
          have hD : va_D A [(t_a, .inr (4, [.ref t_held_a, .ref t_trial_a, .ref t_fewest_a, .ref t_most_a, .ref t_costs_a, .ref t_burdens_a, .ref t_terms_a, .int (iZ t_holds), .long (lZ t_limit), .long (lZ t_cheapest)])), (t_trial_a, .inl (cI, 4, .inl (aI (pu tr i (t_fewest_f i))))), (t_fewest_a, .inl (cI, 4, .inl (aI t_fewest_f))), (t_most_a, .inl (cI, 4, .inl (aI t_most_f)))] := hD
          refine lv_iinc (v := iZ (i - 1)) (lv' := [(1, .int (iZ (i - 1))), (0, .ref t_a)]) hx hb dPl_stepTrial_45 hl (k := 1) rfl (by rw [show Int32.ofInt (-1) = iZ (-1) from rfl, iZ_add]; congr 1) (by decide) rfl (fun ls hl => ?_)
          refine lv_goto (tgt := 2) hx hb dPl_stepTrial_48 (by decide) ?_
          exact ih_2  (i - 1) (pu tr i (t_fewest_f i)) (by omega) (by omega) (by exact od_no hod (by omega) (by omega)) (by exact pu_r4 hrr (by omega) (by omega)) (by omega) _ _ (hP.sub [0, 1, 2, 3] rfl) (hD.sub [0, 1, 2, 3] (by decide) rfl) hS ls (lv_sub hl [1, 0] rfl)
        ·
          refine lv_aload_n hx hb dPl_stepTrial_21 rfl (lv_at hl 0 rfl) ?_
          refine va_get (D := D) (ci := 4) (v := .ref t_trial_a) (C := RPl) (T := TPl) (N := 10) hx hb hts layPl hown hK.1 hP 0 rfl rfl 1 (by decide) (hts _ (hm g170)) (fun _ h9 => h9) rfl dPl_stepTrial_22 ?_
          refine lv_iload_n hx hb dPl_stepTrial_25 rfl (lv_at hl 1 rfl) ?_
          refine lv_dup2_11 hx hb dPl_stepTrial_26 rfl rfl ?_
          refine z_iald hx hb hK hP 1 0 rfl rfl (by omega) (by omega) (by decide) dPl_stepTrial_27 ?_
          have f_10 := hrr i (by omega) (by omega)
          refine lv_iconst (v := iZ 1) hx hb dPl_stepTrial_28 (by decide) ?_
          refine z_iadd hx hb dPl_stepTrial_29 ?_
          refine z_iast hx hb hK hP hD hS 1 0 rfl rfl (by omega) (by omega) (by decide) dPl_stepTrial_30 (fun H locs hP hD hS => ?_)
          have hP : va_P D clAll [(t_a, .inr (4, [.ref t_held_a, .ref t_trial_a, .ref t_fewest_a, .ref t_most_a, .ref t_costs_a, .ref t_burdens_a, .ref t_terms_a, .int (iZ t_holds), .long (lZ t_limit), .long (lZ t_cheapest)])), (t_trial_a, .inl (cI, 4, .inl (aI (pu tr i ((tr i) + 1))))), (t_fewest_a, .inl (cI, 4, .inl (aI t_fewest_f))), (t_most_a, .inl (cI, 4, .inl (aI t_most_f)))] H := hP
          have hD : va_D A [(t_a, .inr (4, [.ref t_held_a, .ref t_trial_a, .ref t_fewest_a, .ref t_most_a, .ref t_costs_a, .ref t_burdens_a, .ref t_terms_a, .int (iZ t_holds), .long (lZ t_limit), .long (lZ t_cheapest)])), (t_trial_a, .inl (cI, 4, .inl (aI (pu tr i ((tr i) + 1))))), (t_fewest_a, .inl (cI, 4, .inl (aI t_fewest_f))), (t_most_a, .inl (cI, 4, .inl (aI t_most_f)))] := hD
          refine lv_iconst (v := iZ 1) hx hb dPl_stepTrial_31 (by decide) ?_
          exact cq_zret hx hb hr hlocks hAe hQ (bo_narr (by omega) (by omega)) (1, (pu tr i ((tr i) + 1))) ⟨rfl, (by (try dsimp only) <;> (first | exact od_yes hod (by omega) (by omega) | exact od_z hod (by omega)))⟩ (hP.sub [0, 1, 2, 3] rfl) (hD.sub [0, 1, 2, 3] (by decide) rfl) hS (by decide) (by decide) dPl_stepTrial_32
  exact loop_1 ((3 + 1 : Int).toNat + 1) 3 t_trial_f (by omega) (by omega) (by rfl) (by exact htr) (by omega) _ _ (hP.sub [0, 1, 2, 3] rfl) (hD.sub [0, 1, 2, 3] (by decide) rfl) hS ls (lv_sub hl [1, 0] rfl)
set_option maxHeartbeats 4000000 in
set_option maxRecDepth 100000 in
theorem k_Planner_isNearEnough (l : Launch) (D : va_G) (cI cJ cZ : ClassId) (t_a t_held_a t_trial_a t_fewest_a t_most_a t_costs_a t_burdens_a t_terms_a : Nat) (sz : Nat) (t_holds : Int) (t_limit : Int) (t_cheapest : Int) (t_trial_f : Int → Int) (t_burdens_f : Int → Int) (htr : ∀ j, 0 ≤ j → j < 4 → 0 ≤ t_trial_f j ∧ t_trial_f j ≤ 6) (hbu : ∀ j, 0 ≤ j → j < 4 → 0 ≤ t_burdens_f j ∧ t_burdens_f j ≤ 100000000000000000) (hli : 0 ≤ t_limit ∧ t_limit ≤ 4032000000000000000) : cq_i l yPl_isNearEnough wsPl_isNearEnough ({ frames := 0, cells := 0, slots := 0, locals := 0 }) D clAll [(cI, .int), (cJ, .long), (cZ, .boolean)] nwAll [.ref t_a] [(t_a, .inr (4, [.ref t_held_a, .ref t_trial_a, .ref t_fewest_a, .ref t_most_a, .ref t_costs_a, .ref t_burdens_a, .ref t_terms_a, .int (iZ t_holds), .long (lZ t_limit), .long (lZ t_cheapest)])), (t_trial_a, .inl (cI, 4, .inl (aI t_trial_f))), (t_burdens_a, .inl (cJ, 4, .inr (.inl (aL t_burdens_f))))] sz (S := Int) (fun (r : Int32) (u : Int) => r = iZ u ∧ ((u = 1 ∧ nsum t_burdens_f t_trial_f ≤ t_limit) ∨ (u = 0 ∧ ¬ nsum t_burdens_f t_trial_f ≤ t_limit))) (fun (u : Int) => [(t_a, .inr (4, [.ref t_held_a, .ref t_trial_a, .ref t_fewest_a, .ref t_most_a, .ref t_costs_a, .ref t_burdens_a, .ref t_terms_a, .int (iZ t_holds), .long (lZ t_limit), .long (lZ t_cheapest)])), (t_trial_a, .inl (cI, 4, .inl (aI t_trial_f))), (t_burdens_a, .inl (cJ, 4, .inr (.inl (aL t_burdens_f))))]) 0 0 := by
  refine cq_enter (cc := cPl_isNearEnough) (maxL := 4) (ret := some .boolean) (by decide) rfl (Nat.le_of_ble_eq_true rfl) ?_
  intro p e s m below meth c A args Q H hAe hQ hsz hAt hA hP hK hD hS ls hl
  obtain ⟨hx, hb, hr, hml, hown, hts, hlocks, hin⟩ := hAt
  have hown : s.vm.findClass RPl = some m.cls := hown
  have hl : lv_has ls 4 [(0, .ref t_a)] := hl
  refine lv_lconst (v := lZ 0) hx hb dPl_isNearEnough_0 (by decide) ?_
  refine lv_lstore_n (lv' := [(1, .long (lZ 0)), (0, .ref t_a)]) hx hb dPl_isNearEnough_1 rfl hl (by decide) rfl (fun ls hl => ?_)
  refine lv_iconst (v := iZ 0) hx hb dPl_isNearEnough_2 (by decide) ?_
  refine lv_istore_n (lv' := [(3, .int (iZ 0)), (1, .long (lZ 0)), (0, .ref t_a)]) hx hb dPl_isNearEnough_3 rfl hl (by decide) rfl (fun ls hl => ?_)
  have loop_1 : ∀ (n_3 : Nat) (sp : Int) (i : Int), (0 ≤ i) → (i ≤ 4) → (sp = sZ (fun j => if 0 < t_trial_f j then t_burdens_f j / t_trial_f j else 0) i) → (4 - i < (n_3 : Int)) → ∀ (H : Heap) (locs : List Loc), va_P D clAll [(t_a, .inr (4, [.ref t_held_a, .ref t_trial_a, .ref t_fewest_a, .ref t_most_a, .ref t_costs_a, .ref t_burdens_a, .ref t_terms_a, .int (iZ t_holds), .long (lZ t_limit), .long (lZ t_cheapest)])), (t_trial_a, .inl (cI, 4, .inl (aI t_trial_f))), (t_burdens_a, .inl (cJ, 4, .inr (.inl (aL t_burdens_f))))] H → va_D A [(t_a, .inr (4, [.ref t_held_a, .ref t_trial_a, .ref t_fewest_a, .ref t_most_a, .ref t_costs_a, .ref t_burdens_a, .ref t_terms_a, .int (iZ t_holds), .long (lZ t_limit), .long (lZ t_cheapest)])), (t_trial_a, .inl (cI, 4, .inl (aI t_trial_f))), (t_burdens_a, .inl (cJ, 4, .inr (.inl (aL t_burdens_f))))] → va_S A s.heap H locs → ∀ ls : Array Slot, lv_has ls 4 [(0, .ref t_a), (1, .long (lZ sp)), (3, .int (iZ i))] → W p l e { frames := 0, cells := 0, slots := 0, locals := 0 } s m args below meth c H locs 0 0 Q (F0 m 4 ls []) := by
    intro n_3
    induction n_3 with
    | zero => intro sp i hi hi2 hsp hm_4; exact absurd hm_4 (by omega)
    | succ n_3 ih_2 =>
      intro sp i hi hi2 hsp hm_4 H locs hP hD hS ls hl
      refine lv_iload_n hx hb dPl_isNearEnough_4 rfl (lv_at hl 2 rfl) ?_
      refine lv_iconst (v := iZ 4) hx hb dPl_isNearEnough_5 (by decide) ?_
      refine z_icmp_ge (tgt := 41) hx hb (by omega) (by omega) (by omega) (by omega) dPl_isNearEnough_6 (by decide) (fun c_5 => ?_) (fun c_5 => ?_)
      ·
        have hb1 := ns_b hsp hi hi2 hbu
        refine lv_lload_n hx hb dPl_isNearEnough_41 rfl (lv_at hl 1 rfl) ?_
        refine lv_aload_n hx hb dPl_isNearEnough_42 rfl (lv_at hl 0 rfl) ?_
        refine va_get (D := D) (ci := 4) (v := .long (lZ t_limit)) (C := RPl) (T := TPl) (N := 10) hx hb hts layPl hown hK.1 hP 0 rfl rfl 8 (by decide) (hts _ (hm g177)) (fun _ h9 => h9) rfl dPl_isNearEnough_43 ?_
        refine z_lcmp_gt (tgt := 54) hx hb (by omega) (by omega) (by omega) (by omega) dPl_isNearEnough_46 dPl_isNearEnough_47 (by decide) (fun c_6 => ?_) (fun c_6 => ?_)
        ·
          refine lv_iconst (v := iZ 0) hx hb dPl_isNearEnough_54 (by decide) ?_
          exact cq_zret hx hb hr hlocks hAe hQ (bo_narr (by omega) (by omega)) 0 ⟨rfl, (by (try dsimp only) <;> (first | exact Or.inl ⟨rfl, by rw [show nsum t_burdens_f t_trial_f = sp from (sz_end hsp (by omega)).symm]; omega⟩ | exact Or.inr ⟨rfl, by rw [show nsum t_burdens_f t_trial_f = sp from (sz_end hsp (by omega)).symm]; omega⟩))⟩ (hP.sub [0, 1, 2] rfl) (hD.sub [0, 1, 2] (by decide) rfl) hS (by decide) (by decide) dPl_isNearEnough_55
        ·
          refine lv_iconst (v := iZ 1) hx hb dPl_isNearEnough_50 (by decide) ?_
          refine lv_goto (tgt := 55) hx hb dPl_isNearEnough_51 (by decide) ?_
          exact cq_zret hx hb hr hlocks hAe hQ (bo_narr (by omega) (by omega)) 1 ⟨rfl, (by (try dsimp only) <;> (first | exact Or.inl ⟨rfl, by rw [show nsum t_burdens_f t_trial_f = sp from (sz_end hsp (by omega)).symm]; omega⟩ | exact Or.inr ⟨rfl, by rw [show nsum t_burdens_f t_trial_f = sp from (sz_end hsp (by omega)).symm]; omega⟩))⟩ (hP.sub [0, 1, 2] rfl) (hD.sub [0, 1, 2] (by decide) rfl) hS (by decide) (by decide) dPl_isNearEnough_55
      ·
        refine lv_aload_n hx hb dPl_isNearEnough_9 rfl (lv_at hl 0 rfl) ?_
        refine va_get (D := D) (ci := 4) (v := .ref t_trial_a) (C := RPl) (T := TPl) (N := 10) hx hb hts layPl hown hK.1 hP 0 rfl rfl 1 (by decide) (hts _ (hm g170)) (fun _ h9 => h9) rfl dPl_isNearEnough_10 ?_
        refine lv_iload_n hx hb dPl_isNearEnough_13 rfl (lv_at hl 2 rfl) ?_
        refine z_iald hx hb hK hP 1 0 rfl rfl (by omega) (by omega) (by decide) dPl_isNearEnough_14 ?_
        have f_7 := htr i (by omega) (by omega)
        refine z_if_le (tgt := 35) hx hb (by omega) (by omega) dPl_isNearEnough_15 (by decide) (fun c_8 => ?_) (fun c_8 => ?_)
        ·
          refine lv_iinc (v := iZ (i + 1)) (lv' := [(3, .int (iZ (i + 1))), (0, .ref t_a), (1, .long (lZ sp))]) hx hb dPl_isNearEnough_35 hl (k := 2) rfl (iZ_add i 1) (by decide) rfl (fun ls hl => ?_)
          refine lv_goto (tgt := 4) hx hb dPl_isNearEnough_38 (by decide) ?_
          exact ih_2  sp (i + 1) (by omega) (by omega) (by first | exact ns_1 hsp hi (by assumption) | exact ns_0 hsp hi (by assumption)) (by omega) _ _ (hP.sub [0, 1, 2] rfl) (hD.sub [0, 1, 2] (by decide) rfl) hS ls (lv_sub hl [1, 2, 0] rfl)
        ·
          refine lv_lload_n hx hb dPl_isNearEnough_18 rfl (lv_at hl 1 rfl) ?_
          refine lv_aload_n hx hb dPl_isNearEnough_19 rfl (lv_at hl 0 rfl) ?_
          refine va_get (D := D) (ci := 4) (v := .ref t_burdens_a) (C := RPl) (T := TPl) (N := 10) hx hb hts layPl hown hK.1 hP 0 rfl rfl 5 (by decide) (hts _ (hm g174)) (fun _ h9 => h9) rfl dPl_isNearEnough_20 ?_
          refine lv_iload_n hx hb dPl_isNearEnough_23 rfl (lv_at hl 2 rfl) ?_
          refine z_lald hx hb hK hP 2 1 rfl rfl (by omega) (by omega) (by decide) dPl_isNearEnough_24 ?_
          have f_9 := hbu i (by omega) (by omega)
          refine lv_aload_n hx hb dPl_isNearEnough_25 rfl (lv_at hl 0 rfl) ?_
          refine va_get (D := D) (ci := 4) (v := .ref t_trial_a) (C := RPl) (T := TPl) (N := 10) hx hb hts layPl hown hK.1 hP 0 rfl rfl 1 (by decide) (hts _ (hm g170)) (fun _ h9 => h9) rfl dPl_isNearEnough_26 ?_
          refine lv_iload_n hx hb dPl_isNearEnough_29 rfl (lv_at hl 2 rfl) ?_
          refine z_iald hx hb hK hP 1 0 rfl rfl (by omega) (by omega) (by decide) dPl_isNearEnough_30 ?_
          have f_10 := htr i (by omega) (by omega)
          refine z_i2l hx hb (by omega) (by omega) dPl_isNearEnough_31 ?_
          refine z_ldiv hx hb (by omega) (by omega) (by omega) (by omega) dPl_isNearEnough_32 ?_
          refine z_ladd hx hb dPl_isNearEnough_33 ?_
          refine lv_lstore_n (lv' := [(1, .long (lZ (sp + ((t_burdens_f i) / (t_trial_f i))))), (0, .ref t_a), (3, .int (iZ i))]) hx hb dPl_isNearEnough_34 rfl hl (by decide) rfl (fun ls hl => ?_)
          refine lv_iinc (v := iZ (i + 1)) (lv' := [(3, .int (iZ (i + 1))), (1, .long (lZ (sp + ((t_burdens_f i) / (t_trial_f i))))), (0, .ref t_a)]) hx hb dPl_isNearEnough_35 hl (k := 2) rfl (iZ_add i 1) (by decide) rfl (fun ls hl => ?_)
          refine lv_goto (tgt := 4) hx hb dPl_isNearEnough_38 (by decide) ?_
          exact ih_2  (sp + ((t_burdens_f i) / (t_trial_f i))) (i + 1) (by omega) (by omega) (by first | exact ns_1 hsp hi (by assumption) | exact ns_0 hsp hi (by assumption)) (by omega) _ _ (hP.sub [0, 1, 2] rfl) (hD.sub [0, 1, 2] (by decide) rfl) hS ls (lv_sub hl [2, 1, 0] rfl)
  exact loop_1 ((4 - 0 : Int).toNat + 1) 0 0 (by omega) (by omega) (by rfl) (by omega) _ _ (hP.sub [0, 1, 2] rfl) (hD.sub [0, 1, 2] (by decide) rfl) hS ls (lv_sub hl [2, 1, 0] rfl)
set_option maxHeartbeats 4000000 in
set_option maxRecDepth 100000 in
theorem k_Planner_considerTrial (l : Launch) (D : va_G) (cI cJ cZ : ClassId) (t_a t_held_a t_trial_a t_fewest_a t_most_a t_costs_a t_burdens_a t_terms_a : Nat) (sz : Nat) (t_holds : Int) (t_limit : Int) (t_cheapest : Int) (t_held_f : Int → Int) (t_trial_f : Int → Int) (t_costs_f : Int → Int) (t_burdens_f : Int → Int) (htr : ∀ j, 0 ≤ j → j < 4 → 0 ≤ t_trial_f j ∧ t_trial_f j ≤ 6) (hco : ∀ j, 0 ≤ j → j < 4 → 0 ≤ t_costs_f j ∧ t_costs_f j ≤ 100000) (hbu : ∀ j, 0 ≤ j → j < 4 → 0 ≤ t_burdens_f j ∧ t_burdens_f j ≤ 100000000000000000) (hli : 0 ≤ t_limit ∧ t_limit ≤ 4032000000000000000) (hch : 0 ≤ t_cheapest ∧ t_cheapest ≤ 9223372036854775807) : cq_v l yPl_considerTrial wsPl_considerTrial ({ frames := 1, cells := 0, slots := 0, locals := 60 }) D clAll [(cI, .int), (cJ, .long), (cZ, .boolean)] nwAll [.ref t_a] [(t_a, .inr (4, [.ref t_held_a, .ref t_trial_a, .ref t_fewest_a, .ref t_most_a, .ref t_costs_a, .ref t_burdens_a, .ref t_terms_a, .int (iZ t_holds), .long (lZ t_limit), .long (lZ t_cheapest)])), (t_held_a, .inl (cI, 4, .inl (aI t_held_f))), (t_trial_a, .inl (cI, 4, .inl (aI t_trial_f))), (t_costs_a, .inl (cJ, 4, .inr (.inl (aL t_costs_f)))), (t_burdens_a, .inl (cJ, 4, .inr (.inl (aL t_burdens_f))))] sz (S := Int × Int × (Int → Int)) (fun (u : Int × Int × (Int → Int)) => ((u.1, u.2.1, u.2.2) = csx t_costs_f t_burdens_f t_limit t_trial_f (t_holds, t_cheapest, t_held_f))) (fun (u : Int × Int × (Int → Int)) => [(t_a, .inr (4, [.ref t_held_a, .ref t_trial_a, .ref t_fewest_a, .ref t_most_a, .ref t_costs_a, .ref t_burdens_a, .ref t_terms_a, .int (iZ u.1), .long (lZ t_limit), .long (lZ u.2.1)])), (t_held_a, .inl (cI, 4, .inl (aI u.2.2))), (t_trial_a, .inl (cI, 4, .inl (aI t_trial_f))), (t_costs_a, .inl (cJ, 4, .inr (.inl (aL t_costs_f)))), (t_burdens_a, .inl (cJ, 4, .inr (.inl (aL t_burdens_f))))]) 0 0 := by
  refine cq_enter (cc := cPl_considerTrial) (maxL := 4) (ret := none) (by decide) rfl (Nat.le_of_ble_eq_true rfl) ?_
  intro p e s m below meth c A args Q H hAe hQ hsz hAt hA hP hK hD hS ls hl
  obtain ⟨hx, hb, hr, hml, hown, hts, hlocks, hin⟩ := hAt
  have hown : s.vm.findClass RPl = some m.cls := hown
  have hl : lv_has ls 4 [(0, .ref t_a)] := hl
  refine lv_lconst (v := lZ 0) hx hb dPl_considerTrial_0 (by decide) ?_
  refine lv_lstore_n (lv' := [(1, .long (lZ 0)), (0, .ref t_a)]) hx hb dPl_considerTrial_1 rfl hl (by decide) rfl (fun ls hl => ?_)
  refine lv_iconst (v := iZ 0) hx hb dPl_considerTrial_2 (by decide) ?_
  refine lv_istore_n (lv' := [(3, .int (iZ 0)), (1, .long (lZ 0)), (0, .ref t_a)]) hx hb dPl_considerTrial_3 rfl hl (by decide) rfl (fun ls hl => ?_)
  have loop_1 : ∀ (n_3 : Nat) (cs : Int) (i : Int), (0 ≤ i) → (i ≤ 4) → (cs = sZ (fun j => t_trial_f j * t_costs_f j) i) → (4 - i < (n_3 : Int)) → ∀ (H : Heap) (locs : List Loc), va_P D clAll [(t_a, .inr (4, [.ref t_held_a, .ref t_trial_a, .ref t_fewest_a, .ref t_most_a, .ref t_costs_a, .ref t_burdens_a, .ref t_terms_a, .int (iZ t_holds), .long (lZ t_limit), .long (lZ t_cheapest)])), (t_held_a, .inl (cI, 4, .inl (aI t_held_f))), (t_trial_a, .inl (cI, 4, .inl (aI t_trial_f))), (t_costs_a, .inl (cJ, 4, .inr (.inl (aL t_costs_f)))), (t_burdens_a, .inl (cJ, 4, .inr (.inl (aL t_burdens_f))))] H → va_D A [(t_a, .inr (4, [.ref t_held_a, .ref t_trial_a, .ref t_fewest_a, .ref t_most_a, .ref t_costs_a, .ref t_burdens_a, .ref t_terms_a, .int (iZ t_holds), .long (lZ t_limit), .long (lZ t_cheapest)])), (t_held_a, .inl (cI, 4, .inl (aI t_held_f))), (t_trial_a, .inl (cI, 4, .inl (aI t_trial_f))), (t_costs_a, .inl (cJ, 4, .inr (.inl (aL t_costs_f)))), (t_burdens_a, .inl (cJ, 4, .inr (.inl (aL t_burdens_f))))] → va_S A s.heap H locs → ∀ ls : Array Slot, lv_has ls 4 [(0, .ref t_a), (1, .long (lZ cs)), (3, .int (iZ i))] → W p l e { frames := 1, cells := 0, slots := 0, locals := 60 } s m args below meth c H locs 0 0 Q (F0 m 4 ls []) := by
    intro n_3
    induction n_3 with
    | zero => intro cs i hi hi2 hcs hm_4; exact absurd hm_4 (by omega)
    | succ n_3 ih_2 =>
      intro cs i hi hi2 hcs hm_4 H locs hP hD hS ls hl
      refine lv_iload_n hx hb dPl_considerTrial_4 rfl (lv_at hl 2 rfl) ?_
      refine lv_iconst (v := iZ 4) hx hb dPl_considerTrial_5 (by decide) ?_
      refine z_icmp_ge (tgt := 32) hx hb (by omega) (by omega) (by omega) (by omega) dPl_considerTrial_6 (by decide) (fun c_5 => ?_) (fun c_5 => ?_)
      ·
        have hb1 := nc_b hcs hi hi2 htr hco
        refine lv_lload_n hx hb dPl_considerTrial_32 rfl (lv_at hl 1 rfl) ?_
        refine lv_aload_n hx hb dPl_considerTrial_33 rfl (lv_at hl 0 rfl) ?_
        refine va_get (D := D) (ci := 4) (v := .long (lZ t_cheapest)) (C := RPl) (T := TPl) (N := 10) hx hb hts layPl hown hK.1 hP 0 rfl rfl 9 (by decide) (hts _ (hm g178)) (fun _ h9 => h9) rfl dPl_considerTrial_34 ?_
        refine z_lcmp_ge (tgt := 72) hx hb (by omega) (by omega) (by omega) (by omega) dPl_considerTrial_37 dPl_considerTrial_38 (by decide) (fun c_6 => ?_) (fun c_6 => ?_)
        ·
          exact cq_vret hx hb hr hlocks hAe hQ (t_holds, t_cheapest, t_held_f) (by (try dsimp only) <;> (first | exact csx_n (sz_end hcs (by omega)) (by assumption) | exact csx_y (sz_end hcs (by omega)) rfl (by assumption) (by omega) | exact csx_n2 rfl (by omega))) (hP.sub [0, 1, 2, 3, 4] rfl) (hD.sub [0, 1, 2, 3, 4] (by decide) rfl) hS (by decide) (by decide) dPl_considerTrial_72
        ·
          refine lv_aload_n hx hb dPl_considerTrial_41 rfl (lv_at hl 0 rfl) ?_
          refine cq_calli (wr := [(t_held_a, .inl (cI, 4, .inl (aI t_held_f))), (t_costs_a, .inl (cJ, 4, .inr (.inl (aL t_costs_f))))]) (va_runV (C := RPl) (As := []) (rest := []) ⟨hx, hb, hml, hown, hts⟩ (k_Planner_isNearEnough l D cI cJ cZ t_a t_held_a t_trial_a t_fewest_a t_most_a t_costs_a t_burdens_a t_terms_a H.size t_holds t_limit t_cheapest t_trial_f t_burdens_f (by first | assumption | omega) (by first | assumption | omega) (by first | assumption | omega)) ⟨(callB_of 0 hts (gAll cmPl_isNearEnough) rfl rfl rfl (hts _ (hm g65)) (hts _ (hm g360)) (by decide +kernel) ⟨Nat.le_of_ble_eq_true rfl, Nat.le_of_ble_eq_true rfl⟩), (hts _ (hm g361)), (hts _ (hm g29))⟩ (cq_preV (va_recv hK.1 hP (ci := 4) (q0 := 0) rfl rfl) (cq_preS hK hP hD [0, 2, 4] (by decide) rfl)) rfl rfl hl.1 rfl (lv_room (Nat.le_of_ble_eq_true rfl)) dPl_considerTrial_42 ⟨by decide, by decide⟩) hP hD hS hA [0, 2, 4] [1, 3] rfl rfl (by decide) (by decide) (fun r u H locs hw_7 hP hD hS => ?_)
          obtain ⟨o_8, rfl⟩ : ∃ z, z = u := ⟨_, rfl⟩
          try dsimp only at hw_7
          obtain ⟨rfl, p_9⟩ := hw_7
          have hP : va_P D clAll [(t_held_a, .inl (cI, 4, .inl (aI t_held_f))), (t_costs_a, .inl (cJ, 4, .inr (.inl (aL t_costs_f)))), (t_a, .inr (4, [.ref t_held_a, .ref t_trial_a, .ref t_fewest_a, .ref t_most_a, .ref t_costs_a, .ref t_burdens_a, .ref t_terms_a, .int (iZ t_holds), .long (lZ t_limit), .long (lZ t_cheapest)])), (t_trial_a, .inl (cI, 4, .inl (aI t_trial_f))), (t_burdens_a, .inl (cJ, 4, .inr (.inl (aL t_burdens_f))))] H := hP
          have hD : va_D A [(t_held_a, .inl (cI, 4, .inl (aI t_held_f))), (t_costs_a, .inl (cJ, 4, .inr (.inl (aL t_costs_f)))), (t_a, .inr (4, [.ref t_held_a, .ref t_trial_a, .ref t_fewest_a, .ref t_most_a, .ref t_costs_a, .ref t_burdens_a, .ref t_terms_a, .int (iZ t_holds), .long (lZ t_limit), .long (lZ t_cheapest)])), (t_trial_a, .inl (cI, 4, .inl (aI t_trial_f))), (t_burdens_a, .inl (cJ, 4, .inr (.inl (aL t_burdens_f))))] := hD
          refine z_if_eq (tgt := 72) hx hb (by omega) (by omega) dPl_considerTrial_45 (by decide) (fun c_10 => ?_) (fun c_10 => ?_)
          ·
            exact cq_vret hx hb hr hlocks hAe hQ (t_holds, t_cheapest, t_held_f) (by (try dsimp only) <;> (first | exact csx_n (sz_end hcs (by omega)) (by assumption) | exact csx_y (sz_end hcs (by omega)) rfl (by assumption) (by omega) | exact csx_n2 rfl (by omega))) (hP.sub [2, 0, 3, 1, 4] rfl) (hD.sub [2, 0, 3, 1, 4] (by decide) rfl) hS (by decide) (by decide) dPl_considerTrial_72
          ·
            refine lv_aload_n hx hb dPl_considerTrial_48 rfl (lv_at hl 0 rfl) ?_
            refine lv_iconst (v := iZ 1) hx hb dPl_considerTrial_49 (by decide) ?_
            refine va_put (D := D) (ci := 4) (v := .int (iZ 1)) (ty := .boolean) (C := RPl) (T := TPl) (N := 10) hx hb hts layPl tyPl tyPl_ok nmPl hown hK.1 hP hD hS 2 rfl rfl 7 (by decide) (hts _ (hm g176)) (fun _ h9 => h9) rfl (by decide +kernel) (bo_narr (by omega) (by omega)) (bo_fits (by omega) (by omega)) (Nat.le_of_ble_eq_true rfl) dPl_considerTrial_50 (fun H locs hP hD hS => ?_)
            have hP : va_P D clAll [(t_held_a, .inl (cI, 4, .inl (aI t_held_f))), (t_costs_a, .inl (cJ, 4, .inr (.inl (aL t_costs_f)))), (t_a, .inr (4, [.ref t_held_a, .ref t_trial_a, .ref t_fewest_a, .ref t_most_a, .ref t_costs_a, .ref t_burdens_a, .ref t_terms_a, .int (iZ 1), .long (lZ t_limit), .long (lZ t_cheapest)])), (t_trial_a, .inl (cI, 4, .inl (aI t_trial_f))), (t_burdens_a, .inl (cJ, 4, .inr (.inl (aL t_burdens_f))))] H := hP
            have hD : va_D A [(t_held_a, .inl (cI, 4, .inl (aI t_held_f))), (t_costs_a, .inl (cJ, 4, .inr (.inl (aL t_costs_f)))), (t_a, .inr (4, [.ref t_held_a, .ref t_trial_a, .ref t_fewest_a, .ref t_most_a, .ref t_costs_a, .ref t_burdens_a, .ref t_terms_a, .int (iZ 1), .long (lZ t_limit), .long (lZ t_cheapest)])), (t_trial_a, .inl (cI, 4, .inl (aI t_trial_f))), (t_burdens_a, .inl (cJ, 4, .inr (.inl (aL t_burdens_f))))] := hD
            refine lv_aload_n hx hb dPl_considerTrial_53 rfl (lv_at hl 0 rfl) ?_
            refine lv_lload_n hx hb dPl_considerTrial_54 rfl (lv_at hl 1 rfl) ?_
            refine va_put (D := D) (ci := 4) (v := .long (lZ cs)) (ty := .long) (C := RPl) (T := TPl) (N := 10) hx hb hts layPl tyPl tyPl_ok nmPl hown hK.1 hP hD hS 2 rfl rfl 9 (by decide) (hts _ (hm g178)) (fun _ h9 => h9) rfl (by decide +kernel) rfl rfl (Nat.le_of_ble_eq_true rfl) dPl_considerTrial_55 (fun H locs hP hD hS => ?_)
            have hP : va_P D clAll [(t_held_a, .inl (cI, 4, .inl (aI t_held_f))), (t_costs_a, .inl (cJ, 4, .inr (.inl (aL t_costs_f)))), (t_a, .inr (4, [.ref t_held_a, .ref t_trial_a, .ref t_fewest_a, .ref t_most_a, .ref t_costs_a, .ref t_burdens_a, .ref t_terms_a, .int (iZ 1), .long (lZ t_limit), .long (lZ cs)])), (t_trial_a, .inl (cI, 4, .inl (aI t_trial_f))), (t_burdens_a, .inl (cJ, 4, .inr (.inl (aL t_burdens_f))))] H := hP
            have hD : va_D A [(t_held_a, .inl (cI, 4, .inl (aI t_held_f))), (t_costs_a, .inl (cJ, 4, .inr (.inl (aL t_costs_f)))), (t_a, .inr (4, [.ref t_held_a, .ref t_trial_a, .ref t_fewest_a, .ref t_most_a, .ref t_costs_a, .ref t_burdens_a, .ref t_terms_a, .int (iZ 1), .long (lZ t_limit), .long (lZ cs)])), (t_trial_a, .inl (cI, 4, .inl (aI t_trial_f))), (t_burdens_a, .inl (cJ, 4, .inr (.inl (aL t_burdens_f))))] := hD
            refine lv_aload_n hx hb dPl_considerTrial_58 rfl (lv_at hl 0 rfl) ?_
            refine va_get (D := D) (ci := 4) (v := .ref t_trial_a) (C := RPl) (T := TPl) (N := 10) hx hb hts layPl hown hK.1 hP 2 rfl rfl 1 (by decide) (hts _ (hm g170)) (fun _ h9 => h9) rfl dPl_considerTrial_59 ?_
            refine lv_iconst (v := iZ 0) hx hb dPl_considerTrial_62 (by decide) ?_
            refine lv_aload_n hx hb dPl_considerTrial_63 rfl (lv_at hl 0 rfl) ?_
            refine va_get (D := D) (ci := 4) (v := .ref t_held_a) (C := RPl) (T := TPl) (N := 10) hx hb hts layPl hown hK.1 hP 2 rfl rfl 0 (by decide) (hts _ (hm g169)) (fun _ h9 => h9) rfl dPl_considerTrial_64 ?_
            refine lv_iconst (v := iZ 0) hx hb dPl_considerTrial_67 (by decide) ?_
            refine lv_iconst (v := iZ 4) hx hb dPl_considerTrial_68 (by decide) ?_
            refine va_copyi hx hb (hml.trans hl.1.symm) hown (hts _ (hm g354)) (hts _ (hm g356)) (hts _ (hm g355)) (hts _ (hm g69)) hK.1 hP hD hS 3 0 0 0 rfl rfl rfl rfl rfl (by decide) (by decide) (by decide) (by decide) (by decide) (fun i hi => rfl) (by decide) (by decide) dPl_considerTrial_69 (fun H locs hP hD hS => ?_)
            rw [cpy4] at hP hD
            have hP : va_P D clAll [(t_held_a, .inl (cI, 4, .inl (aI (cp4 t_trial_f t_held_f)))), (t_costs_a, .inl (cJ, 4, .inr (.inl (aL t_costs_f)))), (t_a, .inr (4, [.ref t_held_a, .ref t_trial_a, .ref t_fewest_a, .ref t_most_a, .ref t_costs_a, .ref t_burdens_a, .ref t_terms_a, .int (iZ 1), .long (lZ t_limit), .long (lZ cs)])), (t_trial_a, .inl (cI, 4, .inl (aI t_trial_f))), (t_burdens_a, .inl (cJ, 4, .inr (.inl (aL t_burdens_f))))] H := hP
            have hD : va_D A [(t_held_a, .inl (cI, 4, .inl (aI (cp4 t_trial_f t_held_f)))), (t_costs_a, .inl (cJ, 4, .inr (.inl (aL t_costs_f)))), (t_a, .inr (4, [.ref t_held_a, .ref t_trial_a, .ref t_fewest_a, .ref t_most_a, .ref t_costs_a, .ref t_burdens_a, .ref t_terms_a, .int (iZ 1), .long (lZ t_limit), .long (lZ cs)])), (t_trial_a, .inl (cI, 4, .inl (aI t_trial_f))), (t_burdens_a, .inl (cJ, 4, .inr (.inl (aL t_burdens_f))))] := hD
            exact cq_vret hx hb hr hlocks hAe hQ (1, cs, (cp4 t_trial_f t_held_f)) (by (try dsimp only) <;> (first | exact csx_n (sz_end hcs (by omega)) (by assumption) | exact csx_y (sz_end hcs (by omega)) rfl (by assumption) (by omega) | exact csx_n2 rfl (by omega))) (hP.sub [2, 0, 3, 1, 4] rfl) (hD.sub [2, 0, 3, 1, 4] (by decide) rfl) hS (by decide) (by decide) dPl_considerTrial_72
      ·
        refine lv_lload_n hx hb dPl_considerTrial_9 rfl (lv_at hl 1 rfl) ?_
        refine lv_aload_n hx hb dPl_considerTrial_10 rfl (lv_at hl 0 rfl) ?_
        refine va_get (D := D) (ci := 4) (v := .ref t_trial_a) (C := RPl) (T := TPl) (N := 10) hx hb hts layPl hown hK.1 hP 0 rfl rfl 1 (by decide) (hts _ (hm g170)) (fun _ h9 => h9) rfl dPl_considerTrial_11 ?_
        refine lv_iload_n hx hb dPl_considerTrial_14 rfl (lv_at hl 2 rfl) ?_
        refine z_iald hx hb hK hP 2 0 rfl rfl (by omega) (by omega) (by decide) dPl_considerTrial_15 ?_
        have f_11 := htr i (by omega) (by omega)
        refine z_i2l hx hb (by omega) (by omega) dPl_considerTrial_16 ?_
        refine lv_aload_n hx hb dPl_considerTrial_17 rfl (lv_at hl 0 rfl) ?_
        refine va_get (D := D) (ci := 4) (v := .ref t_costs_a) (C := RPl) (T := TPl) (N := 10) hx hb hts layPl hown hK.1 hP 0 rfl rfl 4 (by decide) (hts _ (hm g173)) (fun _ h9 => h9) rfl dPl_considerTrial_18 ?_
        refine lv_iload_n hx hb dPl_considerTrial_21 rfl (lv_at hl 2 rfl) ?_
        refine z_lald hx hb hK hP 3 1 rfl rfl (by omega) (by omega) (by decide) dPl_considerTrial_22 ?_
        have f_12 := hco i (by omega) (by omega)
        refine z_lmul hx hb dPl_considerTrial_23 ?_
        refine z_ladd hx hb dPl_considerTrial_24 ?_
        refine lv_lstore_n (lv' := [(1, .long (lZ (cs + ((t_trial_f i) * (t_costs_f i))))), (0, .ref t_a), (3, .int (iZ i))]) hx hb dPl_considerTrial_25 rfl hl (by decide) rfl (fun ls hl => ?_)
        refine lv_iinc (v := iZ (i + 1)) (lv' := [(3, .int (iZ (i + 1))), (1, .long (lZ (cs + ((t_trial_f i) * (t_costs_f i))))), (0, .ref t_a)]) hx hb dPl_considerTrial_26 hl (k := 2) rfl (iZ_add i 1) (by decide) rfl (fun ls hl => ?_)
        refine lv_goto (tgt := 4) hx hb dPl_considerTrial_29 (by decide) ?_
        exact ih_2  (cs + ((t_trial_f i) * (t_costs_f i))) (i + 1) (by omega) (by omega) (by exact nc_1 hcs hi) (by omega) _ _ (hP.sub [0, 1, 2, 3, 4] rfl) (hD.sub [0, 1, 2, 3, 4] (by decide) rfl) hS ls (lv_sub hl [2, 1, 0] rfl)
  exact loop_1 ((4 - 0 : Int).toNat + 1) 0 0 (by omega) (by omega) (by rfl) (by omega) _ _ (hP.sub [0, 1, 2, 3, 4] rfl) (hD.sub [0, 1, 2, 3, 4] (by decide) rfl) hS ls (lv_sub hl [2, 1, 0] rfl)
set_option maxHeartbeats 4000000 in
set_option maxRecDepth 100000 in
theorem k_Planner_findCheapest (l : Launch) (D : va_G) (cI cJ cZ : ClassId) (t_a t_held_a t_trial_a t_fewest_a t_most_a t_costs_a t_burdens_a t_terms_a : Nat) (sz : Nat) (t_holds : Int) (t_limit : Int) (t_cheapest : Int) (t_held_f : Int → Int) (t_trial_f : Int → Int) (t_fewest_f : Int → Int) (t_most_f : Int → Int) (t_costs_f : Int → Int) (t_burdens_f : Int → Int) (hfe : ∀ j, 0 ≤ j → j < 4 → 0 ≤ t_fewest_f j ∧ t_fewest_f j ≤ 6) (hmo : ∀ j, 0 ≤ j → j < 4 → 0 ≤ t_most_f j ∧ t_most_f j ≤ 6) (hco : ∀ j, 0 ≤ j → j < 4 → 0 ≤ t_costs_f j ∧ t_costs_f j ≤ 100000) (hbu : ∀ j, 0 ≤ j → j < 4 → 0 ≤ t_burdens_f j ∧ t_burdens_f j ≤ 100000000000000000) (hli : 0 ≤ t_limit ∧ t_limit ≤ 4032000000000000000) : cq_l l yPl_findCheapest wsPl_findCheapest ({ frames := 2, cells := 0, slots := 0, locals := 83 }) D clAll [(cI, .int), (cJ, .long), (cZ, .boolean)] nwAll [.ref t_a] [(t_a, .inr (4, [.ref t_held_a, .ref t_trial_a, .ref t_fewest_a, .ref t_most_a, .ref t_costs_a, .ref t_burdens_a, .ref t_terms_a, .int (iZ t_holds), .long (lZ t_limit), .long (lZ t_cheapest)])), (t_held_a, .inl (cI, 4, .inl (aI t_held_f))), (t_trial_a, .inl (cI, 4, .inl (aI t_trial_f))), (t_fewest_a, .inl (cI, 4, .inl (aI t_fewest_f))), (t_most_a, .inl (cI, 4, .inl (aI t_most_f))), (t_costs_a, .inl (cJ, 4, .inr (.inl (aL t_costs_f)))), (t_burdens_a, .inl (cJ, 4, .inr (.inl (aL t_burdens_f))))] sz (S := Int × Int × Int × (Int → Int) × (Int → Int)) (fun (r : Int64) (u : Int × Int × Int × (Int → Int) × (Int → Int)) => r = lZ u.1 ∧ ((u.2.1, u.2.2.1, u.2.2.2.1) = rn t_fewest_f t_most_f t_costs_f t_burdens_f t_limit 1296 (cp4 t_fewest_f t_trial_f) (0, 9223372036854775807, t_held_f)) ∧ (0 ≤ u.2.1 ∧ u.2.1 ≤ 1) ∧ ((u.2.1 = 0 ∧ u.1 = -1) ∨ (u.2.1 = 1 ∧ u.1 = u.2.2.1))) (fun (u : Int × Int × Int × (Int → Int) × (Int → Int)) => [(t_a, .inr (4, [.ref t_held_a, .ref t_trial_a, .ref t_fewest_a, .ref t_most_a, .ref t_costs_a, .ref t_burdens_a, .ref t_terms_a, .int (iZ u.2.1), .long (lZ t_limit), .long (lZ u.2.2.1)])), (t_held_a, .inl (cI, 4, .inl (aI u.2.2.2.1))), (t_trial_a, .inl (cI, 4, .inl (aI u.2.2.2.2))), (t_fewest_a, .inl (cI, 4, .inl (aI t_fewest_f))), (t_most_a, .inl (cI, 4, .inl (aI t_most_f))), (t_costs_a, .inl (cJ, 4, .inr (.inl (aL t_costs_f)))), (t_burdens_a, .inl (cJ, 4, .inr (.inl (aL t_burdens_f))))]) 0 0 := by
  refine cq_enter (cc := cPl_findCheapest) (maxL := 2) (ret := some .long) (by decide) rfl (Nat.le_of_ble_eq_true rfl) ?_
  intro p e s m below meth c A args Q H hAe hQ hsz hAt hA hP hK hD hS ls hl
  obtain ⟨hx, hb, hr, hml, hown, hts, hlocks, hin⟩ := hAt
  have hown : s.vm.findClass RPl = some m.cls := hown
  have hl : lv_has ls 2 [(0, .ref t_a)] := hl
  refine lv_aload_n hx hb dPl_findCheapest_0 rfl (lv_at hl 0 rfl) ?_
  refine lv_iconst (v := iZ 0) hx hb dPl_findCheapest_1 (by decide) ?_
  refine va_put (D := D) (ci := 4) (v := .int (iZ 0)) (ty := .boolean) (C := RPl) (T := TPl) (N := 10) hx hb hts layPl tyPl tyPl_ok nmPl hown hK.1 hP hD hS 0 rfl rfl 7 (by decide) (hts _ (hm g176)) (fun _ h9 => h9) rfl (by decide +kernel) (bo_narr (by omega) (by omega)) (bo_fits (by omega) (by omega)) (Nat.le_of_ble_eq_true rfl) dPl_findCheapest_2 (fun H locs hP hD hS => ?_)
  have hP : va_P D clAll [(t_a, .inr (4, [.ref t_held_a, .ref t_trial_a, .ref t_fewest_a, .ref t_most_a, .ref t_costs_a, .ref t_burdens_a, .ref t_terms_a, .int (iZ 0), .long (lZ t_limit), .long (lZ t_cheapest)])), (t_held_a, .inl (cI, 4, .inl (aI t_held_f))), (t_trial_a, .inl (cI, 4, .inl (aI t_trial_f))), (t_fewest_a, .inl (cI, 4, .inl (aI t_fewest_f))), (t_most_a, .inl (cI, 4, .inl (aI t_most_f))), (t_costs_a, .inl (cJ, 4, .inr (.inl (aL t_costs_f)))), (t_burdens_a, .inl (cJ, 4, .inr (.inl (aL t_burdens_f))))] H := hP
  have hD : va_D A [(t_a, .inr (4, [.ref t_held_a, .ref t_trial_a, .ref t_fewest_a, .ref t_most_a, .ref t_costs_a, .ref t_burdens_a, .ref t_terms_a, .int (iZ 0), .long (lZ t_limit), .long (lZ t_cheapest)])), (t_held_a, .inl (cI, 4, .inl (aI t_held_f))), (t_trial_a, .inl (cI, 4, .inl (aI t_trial_f))), (t_fewest_a, .inl (cI, 4, .inl (aI t_fewest_f))), (t_most_a, .inl (cI, 4, .inl (aI t_most_f))), (t_costs_a, .inl (cJ, 4, .inr (.inl (aL t_costs_f)))), (t_burdens_a, .inl (cJ, 4, .inr (.inl (aL t_burdens_f))))] := hD
  refine lv_aload_n hx hb dPl_findCheapest_5 rfl (lv_at hl 0 rfl) ?_
  refine lv_ldc2 (v := lZ (9223372036854775807)) hx hb hown (hts _ (hm g353)) dPl_findCheapest_6 ?_
  refine va_put (D := D) (ci := 4) (v := .long (lZ 9223372036854775807)) (ty := .long) (C := RPl) (T := TPl) (N := 10) hx hb hts layPl tyPl tyPl_ok nmPl hown hK.1 hP hD hS 0 rfl rfl 9 (by decide) (hts _ (hm g178)) (fun _ h9 => h9) rfl (by decide +kernel) rfl rfl (Nat.le_of_ble_eq_true rfl) dPl_findCheapest_9 (fun H locs hP hD hS => ?_)
  have hP : va_P D clAll [(t_a, .inr (4, [.ref t_held_a, .ref t_trial_a, .ref t_fewest_a, .ref t_most_a, .ref t_costs_a, .ref t_burdens_a, .ref t_terms_a, .int (iZ 0), .long (lZ t_limit), .long (lZ 9223372036854775807)])), (t_held_a, .inl (cI, 4, .inl (aI t_held_f))), (t_trial_a, .inl (cI, 4, .inl (aI t_trial_f))), (t_fewest_a, .inl (cI, 4, .inl (aI t_fewest_f))), (t_most_a, .inl (cI, 4, .inl (aI t_most_f))), (t_costs_a, .inl (cJ, 4, .inr (.inl (aL t_costs_f)))), (t_burdens_a, .inl (cJ, 4, .inr (.inl (aL t_burdens_f))))] H := hP
  have hD : va_D A [(t_a, .inr (4, [.ref t_held_a, .ref t_trial_a, .ref t_fewest_a, .ref t_most_a, .ref t_costs_a, .ref t_burdens_a, .ref t_terms_a, .int (iZ 0), .long (lZ t_limit), .long (lZ 9223372036854775807)])), (t_held_a, .inl (cI, 4, .inl (aI t_held_f))), (t_trial_a, .inl (cI, 4, .inl (aI t_trial_f))), (t_fewest_a, .inl (cI, 4, .inl (aI t_fewest_f))), (t_most_a, .inl (cI, 4, .inl (aI t_most_f))), (t_costs_a, .inl (cJ, 4, .inr (.inl (aL t_costs_f)))), (t_burdens_a, .inl (cJ, 4, .inr (.inl (aL t_burdens_f))))] := hD
  refine lv_aload_n hx hb dPl_findCheapest_12 rfl (lv_at hl 0 rfl) ?_
  refine va_get (D := D) (ci := 4) (v := .ref t_fewest_a) (C := RPl) (T := TPl) (N := 10) hx hb hts layPl hown hK.1 hP 0 rfl rfl 2 (by decide) (hts _ (hm g171)) (fun _ h9 => h9) rfl dPl_findCheapest_13 ?_
  refine lv_iconst (v := iZ 0) hx hb dPl_findCheapest_16 (by decide) ?_
  refine lv_aload_n hx hb dPl_findCheapest_17 rfl (lv_at hl 0 rfl) ?_
  refine va_get (D := D) (ci := 4) (v := .ref t_trial_a) (C := RPl) (T := TPl) (N := 10) hx hb hts layPl hown hK.1 hP 0 rfl rfl 1 (by decide) (hts _ (hm g170)) (fun _ h9 => h9) rfl dPl_findCheapest_18 ?_
  refine lv_iconst (v := iZ 0) hx hb dPl_findCheapest_21 (by decide) ?_
  refine lv_iconst (v := iZ 4) hx hb dPl_findCheapest_22 (by decide) ?_
  refine va_copyi hx hb (hml.trans hl.1.symm) hown (hts _ (hm g354)) (hts _ (hm g356)) (hts _ (hm g355)) (hts _ (hm g69)) hK.1 hP hD hS 3 2 0 0 rfl rfl rfl rfl rfl (by decide) (by decide) (by decide) (by decide) (by decide) (fun i hi => rfl) (by decide) (by decide) dPl_findCheapest_23 (fun H locs hP hD hS => ?_)
  rw [cpy4] at hP hD
  have hP : va_P D clAll [(t_a, .inr (4, [.ref t_held_a, .ref t_trial_a, .ref t_fewest_a, .ref t_most_a, .ref t_costs_a, .ref t_burdens_a, .ref t_terms_a, .int (iZ 0), .long (lZ t_limit), .long (lZ 9223372036854775807)])), (t_held_a, .inl (cI, 4, .inl (aI t_held_f))), (t_trial_a, .inl (cI, 4, .inl (aI (cp4 t_fewest_f t_trial_f)))), (t_fewest_a, .inl (cI, 4, .inl (aI t_fewest_f))), (t_most_a, .inl (cI, 4, .inl (aI t_most_f))), (t_costs_a, .inl (cJ, 4, .inr (.inl (aL t_costs_f)))), (t_burdens_a, .inl (cJ, 4, .inr (.inl (aL t_burdens_f))))] H := hP
  have hD : va_D A [(t_a, .inr (4, [.ref t_held_a, .ref t_trial_a, .ref t_fewest_a, .ref t_most_a, .ref t_costs_a, .ref t_burdens_a, .ref t_terms_a, .int (iZ 0), .long (lZ t_limit), .long (lZ 9223372036854775807)])), (t_held_a, .inl (cI, 4, .inl (aI t_held_f))), (t_trial_a, .inl (cI, 4, .inl (aI (cp4 t_fewest_f t_trial_f)))), (t_fewest_a, .inl (cI, 4, .inl (aI t_fewest_f))), (t_most_a, .inl (cI, 4, .inl (aI t_most_f))), (t_costs_a, .inl (cJ, 4, .inr (.inl (aL t_costs_f)))), (t_burdens_a, .inl (cJ, 4, .inr (.inl (aL t_burdens_f))))] := hD
  refine lv_iconst (v := iZ 0) hx hb dPl_findCheapest_26 (by decide) ?_
  refine lv_istore_n (lv' := [(1, .int (iZ 0)), (0, .ref t_a)]) hx hb dPl_findCheapest_27 rfl hl (by decide) rfl (fun ls hl => ?_)
  have loop_1 : ∀ (n_3 : Nat) (i : Int) (ho : Int) (ch : Int) (he : Int → Int) (tr : Int → Int), (0 ≤ i) → (i ≤ 1296) → (0 ≤ ho ∧ ho ≤ 1) → (0 ≤ ch ∧ ch ≤ 9223372036854775807) → (∀ j, 0 ≤ j → j < 4 → 0 ≤ tr j ∧ tr j ≤ 6) → (rn t_fewest_f t_most_f t_costs_f t_burdens_f t_limit (1296 - i).toNat tr (ho, ch, he) = rn t_fewest_f t_most_f t_costs_f t_burdens_f t_limit 1296 (cp4 t_fewest_f t_trial_f) (0, 9223372036854775807, t_held_f)) → (1296 - i < (n_3 : Int)) → ∀ (H : Heap) (locs : List Loc), va_P D clAll [(t_a, .inr (4, [.ref t_held_a, .ref t_trial_a, .ref t_fewest_a, .ref t_most_a, .ref t_costs_a, .ref t_burdens_a, .ref t_terms_a, .int (iZ ho), .long (lZ t_limit), .long (lZ ch)])), (t_held_a, .inl (cI, 4, .inl (aI he))), (t_trial_a, .inl (cI, 4, .inl (aI tr))), (t_fewest_a, .inl (cI, 4, .inl (aI t_fewest_f))), (t_most_a, .inl (cI, 4, .inl (aI t_most_f))), (t_costs_a, .inl (cJ, 4, .inr (.inl (aL t_costs_f)))), (t_burdens_a, .inl (cJ, 4, .inr (.inl (aL t_burdens_f))))] H → va_D A [(t_a, .inr (4, [.ref t_held_a, .ref t_trial_a, .ref t_fewest_a, .ref t_most_a, .ref t_costs_a, .ref t_burdens_a, .ref t_terms_a, .int (iZ ho), .long (lZ t_limit), .long (lZ ch)])), (t_held_a, .inl (cI, 4, .inl (aI he))), (t_trial_a, .inl (cI, 4, .inl (aI tr))), (t_fewest_a, .inl (cI, 4, .inl (aI t_fewest_f))), (t_most_a, .inl (cI, 4, .inl (aI t_most_f))), (t_costs_a, .inl (cJ, 4, .inr (.inl (aL t_costs_f)))), (t_burdens_a, .inl (cJ, 4, .inr (.inl (aL t_burdens_f))))] → va_S A s.heap H locs → ∀ ls : Array Slot, lv_has ls 2 [(0, .ref t_a), (1, .int (iZ i))] → W p l e { frames := 2, cells := 0, slots := 0, locals := 83 } s m args below meth c H locs 0 0 Q (F0 m 28 ls []) := by
    intro n_3
    induction n_3 with
    | zero => intro i ho ch he tr hi hi2 hho hch hrr hrn hm_4; exact absurd hm_4 (by omega)
    | succ n_3 ih_2 =>
      intro i ho ch he tr hi hi2 hho hch hrr hrn hm_4 H locs hP hD hS ls hl
      refine lv_iload_n hx hb dPl_findCheapest_28 rfl (lv_at hl 1 rfl) ?_
      refine lv_sipush (v := iZ (1296)) hx hb dPl_findCheapest_29 (by decide) ?_
      refine z_icmp_ge (tgt := 55) hx hb (by omega) (by omega) (by omega) (by omega) dPl_findCheapest_32 (by decide) (fun c_5 => ?_) (fun c_5 => ?_)
      ·
        refine lv_aload_n hx hb dPl_findCheapest_55 rfl (lv_at hl 0 rfl) ?_
        refine va_get (D := D) (ci := 4) (v := .int (iZ ho)) (C := RPl) (T := TPl) (N := 10) hx hb hts layPl hown hK.1 hP 0 rfl rfl 7 (by decide) (hts _ (hm g176)) (fun _ h9 => h9) rfl dPl_findCheapest_56 ?_
        refine z_if_eq (tgt := 69) hx hb (by omega) (by omega) dPl_findCheapest_59 (by decide) (fun c_6 => ?_) (fun c_6 => ?_)
        ·
          refine lv_ldc2 (v := lZ (-1)) hx hb hown (hts _ (hm g366)) dPl_findCheapest_69 ?_
          exact cq_lret hx hb hr hlocks hAe hQ (-1, ho, ch, he, tr) ⟨rfl, (by (try dsimp only) <;> (first | exact rn_end hrn (by omega) | exact rn_st2 hrn (by omega) hcsx hod (by omega))), (by (try dsimp only) <;> (omega)), (by (try dsimp only) <;> (omega))⟩ (hP.sub [0, 1, 2, 3, 4, 5, 6] rfl) (hD.sub [0, 1, 2, 3, 4, 5, 6] (by decide) rfl) hS (by decide) (by decide) dPl_findCheapest_72
        ·
          refine lv_aload_n hx hb dPl_findCheapest_62 rfl (lv_at hl 0 rfl) ?_
          refine va_get (D := D) (ci := 4) (v := .long (lZ ch)) (C := RPl) (T := TPl) (N := 10) hx hb hts layPl hown hK.1 hP 0 rfl rfl 9 (by decide) (hts _ (hm g178)) (fun _ h9 => h9) rfl dPl_findCheapest_63 ?_
          refine lv_goto (tgt := 72) hx hb dPl_findCheapest_66 (by decide) ?_
          exact cq_lret hx hb hr hlocks hAe hQ (ch, ho, ch, he, tr) ⟨rfl, (by (try dsimp only) <;> (first | exact rn_end hrn (by omega) | exact rn_st2 hrn (by omega) hcsx hod (by omega))), (by (try dsimp only) <;> (omega)), (by (try dsimp only) <;> (omega))⟩ (hP.sub [0, 1, 2, 3, 4, 5, 6] rfl) (hD.sub [0, 1, 2, 3, 4, 5, 6] (by decide) rfl) hS (by decide) (by decide) dPl_findCheapest_72
      ·
        have hnc := nc_b (t := tr) (co := t_costs_f) (x := ncost t_costs_f tr) rfl (by omega) (by omega) hrr hco
        refine lv_aload_n hx hb dPl_findCheapest_35 rfl (lv_at hl 0 rfl) ?_
        refine cq_callv (wr := [(t_fewest_a, .inl (cI, 4, .inl (aI t_fewest_f))), (t_most_a, .inl (cI, 4, .inl (aI t_most_f)))]) (va_runV (C := RPl) (As := []) (rest := []) ⟨hx, hb, hml, hown, hts⟩ (k_Planner_considerTrial l D cI cJ cZ t_a t_held_a t_trial_a t_fewest_a t_most_a t_costs_a t_burdens_a t_terms_a H.size ho t_limit ch he tr t_costs_f t_burdens_f (by first | assumption | omega) (by first | assumption | omega) (by first | assumption | omega) (by first | assumption | omega) (by first | assumption | omega)) ⟨(callB_of 0 hts (gAll cmPl_considerTrial) rfl rfl rfl (hts _ (hm g65)) (hts _ (hm g357)) (by decide +kernel) ⟨Nat.le_of_ble_eq_true rfl, Nat.le_of_ble_eq_true rfl⟩), (hts _ (hm g358)), (hts _ (hm g28))⟩ (cq_preV (va_recv hK.1 hP (ci := 4) (q0 := 0) rfl rfl) (cq_preS hK hP hD [0, 1, 2, 5, 6] (by decide) rfl)) rfl rfl hl.1 rfl (lv_room (Nat.le_of_ble_eq_true rfl)) dPl_findCheapest_36 ⟨by decide, by decide⟩) hP hD hS hA [0, 1, 2, 5, 6] [3, 4] rfl rfl (by decide) (by decide) (fun u H locs hw_7 hP hD hS => ?_)
        obtain ⟨o_8, o_9, o_10⟩ := u
        try dsimp only at hw_7
        have hcsx := hw_7
        have hP : va_P D clAll [(t_fewest_a, .inl (cI, 4, .inl (aI t_fewest_f))), (t_most_a, .inl (cI, 4, .inl (aI t_most_f))), (t_a, .inr (4, [.ref t_held_a, .ref t_trial_a, .ref t_fewest_a, .ref t_most_a, .ref t_costs_a, .ref t_burdens_a, .ref t_terms_a, .int (iZ o_8), .long (lZ t_limit), .long (lZ o_9)])), (t_held_a, .inl (cI, 4, .inl (aI o_10))), (t_trial_a, .inl (cI, 4, .inl (aI tr))), (t_costs_a, .inl (cJ, 4, .inr (.inl (aL t_costs_f)))), (t_burdens_a, .inl (cJ, 4, .inr (.inl (aL t_burdens_f))))] H := hP
        have hD : va_D A [(t_fewest_a, .inl (cI, 4, .inl (aI t_fewest_f))), (t_most_a, .inl (cI, 4, .inl (aI t_most_f))), (t_a, .inr (4, [.ref t_held_a, .ref t_trial_a, .ref t_fewest_a, .ref t_most_a, .ref t_costs_a, .ref t_burdens_a, .ref t_terms_a, .int (iZ o_8), .long (lZ t_limit), .long (lZ o_9)])), (t_held_a, .inl (cI, 4, .inl (aI o_10))), (t_trial_a, .inl (cI, 4, .inl (aI tr))), (t_costs_a, .inl (cJ, 4, .inr (.inl (aL t_costs_f)))), (t_burdens_a, .inl (cJ, 4, .inr (.inl (aL t_burdens_f))))] := hD
        have hcb := csx_b hcsx hho hch hnc.1
        refine lv_aload_n hx hb dPl_findCheapest_39 rfl (lv_at hl 0 rfl) ?_
        refine cq_calli (wr := [(t_held_a, .inl (cI, 4, .inl (aI o_10))), (t_costs_a, .inl (cJ, 4, .inr (.inl (aL t_costs_f)))), (t_burdens_a, .inl (cJ, 4, .inr (.inl (aL t_burdens_f))))]) (va_runV (C := RPl) (As := []) (rest := []) ⟨hx, hb, hml, hown, hts⟩ (k_Planner_stepTrial l D cI cJ cZ t_a t_held_a t_trial_a t_fewest_a t_most_a t_costs_a t_burdens_a t_terms_a H.size o_8 t_limit o_9 tr t_fewest_f t_most_f (by first | assumption | omega) (by first | assumption | omega) (by first | assumption | omega)) ⟨(callB_of 0 hts (gAll cmPl_stepTrial) rfl rfl rfl (hts _ (hm g65)) (hts _ (hm g363)) (by decide +kernel) ⟨Nat.le_of_ble_eq_true rfl, Nat.le_of_ble_eq_true rfl⟩), (hts _ (hm g364)), (hts _ (hm g30))⟩ (cq_preV (va_recv hK.1 hP (ci := 4) (q0 := 2) rfl rfl) (cq_preS hK hP hD [2, 4, 0, 1] (by decide) rfl)) rfl rfl hl.1 rfl (lv_room (Nat.le_of_ble_eq_true rfl)) dPl_findCheapest_40 ⟨by decide, by decide⟩) hP hD hS hA [2, 4, 0, 1] [3, 5, 6] rfl rfl (by decide) (by decide) (fun r u H locs hw_11 hP hD hS => ?_)
        obtain ⟨o_12, o_13⟩ := u
        try dsimp only at hw_11
        obtain ⟨rfl, hod⟩ := hw_11
        have hP : va_P D clAll [(t_held_a, .inl (cI, 4, .inl (aI o_10))), (t_costs_a, .inl (cJ, 4, .inr (.inl (aL t_costs_f)))), (t_burdens_a, .inl (cJ, 4, .inr (.inl (aL t_burdens_f)))), (t_a, .inr (4, [.ref t_held_a, .ref t_trial_a, .ref t_fewest_a, .ref t_most_a, .ref t_costs_a, .ref t_burdens_a, .ref t_terms_a, .int (iZ o_8), .long (lZ t_limit), .long (lZ o_9)])), (t_trial_a, .inl (cI, 4, .inl (aI o_13))), (t_fewest_a, .inl (cI, 4, .inl (aI t_fewest_f))), (t_most_a, .inl (cI, 4, .inl (aI t_most_f)))] H := hP
        have hD : va_D A [(t_held_a, .inl (cI, 4, .inl (aI o_10))), (t_costs_a, .inl (cJ, 4, .inr (.inl (aL t_costs_f)))), (t_burdens_a, .inl (cJ, 4, .inr (.inl (aL t_burdens_f)))), (t_a, .inr (4, [.ref t_held_a, .ref t_trial_a, .ref t_fewest_a, .ref t_most_a, .ref t_costs_a, .ref t_burdens_a, .ref t_terms_a, .int (iZ o_8), .long (lZ t_limit), .long (lZ o_9)])), (t_trial_a, .inl (cI, 4, .inl (aI o_13))), (t_fewest_a, .inl (cI, 4, .inl (aI t_fewest_f))), (t_most_a, .inl (cI, 4, .inl (aI t_most_f)))] := hD
        have hor := od_rng hfe hmo 4 tr (by omega) hrr
        rw [← hod] at hor
        have htr2 := hor.1
        have hrv := hor.2
        dsimp only at htr2 hrv
        refine z_if_ne (tgt := 49) hx hb (by omega) (by omega) dPl_findCheapest_43 (by decide) (fun c_14 => ?_) (fun c_14 => ?_)
        ·
          refine lv_iinc (v := iZ (i + 1)) (lv' := [(1, .int (iZ (i + 1))), (0, .ref t_a)]) hx hb dPl_findCheapest_49 hl (k := 1) rfl (iZ_add i 1) (by decide) rfl (fun ls hl => ?_)
          refine lv_goto (tgt := 28) hx hb dPl_findCheapest_52 (by decide) ?_
          exact ih_2  (i + 1) o_8 o_9 o_10 o_13 (by omega) (by omega) (by omega) (by omega) (by exact htr2) (by exact rn_go2 hrn (by omega) hcsx hod (by omega)) (by omega) _ _ (hP.sub [3, 0, 4, 5, 6, 1, 2] rfl) (hD.sub [3, 0, 4, 5, 6, 1, 2] (by decide) rfl) hS ls (lv_sub hl [1, 0] rfl)
        ·
          refine lv_goto (tgt := 55) hx hb dPl_findCheapest_46 (by decide) ?_
          refine lv_aload_n hx hb dPl_findCheapest_55 rfl (lv_at hl 0 rfl) ?_
          refine va_get (D := D) (ci := 4) (v := .int (iZ o_8)) (C := RPl) (T := TPl) (N := 10) hx hb hts layPl hown hK.1 hP 3 rfl rfl 7 (by decide) (hts _ (hm g176)) (fun _ h9 => h9) rfl dPl_findCheapest_56 ?_
          refine z_if_eq (tgt := 69) hx hb (by omega) (by omega) dPl_findCheapest_59 (by decide) (fun c_15 => ?_) (fun c_15 => ?_)
          ·
            refine lv_ldc2 (v := lZ (-1)) hx hb hown (hts _ (hm g366)) dPl_findCheapest_69 ?_
            exact cq_lret hx hb hr hlocks hAe hQ (-1, o_8, o_9, o_10, o_13) ⟨rfl, (by (try dsimp only) <;> (first | exact rn_end hrn (by omega) | exact rn_st2 hrn (by omega) hcsx hod (by omega))), (by (try dsimp only) <;> (omega)), (by (try dsimp only) <;> (omega))⟩ (hP.sub [3, 0, 4, 5, 6, 1, 2] rfl) (hD.sub [3, 0, 4, 5, 6, 1, 2] (by decide) rfl) hS (by decide) (by decide) dPl_findCheapest_72
          ·
            refine lv_aload_n hx hb dPl_findCheapest_62 rfl (lv_at hl 0 rfl) ?_
            refine va_get (D := D) (ci := 4) (v := .long (lZ o_9)) (C := RPl) (T := TPl) (N := 10) hx hb hts layPl hown hK.1 hP 3 rfl rfl 9 (by decide) (hts _ (hm g178)) (fun _ h9 => h9) rfl dPl_findCheapest_63 ?_
            refine lv_goto (tgt := 72) hx hb dPl_findCheapest_66 (by decide) ?_
            exact cq_lret hx hb hr hlocks hAe hQ (o_9, o_8, o_9, o_10, o_13) ⟨rfl, (by (try dsimp only) <;> (first | exact rn_end hrn (by omega) | exact rn_st2 hrn (by omega) hcsx hod (by omega))), (by (try dsimp only) <;> (omega)), (by (try dsimp only) <;> (omega))⟩ (hP.sub [3, 0, 4, 5, 6, 1, 2] rfl) (hD.sub [3, 0, 4, 5, 6, 1, 2] (by decide) rfl) hS (by decide) (by decide) dPl_findCheapest_72
  exact loop_1 ((1296 - 0 : Int).toNat + 1) 0 0 9223372036854775807 t_held_f (cp4 t_fewest_f t_trial_f) (by omega) (by omega) (by omega) (by omega) (by exact cp4_r hfe) (by rfl) (by omega) _ _ (hP.sub [0, 1, 2, 3, 4, 5, 6] rfl) (hD.sub [0, 1, 2, 3, 4, 5, 6] (by decide) rfl) hS ls (lv_sub hl [1, 0] rfl)
set_option maxHeartbeats 4000000 in
set_option maxRecDepth 100000 in
theorem k_Planner_prepare (l : Launch) (D : va_G) (cI cJ cZ : ClassId) (t_a figures_a strata_a t_held_a t_trial_a t_fewest_a t_most_a t_costs_a t_burdens_a t_terms_a t_terms_aboves_a t_terms_belows_a figures_sizes_a figures_numbers_a figures_sums_a figures_scatters_a figures_terms_a strata_sizes_a strata_costs_a strata_gone_a : Nat) (sz : Nat) (t_holds : Int) (t_limit : Int) (t_cheapest : Int) (t_fewest_f : Int → Int) (t_most_f : Int → Int) (t_costs_f : Int → Int) (t_burdens_f : Int → Int) (t_terms_aboves_f : Int → Int) (t_terms_belows_f : Int → Int) (figures_counted : Int) (figures_total : Int) (figures_sizes_f : Int → Int) (figures_numbers_f : Int → Int) (figures_scatters_f : Int → Int) (strata_made : Int) (strata_costs_f : Int → Int) (nab : Int) (nbl : Int) (h_nab1 : -9223372036854775808 ≤ nab) (h_nab2 : nab < 9223372036854775808) (h_nbl1 : -9223372036854775808 ≤ nbl) (h_nbl2 : nbl < 9223372036854775808) (hsi : ∀ j, 0 ≤ j → j < 4 → 0 ≤ figures_sizes_f j ∧ figures_sizes_f j ≤ 100) (hnu : ∀ j, 0 ≤ j → j < 4 → 0 ≤ figures_numbers_f j ∧ figures_numbers_f j ≤ 12) (hsc : ∀ j, 0 ≤ j → j < 4 → 0 ≤ figures_scatters_f j ∧ figures_scatters_f j ≤ figures_numbers_f j * figures_numbers_f j * 100000000) (hto : 0 ≤ figures_total ∧ figures_total ≤ 400) (hcm : mnC 1 figures_numbers_f (fun j => figures_numbers_f j * (figures_numbers_f j - 1)) ≤ 420) (hab0 : 0 ≤ nab ∧ nab ≤ 1000000000) (hbe0 : 1 ≤ nbl ∧ nbl ≤ 1000) (hsco : ∀ j, 0 ≤ j → j < 4 → 0 ≤ strata_costs_f j ∧ strata_costs_f j ≤ 100000) : cq_v l yPl_prepare wsPl_prepare ({ frames := 3, cells := 0, slots := 0, locals := 78 }) D clAll [(cI, .int), (cJ, .long), (cZ, .boolean)] nwAll [.ref t_a, .ref figures_a, .ref strata_a, .long (lZ nab), .long (lZ nbl)] [(t_a, .inr (4, [.ref t_held_a, .ref t_trial_a, .ref t_fewest_a, .ref t_most_a, .ref t_costs_a, .ref t_burdens_a, .ref t_terms_a, .int (iZ t_holds), .long (lZ t_limit), .long (lZ t_cheapest)])), (t_fewest_a, .inl (cI, 4, .inl (aI t_fewest_f))), (t_most_a, .inl (cI, 4, .inl (aI t_most_f))), (t_costs_a, .inl (cJ, 4, .inr (.inl (aL t_costs_f)))), (t_burdens_a, .inl (cJ, 4, .inr (.inl (aL t_burdens_f)))), (t_terms_a, .inr (7, [.ref t_terms_aboves_a, .ref t_terms_belows_a])), (t_terms_aboves_a, .inl (cJ, 4, .inr (.inl (aL t_terms_aboves_f)))), (t_terms_belows_a, .inl (cJ, 4, .inr (.inl (aL t_terms_belows_f)))), (figures_a, .inr (3, [.ref figures_sizes_a, .ref figures_numbers_a, .ref figures_sums_a, .ref figures_scatters_a, .ref figures_terms_a, .int (iZ figures_counted), .long (lZ figures_total)])), (figures_sizes_a, .inl (cJ, 4, .inr (.inl (aL figures_sizes_f)))), (figures_numbers_a, .inl (cJ, 4, .inr (.inl (aL figures_numbers_f)))), (figures_scatters_a, .inl (cJ, 4, .inr (.inl (aL figures_scatters_f)))), (strata_a, .inr (6, [.ref strata_sizes_a, .ref strata_costs_a, .ref strata_gone_a, .int (iZ strata_made)])), (strata_costs_a, .inl (cJ, 4, .inr (.inl (aL strata_costs_f))))] sz (S := (Int → Int) × (Int → Int) × (Int → Int) × (Int → Int) × Int × (Int → Int) × (Int → Int)) (fun (u : (Int → Int) × (Int → Int) × (Int → Int) × (Int → Int) × Int × (Int → Int) × (Int → Int)) => (∀ j, 0 ≤ j → j < 4 → u.1 j = if 1 < figures_numbers_f j then 1 else 0) ∧ (∀ j, 0 ≤ j → j < 4 → u.2.1 j = if 1 < figures_numbers_f j then 6 else 0) ∧ (∀ j, 0 ≤ j → j < 4 → u.2.2.1 j = strata_costs_f j) ∧ (∀ j, 0 ≤ j → j < 4 → u.2.2.2.1 j = bur figures_numbers_f figures_sizes_f figures_scatters_f j) ∧ (u.2.2.2.2.1 = nab * figures_total * figures_total * mnC 1 figures_numbers_f (fun j => figures_numbers_f j * (figures_numbers_f j - 1)) * 60 / nbl)) (fun (u : (Int → Int) × (Int → Int) × (Int → Int) × (Int → Int) × Int × (Int → Int) × (Int → Int)) => [(t_a, .inr (4, [.ref t_held_a, .ref t_trial_a, .ref t_fewest_a, .ref t_most_a, .ref t_costs_a, .ref t_burdens_a, .ref t_terms_a, .int (iZ t_holds), .long (lZ u.2.2.2.2.1), .long (lZ t_cheapest)])), (t_fewest_a, .inl (cI, 4, .inl (aI u.1))), (t_most_a, .inl (cI, 4, .inl (aI u.2.1))), (t_costs_a, .inl (cJ, 4, .inr (.inl (aL u.2.2.1)))), (t_burdens_a, .inl (cJ, 4, .inr (.inl (aL u.2.2.2.1)))), (t_terms_a, .inr (7, [.ref t_terms_aboves_a, .ref t_terms_belows_a])), (t_terms_aboves_a, .inl (cJ, 4, .inr (.inl (aL u.2.2.2.2.2.1)))), (t_terms_belows_a, .inl (cJ, 4, .inr (.inl (aL u.2.2.2.2.2.2)))), (figures_a, .inr (3, [.ref figures_sizes_a, .ref figures_numbers_a, .ref figures_sums_a, .ref figures_scatters_a, .ref figures_terms_a, .int (iZ figures_counted), .long (lZ figures_total)])), (figures_sizes_a, .inl (cJ, 4, .inr (.inl (aL figures_sizes_f)))), (figures_numbers_a, .inl (cJ, 4, .inr (.inl (aL figures_numbers_f)))), (figures_scatters_a, .inl (cJ, 4, .inr (.inl (aL figures_scatters_f)))), (strata_a, .inr (6, [.ref strata_sizes_a, .ref strata_costs_a, .ref strata_gone_a, .int (iZ strata_made)])), (strata_costs_a, .inl (cJ, 4, .inr (.inl (aL strata_costs_f))))]) 0 0 := by
  refine cq_enter (cc := cPl_prepare) (maxL := 11) (ret := none) (by decide) rfl (Nat.le_of_ble_eq_true rfl) ?_
  intro p e s m below meth c A args Q H hAe hQ hsz hAt hA hP hK hD hS ls hl
  obtain ⟨hx, hb, hr, hml, hown, hts, hlocks, hin⟩ := hAt
  have hown : s.vm.findClass RPl = some m.cls := hown
  have hl : lv_has ls 11 [(0, .ref t_a), (1, .ref figures_a), (2, .ref strata_a), (3, .long (lZ nab)), (5, .long (lZ nbl))] := hl
  refine lv_aload_n hx hb dPl_prepare_0 rfl (lv_at hl 0 rfl) ?_
  refine va_get (D := D) (ci := 4) (v := .ref t_terms_a) (C := RPl) (T := TPl) (N := 10) hx hb hts layPl hown hK.1 hP 0 rfl rfl 6 (by decide) (hts _ (hm g175)) (fun _ h9 => h9) rfl dPl_prepare_1 ?_
  refine cq_callv (wr := [(t_a, .inr (4, [.ref t_held_a, .ref t_trial_a, .ref t_fewest_a, .ref t_most_a, .ref t_costs_a, .ref t_burdens_a, .ref t_terms_a, .int (iZ t_holds), .long (lZ t_limit), .long (lZ t_cheapest)])), (t_fewest_a, .inl (cI, 4, .inl (aI t_fewest_f))), (t_most_a, .inl (cI, 4, .inl (aI t_most_f))), (t_costs_a, .inl (cJ, 4, .inr (.inl (aL t_costs_f)))), (t_burdens_a, .inl (cJ, 4, .inr (.inl (aL t_burdens_f)))), (figures_a, .inr (3, [.ref figures_sizes_a, .ref figures_numbers_a, .ref figures_sums_a, .ref figures_scatters_a, .ref figures_terms_a, .int (iZ figures_counted), .long (lZ figures_total)])), (figures_sizes_a, .inl (cJ, 4, .inr (.inl (aL figures_sizes_f)))), (figures_numbers_a, .inl (cJ, 4, .inr (.inl (aL figures_numbers_f)))), (figures_scatters_a, .inl (cJ, 4, .inr (.inl (aL figures_scatters_f)))), (strata_a, .inr (6, [.ref strata_sizes_a, .ref strata_costs_a, .ref strata_gone_a, .int (iZ strata_made)])), (strata_costs_a, .inl (cJ, 4, .inr (.inl (aL strata_costs_f))))]) (va_runVN (C := RTm) (As := []) (rest := []) ⟨hx, hb, hml, hown, hts⟩ (k_Terms_clear l D cI cJ cZ t_terms_a t_terms_aboves_a t_terms_belows_a H.size t_terms_aboves_f t_terms_belows_f) ⟨(va_cnB 0 hts (gAll cmTm_clear) rfl rfl rfl (hK.2.2 _ n45) (hts _ (hm g64)) (by decide +kernel) ⟨Nat.le_of_ble_eq_true rfl, Nat.le_of_ble_eq_true rfl⟩), (hts _ (hm g307)), (hts _ (hm g17))⟩ (cq_preV (va_recv hK.1 hP (ci := 7) (q0 := 5) rfl rfl) (cq_preS hK hP hD [5, 6, 7] (by decide) rfl)) rfl rfl hl.1 rfl (lv_room (Nat.le_of_ble_eq_true rfl)) dPl_prepare_4 ⟨by decide, by decide⟩) hP hD hS hA [5, 6, 7] [0, 1, 2, 3, 4, 8, 9, 10, 11, 12, 13] rfl rfl (by decide) (by decide) (fun u H locs hw_1 hP hD hS => ?_)
  obtain ⟨o_2, o_3⟩ := u
  try dsimp only at hw_1
  obtain ⟨p_4, p_5⟩ := hw_1
  have hP : va_P D clAll [(t_a, .inr (4, [.ref t_held_a, .ref t_trial_a, .ref t_fewest_a, .ref t_most_a, .ref t_costs_a, .ref t_burdens_a, .ref t_terms_a, .int (iZ t_holds), .long (lZ t_limit), .long (lZ t_cheapest)])), (t_fewest_a, .inl (cI, 4, .inl (aI t_fewest_f))), (t_most_a, .inl (cI, 4, .inl (aI t_most_f))), (t_costs_a, .inl (cJ, 4, .inr (.inl (aL t_costs_f)))), (t_burdens_a, .inl (cJ, 4, .inr (.inl (aL t_burdens_f)))), (figures_a, .inr (3, [.ref figures_sizes_a, .ref figures_numbers_a, .ref figures_sums_a, .ref figures_scatters_a, .ref figures_terms_a, .int (iZ figures_counted), .long (lZ figures_total)])), (figures_sizes_a, .inl (cJ, 4, .inr (.inl (aL figures_sizes_f)))), (figures_numbers_a, .inl (cJ, 4, .inr (.inl (aL figures_numbers_f)))), (figures_scatters_a, .inl (cJ, 4, .inr (.inl (aL figures_scatters_f)))), (strata_a, .inr (6, [.ref strata_sizes_a, .ref strata_costs_a, .ref strata_gone_a, .int (iZ strata_made)])), (strata_costs_a, .inl (cJ, 4, .inr (.inl (aL strata_costs_f)))), (t_terms_a, .inr (7, [.ref t_terms_aboves_a, .ref t_terms_belows_a])), (t_terms_aboves_a, .inl (cJ, 4, .inr (.inl (aL o_2)))), (t_terms_belows_a, .inl (cJ, 4, .inr (.inl (aL o_3))))] H := hP
  have hD : va_D A [(t_a, .inr (4, [.ref t_held_a, .ref t_trial_a, .ref t_fewest_a, .ref t_most_a, .ref t_costs_a, .ref t_burdens_a, .ref t_terms_a, .int (iZ t_holds), .long (lZ t_limit), .long (lZ t_cheapest)])), (t_fewest_a, .inl (cI, 4, .inl (aI t_fewest_f))), (t_most_a, .inl (cI, 4, .inl (aI t_most_f))), (t_costs_a, .inl (cJ, 4, .inr (.inl (aL t_costs_f)))), (t_burdens_a, .inl (cJ, 4, .inr (.inl (aL t_burdens_f)))), (figures_a, .inr (3, [.ref figures_sizes_a, .ref figures_numbers_a, .ref figures_sums_a, .ref figures_scatters_a, .ref figures_terms_a, .int (iZ figures_counted), .long (lZ figures_total)])), (figures_sizes_a, .inl (cJ, 4, .inr (.inl (aL figures_sizes_f)))), (figures_numbers_a, .inl (cJ, 4, .inr (.inl (aL figures_numbers_f)))), (figures_scatters_a, .inl (cJ, 4, .inr (.inl (aL figures_scatters_f)))), (strata_a, .inr (6, [.ref strata_sizes_a, .ref strata_costs_a, .ref strata_gone_a, .int (iZ strata_made)])), (strata_costs_a, .inl (cJ, 4, .inr (.inl (aL strata_costs_f)))), (t_terms_a, .inr (7, [.ref t_terms_aboves_a, .ref t_terms_belows_a])), (t_terms_aboves_a, .inl (cJ, 4, .inr (.inl (aL o_2)))), (t_terms_belows_a, .inl (cJ, 4, .inr (.inl (aL o_3))))] := hD
  refine lv_iconst (v := iZ 0) hx hb dPl_prepare_7 (by decide) ?_
  refine lv_istore (lv' := [(7, .int (iZ 0)), (0, .ref t_a), (1, .ref figures_a), (2, .ref strata_a), (3, .long (lZ nab)), (5, .long (lZ nbl))]) hx hb dPl_prepare_8 hl (by decide) rfl (fun ls hl => ?_)
  have loop_6 : ∀ (n_8 : Nat) (i : Int) (fw : Int → Int) (ms : Int → Int) (cs : Int → Int) (ab : Int → Int) (be : Int → Int), (0 ≤ i) → (i ≤ 4) → (∀ j, 0 ≤ j → j < i → fw j = if 1 < figures_numbers_f j then 1 else 0) → (∀ j, 0 ≤ j → j < i → ms j = if 1 < figures_numbers_f j then 6 else 0) → (∀ j, 0 ≤ j → j < i → cs j = strata_costs_f j) → (∀ j, 0 ≤ j → j < 4 → ab j = tA 1 figures_numbers_f (fun j => figures_sizes_f j * figures_sizes_f j * figures_scatters_f j) i j) → (∀ j, 0 ≤ j → j < 4 → be j = tB 1 figures_numbers_f (fun j => figures_numbers_f j * (figures_numbers_f j - 1)) i j) → (4 - i < (n_8 : Int)) → ∀ (H : Heap) (locs : List Loc), va_P D clAll [(t_a, .inr (4, [.ref t_held_a, .ref t_trial_a, .ref t_fewest_a, .ref t_most_a, .ref t_costs_a, .ref t_burdens_a, .ref t_terms_a, .int (iZ t_holds), .long (lZ t_limit), .long (lZ t_cheapest)])), (t_fewest_a, .inl (cI, 4, .inl (aI fw))), (t_most_a, .inl (cI, 4, .inl (aI ms))), (t_costs_a, .inl (cJ, 4, .inr (.inl (aL cs)))), (t_burdens_a, .inl (cJ, 4, .inr (.inl (aL t_burdens_f)))), (figures_a, .inr (3, [.ref figures_sizes_a, .ref figures_numbers_a, .ref figures_sums_a, .ref figures_scatters_a, .ref figures_terms_a, .int (iZ figures_counted), .long (lZ figures_total)])), (figures_sizes_a, .inl (cJ, 4, .inr (.inl (aL figures_sizes_f)))), (figures_numbers_a, .inl (cJ, 4, .inr (.inl (aL figures_numbers_f)))), (figures_scatters_a, .inl (cJ, 4, .inr (.inl (aL figures_scatters_f)))), (strata_a, .inr (6, [.ref strata_sizes_a, .ref strata_costs_a, .ref strata_gone_a, .int (iZ strata_made)])), (strata_costs_a, .inl (cJ, 4, .inr (.inl (aL strata_costs_f)))), (t_terms_a, .inr (7, [.ref t_terms_aboves_a, .ref t_terms_belows_a])), (t_terms_aboves_a, .inl (cJ, 4, .inr (.inl (aL ab)))), (t_terms_belows_a, .inl (cJ, 4, .inr (.inl (aL be))))] H → va_D A [(t_a, .inr (4, [.ref t_held_a, .ref t_trial_a, .ref t_fewest_a, .ref t_most_a, .ref t_costs_a, .ref t_burdens_a, .ref t_terms_a, .int (iZ t_holds), .long (lZ t_limit), .long (lZ t_cheapest)])), (t_fewest_a, .inl (cI, 4, .inl (aI fw))), (t_most_a, .inl (cI, 4, .inl (aI ms))), (t_costs_a, .inl (cJ, 4, .inr (.inl (aL cs)))), (t_burdens_a, .inl (cJ, 4, .inr (.inl (aL t_burdens_f)))), (figures_a, .inr (3, [.ref figures_sizes_a, .ref figures_numbers_a, .ref figures_sums_a, .ref figures_scatters_a, .ref figures_terms_a, .int (iZ figures_counted), .long (lZ figures_total)])), (figures_sizes_a, .inl (cJ, 4, .inr (.inl (aL figures_sizes_f)))), (figures_numbers_a, .inl (cJ, 4, .inr (.inl (aL figures_numbers_f)))), (figures_scatters_a, .inl (cJ, 4, .inr (.inl (aL figures_scatters_f)))), (strata_a, .inr (6, [.ref strata_sizes_a, .ref strata_costs_a, .ref strata_gone_a, .int (iZ strata_made)])), (strata_costs_a, .inl (cJ, 4, .inr (.inl (aL strata_costs_f)))), (t_terms_a, .inr (7, [.ref t_terms_aboves_a, .ref t_terms_belows_a])), (t_terms_aboves_a, .inl (cJ, 4, .inr (.inl (aL ab)))), (t_terms_belows_a, .inl (cJ, 4, .inr (.inl (aL be))))] → va_S A s.heap H locs → ∀ ls : Array Slot, lv_has ls 11 [(0, .ref t_a), (1, .ref figures_a), (2, .ref strata_a), (3, .long (lZ nab)), (5, .long (lZ nbl)), (7, .int (iZ i))] → W p l e { frames := 3, cells := 0, slots := 0, locals := 78 } s m args below meth c H locs 0 0 Q (F0 m 10 ls []) := by
    intro n_8
    induction n_8 with
    | zero => intro i fw ms cs ab be hi hi2 hfw hms hcs hab hbe hm_9; exact absurd hm_9 (by omega)
    | succ n_8 ih_7 =>
      intro i fw ms cs ab be hi hi2 hfw hms hcs hab hbe hm_9 H locs hP hD hS ls hl
      refine lv_iload hx hb dPl_prepare_10 (lv_at hl 5 rfl) ?_
      refine lv_iconst (v := iZ 4) hx hb dPl_prepare_12 (by decide) ?_
      refine z_icmp_ge (tgt := 116) hx hb (by omega) (by omega) (by omega) (by omega) dPl_prepare_13 (by decide) (fun c_10 => ?_) (fun c_10 => ?_)
      ·
        have e4 : i = 4 := by omega
        subst e4
        have hE := mn_end hab hbe rfl
        have hbl := tB_pp hbe hnu
        have hcb := cm_b rfl (show (0 : Int) ≤ 4 by omega) (by omega) hbl
        have hcc : cm be 4 ≤ 420 := by rw [hE.2]; exact hcm
        refine lv_aload_n hx hb dPl_prepare_116 rfl (lv_at hl 0 rfl) ?_
        refine va_get (D := D) (ci := 4) (v := .ref t_terms_a) (C := RPl) (T := TPl) (N := 10) hx hb hts layPl hown hK.1 hP 0 rfl rfl 6 (by decide) (hts _ (hm g175)) (fun _ h9 => h9) rfl dPl_prepare_117 ?_
        refine cq_calll (wr := [(t_a, .inr (4, [.ref t_held_a, .ref t_trial_a, .ref t_fewest_a, .ref t_most_a, .ref t_costs_a, .ref t_burdens_a, .ref t_terms_a, .int (iZ t_holds), .long (lZ t_limit), .long (lZ t_cheapest)])), (t_fewest_a, .inl (cI, 4, .inl (aI fw))), (t_most_a, .inl (cI, 4, .inl (aI ms))), (t_costs_a, .inl (cJ, 4, .inr (.inl (aL cs)))), (t_burdens_a, .inl (cJ, 4, .inr (.inl (aL t_burdens_f)))), (figures_a, .inr (3, [.ref figures_sizes_a, .ref figures_numbers_a, .ref figures_sums_a, .ref figures_scatters_a, .ref figures_terms_a, .int (iZ figures_counted), .long (lZ figures_total)])), (figures_sizes_a, .inl (cJ, 4, .inr (.inl (aL figures_sizes_f)))), (figures_numbers_a, .inl (cJ, 4, .inr (.inl (aL figures_numbers_f)))), (figures_scatters_a, .inl (cJ, 4, .inr (.inl (aL figures_scatters_f)))), (strata_a, .inr (6, [.ref strata_sizes_a, .ref strata_costs_a, .ref strata_gone_a, .int (iZ strata_made)])), (strata_costs_a, .inl (cJ, 4, .inr (.inl (aL strata_costs_f)))), (t_terms_aboves_a, .inl (cJ, 4, .inr (.inl (aL ab))))]) (va_runVN (C := RTm) (As := []) (rest := []) ⟨hx, hb, hml, hown, hts⟩ (k_Terms_common l D cI cJ cZ t_terms_a t_terms_aboves_a t_terms_belows_a H.size be (by first | assumption | omega)) ⟨(va_cnB 0 hts (gAll cmTm_common) rfl rfl rfl (hK.2.2 _ n49) (hts _ (hm g64)) (by decide +kernel) ⟨Nat.le_of_ble_eq_true rfl, Nat.le_of_ble_eq_true rfl⟩), (hts _ (hm g314)), (hts _ (hm g19))⟩ (cq_preV (va_recv hK.1 hP (ci := 7) (q0 := 11) rfl rfl) (cq_preS hK hP hD [11, 13] (by decide) rfl)) rfl rfl hl.1 rfl (lv_room (Nat.le_of_ble_eq_true rfl)) dPl_prepare_120 ⟨by decide, by decide⟩) hP hD hS hA [11, 13] [0, 1, 2, 3, 4, 5, 6, 7, 8, 9, 10, 12] rfl rfl (by decide) (by decide) (fun r u H locs hw_11 hP hD hS => ?_)
        obtain ⟨o_12, rfl⟩ : ∃ z, z = u := ⟨_, rfl⟩
        try dsimp only at hw_11
        obtain ⟨rfl, rfl⟩ := hw_11
        have hP : va_P D clAll [(t_a, .inr (4, [.ref t_held_a, .ref t_trial_a, .ref t_fewest_a, .ref t_most_a, .ref t_costs_a, .ref t_burdens_a, .ref t_terms_a, .int (iZ t_holds), .long (lZ t_limit), .long (lZ t_cheapest)])), (t_fewest_a, .inl (cI, 4, .inl (aI fw))), (t_most_a, .inl (cI, 4, .inl (aI ms))), (t_costs_a, .inl (cJ, 4, .inr (.inl (aL cs)))), (t_burdens_a, .inl (cJ, 4, .inr (.inl (aL t_burdens_f)))), (figures_a, .inr (3, [.ref figures_sizes_a, .ref figures_numbers_a, .ref figures_sums_a, .ref figures_scatters_a, .ref figures_terms_a, .int (iZ figures_counted), .long (lZ figures_total)])), (figures_sizes_a, .inl (cJ, 4, .inr (.inl (aL figures_sizes_f)))), (figures_numbers_a, .inl (cJ, 4, .inr (.inl (aL figures_numbers_f)))), (figures_scatters_a, .inl (cJ, 4, .inr (.inl (aL figures_scatters_f)))), (strata_a, .inr (6, [.ref strata_sizes_a, .ref strata_costs_a, .ref strata_gone_a, .int (iZ strata_made)])), (strata_costs_a, .inl (cJ, 4, .inr (.inl (aL strata_costs_f)))), (t_terms_aboves_a, .inl (cJ, 4, .inr (.inl (aL ab)))), (t_terms_a, .inr (7, [.ref t_terms_aboves_a, .ref t_terms_belows_a])), (t_terms_belows_a, .inl (cJ, 4, .inr (.inl (aL be))))] H := hP
        have hD : va_D A [(t_a, .inr (4, [.ref t_held_a, .ref t_trial_a, .ref t_fewest_a, .ref t_most_a, .ref t_costs_a, .ref t_burdens_a, .ref t_terms_a, .int (iZ t_holds), .long (lZ t_limit), .long (lZ t_cheapest)])), (t_fewest_a, .inl (cI, 4, .inl (aI fw))), (t_most_a, .inl (cI, 4, .inl (aI ms))), (t_costs_a, .inl (cJ, 4, .inr (.inl (aL cs)))), (t_burdens_a, .inl (cJ, 4, .inr (.inl (aL t_burdens_f)))), (figures_a, .inr (3, [.ref figures_sizes_a, .ref figures_numbers_a, .ref figures_sums_a, .ref figures_scatters_a, .ref figures_terms_a, .int (iZ figures_counted), .long (lZ figures_total)])), (figures_sizes_a, .inl (cJ, 4, .inr (.inl (aL figures_sizes_f)))), (figures_numbers_a, .inl (cJ, 4, .inr (.inl (aL figures_numbers_f)))), (figures_scatters_a, .inl (cJ, 4, .inr (.inl (aL figures_scatters_f)))), (strata_a, .inr (6, [.ref strata_sizes_a, .ref strata_costs_a, .ref strata_gone_a, .int (iZ strata_made)])), (strata_costs_a, .inl (cJ, 4, .inr (.inl (aL strata_costs_f)))), (t_terms_aboves_a, .inl (cJ, 4, .inr (.inl (aL ab)))), (t_terms_a, .inr (7, [.ref t_terms_aboves_a, .ref t_terms_belows_a])), (t_terms_belows_a, .inl (cJ, 4, .inr (.inl (aL be))))] := hD
        refine lv_lstore (lv' := [(7, .long (lZ (cm be 4))), (0, .ref t_a), (1, .ref figures_a), (2, .ref strata_a), (3, .long (lZ nab)), (5, .long (lZ nbl))]) hx hb dPl_prepare_123 hl (by decide) rfl (fun ls hl => ?_)
        refine lv_iconst (v := iZ 0) hx hb dPl_prepare_125 (by decide) ?_
        refine lv_istore (lv' := [(9, .int (iZ 0)), (7, .long (lZ (cm be 4))), (0, .ref t_a), (1, .ref figures_a), (2, .ref strata_a), (3, .long (lZ nab)), (5, .long (lZ nbl))]) hx hb dPl_prepare_126 hl (by decide) rfl (fun ls hl => ?_)
        have loop_13 : ∀ (n_15 : Nat) (i : Int) (br : Int → Int), (0 ≤ i) → (i ≤ 4) → (∀ j, 0 ≤ j → j < i → br j = bur figures_numbers_f figures_sizes_f figures_scatters_f j) → (4 - i < (n_15 : Int)) → ∀ (H : Heap) (locs : List Loc), va_P D clAll [(t_a, .inr (4, [.ref t_held_a, .ref t_trial_a, .ref t_fewest_a, .ref t_most_a, .ref t_costs_a, .ref t_burdens_a, .ref t_terms_a, .int (iZ t_holds), .long (lZ t_limit), .long (lZ t_cheapest)])), (t_fewest_a, .inl (cI, 4, .inl (aI fw))), (t_most_a, .inl (cI, 4, .inl (aI ms))), (t_costs_a, .inl (cJ, 4, .inr (.inl (aL cs)))), (t_burdens_a, .inl (cJ, 4, .inr (.inl (aL br)))), (figures_a, .inr (3, [.ref figures_sizes_a, .ref figures_numbers_a, .ref figures_sums_a, .ref figures_scatters_a, .ref figures_terms_a, .int (iZ figures_counted), .long (lZ figures_total)])), (figures_sizes_a, .inl (cJ, 4, .inr (.inl (aL figures_sizes_f)))), (figures_numbers_a, .inl (cJ, 4, .inr (.inl (aL figures_numbers_f)))), (figures_scatters_a, .inl (cJ, 4, .inr (.inl (aL figures_scatters_f)))), (strata_a, .inr (6, [.ref strata_sizes_a, .ref strata_costs_a, .ref strata_gone_a, .int (iZ strata_made)])), (strata_costs_a, .inl (cJ, 4, .inr (.inl (aL strata_costs_f)))), (t_terms_aboves_a, .inl (cJ, 4, .inr (.inl (aL ab)))), (t_terms_a, .inr (7, [.ref t_terms_aboves_a, .ref t_terms_belows_a])), (t_terms_belows_a, .inl (cJ, 4, .inr (.inl (aL be))))] H → va_D A [(t_a, .inr (4, [.ref t_held_a, .ref t_trial_a, .ref t_fewest_a, .ref t_most_a, .ref t_costs_a, .ref t_burdens_a, .ref t_terms_a, .int (iZ t_holds), .long (lZ t_limit), .long (lZ t_cheapest)])), (t_fewest_a, .inl (cI, 4, .inl (aI fw))), (t_most_a, .inl (cI, 4, .inl (aI ms))), (t_costs_a, .inl (cJ, 4, .inr (.inl (aL cs)))), (t_burdens_a, .inl (cJ, 4, .inr (.inl (aL br)))), (figures_a, .inr (3, [.ref figures_sizes_a, .ref figures_numbers_a, .ref figures_sums_a, .ref figures_scatters_a, .ref figures_terms_a, .int (iZ figures_counted), .long (lZ figures_total)])), (figures_sizes_a, .inl (cJ, 4, .inr (.inl (aL figures_sizes_f)))), (figures_numbers_a, .inl (cJ, 4, .inr (.inl (aL figures_numbers_f)))), (figures_scatters_a, .inl (cJ, 4, .inr (.inl (aL figures_scatters_f)))), (strata_a, .inr (6, [.ref strata_sizes_a, .ref strata_costs_a, .ref strata_gone_a, .int (iZ strata_made)])), (strata_costs_a, .inl (cJ, 4, .inr (.inl (aL strata_costs_f)))), (t_terms_aboves_a, .inl (cJ, 4, .inr (.inl (aL ab)))), (t_terms_a, .inr (7, [.ref t_terms_aboves_a, .ref t_terms_belows_a])), (t_terms_belows_a, .inl (cJ, 4, .inr (.inl (aL be))))] → va_S A s.heap H locs → ∀ ls : Array Slot, lv_has ls 11 [(0, .ref t_a), (1, .ref figures_a), (2, .ref strata_a), (3, .long (lZ nab)), (5, .long (lZ nbl)), (7, .long (lZ (cm be 4))), (9, .int (iZ i))] → W p l e { frames := 3, cells := 0, slots := 0, locals := 78 } s m args below meth c H locs 0 0 Q (F0 m 128 ls []) := by
          intro n_15
          induction n_15 with
          | zero => intro i br hi hi2 hbr hm_16; exact absurd hm_16 (by omega)
          | succ n_15 ih_14 =>
            intro i br hi hi2 hbr hm_16 H locs hP hD hS ls hl
            refine lv_iload hx hb dPl_prepare_128 (lv_at hl 6 rfl) ?_
            refine lv_iconst (v := iZ 4) hx hb dPl_prepare_130 (by decide) ?_
            refine z_icmp_ge (tgt := 162) hx hb (by omega) (by omega) (by omega) (by omega) dPl_prepare_131 (by decide) (fun c_17 => ?_) (fun c_17 => ?_)
            ·
              have hlb := lim_b hab0 hto ⟨hcb.1, hcc⟩
              refine lv_lload_n hx hb dPl_prepare_162 rfl (lv_at hl 3 rfl) ?_
              refine lv_aload_n hx hb dPl_prepare_163 rfl (lv_at hl 1 rfl) ?_
              refine va_getN (D := D) (ci := 3) (v := .long (lZ figures_total)) (C := RFg) (T := TFg) (N := 7) (host := "StratumCounts") hx hb hts layFg hown hK.1 hP 5 rfl rfl 6 (by decide) (va_Nw.use rfl (hK.2.2 _ n17)) (fun _ h9 => h9) rfl dPl_prepare_164 ?_
              refine z_lmul hx hb dPl_prepare_167 ?_
              refine lv_aload_n hx hb dPl_prepare_168 rfl (lv_at hl 1 rfl) ?_
              refine va_getN (D := D) (ci := 3) (v := .long (lZ figures_total)) (C := RFg) (T := TFg) (N := 7) (host := "StratumCounts") hx hb hts layFg hown hK.1 hP 5 rfl rfl 6 (by decide) (va_Nw.use rfl (hK.2.2 _ n17)) (fun _ h9 => h9) rfl dPl_prepare_169 ?_
              refine z_lmul hx hb dPl_prepare_172 ?_
              refine lv_lload hx hb dPl_prepare_173 (lv_at hl 5 rfl) ?_
              refine z_lmul hx hb dPl_prepare_175 ?_
              refine lv_ldc2 (v := lZ (60)) hx hb hown (hts _ (hm g350)) dPl_prepare_176 ?_
              refine z_lmul hx hb dPl_prepare_179 ?_
              refine lv_lstore (lv' := [(9, .long (lZ ((((nab * figures_total) * figures_total) * (cm be 4)) * 60))), (0, .ref t_a), (1, .ref figures_a), (2, .ref strata_a), (3, .long (lZ nab)), (5, .long (lZ nbl)), (7, .long (lZ (cm be 4)))]) hx hb dPl_prepare_180 hl (by decide) rfl (fun ls hl => ?_)
              refine lv_aload_n hx hb dPl_prepare_182 rfl (lv_at hl 1 rfl) ?_
              refine lv_lload hx hb dPl_prepare_183 (lv_at hl 5 rfl) ?_
              refine lv_lconst (v := lZ 1) hx hb dPl_prepare_185 (by decide) ?_
              refine z_lcmp_ge (tgt := 194) hx hb (by omega) (by omega) (by omega) (by omega) dPl_prepare_186 dPl_prepare_187 (by decide) (fun c_18 => ?_) (fun c_18 => ?_)
              ·
                refine lv_lload hx hb dPl_prepare_194 (lv_at hl 0 rfl) ?_
                refine lv_lload hx hb dPl_prepare_196 (lv_at hl 5 rfl) ?_
                refine z_ldiv hx hb (by omega) (by omega) (by omega) (by omega) dPl_prepare_198 ?_
                refine va_put (D := D) (ci := 4) (v := .long (lZ (((((nab * figures_total) * figures_total) * (cm be 4)) * 60) / nbl))) (ty := .long) (C := RPl) (T := TPl) (N := 10) hx hb hts layPl tyPl tyPl_ok nmPl hown hK.1 hP hD hS 0 rfl rfl 8 (by decide) (hts _ (hm g177)) (fun _ h9 => h9) rfl (by decide +kernel) rfl rfl (Nat.le_of_ble_eq_true rfl) dPl_prepare_199 (fun H locs hP hD hS => ?_)
                have hP : va_P D clAll [(t_a, .inr (4, [.ref t_held_a, .ref t_trial_a, .ref t_fewest_a, .ref t_most_a, .ref t_costs_a, .ref t_burdens_a, .ref t_terms_a, .int (iZ t_holds), .long (lZ (((((nab * figures_total) * figures_total) * (cm be 4)) * 60) / nbl)), .long (lZ t_cheapest)])), (t_fewest_a, .inl (cI, 4, .inl (aI fw))), (t_most_a, .inl (cI, 4, .inl (aI ms))), (t_costs_a, .inl (cJ, 4, .inr (.inl (aL cs)))), (t_burdens_a, .inl (cJ, 4, .inr (.inl (aL br)))), (figures_a, .inr (3, [.ref figures_sizes_a, .ref figures_numbers_a, .ref figures_sums_a, .ref figures_scatters_a, .ref figures_terms_a, .int (iZ figures_counted), .long (lZ figures_total)])), (figures_sizes_a, .inl (cJ, 4, .inr (.inl (aL figures_sizes_f)))), (figures_numbers_a, .inl (cJ, 4, .inr (.inl (aL figures_numbers_f)))), (figures_scatters_a, .inl (cJ, 4, .inr (.inl (aL figures_scatters_f)))), (strata_a, .inr (6, [.ref strata_sizes_a, .ref strata_costs_a, .ref strata_gone_a, .int (iZ strata_made)])), (strata_costs_a, .inl (cJ, 4, .inr (.inl (aL strata_costs_f)))), (t_terms_aboves_a, .inl (cJ, 4, .inr (.inl (aL ab)))), (t_terms_a, .inr (7, [.ref t_terms_aboves_a, .ref t_terms_belows_a])), (t_terms_belows_a, .inl (cJ, 4, .inr (.inl (aL be))))] H := hP
                have hD : va_D A [(t_a, .inr (4, [.ref t_held_a, .ref t_trial_a, .ref t_fewest_a, .ref t_most_a, .ref t_costs_a, .ref t_burdens_a, .ref t_terms_a, .int (iZ t_holds), .long (lZ (((((nab * figures_total) * figures_total) * (cm be 4)) * 60) / nbl)), .long (lZ t_cheapest)])), (t_fewest_a, .inl (cI, 4, .inl (aI fw))), (t_most_a, .inl (cI, 4, .inl (aI ms))), (t_costs_a, .inl (cJ, 4, .inr (.inl (aL cs)))), (t_burdens_a, .inl (cJ, 4, .inr (.inl (aL br)))), (figures_a, .inr (3, [.ref figures_sizes_a, .ref figures_numbers_a, .ref figures_sums_a, .ref figures_scatters_a, .ref figures_terms_a, .int (iZ figures_counted), .long (lZ figures_total)])), (figures_sizes_a, .inl (cJ, 4, .inr (.inl (aL figures_sizes_f)))), (figures_numbers_a, .inl (cJ, 4, .inr (.inl (aL figures_numbers_f)))), (figures_scatters_a, .inl (cJ, 4, .inr (.inl (aL figures_scatters_f)))), (strata_a, .inr (6, [.ref strata_sizes_a, .ref strata_costs_a, .ref strata_gone_a, .int (iZ strata_made)])), (strata_costs_a, .inl (cJ, 4, .inr (.inl (aL strata_costs_f)))), (t_terms_aboves_a, .inl (cJ, 4, .inr (.inl (aL ab)))), (t_terms_a, .inr (7, [.ref t_terms_aboves_a, .ref t_terms_belows_a])), (t_terms_belows_a, .inl (cJ, 4, .inr (.inl (aL be))))] := hD
                exact cq_vret hx hb hr hlocks hAe hQ (fw, ms, cs, br, ((((nab * figures_total) * figures_total) * (cm be 4)) * 60) / nbl, ab, be) ⟨(by (try dsimp only) <;> (exact hfw)), (by (try dsimp only) <;> (exact hms)), (by (try dsimp only) <;> (exact hcs)), (by (try dsimp only) <;> (exact up_end hbr (by omega))), (by (try dsimp only) <;> (first | (rw [hE.2]; done) | (exfalso; omega)))⟩ (hP.sub [0, 1, 2, 3, 4, 12, 11, 13, 5, 6, 7, 8, 9, 10] rfl) (hD.sub [0, 1, 2, 3, 4, 12, 11, 13, 5, 6, 7, 8, 9, 10] (by decide) rfl) hS (by decide) (by decide) dPl_prepare_202
              ·
                refine lv_lconst (v := lZ 0) hx hb dPl_prepare_190 (by decide) ?_
                refine lv_goto (tgt := 199) hx hb dPl_prepare_191 (by decide) ?_
                refine va_put (D := D) (ci := 4) (v := .long (lZ 0)) (ty := .long) (C := RPl) (T := TPl) (N := 10) hx hb hts layPl tyPl tyPl_ok nmPl hown hK.1 hP hD hS 0 rfl rfl 8 (by decide) (hts _ (hm g177)) (fun _ h9 => h9) rfl (by decide +kernel) rfl rfl (Nat.le_of_ble_eq_true rfl) dPl_prepare_199 (fun H locs hP hD hS => ?_)
                have hP : va_P D clAll [(t_a, .inr (4, [.ref t_held_a, .ref t_trial_a, .ref t_fewest_a, .ref t_most_a, .ref t_costs_a, .ref t_burdens_a, .ref t_terms_a, .int (iZ t_holds), .long (lZ 0), .long (lZ t_cheapest)])), (t_fewest_a, .inl (cI, 4, .inl (aI fw))), (t_most_a, .inl (cI, 4, .inl (aI ms))), (t_costs_a, .inl (cJ, 4, .inr (.inl (aL cs)))), (t_burdens_a, .inl (cJ, 4, .inr (.inl (aL br)))), (figures_a, .inr (3, [.ref figures_sizes_a, .ref figures_numbers_a, .ref figures_sums_a, .ref figures_scatters_a, .ref figures_terms_a, .int (iZ figures_counted), .long (lZ figures_total)])), (figures_sizes_a, .inl (cJ, 4, .inr (.inl (aL figures_sizes_f)))), (figures_numbers_a, .inl (cJ, 4, .inr (.inl (aL figures_numbers_f)))), (figures_scatters_a, .inl (cJ, 4, .inr (.inl (aL figures_scatters_f)))), (strata_a, .inr (6, [.ref strata_sizes_a, .ref strata_costs_a, .ref strata_gone_a, .int (iZ strata_made)])), (strata_costs_a, .inl (cJ, 4, .inr (.inl (aL strata_costs_f)))), (t_terms_aboves_a, .inl (cJ, 4, .inr (.inl (aL ab)))), (t_terms_a, .inr (7, [.ref t_terms_aboves_a, .ref t_terms_belows_a])), (t_terms_belows_a, .inl (cJ, 4, .inr (.inl (aL be))))] H := hP
                have hD : va_D A [(t_a, .inr (4, [.ref t_held_a, .ref t_trial_a, .ref t_fewest_a, .ref t_most_a, .ref t_costs_a, .ref t_burdens_a, .ref t_terms_a, .int (iZ t_holds), .long (lZ 0), .long (lZ t_cheapest)])), (t_fewest_a, .inl (cI, 4, .inl (aI fw))), (t_most_a, .inl (cI, 4, .inl (aI ms))), (t_costs_a, .inl (cJ, 4, .inr (.inl (aL cs)))), (t_burdens_a, .inl (cJ, 4, .inr (.inl (aL br)))), (figures_a, .inr (3, [.ref figures_sizes_a, .ref figures_numbers_a, .ref figures_sums_a, .ref figures_scatters_a, .ref figures_terms_a, .int (iZ figures_counted), .long (lZ figures_total)])), (figures_sizes_a, .inl (cJ, 4, .inr (.inl (aL figures_sizes_f)))), (figures_numbers_a, .inl (cJ, 4, .inr (.inl (aL figures_numbers_f)))), (figures_scatters_a, .inl (cJ, 4, .inr (.inl (aL figures_scatters_f)))), (strata_a, .inr (6, [.ref strata_sizes_a, .ref strata_costs_a, .ref strata_gone_a, .int (iZ strata_made)])), (strata_costs_a, .inl (cJ, 4, .inr (.inl (aL strata_costs_f)))), (t_terms_aboves_a, .inl (cJ, 4, .inr (.inl (aL ab)))), (t_terms_a, .inr (7, [.ref t_terms_aboves_a, .ref t_terms_belows_a])), (t_terms_belows_a, .inl (cJ, 4, .inr (.inl (aL be))))] := hD
                exact cq_vret hx hb hr hlocks hAe hQ (fw, ms, cs, br, 0, ab, be) ⟨(by (try dsimp only) <;> (exact hfw)), (by (try dsimp only) <;> (exact hms)), (by (try dsimp only) <;> (exact hcs)), (by (try dsimp only) <;> (exact up_end hbr (by omega))), (by (try dsimp only) <;> (first | (rw [hE.2]; done) | (exfalso; omega)))⟩ (hP.sub [0, 1, 2, 3, 4, 12, 11, 13, 5, 6, 7, 8, 9, 10] rfl) (hD.sub [0, 1, 2, 3, 4, 12, 11, 13, 5, 6, 7, 8, 9, 10] (by decide) rfl) hS (by decide) (by decide) dPl_prepare_202
            ·
              refine lv_aload_n hx hb dPl_prepare_134 rfl (lv_at hl 0 rfl) ?_
              refine va_get (D := D) (ci := 4) (v := .ref t_burdens_a) (C := RPl) (T := TPl) (N := 10) hx hb hts layPl hown hK.1 hP 0 rfl rfl 5 (by decide) (hts _ (hm g174)) (fun _ h9 => h9) rfl dPl_prepare_135 ?_
              refine lv_iload hx hb dPl_prepare_138 (lv_at hl 6 rfl) ?_
              refine lv_ldc2 (v := lZ (60)) hx hb hown (hts _ (hm g350)) dPl_prepare_140 ?_
              refine lv_aload_n hx hb dPl_prepare_143 rfl (lv_at hl 0 rfl) ?_
              refine va_get (D := D) (ci := 4) (v := .ref t_terms_a) (C := RPl) (T := TPl) (N := 10) hx hb hts layPl hown hK.1 hP 0 rfl rfl 6 (by decide) (hts _ (hm g175)) (fun _ h9 => h9) rfl dPl_prepare_144 ?_
              refine lv_iload hx hb dPl_prepare_147 (lv_at hl 6 rfl) ?_
              refine lv_lload hx hb dPl_prepare_149 (lv_at hl 5 rfl) ?_
              refine cq_calll (wr := [(t_a, .inr (4, [.ref t_held_a, .ref t_trial_a, .ref t_fewest_a, .ref t_most_a, .ref t_costs_a, .ref t_burdens_a, .ref t_terms_a, .int (iZ t_holds), .long (lZ t_limit), .long (lZ t_cheapest)])), (t_fewest_a, .inl (cI, 4, .inl (aI fw))), (t_most_a, .inl (cI, 4, .inl (aI ms))), (t_costs_a, .inl (cJ, 4, .inr (.inl (aL cs)))), (t_burdens_a, .inl (cJ, 4, .inr (.inl (aL br)))), (figures_a, .inr (3, [.ref figures_sizes_a, .ref figures_numbers_a, .ref figures_sums_a, .ref figures_scatters_a, .ref figures_terms_a, .int (iZ figures_counted), .long (lZ figures_total)])), (figures_sizes_a, .inl (cJ, 4, .inr (.inl (aL figures_sizes_f)))), (figures_numbers_a, .inl (cJ, 4, .inr (.inl (aL figures_numbers_f)))), (figures_scatters_a, .inl (cJ, 4, .inr (.inl (aL figures_scatters_f)))), (strata_a, .inr (6, [.ref strata_sizes_a, .ref strata_costs_a, .ref strata_gone_a, .int (iZ strata_made)])), (strata_costs_a, .inl (cJ, 4, .inr (.inl (aL strata_costs_f))))]) (va_runVN (C := RTm) (As := [.int (iZ i), .long (lZ (cm be 4))]) (rest := [.long (lZ 60), .int (iZ i), .ref t_burdens_a]) ⟨hx, hb, hml, hown, hts⟩ (k_Terms_scaled l D cI cJ cZ t_terms_a t_terms_aboves_a t_terms_belows_a H.size ab be i (cm be 4) (by omega) (by omega) (by omega) (by omega) (by first | assumption | omega) (by first | assumption | omega) (by first | assumption | omega)) ⟨(va_cnB 2 hts (gAll cmTm_scaled) rfl rfl rfl (hK.2.2 _ n50) (hts _ (hm g64)) (by decide +kernel) ⟨Nat.le_of_ble_eq_true rfl, Nat.le_of_ble_eq_true rfl⟩), (hts _ (hm g324)), (hts _ (hm g21))⟩ (cq_preV (va_recv hK.1 hP (ci := 7) (q0 := 12) rfl rfl) (cq_preS hK hP hD [12, 11, 13] (by decide) rfl)) rfl rfl hl.1 rfl (lv_room (Nat.le_of_ble_eq_true rfl)) dPl_prepare_151 ⟨by decide, by decide⟩) hP hD hS hA [12, 11, 13] [0, 1, 2, 3, 4, 5, 6, 7, 8, 9, 10] rfl rfl (by decide) (by decide) (fun r u H locs hw_19 hP hD hS => ?_)
              obtain ⟨o_20, rfl⟩ : ∃ z, z = u := ⟨_, rfl⟩
              try dsimp only at hw_19
              obtain ⟨rfl, rfl⟩ := hw_19
              have hP : va_P D clAll [(t_a, .inr (4, [.ref t_held_a, .ref t_trial_a, .ref t_fewest_a, .ref t_most_a, .ref t_costs_a, .ref t_burdens_a, .ref t_terms_a, .int (iZ t_holds), .long (lZ t_limit), .long (lZ t_cheapest)])), (t_fewest_a, .inl (cI, 4, .inl (aI fw))), (t_most_a, .inl (cI, 4, .inl (aI ms))), (t_costs_a, .inl (cJ, 4, .inr (.inl (aL cs)))), (t_burdens_a, .inl (cJ, 4, .inr (.inl (aL br)))), (figures_a, .inr (3, [.ref figures_sizes_a, .ref figures_numbers_a, .ref figures_sums_a, .ref figures_scatters_a, .ref figures_terms_a, .int (iZ figures_counted), .long (lZ figures_total)])), (figures_sizes_a, .inl (cJ, 4, .inr (.inl (aL figures_sizes_f)))), (figures_numbers_a, .inl (cJ, 4, .inr (.inl (aL figures_numbers_f)))), (figures_scatters_a, .inl (cJ, 4, .inr (.inl (aL figures_scatters_f)))), (strata_a, .inr (6, [.ref strata_sizes_a, .ref strata_costs_a, .ref strata_gone_a, .int (iZ strata_made)])), (strata_costs_a, .inl (cJ, 4, .inr (.inl (aL strata_costs_f)))), (t_terms_a, .inr (7, [.ref t_terms_aboves_a, .ref t_terms_belows_a])), (t_terms_aboves_a, .inl (cJ, 4, .inr (.inl (aL ab)))), (t_terms_belows_a, .inl (cJ, 4, .inr (.inl (aL be))))] H := hP
              have hD : va_D A [(t_a, .inr (4, [.ref t_held_a, .ref t_trial_a, .ref t_fewest_a, .ref t_most_a, .ref t_costs_a, .ref t_burdens_a, .ref t_terms_a, .int (iZ t_holds), .long (lZ t_limit), .long (lZ t_cheapest)])), (t_fewest_a, .inl (cI, 4, .inl (aI fw))), (t_most_a, .inl (cI, 4, .inl (aI ms))), (t_costs_a, .inl (cJ, 4, .inr (.inl (aL cs)))), (t_burdens_a, .inl (cJ, 4, .inr (.inl (aL br)))), (figures_a, .inr (3, [.ref figures_sizes_a, .ref figures_numbers_a, .ref figures_sums_a, .ref figures_scatters_a, .ref figures_terms_a, .int (iZ figures_counted), .long (lZ figures_total)])), (figures_sizes_a, .inl (cJ, 4, .inr (.inl (aL figures_sizes_f)))), (figures_numbers_a, .inl (cJ, 4, .inr (.inl (aL figures_numbers_f)))), (figures_scatters_a, .inl (cJ, 4, .inr (.inl (aL figures_scatters_f)))), (strata_a, .inr (6, [.ref strata_sizes_a, .ref strata_costs_a, .ref strata_gone_a, .int (iZ strata_made)])), (strata_costs_a, .inl (cJ, 4, .inr (.inl (aL strata_costs_f)))), (t_terms_a, .inr (7, [.ref t_terms_aboves_a, .ref t_terms_belows_a])), (t_terms_aboves_a, .inl (cJ, 4, .inr (.inl (aL ab)))), (t_terms_belows_a, .inl (cJ, 4, .inr (.inl (aL be))))] := hD
              refine z_lmul hx hb dPl_prepare_154 ?_
              refine z_last hx hb hK hP hD hS 4 1 rfl rfl (by omega) (by omega) (by decide) dPl_prepare_155 (fun H locs hP hD hS => ?_)
              have hP : va_P D clAll [(t_a, .inr (4, [.ref t_held_a, .ref t_trial_a, .ref t_fewest_a, .ref t_most_a, .ref t_costs_a, .ref t_burdens_a, .ref t_terms_a, .int (iZ t_holds), .long (lZ t_limit), .long (lZ t_cheapest)])), (t_fewest_a, .inl (cI, 4, .inl (aI fw))), (t_most_a, .inl (cI, 4, .inl (aI ms))), (t_costs_a, .inl (cJ, 4, .inr (.inl (aL cs)))), (t_burdens_a, .inl (cJ, 4, .inr (.inl (aL (pu br i (60 * (ab i * ((cm be 4) / be i)))))))), (figures_a, .inr (3, [.ref figures_sizes_a, .ref figures_numbers_a, .ref figures_sums_a, .ref figures_scatters_a, .ref figures_terms_a, .int (iZ figures_counted), .long (lZ figures_total)])), (figures_sizes_a, .inl (cJ, 4, .inr (.inl (aL figures_sizes_f)))), (figures_numbers_a, .inl (cJ, 4, .inr (.inl (aL figures_numbers_f)))), (figures_scatters_a, .inl (cJ, 4, .inr (.inl (aL figures_scatters_f)))), (strata_a, .inr (6, [.ref strata_sizes_a, .ref strata_costs_a, .ref strata_gone_a, .int (iZ strata_made)])), (strata_costs_a, .inl (cJ, 4, .inr (.inl (aL strata_costs_f)))), (t_terms_a, .inr (7, [.ref t_terms_aboves_a, .ref t_terms_belows_a])), (t_terms_aboves_a, .inl (cJ, 4, .inr (.inl (aL ab)))), (t_terms_belows_a, .inl (cJ, 4, .inr (.inl (aL be))))] H := hP
              have hD : va_D A [(t_a, .inr (4, [.ref t_held_a, .ref t_trial_a, .ref t_fewest_a, .ref t_most_a, .ref t_costs_a, .ref t_burdens_a, .ref t_terms_a, .int (iZ t_holds), .long (lZ t_limit), .long (lZ t_cheapest)])), (t_fewest_a, .inl (cI, 4, .inl (aI fw))), (t_most_a, .inl (cI, 4, .inl (aI ms))), (t_costs_a, .inl (cJ, 4, .inr (.inl (aL cs)))), (t_burdens_a, .inl (cJ, 4, .inr (.inl (aL (pu br i (60 * (ab i * ((cm be 4) / be i)))))))), (figures_a, .inr (3, [.ref figures_sizes_a, .ref figures_numbers_a, .ref figures_sums_a, .ref figures_scatters_a, .ref figures_terms_a, .int (iZ figures_counted), .long (lZ figures_total)])), (figures_sizes_a, .inl (cJ, 4, .inr (.inl (aL figures_sizes_f)))), (figures_numbers_a, .inl (cJ, 4, .inr (.inl (aL figures_numbers_f)))), (figures_scatters_a, .inl (cJ, 4, .inr (.inl (aL figures_scatters_f)))), (strata_a, .inr (6, [.ref strata_sizes_a, .ref strata_costs_a, .ref strata_gone_a, .int (iZ strata_made)])), (strata_costs_a, .inl (cJ, 4, .inr (.inl (aL strata_costs_f)))), (t_terms_a, .inr (7, [.ref t_terms_aboves_a, .ref t_terms_belows_a])), (t_terms_aboves_a, .inl (cJ, 4, .inr (.inl (aL ab)))), (t_terms_belows_a, .inl (cJ, 4, .inr (.inl (aL be))))] := hD
              refine lv_iinc (v := iZ (i + 1)) (lv' := [(9, .int (iZ (i + 1))), (0, .ref t_a), (1, .ref figures_a), (2, .ref strata_a), (3, .long (lZ nab)), (5, .long (lZ nbl)), (7, .long (lZ (cm be 4)))]) hx hb dPl_prepare_156 hl (k := 6) rfl (iZ_add i 1) (by decide) rfl (fun ls hl => ?_)
              refine lv_goto (tgt := 128) hx hb dPl_prepare_159 (by decide) ?_
              exact ih_14  (i + 1) (pu br i (60 * (ab i * ((cm be 4) / be i)))) (by omega) (by omega) (by exact pu_upto hbr (br_eq hab hbe hE.2 (by omega) (by omega))) (by omega) _ _ (hP.sub [0, 1, 2, 3, 4, 5, 6, 7, 8, 9, 10, 12, 11, 13] rfl) (hD.sub [0, 1, 2, 3, 4, 5, 6, 7, 8, 9, 10, 12, 11, 13] (by decide) rfl) hS ls (lv_sub hl [1, 2, 3, 4, 5, 6, 0] rfl)
        exact loop_13 ((4 - 0 : Int).toNat + 1) 0 t_burdens_f (by omega) (by omega) (by exact up_0 _ _) (by omega) _ _ (hP.sub [0, 1, 2, 3, 4, 5, 6, 7, 8, 9, 10, 11, 12, 13] rfl) (hD.sub [0, 1, 2, 3, 4, 5, 6, 7, 8, 9, 10, 11, 12, 13] (by decide) rfl) hS ls (lv_sub hl [2, 3, 4, 5, 6, 1, 0] rfl)
      ·
        refine lv_aload_n hx hb dPl_prepare_16 rfl (lv_at hl 1 rfl) ?_
        refine va_getN (D := D) (ci := 3) (v := .ref figures_numbers_a) (C := RFg) (T := TFg) (N := 7) (host := "StratumCounts") hx hb hts layFg hown hK.1 hP 5 rfl rfl 1 (by decide) (va_Nw.use rfl (hK.2.2 _ n15)) (fun _ h9 => h9) rfl dPl_prepare_17 ?_
        refine lv_iload hx hb dPl_prepare_20 (lv_at hl 5 rfl) ?_
        refine z_lald hx hb hK hP 7 1 rfl rfl (by omega) (by omega) (by decide) dPl_prepare_22 ?_
        have f_21 := hnu i (by omega) (by omega)
        refine lv_lconst (v := lZ 1) hx hb dPl_prepare_23 (by decide) ?_
        refine z_lcmp_le (tgt := 32) hx hb (by omega) (by omega) (by omega) (by omega) dPl_prepare_24 dPl_prepare_25 (by decide) (fun c_22 => ?_) (fun c_22 => ?_)
        ·
          refine lv_iconst (v := iZ 0) hx hb dPl_prepare_32 (by decide) ?_
          refine lv_istore (lv' := [(8, .int (iZ 0)), (0, .ref t_a), (1, .ref figures_a), (2, .ref strata_a), (3, .long (lZ nab)), (5, .long (lZ nbl)), (7, .int (iZ i))]) hx hb dPl_prepare_33 hl (by decide) rfl (fun ls hl => ?_)
          refine lv_aload_n hx hb dPl_prepare_35 rfl (lv_at hl 1 rfl) ?_
          refine va_get (D := D) (ci := 4) (v := .ref t_fewest_a) (C := RPl) (T := TPl) (N := 10) hx hb hts layPl hown hK.1 hP 0 rfl rfl 2 (by decide) (hts _ (hm g171)) (fun _ h9 => h9) rfl dPl_prepare_36 ?_
          refine lv_iload hx hb dPl_prepare_39 (lv_at hl 6 rfl) ?_
          refine lv_iload hx hb dPl_prepare_41 (lv_at hl 0 rfl) ?_
          refine z_if_eq (tgt := 50) hx hb (by decide) (by decide) dPl_prepare_43 (by decide) (fun c_23 => ?_) (fun c_23 => absurd c_23 (by decide))
          refine lv_iconst (v := iZ 0) hx hb dPl_prepare_50 (by decide) ?_
          refine z_iast hx hb hK hP hD hS 1 0 rfl rfl (by omega) (by omega) (by decide) dPl_prepare_51 (fun H locs hP hD hS => ?_)
          have hP : va_P D clAll [(t_a, .inr (4, [.ref t_held_a, .ref t_trial_a, .ref t_fewest_a, .ref t_most_a, .ref t_costs_a, .ref t_burdens_a, .ref t_terms_a, .int (iZ t_holds), .long (lZ t_limit), .long (lZ t_cheapest)])), (t_fewest_a, .inl (cI, 4, .inl (aI (pu fw i 0)))), (t_most_a, .inl (cI, 4, .inl (aI ms))), (t_costs_a, .inl (cJ, 4, .inr (.inl (aL cs)))), (t_burdens_a, .inl (cJ, 4, .inr (.inl (aL t_burdens_f)))), (figures_a, .inr (3, [.ref figures_sizes_a, .ref figures_numbers_a, .ref figures_sums_a, .ref figures_scatters_a, .ref figures_terms_a, .int (iZ figures_counted), .long (lZ figures_total)])), (figures_sizes_a, .inl (cJ, 4, .inr (.inl (aL figures_sizes_f)))), (figures_numbers_a, .inl (cJ, 4, .inr (.inl (aL figures_numbers_f)))), (figures_scatters_a, .inl (cJ, 4, .inr (.inl (aL figures_scatters_f)))), (strata_a, .inr (6, [.ref strata_sizes_a, .ref strata_costs_a, .ref strata_gone_a, .int (iZ strata_made)])), (strata_costs_a, .inl (cJ, 4, .inr (.inl (aL strata_costs_f)))), (t_terms_a, .inr (7, [.ref t_terms_aboves_a, .ref t_terms_belows_a])), (t_terms_aboves_a, .inl (cJ, 4, .inr (.inl (aL ab)))), (t_terms_belows_a, .inl (cJ, 4, .inr (.inl (aL be))))] H := hP
          have hD : va_D A [(t_a, .inr (4, [.ref t_held_a, .ref t_trial_a, .ref t_fewest_a, .ref t_most_a, .ref t_costs_a, .ref t_burdens_a, .ref t_terms_a, .int (iZ t_holds), .long (lZ t_limit), .long (lZ t_cheapest)])), (t_fewest_a, .inl (cI, 4, .inl (aI (pu fw i 0)))), (t_most_a, .inl (cI, 4, .inl (aI ms))), (t_costs_a, .inl (cJ, 4, .inr (.inl (aL cs)))), (t_burdens_a, .inl (cJ, 4, .inr (.inl (aL t_burdens_f)))), (figures_a, .inr (3, [.ref figures_sizes_a, .ref figures_numbers_a, .ref figures_sums_a, .ref figures_scatters_a, .ref figures_terms_a, .int (iZ figures_counted), .long (lZ figures_total)])), (figures_sizes_a, .inl (cJ, 4, .inr (.inl (aL figures_sizes_f)))), (figures_numbers_a, .inl (cJ, 4, .inr (.inl (aL figures_numbers_f)))), (figures_scatters_a, .inl (cJ, 4, .inr (.inl (aL figures_scatters_f)))), (strata_a, .inr (6, [.ref strata_sizes_a, .ref strata_costs_a, .ref strata_gone_a, .int (iZ strata_made)])), (strata_costs_a, .inl (cJ, 4, .inr (.inl (aL strata_costs_f)))), (t_terms_a, .inr (7, [.ref t_terms_aboves_a, .ref t_terms_belows_a])), (t_terms_aboves_a, .inl (cJ, 4, .inr (.inl (aL ab)))), (t_terms_belows_a, .inl (cJ, 4, .inr (.inl (aL be))))] := hD
          refine lv_aload_n hx hb dPl_prepare_52 rfl (lv_at hl 1 rfl) ?_
          refine va_get (D := D) (ci := 4) (v := .ref t_most_a) (C := RPl) (T := TPl) (N := 10) hx hb hts layPl hown hK.1 hP 0 rfl rfl 3 (by decide) (hts _ (hm g172)) (fun _ h9 => h9) rfl dPl_prepare_53 ?_
          refine lv_iload hx hb dPl_prepare_56 (lv_at hl 6 rfl) ?_
          refine lv_iload hx hb dPl_prepare_58 (lv_at hl 0 rfl) ?_
          refine z_if_eq (tgt := 68) hx hb (by decide) (by decide) dPl_prepare_60 (by decide) (fun c_24 => ?_) (fun c_24 => absurd c_24 (by decide))
          refine lv_iconst (v := iZ 0) hx hb dPl_prepare_68 (by decide) ?_
          refine z_iast hx hb hK hP hD hS 2 0 rfl rfl (by omega) (by omega) (by decide) dPl_prepare_69 (fun H locs hP hD hS => ?_)
          have hP : va_P D clAll [(t_a, .inr (4, [.ref t_held_a, .ref t_trial_a, .ref t_fewest_a, .ref t_most_a, .ref t_costs_a, .ref t_burdens_a, .ref t_terms_a, .int (iZ t_holds), .long (lZ t_limit), .long (lZ t_cheapest)])), (t_fewest_a, .inl (cI, 4, .inl (aI (pu fw i 0)))), (t_most_a, .inl (cI, 4, .inl (aI (pu ms i 0)))), (t_costs_a, .inl (cJ, 4, .inr (.inl (aL cs)))), (t_burdens_a, .inl (cJ, 4, .inr (.inl (aL t_burdens_f)))), (figures_a, .inr (3, [.ref figures_sizes_a, .ref figures_numbers_a, .ref figures_sums_a, .ref figures_scatters_a, .ref figures_terms_a, .int (iZ figures_counted), .long (lZ figures_total)])), (figures_sizes_a, .inl (cJ, 4, .inr (.inl (aL figures_sizes_f)))), (figures_numbers_a, .inl (cJ, 4, .inr (.inl (aL figures_numbers_f)))), (figures_scatters_a, .inl (cJ, 4, .inr (.inl (aL figures_scatters_f)))), (strata_a, .inr (6, [.ref strata_sizes_a, .ref strata_costs_a, .ref strata_gone_a, .int (iZ strata_made)])), (strata_costs_a, .inl (cJ, 4, .inr (.inl (aL strata_costs_f)))), (t_terms_a, .inr (7, [.ref t_terms_aboves_a, .ref t_terms_belows_a])), (t_terms_aboves_a, .inl (cJ, 4, .inr (.inl (aL ab)))), (t_terms_belows_a, .inl (cJ, 4, .inr (.inl (aL be))))] H := hP
          have hD : va_D A [(t_a, .inr (4, [.ref t_held_a, .ref t_trial_a, .ref t_fewest_a, .ref t_most_a, .ref t_costs_a, .ref t_burdens_a, .ref t_terms_a, .int (iZ t_holds), .long (lZ t_limit), .long (lZ t_cheapest)])), (t_fewest_a, .inl (cI, 4, .inl (aI (pu fw i 0)))), (t_most_a, .inl (cI, 4, .inl (aI (pu ms i 0)))), (t_costs_a, .inl (cJ, 4, .inr (.inl (aL cs)))), (t_burdens_a, .inl (cJ, 4, .inr (.inl (aL t_burdens_f)))), (figures_a, .inr (3, [.ref figures_sizes_a, .ref figures_numbers_a, .ref figures_sums_a, .ref figures_scatters_a, .ref figures_terms_a, .int (iZ figures_counted), .long (lZ figures_total)])), (figures_sizes_a, .inl (cJ, 4, .inr (.inl (aL figures_sizes_f)))), (figures_numbers_a, .inl (cJ, 4, .inr (.inl (aL figures_numbers_f)))), (figures_scatters_a, .inl (cJ, 4, .inr (.inl (aL figures_scatters_f)))), (strata_a, .inr (6, [.ref strata_sizes_a, .ref strata_costs_a, .ref strata_gone_a, .int (iZ strata_made)])), (strata_costs_a, .inl (cJ, 4, .inr (.inl (aL strata_costs_f)))), (t_terms_a, .inr (7, [.ref t_terms_aboves_a, .ref t_terms_belows_a])), (t_terms_aboves_a, .inl (cJ, 4, .inr (.inl (aL ab)))), (t_terms_belows_a, .inl (cJ, 4, .inr (.inl (aL be))))] := hD
          refine lv_aload_n hx hb dPl_prepare_70 rfl (lv_at hl 1 rfl) ?_
          refine va_get (D := D) (ci := 4) (v := .ref t_costs_a) (C := RPl) (T := TPl) (N := 10) hx hb hts layPl hown hK.1 hP 0 rfl rfl 4 (by decide) (hts _ (hm g173)) (fun _ h9 => h9) rfl dPl_prepare_71 ?_
          refine lv_iload hx hb dPl_prepare_74 (lv_at hl 6 rfl) ?_
          refine lv_aload_n hx hb dPl_prepare_76 rfl (lv_at hl 3 rfl) ?_
          refine va_getN (D := D) (ci := 6) (v := .ref strata_costs_a) (C := RSt) (T := TSt) (N := 4) (host := "StratumCounts") hx hb hts laySt hown hK.1 hP 9 rfl rfl 1 (by decide) (va_Nw.use rfl (hK.2.2 _ n3)) (fun _ h9 => h9) rfl dPl_prepare_77 ?_
          refine lv_iload hx hb dPl_prepare_80 (lv_at hl 6 rfl) ?_
          refine z_lald hx hb hK hP 10 1 rfl rfl (by omega) (by omega) (by decide) dPl_prepare_82 ?_
          have f_25 := hsco i (by omega) (by omega)
          refine z_last hx hb hK hP hD hS 3 1 rfl rfl (by omega) (by omega) (by decide) dPl_prepare_83 (fun H locs hP hD hS => ?_)
          have hP : va_P D clAll [(t_a, .inr (4, [.ref t_held_a, .ref t_trial_a, .ref t_fewest_a, .ref t_most_a, .ref t_costs_a, .ref t_burdens_a, .ref t_terms_a, .int (iZ t_holds), .long (lZ t_limit), .long (lZ t_cheapest)])), (t_fewest_a, .inl (cI, 4, .inl (aI (pu fw i 0)))), (t_most_a, .inl (cI, 4, .inl (aI (pu ms i 0)))), (t_costs_a, .inl (cJ, 4, .inr (.inl (aL (pu cs i (strata_costs_f i)))))), (t_burdens_a, .inl (cJ, 4, .inr (.inl (aL t_burdens_f)))), (figures_a, .inr (3, [.ref figures_sizes_a, .ref figures_numbers_a, .ref figures_sums_a, .ref figures_scatters_a, .ref figures_terms_a, .int (iZ figures_counted), .long (lZ figures_total)])), (figures_sizes_a, .inl (cJ, 4, .inr (.inl (aL figures_sizes_f)))), (figures_numbers_a, .inl (cJ, 4, .inr (.inl (aL figures_numbers_f)))), (figures_scatters_a, .inl (cJ, 4, .inr (.inl (aL figures_scatters_f)))), (strata_a, .inr (6, [.ref strata_sizes_a, .ref strata_costs_a, .ref strata_gone_a, .int (iZ strata_made)])), (strata_costs_a, .inl (cJ, 4, .inr (.inl (aL strata_costs_f)))), (t_terms_a, .inr (7, [.ref t_terms_aboves_a, .ref t_terms_belows_a])), (t_terms_aboves_a, .inl (cJ, 4, .inr (.inl (aL ab)))), (t_terms_belows_a, .inl (cJ, 4, .inr (.inl (aL be))))] H := hP
          have hD : va_D A [(t_a, .inr (4, [.ref t_held_a, .ref t_trial_a, .ref t_fewest_a, .ref t_most_a, .ref t_costs_a, .ref t_burdens_a, .ref t_terms_a, .int (iZ t_holds), .long (lZ t_limit), .long (lZ t_cheapest)])), (t_fewest_a, .inl (cI, 4, .inl (aI (pu fw i 0)))), (t_most_a, .inl (cI, 4, .inl (aI (pu ms i 0)))), (t_costs_a, .inl (cJ, 4, .inr (.inl (aL (pu cs i (strata_costs_f i)))))), (t_burdens_a, .inl (cJ, 4, .inr (.inl (aL t_burdens_f)))), (figures_a, .inr (3, [.ref figures_sizes_a, .ref figures_numbers_a, .ref figures_sums_a, .ref figures_scatters_a, .ref figures_terms_a, .int (iZ figures_counted), .long (lZ figures_total)])), (figures_sizes_a, .inl (cJ, 4, .inr (.inl (aL figures_sizes_f)))), (figures_numbers_a, .inl (cJ, 4, .inr (.inl (aL figures_numbers_f)))), (figures_scatters_a, .inl (cJ, 4, .inr (.inl (aL figures_scatters_f)))), (strata_a, .inr (6, [.ref strata_sizes_a, .ref strata_costs_a, .ref strata_gone_a, .int (iZ strata_made)])), (strata_costs_a, .inl (cJ, 4, .inr (.inl (aL strata_costs_f)))), (t_terms_a, .inr (7, [.ref t_terms_aboves_a, .ref t_terms_belows_a])), (t_terms_aboves_a, .inl (cJ, 4, .inr (.inl (aL ab)))), (t_terms_belows_a, .inl (cJ, 4, .inr (.inl (aL be))))] := hD
          refine lv_iload hx hb dPl_prepare_84 (lv_at hl 0 rfl) ?_
          refine z_if_eq (tgt := 110) hx hb (by decide) (by decide) dPl_prepare_86 (by decide) (fun c_26 => ?_) (fun c_26 => absurd c_26 (by decide))
          refine lv_iinc (v := iZ (i + 1)) (lv' := [(7, .int (iZ (i + 1))), (8, .int (iZ 0)), (0, .ref t_a), (1, .ref figures_a), (2, .ref strata_a), (3, .long (lZ nab)), (5, .long (lZ nbl))]) hx hb dPl_prepare_110 hl (k := 6) rfl (iZ_add i 1) (by decide) rfl (fun ls hl => ?_)
          refine lv_goto (tgt := 10) hx hb dPl_prepare_113 (by decide) ?_
          exact ih_7  (i + 1) (pu fw i 0) (pu ms i 0) (pu cs i (strata_costs_f i)) ab be (by omega) (by omega) (by first | exact pu_upto (g := fun j => if 1 < figures_numbers_f j then 1 else 0) hfw (if_pos (by assumption)).symm | exact pu_upto (g := fun j => if 1 < figures_numbers_f j then 1 else 0) hfw (if_neg (by assumption)).symm) (by first | exact pu_upto (g := fun j => if 1 < figures_numbers_f j then 6 else 0) hms (if_pos (by assumption)).symm | exact pu_upto (g := fun j => if 1 < figures_numbers_f j then 6 else 0) hms (if_neg (by assumption)).symm) (by exact pu_upto hcs rfl) (by first | exact tA_hit (a := (fun j => figures_sizes_f j * figures_sizes_f j * figures_scatters_f j)) hab (by assumption) | exact tA_miss hab (by assumption)) (by first | exact tB_hit (b := (fun j => figures_numbers_f j * (figures_numbers_f j - 1))) hbe (by assumption) | exact tB_miss hbe (by assumption)) (by omega) _ _ (hP.sub [0, 1, 2, 3, 4, 5, 6, 7, 8, 9, 10, 11, 12, 13] rfl) (hD.sub [0, 1, 2, 3, 4, 5, 6, 7, 8, 9, 10, 11, 12, 13] (by decide) rfl) hS ls (lv_sub hl [2, 3, 4, 5, 6, 0] rfl)
        ·
          refine lv_iconst (v := iZ 1) hx hb dPl_prepare_28 (by decide) ?_
          refine lv_goto (tgt := 33) hx hb dPl_prepare_29 (by decide) ?_
          refine lv_istore (lv' := [(8, .int (iZ 1)), (0, .ref t_a), (1, .ref figures_a), (2, .ref strata_a), (3, .long (lZ nab)), (5, .long (lZ nbl)), (7, .int (iZ i))]) hx hb dPl_prepare_33 hl (by decide) rfl (fun ls hl => ?_)
          refine lv_aload_n hx hb dPl_prepare_35 rfl (lv_at hl 1 rfl) ?_
          refine va_get (D := D) (ci := 4) (v := .ref t_fewest_a) (C := RPl) (T := TPl) (N := 10) hx hb hts layPl hown hK.1 hP 0 rfl rfl 2 (by decide) (hts _ (hm g171)) (fun _ h9 => h9) rfl dPl_prepare_36 ?_
          refine lv_iload hx hb dPl_prepare_39 (lv_at hl 6 rfl) ?_
          refine lv_iload hx hb dPl_prepare_41 (lv_at hl 0 rfl) ?_
          refine z_if_eq (tgt := 50) hx hb (by decide) (by decide) dPl_prepare_43 (by decide) (fun c_27 => absurd c_27 (by decide)) (fun c_27 => ?_)
          refine lv_iconst (v := iZ 1) hx hb dPl_prepare_46 (by decide) ?_
          refine lv_goto (tgt := 51) hx hb dPl_prepare_47 (by decide) ?_
          refine z_iast hx hb hK hP hD hS 1 0 rfl rfl (by omega) (by omega) (by decide) dPl_prepare_51 (fun H locs hP hD hS => ?_)
          have hP : va_P D clAll [(t_a, .inr (4, [.ref t_held_a, .ref t_trial_a, .ref t_fewest_a, .ref t_most_a, .ref t_costs_a, .ref t_burdens_a, .ref t_terms_a, .int (iZ t_holds), .long (lZ t_limit), .long (lZ t_cheapest)])), (t_fewest_a, .inl (cI, 4, .inl (aI (pu fw i 1)))), (t_most_a, .inl (cI, 4, .inl (aI ms))), (t_costs_a, .inl (cJ, 4, .inr (.inl (aL cs)))), (t_burdens_a, .inl (cJ, 4, .inr (.inl (aL t_burdens_f)))), (figures_a, .inr (3, [.ref figures_sizes_a, .ref figures_numbers_a, .ref figures_sums_a, .ref figures_scatters_a, .ref figures_terms_a, .int (iZ figures_counted), .long (lZ figures_total)])), (figures_sizes_a, .inl (cJ, 4, .inr (.inl (aL figures_sizes_f)))), (figures_numbers_a, .inl (cJ, 4, .inr (.inl (aL figures_numbers_f)))), (figures_scatters_a, .inl (cJ, 4, .inr (.inl (aL figures_scatters_f)))), (strata_a, .inr (6, [.ref strata_sizes_a, .ref strata_costs_a, .ref strata_gone_a, .int (iZ strata_made)])), (strata_costs_a, .inl (cJ, 4, .inr (.inl (aL strata_costs_f)))), (t_terms_a, .inr (7, [.ref t_terms_aboves_a, .ref t_terms_belows_a])), (t_terms_aboves_a, .inl (cJ, 4, .inr (.inl (aL ab)))), (t_terms_belows_a, .inl (cJ, 4, .inr (.inl (aL be))))] H := hP
          have hD : va_D A [(t_a, .inr (4, [.ref t_held_a, .ref t_trial_a, .ref t_fewest_a, .ref t_most_a, .ref t_costs_a, .ref t_burdens_a, .ref t_terms_a, .int (iZ t_holds), .long (lZ t_limit), .long (lZ t_cheapest)])), (t_fewest_a, .inl (cI, 4, .inl (aI (pu fw i 1)))), (t_most_a, .inl (cI, 4, .inl (aI ms))), (t_costs_a, .inl (cJ, 4, .inr (.inl (aL cs)))), (t_burdens_a, .inl (cJ, 4, .inr (.inl (aL t_burdens_f)))), (figures_a, .inr (3, [.ref figures_sizes_a, .ref figures_numbers_a, .ref figures_sums_a, .ref figures_scatters_a, .ref figures_terms_a, .int (iZ figures_counted), .long (lZ figures_total)])), (figures_sizes_a, .inl (cJ, 4, .inr (.inl (aL figures_sizes_f)))), (figures_numbers_a, .inl (cJ, 4, .inr (.inl (aL figures_numbers_f)))), (figures_scatters_a, .inl (cJ, 4, .inr (.inl (aL figures_scatters_f)))), (strata_a, .inr (6, [.ref strata_sizes_a, .ref strata_costs_a, .ref strata_gone_a, .int (iZ strata_made)])), (strata_costs_a, .inl (cJ, 4, .inr (.inl (aL strata_costs_f)))), (t_terms_a, .inr (7, [.ref t_terms_aboves_a, .ref t_terms_belows_a])), (t_terms_aboves_a, .inl (cJ, 4, .inr (.inl (aL ab)))), (t_terms_belows_a, .inl (cJ, 4, .inr (.inl (aL be))))] := hD
          refine lv_aload_n hx hb dPl_prepare_52 rfl (lv_at hl 1 rfl) ?_
          refine va_get (D := D) (ci := 4) (v := .ref t_most_a) (C := RPl) (T := TPl) (N := 10) hx hb hts layPl hown hK.1 hP 0 rfl rfl 3 (by decide) (hts _ (hm g172)) (fun _ h9 => h9) rfl dPl_prepare_53 ?_
          refine lv_iload hx hb dPl_prepare_56 (lv_at hl 6 rfl) ?_
          refine lv_iload hx hb dPl_prepare_58 (lv_at hl 0 rfl) ?_
          refine z_if_eq (tgt := 68) hx hb (by decide) (by decide) dPl_prepare_60 (by decide) (fun c_28 => absurd c_28 (by decide)) (fun c_28 => ?_)
          refine lv_bipush (v := iZ (6)) hx hb dPl_prepare_63 (by decide) ?_
          refine lv_goto (tgt := 69) hx hb dPl_prepare_65 (by decide) ?_
          refine z_iast hx hb hK hP hD hS 2 0 rfl rfl (by omega) (by omega) (by decide) dPl_prepare_69 (fun H locs hP hD hS => ?_)
          have hP : va_P D clAll [(t_a, .inr (4, [.ref t_held_a, .ref t_trial_a, .ref t_fewest_a, .ref t_most_a, .ref t_costs_a, .ref t_burdens_a, .ref t_terms_a, .int (iZ t_holds), .long (lZ t_limit), .long (lZ t_cheapest)])), (t_fewest_a, .inl (cI, 4, .inl (aI (pu fw i 1)))), (t_most_a, .inl (cI, 4, .inl (aI (pu ms i 6)))), (t_costs_a, .inl (cJ, 4, .inr (.inl (aL cs)))), (t_burdens_a, .inl (cJ, 4, .inr (.inl (aL t_burdens_f)))), (figures_a, .inr (3, [.ref figures_sizes_a, .ref figures_numbers_a, .ref figures_sums_a, .ref figures_scatters_a, .ref figures_terms_a, .int (iZ figures_counted), .long (lZ figures_total)])), (figures_sizes_a, .inl (cJ, 4, .inr (.inl (aL figures_sizes_f)))), (figures_numbers_a, .inl (cJ, 4, .inr (.inl (aL figures_numbers_f)))), (figures_scatters_a, .inl (cJ, 4, .inr (.inl (aL figures_scatters_f)))), (strata_a, .inr (6, [.ref strata_sizes_a, .ref strata_costs_a, .ref strata_gone_a, .int (iZ strata_made)])), (strata_costs_a, .inl (cJ, 4, .inr (.inl (aL strata_costs_f)))), (t_terms_a, .inr (7, [.ref t_terms_aboves_a, .ref t_terms_belows_a])), (t_terms_aboves_a, .inl (cJ, 4, .inr (.inl (aL ab)))), (t_terms_belows_a, .inl (cJ, 4, .inr (.inl (aL be))))] H := hP
          have hD : va_D A [(t_a, .inr (4, [.ref t_held_a, .ref t_trial_a, .ref t_fewest_a, .ref t_most_a, .ref t_costs_a, .ref t_burdens_a, .ref t_terms_a, .int (iZ t_holds), .long (lZ t_limit), .long (lZ t_cheapest)])), (t_fewest_a, .inl (cI, 4, .inl (aI (pu fw i 1)))), (t_most_a, .inl (cI, 4, .inl (aI (pu ms i 6)))), (t_costs_a, .inl (cJ, 4, .inr (.inl (aL cs)))), (t_burdens_a, .inl (cJ, 4, .inr (.inl (aL t_burdens_f)))), (figures_a, .inr (3, [.ref figures_sizes_a, .ref figures_numbers_a, .ref figures_sums_a, .ref figures_scatters_a, .ref figures_terms_a, .int (iZ figures_counted), .long (lZ figures_total)])), (figures_sizes_a, .inl (cJ, 4, .inr (.inl (aL figures_sizes_f)))), (figures_numbers_a, .inl (cJ, 4, .inr (.inl (aL figures_numbers_f)))), (figures_scatters_a, .inl (cJ, 4, .inr (.inl (aL figures_scatters_f)))), (strata_a, .inr (6, [.ref strata_sizes_a, .ref strata_costs_a, .ref strata_gone_a, .int (iZ strata_made)])), (strata_costs_a, .inl (cJ, 4, .inr (.inl (aL strata_costs_f)))), (t_terms_a, .inr (7, [.ref t_terms_aboves_a, .ref t_terms_belows_a])), (t_terms_aboves_a, .inl (cJ, 4, .inr (.inl (aL ab)))), (t_terms_belows_a, .inl (cJ, 4, .inr (.inl (aL be))))] := hD
          refine lv_aload_n hx hb dPl_prepare_70 rfl (lv_at hl 1 rfl) ?_
          refine va_get (D := D) (ci := 4) (v := .ref t_costs_a) (C := RPl) (T := TPl) (N := 10) hx hb hts layPl hown hK.1 hP 0 rfl rfl 4 (by decide) (hts _ (hm g173)) (fun _ h9 => h9) rfl dPl_prepare_71 ?_
          refine lv_iload hx hb dPl_prepare_74 (lv_at hl 6 rfl) ?_
          refine lv_aload_n hx hb dPl_prepare_76 rfl (lv_at hl 3 rfl) ?_
          refine va_getN (D := D) (ci := 6) (v := .ref strata_costs_a) (C := RSt) (T := TSt) (N := 4) (host := "StratumCounts") hx hb hts laySt hown hK.1 hP 9 rfl rfl 1 (by decide) (va_Nw.use rfl (hK.2.2 _ n3)) (fun _ h9 => h9) rfl dPl_prepare_77 ?_
          refine lv_iload hx hb dPl_prepare_80 (lv_at hl 6 rfl) ?_
          refine z_lald hx hb hK hP 10 1 rfl rfl (by omega) (by omega) (by decide) dPl_prepare_82 ?_
          have f_29 := hsco i (by omega) (by omega)
          refine z_last hx hb hK hP hD hS 3 1 rfl rfl (by omega) (by omega) (by decide) dPl_prepare_83 (fun H locs hP hD hS => ?_)
          have hP : va_P D clAll [(t_a, .inr (4, [.ref t_held_a, .ref t_trial_a, .ref t_fewest_a, .ref t_most_a, .ref t_costs_a, .ref t_burdens_a, .ref t_terms_a, .int (iZ t_holds), .long (lZ t_limit), .long (lZ t_cheapest)])), (t_fewest_a, .inl (cI, 4, .inl (aI (pu fw i 1)))), (t_most_a, .inl (cI, 4, .inl (aI (pu ms i 6)))), (t_costs_a, .inl (cJ, 4, .inr (.inl (aL (pu cs i (strata_costs_f i)))))), (t_burdens_a, .inl (cJ, 4, .inr (.inl (aL t_burdens_f)))), (figures_a, .inr (3, [.ref figures_sizes_a, .ref figures_numbers_a, .ref figures_sums_a, .ref figures_scatters_a, .ref figures_terms_a, .int (iZ figures_counted), .long (lZ figures_total)])), (figures_sizes_a, .inl (cJ, 4, .inr (.inl (aL figures_sizes_f)))), (figures_numbers_a, .inl (cJ, 4, .inr (.inl (aL figures_numbers_f)))), (figures_scatters_a, .inl (cJ, 4, .inr (.inl (aL figures_scatters_f)))), (strata_a, .inr (6, [.ref strata_sizes_a, .ref strata_costs_a, .ref strata_gone_a, .int (iZ strata_made)])), (strata_costs_a, .inl (cJ, 4, .inr (.inl (aL strata_costs_f)))), (t_terms_a, .inr (7, [.ref t_terms_aboves_a, .ref t_terms_belows_a])), (t_terms_aboves_a, .inl (cJ, 4, .inr (.inl (aL ab)))), (t_terms_belows_a, .inl (cJ, 4, .inr (.inl (aL be))))] H := hP
          have hD : va_D A [(t_a, .inr (4, [.ref t_held_a, .ref t_trial_a, .ref t_fewest_a, .ref t_most_a, .ref t_costs_a, .ref t_burdens_a, .ref t_terms_a, .int (iZ t_holds), .long (lZ t_limit), .long (lZ t_cheapest)])), (t_fewest_a, .inl (cI, 4, .inl (aI (pu fw i 1)))), (t_most_a, .inl (cI, 4, .inl (aI (pu ms i 6)))), (t_costs_a, .inl (cJ, 4, .inr (.inl (aL (pu cs i (strata_costs_f i)))))), (t_burdens_a, .inl (cJ, 4, .inr (.inl (aL t_burdens_f)))), (figures_a, .inr (3, [.ref figures_sizes_a, .ref figures_numbers_a, .ref figures_sums_a, .ref figures_scatters_a, .ref figures_terms_a, .int (iZ figures_counted), .long (lZ figures_total)])), (figures_sizes_a, .inl (cJ, 4, .inr (.inl (aL figures_sizes_f)))), (figures_numbers_a, .inl (cJ, 4, .inr (.inl (aL figures_numbers_f)))), (figures_scatters_a, .inl (cJ, 4, .inr (.inl (aL figures_scatters_f)))), (strata_a, .inr (6, [.ref strata_sizes_a, .ref strata_costs_a, .ref strata_gone_a, .int (iZ strata_made)])), (strata_costs_a, .inl (cJ, 4, .inr (.inl (aL strata_costs_f)))), (t_terms_a, .inr (7, [.ref t_terms_aboves_a, .ref t_terms_belows_a])), (t_terms_aboves_a, .inl (cJ, 4, .inr (.inl (aL ab)))), (t_terms_belows_a, .inl (cJ, 4, .inr (.inl (aL be))))] := hD
          refine lv_iload hx hb dPl_prepare_84 (lv_at hl 0 rfl) ?_
          refine z_if_eq (tgt := 110) hx hb (by decide) (by decide) dPl_prepare_86 (by decide) (fun c_30 => absurd c_30 (by decide)) (fun c_30 => ?_)
          refine lv_aload_n hx hb dPl_prepare_89 rfl (lv_at hl 1 rfl) ?_
          refine va_get (D := D) (ci := 4) (v := .ref t_terms_a) (C := RPl) (T := TPl) (N := 10) hx hb hts layPl hown hK.1 hP 0 rfl rfl 6 (by decide) (hts _ (hm g175)) (fun _ h9 => h9) rfl dPl_prepare_90 ?_
          refine lv_iload hx hb dPl_prepare_93 (lv_at hl 6 rfl) ?_
          refine lv_aload_n hx hb dPl_prepare_95 rfl (lv_at hl 2 rfl) ?_
          refine lv_iload hx hb dPl_prepare_96 (lv_at hl 6 rfl) ?_
          refine cq_calll (wr := [(t_a, .inr (4, [.ref t_held_a, .ref t_trial_a, .ref t_fewest_a, .ref t_most_a, .ref t_costs_a, .ref t_burdens_a, .ref t_terms_a, .int (iZ t_holds), .long (lZ t_limit), .long (lZ t_cheapest)])), (t_fewest_a, .inl (cI, 4, .inl (aI (pu fw i 1)))), (t_most_a, .inl (cI, 4, .inl (aI (pu ms i 6)))), (t_costs_a, .inl (cJ, 4, .inr (.inl (aL (pu cs i (strata_costs_f i)))))), (t_burdens_a, .inl (cJ, 4, .inr (.inl (aL t_burdens_f)))), (figures_numbers_a, .inl (cJ, 4, .inr (.inl (aL figures_numbers_f)))), (strata_a, .inr (6, [.ref strata_sizes_a, .ref strata_costs_a, .ref strata_gone_a, .int (iZ strata_made)])), (strata_costs_a, .inl (cJ, 4, .inr (.inl (aL strata_costs_f)))), (t_terms_a, .inr (7, [.ref t_terms_aboves_a, .ref t_terms_belows_a])), (t_terms_aboves_a, .inl (cJ, 4, .inr (.inl (aL ab)))), (t_terms_belows_a, .inl (cJ, 4, .inr (.inl (aL be))))]) (va_runVN (C := RFg) (As := [.int (iZ i)]) (rest := [.int (iZ i), .ref t_terms_a]) ⟨hx, hb, hml, hown, hts⟩ (k_Figures_weighedScatter l D cI cJ cZ figures_a figures_sizes_a figures_numbers_a figures_sums_a figures_scatters_a figures_terms_a H.size figures_counted figures_total figures_sizes_f figures_scatters_f i (by omega) (by omega) (by first | assumption | omega)) ⟨(va_cnB 1 hts (gAll cmFg_weighedScatter) rfl rfl rfl (hK.2.2 _ n46) (hts _ (hm g63)) (by decide +kernel) ⟨Nat.le_of_ble_eq_true rfl, Nat.le_of_ble_eq_true rfl⟩), (hts _ (hm g337)), (hts _ (hm g24))⟩ (cq_preV (va_recv hK.1 hP (ci := 3) (q0 := 5) rfl rfl) (cq_preS hK hP hD [5, 6, 8] (by decide) rfl)) rfl rfl hl.1 rfl (lv_room (Nat.le_of_ble_eq_true rfl)) dPl_prepare_98 ⟨by decide, by decide⟩) hP hD hS hA [5, 6, 8] [0, 1, 2, 3, 4, 7, 9, 10, 11, 12, 13] rfl rfl (by decide) (by decide) (fun r u H locs hw_31 hP hD hS => ?_)
          obtain ⟨o_32, rfl⟩ : ∃ z, z = u := ⟨_, rfl⟩
          try dsimp only at hw_31
          obtain ⟨rfl, rfl⟩ := hw_31
          have hP : va_P D clAll [(t_a, .inr (4, [.ref t_held_a, .ref t_trial_a, .ref t_fewest_a, .ref t_most_a, .ref t_costs_a, .ref t_burdens_a, .ref t_terms_a, .int (iZ t_holds), .long (lZ t_limit), .long (lZ t_cheapest)])), (t_fewest_a, .inl (cI, 4, .inl (aI (pu fw i 1)))), (t_most_a, .inl (cI, 4, .inl (aI (pu ms i 6)))), (t_costs_a, .inl (cJ, 4, .inr (.inl (aL (pu cs i (strata_costs_f i)))))), (t_burdens_a, .inl (cJ, 4, .inr (.inl (aL t_burdens_f)))), (figures_numbers_a, .inl (cJ, 4, .inr (.inl (aL figures_numbers_f)))), (strata_a, .inr (6, [.ref strata_sizes_a, .ref strata_costs_a, .ref strata_gone_a, .int (iZ strata_made)])), (strata_costs_a, .inl (cJ, 4, .inr (.inl (aL strata_costs_f)))), (t_terms_a, .inr (7, [.ref t_terms_aboves_a, .ref t_terms_belows_a])), (t_terms_aboves_a, .inl (cJ, 4, .inr (.inl (aL ab)))), (t_terms_belows_a, .inl (cJ, 4, .inr (.inl (aL be)))), (figures_a, .inr (3, [.ref figures_sizes_a, .ref figures_numbers_a, .ref figures_sums_a, .ref figures_scatters_a, .ref figures_terms_a, .int (iZ figures_counted), .long (lZ figures_total)])), (figures_sizes_a, .inl (cJ, 4, .inr (.inl (aL figures_sizes_f)))), (figures_scatters_a, .inl (cJ, 4, .inr (.inl (aL figures_scatters_f))))] H := hP
          have hD : va_D A [(t_a, .inr (4, [.ref t_held_a, .ref t_trial_a, .ref t_fewest_a, .ref t_most_a, .ref t_costs_a, .ref t_burdens_a, .ref t_terms_a, .int (iZ t_holds), .long (lZ t_limit), .long (lZ t_cheapest)])), (t_fewest_a, .inl (cI, 4, .inl (aI (pu fw i 1)))), (t_most_a, .inl (cI, 4, .inl (aI (pu ms i 6)))), (t_costs_a, .inl (cJ, 4, .inr (.inl (aL (pu cs i (strata_costs_f i)))))), (t_burdens_a, .inl (cJ, 4, .inr (.inl (aL t_burdens_f)))), (figures_numbers_a, .inl (cJ, 4, .inr (.inl (aL figures_numbers_f)))), (strata_a, .inr (6, [.ref strata_sizes_a, .ref strata_costs_a, .ref strata_gone_a, .int (iZ strata_made)])), (strata_costs_a, .inl (cJ, 4, .inr (.inl (aL strata_costs_f)))), (t_terms_a, .inr (7, [.ref t_terms_aboves_a, .ref t_terms_belows_a])), (t_terms_aboves_a, .inl (cJ, 4, .inr (.inl (aL ab)))), (t_terms_belows_a, .inl (cJ, 4, .inr (.inl (aL be)))), (figures_a, .inr (3, [.ref figures_sizes_a, .ref figures_numbers_a, .ref figures_sums_a, .ref figures_scatters_a, .ref figures_terms_a, .int (iZ figures_counted), .long (lZ figures_total)])), (figures_sizes_a, .inl (cJ, 4, .inr (.inl (aL figures_sizes_f)))), (figures_scatters_a, .inl (cJ, 4, .inr (.inl (aL figures_scatters_f))))] := hD
          refine lv_aload_n hx hb dPl_prepare_101 rfl (lv_at hl 2 rfl) ?_
          refine lv_iload hx hb dPl_prepare_102 (lv_at hl 6 rfl) ?_
          refine cq_calll (wr := [(t_a, .inr (4, [.ref t_held_a, .ref t_trial_a, .ref t_fewest_a, .ref t_most_a, .ref t_costs_a, .ref t_burdens_a, .ref t_terms_a, .int (iZ t_holds), .long (lZ t_limit), .long (lZ t_cheapest)])), (t_fewest_a, .inl (cI, 4, .inl (aI (pu fw i 1)))), (t_most_a, .inl (cI, 4, .inl (aI (pu ms i 6)))), (t_costs_a, .inl (cJ, 4, .inr (.inl (aL (pu cs i (strata_costs_f i)))))), (t_burdens_a, .inl (cJ, 4, .inr (.inl (aL t_burdens_f)))), (strata_a, .inr (6, [.ref strata_sizes_a, .ref strata_costs_a, .ref strata_gone_a, .int (iZ strata_made)])), (strata_costs_a, .inl (cJ, 4, .inr (.inl (aL strata_costs_f)))), (t_terms_a, .inr (7, [.ref t_terms_aboves_a, .ref t_terms_belows_a])), (t_terms_aboves_a, .inl (cJ, 4, .inr (.inl (aL ab)))), (t_terms_belows_a, .inl (cJ, 4, .inr (.inl (aL be)))), (figures_sizes_a, .inl (cJ, 4, .inr (.inl (aL figures_sizes_f)))), (figures_scatters_a, .inl (cJ, 4, .inr (.inl (aL figures_scatters_f))))]) (va_runVN (C := RFg) (As := [.int (iZ i)]) (rest := [.long (lZ (figures_sizes_f i * figures_sizes_f i * figures_scatters_f i)), .int (iZ i), .ref t_terms_a]) ⟨hx, hb, hml, hown, hts⟩ (k_Figures_pairs l D cI cJ cZ figures_a figures_sizes_a figures_numbers_a figures_sums_a figures_scatters_a figures_terms_a H.size figures_counted figures_total figures_numbers_f i (by omega) (by omega) (by first | assumption | omega)) ⟨(va_cnB 1 hts (gAll cmFg_pairs) rfl rfl rfl (hK.2.2 _ n47) (hts _ (hm g63)) (by decide +kernel) ⟨Nat.le_of_ble_eq_true rfl, Nat.le_of_ble_eq_true rfl⟩), (hts _ (hm g340)), (hts _ (hm g25))⟩ (cq_preV (va_recv hK.1 hP (ci := 3) (q0 := 11) rfl rfl) (cq_preS hK hP hD [11, 5] (by decide) rfl)) rfl rfl hl.1 rfl (lv_room (Nat.le_of_ble_eq_true rfl)) dPl_prepare_104 ⟨by decide, by decide⟩) hP hD hS hA [11, 5] [0, 1, 2, 3, 4, 6, 7, 8, 9, 10, 12, 13] rfl rfl (by decide) (by decide) (fun r u H locs hw_33 hP hD hS => ?_)
          obtain ⟨o_34, rfl⟩ : ∃ z, z = u := ⟨_, rfl⟩
          try dsimp only at hw_33
          obtain ⟨rfl, rfl⟩ := hw_33
          have hP : va_P D clAll [(t_a, .inr (4, [.ref t_held_a, .ref t_trial_a, .ref t_fewest_a, .ref t_most_a, .ref t_costs_a, .ref t_burdens_a, .ref t_terms_a, .int (iZ t_holds), .long (lZ t_limit), .long (lZ t_cheapest)])), (t_fewest_a, .inl (cI, 4, .inl (aI (pu fw i 1)))), (t_most_a, .inl (cI, 4, .inl (aI (pu ms i 6)))), (t_costs_a, .inl (cJ, 4, .inr (.inl (aL (pu cs i (strata_costs_f i)))))), (t_burdens_a, .inl (cJ, 4, .inr (.inl (aL t_burdens_f)))), (strata_a, .inr (6, [.ref strata_sizes_a, .ref strata_costs_a, .ref strata_gone_a, .int (iZ strata_made)])), (strata_costs_a, .inl (cJ, 4, .inr (.inl (aL strata_costs_f)))), (t_terms_a, .inr (7, [.ref t_terms_aboves_a, .ref t_terms_belows_a])), (t_terms_aboves_a, .inl (cJ, 4, .inr (.inl (aL ab)))), (t_terms_belows_a, .inl (cJ, 4, .inr (.inl (aL be)))), (figures_sizes_a, .inl (cJ, 4, .inr (.inl (aL figures_sizes_f)))), (figures_scatters_a, .inl (cJ, 4, .inr (.inl (aL figures_scatters_f)))), (figures_a, .inr (3, [.ref figures_sizes_a, .ref figures_numbers_a, .ref figures_sums_a, .ref figures_scatters_a, .ref figures_terms_a, .int (iZ figures_counted), .long (lZ figures_total)])), (figures_numbers_a, .inl (cJ, 4, .inr (.inl (aL figures_numbers_f))))] H := hP
          have hD : va_D A [(t_a, .inr (4, [.ref t_held_a, .ref t_trial_a, .ref t_fewest_a, .ref t_most_a, .ref t_costs_a, .ref t_burdens_a, .ref t_terms_a, .int (iZ t_holds), .long (lZ t_limit), .long (lZ t_cheapest)])), (t_fewest_a, .inl (cI, 4, .inl (aI (pu fw i 1)))), (t_most_a, .inl (cI, 4, .inl (aI (pu ms i 6)))), (t_costs_a, .inl (cJ, 4, .inr (.inl (aL (pu cs i (strata_costs_f i)))))), (t_burdens_a, .inl (cJ, 4, .inr (.inl (aL t_burdens_f)))), (strata_a, .inr (6, [.ref strata_sizes_a, .ref strata_costs_a, .ref strata_gone_a, .int (iZ strata_made)])), (strata_costs_a, .inl (cJ, 4, .inr (.inl (aL strata_costs_f)))), (t_terms_a, .inr (7, [.ref t_terms_aboves_a, .ref t_terms_belows_a])), (t_terms_aboves_a, .inl (cJ, 4, .inr (.inl (aL ab)))), (t_terms_belows_a, .inl (cJ, 4, .inr (.inl (aL be)))), (figures_sizes_a, .inl (cJ, 4, .inr (.inl (aL figures_sizes_f)))), (figures_scatters_a, .inl (cJ, 4, .inr (.inl (aL figures_scatters_f)))), (figures_a, .inr (3, [.ref figures_sizes_a, .ref figures_numbers_a, .ref figures_sums_a, .ref figures_scatters_a, .ref figures_terms_a, .int (iZ figures_counted), .long (lZ figures_total)])), (figures_numbers_a, .inl (cJ, 4, .inr (.inl (aL figures_numbers_f))))] := hD
          have hq := ws_bd (hsi i (by omega) (by omega)) (hsc i (by omega) (by omega)) (hnu i (by omega) (by omega))
          have hq2 := pp_bd (hnu i (by omega) (by omega)) (by assumption)
          refine cq_callv (wr := [(t_a, .inr (4, [.ref t_held_a, .ref t_trial_a, .ref t_fewest_a, .ref t_most_a, .ref t_costs_a, .ref t_burdens_a, .ref t_terms_a, .int (iZ t_holds), .long (lZ t_limit), .long (lZ t_cheapest)])), (t_fewest_a, .inl (cI, 4, .inl (aI (pu fw i 1)))), (t_most_a, .inl (cI, 4, .inl (aI (pu ms i 6)))), (t_costs_a, .inl (cJ, 4, .inr (.inl (aL (pu cs i (strata_costs_f i)))))), (t_burdens_a, .inl (cJ, 4, .inr (.inl (aL t_burdens_f)))), (strata_a, .inr (6, [.ref strata_sizes_a, .ref strata_costs_a, .ref strata_gone_a, .int (iZ strata_made)])), (strata_costs_a, .inl (cJ, 4, .inr (.inl (aL strata_costs_f)))), (figures_sizes_a, .inl (cJ, 4, .inr (.inl (aL figures_sizes_f)))), (figures_scatters_a, .inl (cJ, 4, .inr (.inl (aL figures_scatters_f)))), (figures_a, .inr (3, [.ref figures_sizes_a, .ref figures_numbers_a, .ref figures_sums_a, .ref figures_scatters_a, .ref figures_terms_a, .int (iZ figures_counted), .long (lZ figures_total)])), (figures_numbers_a, .inl (cJ, 4, .inr (.inl (aL figures_numbers_f))))]) (va_runVN (C := RTm) (As := [.int (iZ i), .long (lZ (figures_sizes_f i * figures_sizes_f i * figures_scatters_f i)), .long (lZ (figures_numbers_f i * (figures_numbers_f i - 1)))]) (rest := []) ⟨hx, hb, hml, hown, hts⟩ (k_Terms_set l D cI cJ cZ t_terms_a t_terms_aboves_a t_terms_belows_a H.size ab be i (figures_sizes_f i * figures_sizes_f i * figures_scatters_f i) (figures_numbers_f i * (figures_numbers_f i - 1)) (by omega) (by omega) (by omega) (by omega) (by omega) (by omega) (by first | assumption | omega)) ⟨(va_cnB 3 hts (gAll cmTm_set) rfl rfl rfl (hK.2.2 _ n48) (hts _ (hm g64)) (by decide +kernel) ⟨Nat.le_of_ble_eq_true rfl, Nat.le_of_ble_eq_true rfl⟩), (hts _ (hm g312)), (hts _ (hm g18))⟩ (cq_preV (va_recv hK.1 hP (ci := 7) (q0 := 7) rfl rfl) (cq_preS hK hP hD [7, 8, 9] (by decide) rfl)) rfl rfl hl.1 rfl (lv_room (Nat.le_of_ble_eq_true rfl)) dPl_prepare_107 ⟨by decide, by decide⟩) hP hD hS hA [7, 8, 9] [0, 1, 2, 3, 4, 5, 6, 10, 11, 12, 13] rfl rfl (by decide) (by decide) (fun u H locs hw_35 hP hD hS => ?_)
          obtain ⟨o_36, o_37⟩ := u
          try dsimp only at hw_35
          obtain ⟨rfl, rfl⟩ := hw_35
          have hP : va_P D clAll [(t_a, .inr (4, [.ref t_held_a, .ref t_trial_a, .ref t_fewest_a, .ref t_most_a, .ref t_costs_a, .ref t_burdens_a, .ref t_terms_a, .int (iZ t_holds), .long (lZ t_limit), .long (lZ t_cheapest)])), (t_fewest_a, .inl (cI, 4, .inl (aI (pu fw i 1)))), (t_most_a, .inl (cI, 4, .inl (aI (pu ms i 6)))), (t_costs_a, .inl (cJ, 4, .inr (.inl (aL (pu cs i (strata_costs_f i)))))), (t_burdens_a, .inl (cJ, 4, .inr (.inl (aL t_burdens_f)))), (strata_a, .inr (6, [.ref strata_sizes_a, .ref strata_costs_a, .ref strata_gone_a, .int (iZ strata_made)])), (strata_costs_a, .inl (cJ, 4, .inr (.inl (aL strata_costs_f)))), (figures_sizes_a, .inl (cJ, 4, .inr (.inl (aL figures_sizes_f)))), (figures_scatters_a, .inl (cJ, 4, .inr (.inl (aL figures_scatters_f)))), (figures_a, .inr (3, [.ref figures_sizes_a, .ref figures_numbers_a, .ref figures_sums_a, .ref figures_scatters_a, .ref figures_terms_a, .int (iZ figures_counted), .long (lZ figures_total)])), (figures_numbers_a, .inl (cJ, 4, .inr (.inl (aL figures_numbers_f)))), (t_terms_a, .inr (7, [.ref t_terms_aboves_a, .ref t_terms_belows_a])), (t_terms_aboves_a, .inl (cJ, 4, .inr (.inl (aL (pu ab i (figures_sizes_f i * figures_sizes_f i * figures_scatters_f i)))))), (t_terms_belows_a, .inl (cJ, 4, .inr (.inl (aL (pu be i (figures_numbers_f i * (figures_numbers_f i - 1)))))))] H := hP
          have hD : va_D A [(t_a, .inr (4, [.ref t_held_a, .ref t_trial_a, .ref t_fewest_a, .ref t_most_a, .ref t_costs_a, .ref t_burdens_a, .ref t_terms_a, .int (iZ t_holds), .long (lZ t_limit), .long (lZ t_cheapest)])), (t_fewest_a, .inl (cI, 4, .inl (aI (pu fw i 1)))), (t_most_a, .inl (cI, 4, .inl (aI (pu ms i 6)))), (t_costs_a, .inl (cJ, 4, .inr (.inl (aL (pu cs i (strata_costs_f i)))))), (t_burdens_a, .inl (cJ, 4, .inr (.inl (aL t_burdens_f)))), (strata_a, .inr (6, [.ref strata_sizes_a, .ref strata_costs_a, .ref strata_gone_a, .int (iZ strata_made)])), (strata_costs_a, .inl (cJ, 4, .inr (.inl (aL strata_costs_f)))), (figures_sizes_a, .inl (cJ, 4, .inr (.inl (aL figures_sizes_f)))), (figures_scatters_a, .inl (cJ, 4, .inr (.inl (aL figures_scatters_f)))), (figures_a, .inr (3, [.ref figures_sizes_a, .ref figures_numbers_a, .ref figures_sums_a, .ref figures_scatters_a, .ref figures_terms_a, .int (iZ figures_counted), .long (lZ figures_total)])), (figures_numbers_a, .inl (cJ, 4, .inr (.inl (aL figures_numbers_f)))), (t_terms_a, .inr (7, [.ref t_terms_aboves_a, .ref t_terms_belows_a])), (t_terms_aboves_a, .inl (cJ, 4, .inr (.inl (aL (pu ab i (figures_sizes_f i * figures_sizes_f i * figures_scatters_f i)))))), (t_terms_belows_a, .inl (cJ, 4, .inr (.inl (aL (pu be i (figures_numbers_f i * (figures_numbers_f i - 1)))))))] := hD
          refine lv_iinc (v := iZ (i + 1)) (lv' := [(7, .int (iZ (i + 1))), (8, .int (iZ 1)), (0, .ref t_a), (1, .ref figures_a), (2, .ref strata_a), (3, .long (lZ nab)), (5, .long (lZ nbl))]) hx hb dPl_prepare_110 hl (k := 6) rfl (iZ_add i 1) (by decide) rfl (fun ls hl => ?_)
          refine lv_goto (tgt := 10) hx hb dPl_prepare_113 (by decide) ?_
          exact ih_7  (i + 1) (pu fw i 1) (pu ms i 6) (pu cs i (strata_costs_f i)) (pu ab i (figures_sizes_f i * figures_sizes_f i * figures_scatters_f i)) (pu be i (figures_numbers_f i * (figures_numbers_f i - 1))) (by omega) (by omega) (by first | exact pu_upto (g := fun j => if 1 < figures_numbers_f j then 1 else 0) hfw (if_pos (by assumption)).symm | exact pu_upto (g := fun j => if 1 < figures_numbers_f j then 1 else 0) hfw (if_neg (by assumption)).symm) (by first | exact pu_upto (g := fun j => if 1 < figures_numbers_f j then 6 else 0) hms (if_pos (by assumption)).symm | exact pu_upto (g := fun j => if 1 < figures_numbers_f j then 6 else 0) hms (if_neg (by assumption)).symm) (by exact pu_upto hcs rfl) (by first | exact tA_hit (a := (fun j => figures_sizes_f j * figures_sizes_f j * figures_scatters_f j)) hab (by assumption) | exact tA_miss hab (by assumption)) (by first | exact tB_hit (b := (fun j => figures_numbers_f j * (figures_numbers_f j - 1))) hbe (by assumption) | exact tB_miss hbe (by assumption)) (by omega) _ _ (hP.sub [0, 1, 2, 3, 4, 9, 7, 10, 8, 5, 6, 11, 12, 13] rfl) (hD.sub [0, 1, 2, 3, 4, 9, 7, 10, 8, 5, 6, 11, 12, 13] (by decide) rfl) hS ls (lv_sub hl [2, 3, 4, 5, 6, 0] rfl)
  exact loop_6 ((4 - 0 : Int).toNat + 1) 0 t_fewest_f t_most_f t_costs_f o_2 o_3 (by omega) (by omega) (by exact up_0 _ _) (by exact up_0 _ _) (by exact up_0 _ _) (by exact tA_0 (by assumption)) (by exact tB_0 (by assumption)) (by omega) _ _ (hP.sub [0, 1, 2, 3, 4, 5, 6, 7, 8, 9, 10, 11, 12, 13] rfl) (hD.sub [0, 1, 2, 3, 4, 5, 6, 7, 8, 9, 10, 11, 12, 13] (by decide) rfl) hS ls (lv_sub hl [1, 2, 3, 4, 5, 0] rfl)
end
