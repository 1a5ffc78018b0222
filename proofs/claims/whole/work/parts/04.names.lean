def RBg : String := "StratumCounts$Bags"
def RCp : String := "StratumCounts$Comparison"
def RDr : String := "StratumCounts$Draws"
def RFg : String := "StratumCounts$Figures"
def RPl : String := "StratumCounts$Planner"
def RRp : String := "StratumCounts$Repeats"
def RSt : String := "StratumCounts$Strata"
def RTm : String := "StratumCounts$Terms"
def RSc : String := "StratumCounts"
def RMd : String := "StratumCountsModel"
def RLw : String := "StratumCountsLaw"
def RJI : String := "java/lang/Integer"
def RJA : String := "java/util/Arrays"
def RJM : String := "java/lang/Math"
def RJS : String := "java/lang/System"
def TBg : u_T := fun k => match k with
  | 0 => ("StratumCounts$Bags", "homes", "[I", true)
  | 1 => ("StratumCounts$Bags", "dates", "[I", true)
  | 2 => ("StratumCounts$Bags", "lost", "[Z", true)
  | 3 => ("StratumCounts$Bags", "grams", "[J", true)
  | _ => ("StratumCounts$Bags", "made", "I", false)
def tyBg : Nat → FieldType := fun k => match k with
  | 0 => .array .int
  | 1 => .array .int
  | 2 => .array .boolean
  | 3 => .array .long
  | _ => .int
theorem nmBg : ∀ a, a < 5 → ∀ b, b < 5 → a ≠ b → (TBg a).2.1 ≠ (TBg b).2.1 := by decide +kernel
theorem tyBg_ok : ∀ k, k < 5 → parseFieldDescriptor (TBg k).2.2.1 = some (tyBg k) := by decide +kernel
def TCp : u_T := fun k => match k with
  | 0 => ("StratumCounts$Comparison", "grams", "[J", true)
  | 1 => ("StratumCounts$Comparison", "number", "I", false)
  | 2 => ("StratumCounts$Comparison", "firsts", "I", false)
  | 3 => ("StratumCounts$Comparison", "actual", "I", false)
  | _ => ("StratumCounts$Comparison", "total", "J", false)
def tyCp : Nat → FieldType := fun k => match k with
  | 0 => .array .long
  | 1 => .int
  | 2 => .int
  | 3 => .int
  | _ => .long
theorem nmCp : ∀ a, a < 5 → ∀ b, b < 5 → a ≠ b → (TCp a).2.1 ≠ (TCp b).2.1 := by decide +kernel
theorem tyCp_ok : ∀ k, k < 5 → parseFieldDescriptor (TCp k).2.2.1 = some (tyCp k) := by decide +kernel
def TDr : u_T := fun k => match k with
  | 0 => ("StratumCounts$Draws", "lists", "[I", true)
  | 1 => ("StratumCounts$Draws", "lengths", "[I", true)
  | _ => ("StratumCounts$Draws", "seed", "J", false)
def tyDr : Nat → FieldType := fun k => match k with
  | 0 => .array .int
  | 1 => .array .int
  | _ => .long
theorem nmDr : ∀ a, a < 3 → ∀ b, b < 3 → a ≠ b → (TDr a).2.1 ≠ (TDr b).2.1 := by decide +kernel
theorem tyDr_ok : ∀ k, k < 3 → parseFieldDescriptor (TDr k).2.2.1 = some (tyDr k) := by decide +kernel
def TFg : u_T := fun k => match k with
  | 0 => ("StratumCounts$Figures", "sizes", "[J", true)
  | 1 => ("StratumCounts$Figures", "numbers", "[J", true)
  | 2 => ("StratumCounts$Figures", "sums", "[J", true)
  | 3 => ("StratumCounts$Figures", "scatters", "[J", true)
  | 4 => ("StratumCounts$Figures", "terms", "LStratumCounts$Terms;", true)
  | 5 => ("StratumCounts$Figures", "counted", "I", false)
  | _ => ("StratumCounts$Figures", "total", "J", false)
def tyFg : Nat → FieldType := fun k => match k with
  | 0 => .array .long
  | 1 => .array .long
  | 2 => .array .long
  | 3 => .array .long
  | 4 => .object "StratumCounts$Terms"
  | 5 => .int
  | _ => .long
theorem nmFg : ∀ a, a < 7 → ∀ b, b < 7 → a ≠ b → (TFg a).2.1 ≠ (TFg b).2.1 := by decide +kernel
theorem tyFg_ok : ∀ k, k < 7 → parseFieldDescriptor (TFg k).2.2.1 = some (tyFg k) := by decide +kernel
def TPl : u_T := fun k => match k with
  | 0 => ("StratumCounts$Planner", "held", "[I", true)
  | 1 => ("StratumCounts$Planner", "trial", "[I", true)
  | 2 => ("StratumCounts$Planner", "fewest", "[I", true)
  | 3 => ("StratumCounts$Planner", "most", "[I", true)
  | 4 => ("StratumCounts$Planner", "costs", "[J", true)
  | 5 => ("StratumCounts$Planner", "burdens", "[J", true)
  | 6 => ("StratumCounts$Planner", "terms", "LStratumCounts$Terms;", true)
  | 7 => ("StratumCounts$Planner", "holds", "Z", false)
  | 8 => ("StratumCounts$Planner", "limit", "J", false)
  | _ => ("StratumCounts$Planner", "cheapest", "J", false)
def tyPl : Nat → FieldType := fun k => match k with
  | 0 => .array .int
  | 1 => .array .int
  | 2 => .array .int
  | 3 => .array .int
  | 4 => .array .long
  | 5 => .array .long
  | 6 => .object "StratumCounts$Terms"
  | 7 => .boolean
  | 8 => .long
  | _ => .long
theorem nmPl : ∀ a, a < 10 → ∀ b, b < 10 → a ≠ b → (TPl a).2.1 ≠ (TPl b).2.1 := by decide +kernel
theorem tyPl_ok : ∀ k, k < 10 → parseFieldDescriptor (TPl k).2.2.1 = some (tyPl k) := by decide +kernel
def TRp : u_T := fun k => match k with
  | 0 => ("StratumCounts$Repeats", "sorted", "[I", true)
  | 1 => ("StratumCounts$Repeats", "kinds", "[I", true)
  | 2 => ("StratumCounts$Repeats", "found", "[J", true)
  | _ => ("StratumCounts$Repeats", "made", "I", false)
def tyRp : Nat → FieldType := fun k => match k with
  | 0 => .array .int
  | 1 => .array .int
  | 2 => .array .long
  | _ => .int
theorem nmRp : ∀ a, a < 4 → ∀ b, b < 4 → a ≠ b → (TRp a).2.1 ≠ (TRp b).2.1 := by decide +kernel
theorem tyRp_ok : ∀ k, k < 4 → parseFieldDescriptor (TRp k).2.2.1 = some (tyRp k) := by decide +kernel
def TSt : u_T := fun k => match k with
  | 0 => ("StratumCounts$Strata", "sizes", "[I", true)
  | 1 => ("StratumCounts$Strata", "costs", "[J", true)
  | 2 => ("StratumCounts$Strata", "gone", "[Z", true)
  | _ => ("StratumCounts$Strata", "made", "I", false)
def tySt : Nat → FieldType := fun k => match k with
  | 0 => .array .int
  | 1 => .array .long
  | 2 => .array .boolean
  | _ => .int
theorem nmSt : ∀ a, a < 4 → ∀ b, b < 4 → a ≠ b → (TSt a).2.1 ≠ (TSt b).2.1 := by decide +kernel
theorem tySt_ok : ∀ k, k < 4 → parseFieldDescriptor (TSt k).2.2.1 = some (tySt k) := by decide +kernel
def TTm : u_T := fun k => match k with
  | 0 => ("StratumCounts$Terms", "aboves", "[J", true)
  | _ => ("StratumCounts$Terms", "belows", "[J", true)
def tyTm : Nat → FieldType := fun k => match k with
  | 0 => .array .long
  | _ => .array .long
theorem nmTm : ∀ a, a < 2 → ∀ b, b < 2 → a ≠ b → (TTm a).2.1 ≠ (TTm b).2.1 := by decide +kernel
theorem tyTm_ok : ∀ k, k < 2 → parseFieldDescriptor (TTm k).2.2.1 = some (tyTm k) := by decide +kernel
def TSc : u_T := fun k => match k with
  | 0 => ("StratumCounts", "strata", "LStratumCounts$Strata;", true)
  | 1 => ("StratumCounts", "bags", "LStratumCounts$Bags;", true)
  | 2 => ("StratumCounts", "draws", "LStratumCounts$Draws;", true)
  | 3 => ("StratumCounts", "repeats", "LStratumCounts$Repeats;", true)
  | 4 => ("StratumCounts", "figures", "LStratumCounts$Figures;", true)
  | 5 => ("StratumCounts", "planner", "LStratumCounts$Planner;", true)
  | _ => ("StratumCounts", "comparison", "LStratumCounts$Comparison;", true)
def tySc : Nat → FieldType := fun k => match k with
  | 0 => .object "StratumCounts$Strata"
  | 1 => .object "StratumCounts$Bags"
  | 2 => .object "StratumCounts$Draws"
  | 3 => .object "StratumCounts$Repeats"
  | 4 => .object "StratumCounts$Figures"
  | 5 => .object "StratumCounts$Planner"
  | _ => .object "StratumCounts$Comparison"
theorem nmSc : ∀ a, a < 7 → ∀ b, b < 7 → a ≠ b → (TSc a).2.1 ≠ (TSc b).2.1 := by decide +kernel
theorem tySc_ok : ∀ k, k < 7 → parseFieldDescriptor (TSc k).2.2.1 = some (tySc k) := by decide +kernel
def TMd : u_T := fun k => match k with
  | 0 => ("StratumCountsModel", "seed", "J", false)
  | 1 => ("StratumCountsModel", "strata", "I", false)
  | 2 => ("StratumCountsModel", "sizes", "[I", true)
  | 3 => ("StratumCountsModel", "costs", "[J", true)
  | 4 => ("StratumCountsModel", "gone", "[Z", true)
  | 5 => ("StratumCountsModel", "drawn", "[I", true)
  | 6 => ("StratumCountsModel", "drawnCounts", "[I", true)
  | 7 => ("StratumCountsModel", "bags", "I", false)
  | 8 => ("StratumCountsModel", "owners", "[I", true)
  | 9 => ("StratumCountsModel", "years", "[I", true)
  | 10 => ("StratumCountsModel", "missing", "[Z", true)
  | 11 => ("StratumCountsModel", "grams", "[J", true)
  | 12 => ("StratumCountsModel", "hasPlan", "Z", false)
  | 13 => ("StratumCountsModel", "planned", "[I", true)
  | 14 => ("StratumCountsModel", "again", "I", false)
  | 15 => ("StratumCountsModel", "againBag", "[I", true)
  | 16 => ("StratumCountsModel", "againKind", "[I", true)
  | 17 => ("StratumCountsModel", "againGrams", "[J", true)
  | 18 => ("StratumCountsModel", "over", "J", false)
  | 19 => ("StratumCountsModel", "under", "J", false)
  | _ => ("StratumCountsModel", "trial", "[I", true)
def tyMd : Nat → FieldType := fun k => match k with
  | 0 => .long
  | 1 => .int
  | 2 => .array .int
  | 3 => .array .long
  | 4 => .array .boolean
  | 5 => .array .int
  | 6 => .array .int
  | 7 => .int
  | 8 => .array .int
  | 9 => .array .int
  | 10 => .array .boolean
  | 11 => .array .long
  | 12 => .boolean
  | 13 => .array .int
  | 14 => .int
  | 15 => .array .int
  | 16 => .array .int
  | 17 => .array .long
  | 18 => .long
  | 19 => .long
  | _ => .array .int
theorem nmMd : ∀ a, a < 21 → ∀ b, b < 21 → a ≠ b → (TMd a).2.1 ≠ (TMd b).2.1 := by decide +kernel
theorem tyMd_ok : ∀ k, k < 21 → parseFieldDescriptor (TMd k).2.2.1 = some (tyMd k) := by decide +kernel
abbrev clAll : List vw_C := [(RBg, TBg, 5), (RCp, TCp, 5), (RDr, TDr, 3), (RFg, TFg, 7), (RPl, TPl, 10), (RRp, TRp, 4), (RSt, TSt, 4), (RTm, TTm, 2), (RSc, TSc, 7), (RMd, TMd, 21)]
abbrev cBg_init : ByteArray := prog_2_method_1_code
def yBg_init : MethodName := ⟨RBg, "<init>", "()V"⟩
abbrev cBg_has : ByteArray := prog_2_method_2_code
def yBg_has : MethodName := ⟨RBg, "has", "(I)Z"⟩
abbrev cBg_add : ByteArray := prog_2_method_3_code
def yBg_add : MethodName := ⟨RBg, "add", "(I)I"⟩
abbrev cBg_setGrams : ByteArray := prog_2_method_4_code
def yBg_setGrams : MethodName := ⟨RBg, "setGrams", "(IIJ)Z"⟩
abbrev cBg_setYear : ByteArray := prog_2_method_5_code
def yBg_setYear : MethodName := ⟨RBg, "setYear", "(II)Z"⟩
abbrev cBg_lose : ByteArray := prog_2_method_6_code
def yBg_lose : MethodName := ⟨RBg, "lose", "(I)Z"⟩
abbrev cBg_move : ByteArray := prog_2_method_7_code
def yBg_move : MethodName := ⟨RBg, "move", "(II)V"⟩
abbrev cBg_gramsOf : ByteArray := prog_2_method_8_code
def yBg_gramsOf : MethodName := ⟨RBg, "gramsOf", "(II)J"⟩
abbrev cCp_init : ByteArray := prog_3_method_1_code
def yCp_init : MethodName := ⟨RCp, "<init>", "()V"⟩
abbrev cCp_gather : ByteArray := prog_3_method_2_code
def yCp_gather : MethodName := ⟨RCp, "gather", "(LStratumCounts$Bags;I)Z"⟩
abbrev cCp_take : ByteArray := prog_3_method_3_code
def yCp_take : MethodName := ⟨RCp, "take", "(JI)V"⟩
abbrev cCp_countWays : ByteArray := prog_3_method_4_code
def yCp_countWays : MethodName := ⟨RCp, "countWays", "()J"⟩
abbrev cCp_countFarWays : ByteArray := prog_3_method_5_code
def yCp_countFarWays : MethodName := ⟨RCp, "countFarWays", "()J"⟩
abbrev cCp_apart : ByteArray := prog_3_method_6_code
def yCp_apart : MethodName := ⟨RCp, "apart", "(I)J"⟩
abbrev cDr_init : ByteArray := prog_4_method_1_code
def yDr_init : MethodName := ⟨RDr, "<init>", "(J)V"⟩
abbrev cDr_take : ByteArray := prog_4_method_2_code
def yDr_take : MethodName := ⟨RDr, "take", "(III)I"⟩
abbrev cDr_nextBelow : ByteArray := prog_4_method_3_code
def yDr_nextBelow : MethodName := ⟨RDr, "nextBelow", "(I)I"⟩
abbrev cDr_swap : ByteArray := prog_4_method_4_code
def yDr_swap : MethodName := ⟨RDr, "swap", "(II)V"⟩
abbrev cDr_taken : ByteArray := prog_4_method_5_code
def yDr_taken : MethodName := ⟨RDr, "taken", "(II)I"⟩
abbrev cFg_init : ByteArray := prog_5_method_1_code
def yFg_init : MethodName := ⟨RFg, "<init>", "()V"⟩
abbrev cFg_gather : ByteArray := prog_5_method_2_code
def yFg_gather : MethodName := ⟨RFg, "gather", "(LStratumCounts$Strata;LStratumCounts$Bags;I)V"⟩
abbrev cFg_gatherOne : ByteArray := prog_5_method_3_code
def yFg_gatherOne : MethodName := ⟨RFg, "gatherOne", "(ILStratumCounts$Bags;I)V"⟩
abbrev cFg_haveSpread : ByteArray := prog_5_method_4_code
def yFg_haveSpread : MethodName := ⟨RFg, "haveSpread", "()Z"⟩
abbrev cFg_tellMean : ByteArray := prog_5_method_5_code
def yFg_tellMean : MethodName := ⟨RFg, "tellMean", "(I)J"⟩
abbrev cFg_tellSpread : ByteArray := prog_5_method_6_code
def yFg_tellSpread : MethodName := ⟨RFg, "tellSpread", "(I)J"⟩
abbrev cFg_weighedScatter : ByteArray := prog_5_method_7_code
def yFg_weighedScatter : MethodName := ⟨RFg, "weighedScatter", "(I)J"⟩
abbrev cFg_pairs : ByteArray := prog_5_method_8_code
def yFg_pairs : MethodName := ⟨RFg, "pairs", "(I)J"⟩
abbrev cPl_init : ByteArray := prog_6_method_1_code
def yPl_init : MethodName := ⟨RPl, "<init>", "()V"⟩
abbrev cPl_heldBags : ByteArray := prog_6_method_2_code
def yPl_heldBags : MethodName := ⟨RPl, "heldBags", "(I)I"⟩
abbrev cPl_prepare : ByteArray := prog_6_method_3_code
def yPl_prepare : MethodName := ⟨RPl, "prepare", "(LStratumCounts$Figures;LStratumCounts$Strata;JJ)V"⟩
abbrev cPl_findCheapest : ByteArray := prog_6_method_4_code
def yPl_findCheapest : MethodName := ⟨RPl, "findCheapest", "()J"⟩
abbrev cPl_considerTrial : ByteArray := prog_6_method_5_code
def yPl_considerTrial : MethodName := ⟨RPl, "considerTrial", "()V"⟩
abbrev cPl_isNearEnough : ByteArray := prog_6_method_6_code
def yPl_isNearEnough : MethodName := ⟨RPl, "isNearEnough", "()Z"⟩
abbrev cPl_stepTrial : ByteArray := prog_6_method_7_code
def yPl_stepTrial : MethodName := ⟨RPl, "stepTrial", "()Z"⟩
abbrev cRp_init : ByteArray := prog_7_method_1_code
def yRp_init : MethodName := ⟨RRp, "<init>", "()V"⟩
abbrev cRp_add : ByteArray := prog_7_method_2_code
def yRp_add : MethodName := ⟨RRp, "add", "(IIJ)I"⟩
abbrev cRp_tellError : ByteArray := prog_7_method_3_code
def yRp_tellError : MethodName := ⟨RRp, "tellError", "(LStratumCounts$Bags;II)J"⟩
abbrev cSt_init : ByteArray := prog_8_method_1_code
def ySt_init : MethodName := ⟨RSt, "<init>", "()V"⟩
abbrev cSt_has : ByteArray := prog_8_method_2_code
def ySt_has : MethodName := ⟨RSt, "has", "(I)Z"⟩
abbrev cSt_stands : ByteArray := prog_8_method_3_code
def ySt_stands : MethodName := ⟨RSt, "stands", "(I)Z"⟩
abbrev cSt_add : ByteArray := prog_8_method_4_code
def ySt_add : MethodName := ⟨RSt, "add", "(I)I"⟩
abbrev cSt_setCost : ByteArray := prog_8_method_5_code
def ySt_setCost : MethodName := ⟨RSt, "setCost", "(IJ)Z"⟩
abbrev cSt_merge : ByteArray := prog_8_method_6_code
def ySt_merge : MethodName := ⟨RSt, "merge", "(II)Z"⟩
abbrev cTm_init : ByteArray := prog_9_method_1_code
def yTm_init : MethodName := ⟨RTm, "<init>", "()V"⟩
abbrev cTm_clear : ByteArray := prog_9_method_2_code
def yTm_clear : MethodName := ⟨RTm, "clear", "()V"⟩
abbrev cTm_set : ByteArray := prog_9_method_3_code
def yTm_set : MethodName := ⟨RTm, "set", "(IJJ)V"⟩
abbrev cTm_common : ByteArray := prog_9_method_4_code
def yTm_common : MethodName := ⟨RTm, "common", "()J"⟩
abbrev cTm_scaled : ByteArray := prog_9_method_5_code
def yTm_scaled : MethodName := ⟨RTm, "scaled", "(IJ)J"⟩
abbrev cTm_sum : ByteArray := prog_9_method_6_code
def yTm_sum : MethodName := ⟨RTm, "sum", "(J)J"⟩
abbrev cSc_init : ByteArray := prog_1_method_1_code
def ySc_init : MethodName := ⟨RSc, "<init>", "(J)V"⟩
abbrev cSc_stratum : ByteArray := prog_1_method_2_code
def ySc_stratum : MethodName := ⟨RSc, "stratum", "(I)I"⟩
abbrev cSc_cost : ByteArray := prog_1_method_3_code
def ySc_cost : MethodName := ⟨RSc, "cost", "(IJ)Z"⟩
abbrev cSc_bag : ByteArray := prog_1_method_4_code
def ySc_bag : MethodName := ⟨RSc, "bag", "(I)I"⟩
abbrev cSc_weight : ByteArray := prog_1_method_5_code
def ySc_weight : MethodName := ⟨RSc, "weight", "(IIJ)Z"⟩
abbrev cSc_year : ByteArray := prog_1_method_6_code
def ySc_year : MethodName := ⟨RSc, "year", "(II)Z"⟩
abbrev cSc_missing : ByteArray := prog_1_method_7_code
def ySc_missing : MethodName := ⟨RSc, "missing", "(I)Z"⟩
abbrev cSc_draw : ByteArray := prog_1_method_8_code
def ySc_draw : MethodName := ⟨RSc, "draw", "(II)I"⟩
abbrev cSc_drawn : ByteArray := prog_1_method_9_code
def ySc_drawn : MethodName := ⟨RSc, "drawn", "(II)I"⟩
abbrev cSc_mean : ByteArray := prog_1_method_10_code
def ySc_mean : MethodName := ⟨RSc, "mean", "(II)J"⟩
abbrev cSc_spread : ByteArray := prog_1_method_11_code
def ySc_spread : MethodName := ⟨RSc, "spread", "(II)J"⟩
abbrev cSc_plan : ByteArray := prog_1_method_12_code
def ySc_plan : MethodName := ⟨RSc, "plan", "(IJJ)J"⟩
abbrev cSc_planned : ByteArray := prog_1_method_13_code
def ySc_planned : MethodName := ⟨RSc, "planned", "(I)I"⟩
abbrev cSc_compared : ByteArray := prog_1_method_14_code
def ySc_compared : MethodName := ⟨RSc, "compared", "(II)J"⟩
abbrev cSc_joined : ByteArray := prog_1_method_15_code
def ySc_joined : MethodName := ⟨RSc, "joined", "(II)Z"⟩
abbrev cSc_repeat : ByteArray := prog_1_method_16_code
def ySc_repeat : MethodName := ⟨RSc, "repeat", "(IIJ)I"⟩
abbrev cSc_error : ByteArray := prog_1_method_17_code
def ySc_error : MethodName := ⟨RSc, "error", "(II)J"⟩
abbrev cSc_counting : ByteArray := prog_1_method_18_code
def ySc_counting : MethodName := ⟨RSc, "counting", "()I"⟩
abbrev cSc_isKind : ByteArray := prog_1_method_19_code
def ySc_isKind : MethodName := ⟨RSc, "isKind", "(I)Z"⟩
abbrev cSc_isPart : ByteArray := prog_1_method_20_code
def ySc_isPart : MethodName := ⟨RSc, "isPart", "(I)Z"⟩
abbrev cSc_isGrams : ByteArray := prog_1_method_21_code
def ySc_isGrams : MethodName := ⟨RSc, "isGrams", "(J)Z"⟩
abbrev cSc_greatestShared : ByteArray := prog_1_method_22_code
def ySc_greatestShared : MethodName := ⟨RSc, "greatestShared", "(JJ)J"⟩
abbrev cSc_leastCommon : ByteArray := prog_1_method_23_code
def ySc_leastCommon : MethodName := ⟨RSc, "leastCommon", "(JJ)J"⟩
abbrev cSc_tell : ByteArray := prog_1_method_24_code
def ySc_tell : MethodName := ⟨RSc, "tell", "(JJI)J"⟩
abbrev cLw_cell : ByteArray := method_2_code
def yLw_cell : MethodName := ⟨RLw, "cell", "([II)I"⟩
abbrev cMd_init : ByteArray := prog_11_method_1_code
def yMd_init : MethodName := ⟨RMd, "<init>", "(J)V"⟩
abbrev cMd_isIn : ByteArray := prog_11_method_3_code
def yMd_isIn : MethodName := ⟨RMd, "isIn", "(JJJ)Z"⟩
abbrev cMd_isHere : ByteArray := prog_11_method_4_code
def yMd_isHere : MethodName := ⟨RMd, "isHere", "(I)Z"⟩
abbrev cMd_isBag : ByteArray := prog_11_method_5_code
def yMd_isBag : MethodName := ⟨RMd, "isBag", "(I)Z"⟩
abbrev cMd_isKind : ByteArray := prog_11_method_6_code
def yMd_isKind : MethodName := ⟨RMd, "isKind", "(I)Z"⟩
abbrev cMd_stratum : ByteArray := prog_11_method_7_code
def yMd_stratum : MethodName := ⟨RMd, "stratum", "(I)I"⟩
abbrev cMd_cost : ByteArray := prog_11_method_8_code
def yMd_cost : MethodName := ⟨RMd, "cost", "(IJ)Z"⟩
abbrev cMd_bag : ByteArray := prog_11_method_9_code
def yMd_bag : MethodName := ⟨RMd, "bag", "(I)I"⟩
abbrev cMd_weight : ByteArray := prog_11_method_10_code
def yMd_weight : MethodName := ⟨RMd, "weight", "(IIJ)Z"⟩
abbrev cMd_year : ByteArray := prog_11_method_11_code
def yMd_year : MethodName := ⟨RMd, "year", "(II)Z"⟩
abbrev cMd_missing : ByteArray := prog_11_method_12_code
def yMd_missing : MethodName := ⟨RMd, "missing", "(I)Z"⟩
abbrev cMd_draw : ByteArray := prog_11_method_13_code
def yMd_draw : MethodName := ⟨RMd, "draw", "(II)I"⟩
abbrev cMd_drawn : ByteArray := prog_11_method_14_code
def yMd_drawn : MethodName := ⟨RMd, "drawn", "(II)I"⟩
abbrev cMd_countOf : ByteArray := prog_11_method_15_code
def yMd_countOf : MethodName := ⟨RMd, "countOf", "(I)I"⟩
abbrev cMd_counts : ByteArray := prog_11_method_16_code
def yMd_counts : MethodName := ⟨RMd, "counts", "(I)Z"⟩
abbrev cMd_sumOf : ByteArray := prog_11_method_17_code
def yMd_sumOf : MethodName := ⟨RMd, "sumOf", "(II)J"⟩
abbrev cMd_squaresOf : ByteArray := prog_11_method_18_code
def yMd_squaresOf : MethodName := ⟨RMd, "squaresOf", "(II)J"⟩
abbrev cMd_counting : ByteArray := prog_11_method_19_code
def yMd_counting : MethodName := ⟨RMd, "counting", "()I"⟩
abbrev cMd_allSizes : ByteArray := prog_11_method_20_code
def yMd_allSizes : MethodName := ⟨RMd, "allSizes", "()J"⟩
abbrev cMd_common : ByteArray := prog_11_method_21_code
def yMd_common : MethodName := ⟨RMd, "common", "(JJ)J"⟩
abbrev cMd_multiple : ByteArray := prog_11_method_22_code
def yMd_multiple : MethodName := ⟨RMd, "multiple", "(JJ)J"⟩
abbrev cMd_part : ByteArray := prog_11_method_23_code
def yMd_part : MethodName := ⟨RMd, "part", "(I)J"⟩
abbrev cMd_mean : ByteArray := prog_11_method_24_code
def yMd_mean : MethodName := ⟨RMd, "mean", "(II)J"⟩
abbrev cMd_hasSpread : ByteArray := prog_11_method_25_code
def yMd_hasSpread : MethodName := ⟨RMd, "hasSpread", "(I)Z"⟩
abbrev cMd_bagsOf : ByteArray := prog_11_method_26_code
def yMd_bagsOf : MethodName := ⟨RMd, "bagsOf", "(IZ)J"⟩
abbrev cMd_makeSpread : ByteArray := prog_11_method_27_code
def yMd_makeSpread : MethodName := ⟨RMd, "makeSpread", "(IZ)V"⟩
abbrev cMd_spread : ByteArray := prog_11_method_28_code
def yMd_spread : MethodName := ⟨RMd, "spread", "(II)J"⟩
abbrev cMd_isAtMost : ByteArray := prog_11_method_29_code
def yMd_isAtMost : MethodName := ⟨RMd, "isAtMost", "(JJJJ)Z"⟩
abbrev cMd_trialCost : ByteArray := prog_11_method_30_code
def yMd_trialCost : MethodName := ⟨RMd, "trialCost", "()J"⟩
abbrev cMd_tryPlan : ByteArray := prog_11_method_31_code
def yMd_tryPlan : MethodName := ⟨RMd, "tryPlan", "(I)V"⟩
abbrev cMd_isOwn : ByteArray := prog_11_method_32_code
def yMd_isOwn : MethodName := ⟨RMd, "isOwn", "(I)Z"⟩
abbrev cMd_plan : ByteArray := prog_11_method_33_code
def yMd_plan : MethodName := ⟨RMd, "plan", "(IJJ)J"⟩
abbrev cMd_planned : ByteArray := prog_11_method_34_code
def yMd_planned : MethodName := ⟨RMd, "planned", "(I)I"⟩
abbrev cMd_bagsOfYear : ByteArray := prog_11_method_35_code
def yMd_bagsOfYear : MethodName := ⟨RMd, "bagsOfYear", "(I)I"⟩
abbrev cMd_apart : ByteArray := prog_11_method_36_code
def yMd_apart : MethodName := ⟨RMd, "apart", "(IIJJ)J"⟩
abbrev cMd_compared : ByteArray := prog_11_method_37_code
def yMd_compared : MethodName := ⟨RMd, "compared", "(II)J"⟩
abbrev cMd_joined : ByteArray := prog_11_method_38_code
def yMd_joined : MethodName := ⟨RMd, "joined", "(II)Z"⟩
abbrev cMd_repeat : ByteArray := prog_11_method_39_code
def yMd_repeat : MethodName := ⟨RMd, "repeat", "(IIJ)I"⟩
abbrev cMd_error : ByteArray := prog_11_method_40_code
def yMd_error : MethodName := ⟨RMd, "error", "(II)J"⟩
abbrev cJI_bitCount : ByteArray := prog_12_method_49_code
def yJI_bitCount : MethodName := ⟨RJI, "bitCount", "(I)I"⟩
abbrev cJA_fill : ByteArray := prog_15_method_101_code
def yJA_fill : MethodName := ⟨RJA, "fill", "([JJ)V"⟩
def wsAll_0 : List Cond := [.selects RSt ySt_add ySt_add, .selects RSt ySt_setCost ySt_setCost, .selects RSt ySt_stands ySt_stands, .selects RSt ySt_has ySt_has, .selects RBg yBg_add yBg_add, .selects RBg yBg_setGrams yBg_setGrams, .selects RBg yBg_has yBg_has, .selects RBg yBg_setYear yBg_setYear, .selects RBg yBg_lose yBg_lose, .selects RDr yDr_take yDr_take, .selects RDr yDr_nextBelow yDr_nextBelow, .selects RDr yDr_swap yDr_swap, .selects RDr yDr_taken yDr_taken, .selects RFg yFg_gather yFg_gather, .selects RFg yFg_gatherOne yFg_gatherOne, .selects RBg yBg_gramsOf yBg_gramsOf, .selects RFg yFg_tellMean yFg_tellMean, .selects RTm yTm_clear yTm_clear, .selects RTm yTm_set yTm_set, .selects RTm yTm_common yTm_common, .selects RTm yTm_sum yTm_sum, .selects RTm yTm_scaled yTm_scaled, .selects RFg yFg_haveSpread yFg_haveSpread, .selects RFg yFg_tellSpread yFg_tellSpread, .selects RFg yFg_weighedScatter yFg_weighedScatter, .selects RFg yFg_pairs yFg_pairs, .selects RPl yPl_prepare yPl_prepare, .selects RPl yPl_findCheapest yPl_findCheapest, .selects RPl yPl_considerTrial yPl_considerTrial, .selects RPl yPl_isNearEnough yPl_isNearEnough, .selects RPl yPl_stepTrial yPl_stepTrial, .selects RPl yPl_heldBags yPl_heldBags, .selects RCp yCp_gather yCp_gather, .selects RCp yCp_take yCp_take, .selects RCp yCp_countFarWays yCp_countFarWays, .selects RCp yCp_apart yCp_apart, .selects RCp yCp_countWays yCp_countWays, .selects RSt ySt_merge ySt_merge, .selects RBg yBg_move yBg_move, .selects RRp yRp_add yRp_add]
def wsAll_1 : List Cond := [.selects RRp yRp_tellError yRp_tellError, .selects RMd yMd_isHere yMd_isHere, .selects RMd yMd_isBag yMd_isBag, .selects RMd yMd_counts yMd_counts, .selects RMd yMd_countOf yMd_countOf, .selects RMd yMd_sumOf yMd_sumOf, .selects RMd yMd_allSizes yMd_allSizes, .selects RMd yMd_part yMd_part, .selects RMd yMd_hasSpread yMd_hasSpread, .selects RMd yMd_makeSpread yMd_makeSpread, .selects RMd yMd_bagsOf yMd_bagsOf, .selects RMd yMd_squaresOf yMd_squaresOf, .selects RMd yMd_isOwn yMd_isOwn, .selects RMd yMd_tryPlan yMd_tryPlan, .selects RMd yMd_trialCost yMd_trialCost, .selects RMd yMd_bagsOfYear yMd_bagsOfYear, .selects RMd yMd_apart yMd_apart, .initialized RLw, .initialized RSc, .initialized RSt, .initialized RBg, .initialized RDr, .initialized RRp, .initialized RFg, .initialized RTm, .initialized RPl, .initialized RCp, .initialized RMd, .initialized RJA, .initialized RJS, .initialized RJI, .initialized RJM, .classLink RLw 7 RSc, .instantiable RSc 7, .methodLink RLw 15 ySc_init, .instanceMethod ySc_init, .code ySc_init prog_1_method_1_code 3 none, .methodLink RSc 1 objectInit, .instanceMethod objectInit, .code objectInit object_method_1_code 1 none]
def wsAll_2 : List Cond := [.classLink RSc 7 RSt, .instantiable RSt 4, .instanceMethod ySt_init, .code ySt_init prog_8_method_1_code 1 none, .methodLink RSt 3 objectInit, .fieldLink RSt 9 "StratumCounts$Strata" "sizes" "[I", .fieldLink RSt 15 "StratumCounts$Strata" "costs" "[J", .fieldLink RSt 19 "StratumCounts$Strata" "gone" "[Z", .fieldLink RSt 23 "StratumCounts$Strata" "made" "I", .laysFinal "StratumCounts$Strata" "StratumCounts$Strata" "sizes" "[I", .laysFinal "StratumCounts$Strata" "StratumCounts$Strata" "costs" "[J", .laysFinal "StratumCounts$Strata" "StratumCounts$Strata" "gone" "[Z", .lays "StratumCounts$Strata" "StratumCounts$Strata" "made" "I", .arrayClass .int, .arrayClass .long, .arrayClass .boolean, .classLink RSc 16 RBg, .instantiable RBg 5, .instanceMethod yBg_init, .code yBg_init prog_2_method_1_code 1 none, .methodLink RBg 3 objectInit, .fieldLink RBg 9 "StratumCounts$Bags" "homes" "[I", .fieldLink RBg 15 "StratumCounts$Bags" "dates" "[I", .fieldLink RBg 18 "StratumCounts$Bags" "lost" "[Z", .fieldLink RBg 22 "StratumCounts$Bags" "grams" "[J", .fieldLink RBg 26 "StratumCounts$Bags" "made" "I", .laysFinal "StratumCounts$Bags" "StratumCounts$Bags" "homes" "[I", .laysFinal "StratumCounts$Bags" "StratumCounts$Bags" "dates" "[I", .laysFinal "StratumCounts$Bags" "StratumCounts$Bags" "lost" "[Z", .laysFinal "StratumCounts$Bags" "StratumCounts$Bags" "grams" "[J", .lays "StratumCounts$Bags" "StratumCounts$Bags" "made" "I", .classLink RSc 23 RDr, .instantiable RDr 3, .instanceMethod yDr_init, .code yDr_init prog_4_method_1_code 3 none, .methodLink RDr 3 objectInit, .fieldLink RDr 9 "StratumCounts$Draws" "lists" "[I", .fieldLink RDr 15 "StratumCounts$Draws" "lengths" "[I", .fieldLink RDr 18 "StratumCounts$Draws" "seed" "J", .laysFinal "StratumCounts$Draws" "StratumCounts$Draws" "lists" "[I"]
def wsAll_3 : List Cond := [.laysFinal "StratumCounts$Draws" "StratumCounts$Draws" "lengths" "[I", .lays "StratumCounts$Draws" "StratumCounts$Draws" "seed" "J", .classLink RSc 32 RRp, .instantiable RRp 4, .instanceMethod yRp_init, .code yRp_init prog_7_method_1_code 1 none, .methodLink RRp 3 objectInit, .fieldLink RRp 9 "StratumCounts$Repeats" "sorted" "[I", .fieldLink RRp 15 "StratumCounts$Repeats" "kinds" "[I", .fieldLink RRp 18 "StratumCounts$Repeats" "found" "[J", .fieldLink RRp 22 "StratumCounts$Repeats" "made" "I", .laysFinal "StratumCounts$Repeats" "StratumCounts$Repeats" "sorted" "[I", .laysFinal "StratumCounts$Repeats" "StratumCounts$Repeats" "kinds" "[I", .laysFinal "StratumCounts$Repeats" "StratumCounts$Repeats" "found" "[J", .lays "StratumCounts$Repeats" "StratumCounts$Repeats" "made" "I", .classLink RSc 39 RFg, .instantiable RFg 7, .instanceMethod yFg_init, .code yFg_init prog_5_method_1_code 1 none, .methodLink RFg 3 objectInit, .classLink RFg 24 RTm, .instantiable RTm 2, .instanceMethod yTm_init, .code yTm_init prog_9_method_1_code 1 none, .methodLink RTm 3 objectInit, .fieldLink RTm 9 "StratumCounts$Terms" "aboves" "[J", .fieldLink RTm 15 "StratumCounts$Terms" "belows" "[J", .laysFinal "StratumCounts$Terms" "StratumCounts$Terms" "aboves" "[J", .laysFinal "StratumCounts$Terms" "StratumCounts$Terms" "belows" "[J", .fieldLink RFg 9 "StratumCounts$Figures" "sizes" "[J", .fieldLink RFg 15 "StratumCounts$Figures" "numbers" "[J", .fieldLink RFg 18 "StratumCounts$Figures" "sums" "[J", .fieldLink RFg 21 "StratumCounts$Figures" "scatters" "[J", .fieldLink RFg 27 "StratumCounts$Figures" "terms" "LStratumCounts$Terms;", .fieldLink RFg 31 "StratumCounts$Figures" "counted" "I", .fieldLink RFg 35 "StratumCounts$Figures" "total" "J", .laysFinal "StratumCounts$Figures" "StratumCounts$Figures" "sizes" "[J", .laysFinal "StratumCounts$Figures" "StratumCounts$Figures" "numbers" "[J", .laysFinal "StratumCounts$Figures" "StratumCounts$Figures" "sums" "[J", .laysFinal "StratumCounts$Figures" "StratumCounts$Figures" "scatters" "[J"]
def wsAll_4 : List Cond := [.laysFinal "StratumCounts$Figures" "StratumCounts$Figures" "terms" "LStratumCounts$Terms;", .lays "StratumCounts$Figures" "StratumCounts$Figures" "counted" "I", .lays "StratumCounts$Figures" "StratumCounts$Figures" "total" "J", .classLink RSc 46 RPl, .instantiable RPl 10, .instanceMethod yPl_init, .code yPl_init prog_6_method_1_code 1 none, .methodLink RPl 3 objectInit, .classLink RPl 31 RTm, .fieldLink RPl 9 "StratumCounts$Planner" "held" "[I", .fieldLink RPl 15 "StratumCounts$Planner" "trial" "[I", .fieldLink RPl 18 "StratumCounts$Planner" "fewest" "[I", .fieldLink RPl 21 "StratumCounts$Planner" "most" "[I", .fieldLink RPl 24 "StratumCounts$Planner" "costs" "[J", .fieldLink RPl 28 "StratumCounts$Planner" "burdens" "[J", .fieldLink RPl 34 "StratumCounts$Planner" "terms" "LStratumCounts$Terms;", .fieldLink RPl 38 "StratumCounts$Planner" "holds" "Z", .fieldLink RPl 78 "StratumCounts$Planner" "limit" "J", .fieldLink RPl 85 "StratumCounts$Planner" "cheapest" "J", .laysFinal "StratumCounts$Planner" "StratumCounts$Planner" "held" "[I", .laysFinal "StratumCounts$Planner" "StratumCounts$Planner" "trial" "[I", .laysFinal "StratumCounts$Planner" "StratumCounts$Planner" "fewest" "[I", .laysFinal "StratumCounts$Planner" "StratumCounts$Planner" "most" "[I", .laysFinal "StratumCounts$Planner" "StratumCounts$Planner" "costs" "[J", .laysFinal "StratumCounts$Planner" "StratumCounts$Planner" "burdens" "[J", .laysFinal "StratumCounts$Planner" "StratumCounts$Planner" "terms" "LStratumCounts$Terms;", .lays "StratumCounts$Planner" "StratumCounts$Planner" "holds" "Z", .lays "StratumCounts$Planner" "StratumCounts$Planner" "limit" "J", .lays "StratumCounts$Planner" "StratumCounts$Planner" "cheapest" "J", .classLink RSc 53 RCp, .instantiable RCp 5, .instanceMethod yCp_init, .code yCp_init prog_3_method_1_code 1 none, .methodLink RCp 3 objectInit, .fieldLink RCp 9 "StratumCounts$Comparison" "grams" "[J", .fieldLink RCp 15 "StratumCounts$Comparison" "number" "I", .fieldLink RCp 53 "StratumCounts$Comparison" "firsts" "I", .fieldLink RCp 19 "StratumCounts$Comparison" "actual" "I", .fieldLink RCp 22 "StratumCounts$Comparison" "total" "J", .laysFinal "StratumCounts$Comparison" "StratumCounts$Comparison" "grams" "[J"]
def wsAll_5 : List Cond := [.lays "StratumCounts$Comparison" "StratumCounts$Comparison" "number" "I", .lays "StratumCounts$Comparison" "StratumCounts$Comparison" "firsts" "I", .lays "StratumCounts$Comparison" "StratumCounts$Comparison" "actual" "I", .lays "StratumCounts$Comparison" "StratumCounts$Comparison" "total" "J", .fieldLink RSc 10 "StratumCounts" "strata" "LStratumCounts$Strata;", .fieldLink RSc 19 "StratumCounts" "bags" "LStratumCounts$Bags;", .fieldLink RSc 28 "StratumCounts" "draws" "LStratumCounts$Draws;", .fieldLink RSc 35 "StratumCounts" "repeats" "LStratumCounts$Repeats;", .fieldLink RSc 42 "StratumCounts" "figures" "LStratumCounts$Figures;", .fieldLink RSc 49 "StratumCounts" "planner" "LStratumCounts$Planner;", .fieldLink RSc 56 "StratumCounts" "comparison" "LStratumCounts$Comparison;", .laysFinal "StratumCounts" "StratumCounts" "strata" "LStratumCounts$Strata;", .laysFinal "StratumCounts" "StratumCounts" "bags" "LStratumCounts$Bags;", .laysFinal "StratumCounts" "StratumCounts" "draws" "LStratumCounts$Draws;", .laysFinal "StratumCounts" "StratumCounts" "repeats" "LStratumCounts$Repeats;", .laysFinal "StratumCounts" "StratumCounts" "figures" "LStratumCounts$Figures;", .laysFinal "StratumCounts" "StratumCounts" "planner" "LStratumCounts$Planner;", .laysFinal "StratumCounts" "StratumCounts" "comparison" "LStratumCounts$Comparison;", .methodLink RLw 21 ySc_stratum, .instanceMethod ySc_stratum, .selects RSc ySc_stratum ySc_stratum, .code ySc_stratum prog_1_method_2_code 2 (some .int), .instanceMethod ySt_add, .code ySt_add prog_8_method_4_code 3 (some .int), .methodLink RLw 28 ySc_cost, .instanceMethod ySc_cost, .selects RSc ySc_cost ySc_cost, .code ySc_cost prog_1_method_3_code 4 (some .boolean), .instanceMethod ySt_setCost, .code ySt_setCost prog_8_method_5_code 4 (some .boolean), .methodLink RSt 31 ySt_stands, .instanceMethod ySt_stands, .code ySt_stands prog_8_method_3_code 2 (some .boolean), .methodLink RSt 27 ySt_has, .instanceMethod ySt_has, .code ySt_has prog_8_method_2_code 2 (some .boolean), .constantLong RSt 34 (lZ (100000)), .methodLink RLw 33 ySc_bag, .instanceMethod ySc_bag, .selects RSc ySc_bag ySc_bag]
def wsAll_6 : List Cond := [.code ySc_bag prog_1_method_4_code 2 (some .int), .instanceMethod yBg_add, .code yBg_add prog_2_method_3_code 3 (some .int), .methodLink RLw 37 ySc_weight, .instanceMethod ySc_weight, .selects RSc ySc_weight ySc_weight, .code ySc_weight prog_1_method_5_code 5 (some .boolean), .instanceMethod yBg_setGrams, .code yBg_setGrams prog_2_method_4_code 5 (some .boolean), .methodLink RBg 30 yBg_has, .instanceMethod yBg_has, .code yBg_has prog_2_method_2_code 2 (some .boolean), .static ySc_isKind, .code ySc_isKind prog_1_method_19_code 1 (some .boolean), .static ySc_isGrams, .code ySc_isGrams prog_1_method_21_code 2 (some .boolean), .constantLong RSc 169 (lZ (10000)), .methodLink RLw 42 ySc_year, .instanceMethod ySc_year, .selects RSc ySc_year ySc_year, .code ySc_year prog_1_method_6_code 3 (some .boolean), .instanceMethod yBg_setYear, .code yBg_setYear prog_2_method_5_code 3 (some .boolean), .methodLink RLw 47 ySc_missing, .instanceMethod ySc_missing, .selects RSc ySc_missing ySc_missing, .code ySc_missing prog_1_method_7_code 2 (some .boolean), .instanceMethod yBg_lose, .code yBg_lose prog_2_method_6_code 2 (some .boolean), .methodLink RLw 52 ySc_draw, .instanceMethod ySc_draw, .selects RSc ySc_draw ySc_draw, .code ySc_draw prog_1_method_8_code 3 (some .int), .instanceMethod yDr_take, .code yDr_take prog_4_method_2_code 6 (some .int), .methodLink RDr 22 yDr_nextBelow, .instanceMethod yDr_nextBelow, .code yDr_nextBelow prog_4_method_3_code 2 (some .int), .constantLong RDr 30 (lZ (6364136223846793005)), .constantLong RDr 32 (lZ (1442695040888963407))]
def wsAll_7 : List Cond := [.methodLink RDr 26 yDr_swap, .instanceMethod yDr_swap, .code yDr_swap prog_4_method_4_code 4 none, .methodLink RLw 57 ySc_drawn, .instanceMethod ySc_drawn, .selects RSc ySc_drawn ySc_drawn, .code ySc_drawn prog_1_method_9_code 3 (some .int), .instanceMethod yDr_taken, .code yDr_taken prog_4_method_5_code 3 (some .int), .methodLink RLw 61 ySc_mean, .instanceMethod ySc_mean, .selects RSc ySc_mean ySc_mean, .code ySc_mean prog_1_method_10_code 3 (some .long), .methodLink RSc 99 ySc_isKind, .methodLink RSc 102 ySc_isPart, .static ySc_isPart, .code ySc_isPart prog_1_method_20_code 1 (some .boolean), .constantLong RSc 105 (lZ (-1)), .instanceMethod yFg_gather, .code yFg_gather prog_5_method_2_code 5 none, .methodLink RFg 39 yFg_gatherOne, .instanceMethod yFg_gatherOne, .code yFg_gatherOne prog_5_method_3_code 13 none, .instanceMethod yBg_gramsOf, .code yBg_gramsOf prog_2_method_8_code 3 (some .long), .instanceMethod yFg_tellMean, .code yFg_tellMean prog_5_method_5_code 4 (some .long), .instanceMethod yTm_clear, .code yTm_clear prog_9_method_2_code 1 none, .methodLink RTm 18 yJA_fill, .static yJA_fill, .code yJA_fill prog_15_method_101_code 5 none, .instanceMethod yTm_set, .code yTm_set prog_9_method_3_code 6 none, .instanceMethod yTm_common, .code yTm_common prog_9_method_4_code 4 (some .long), .static ySc_leastCommon, .code ySc_leastCommon prog_1_method_23_code 6 (some .long), .methodLink RSc 171 ySc_greatestShared, .static ySc_greatestShared]
def wsAll_8 : List Cond := [.code ySc_greatestShared prog_1_method_22_code 11 (some .long), .instanceMethod yTm_sum, .code yTm_sum prog_9_method_6_code 6 (some .long), .methodLink RTm 28 yTm_scaled, .instanceMethod yTm_scaled, .code yTm_scaled prog_9_method_5_code 4 (some .long), .static ySc_tell, .code ySc_tell prog_1_method_24_code 7 (some .long), .methodLink RLw 66 ySc_spread, .instanceMethod ySc_spread, .selects RSc ySc_spread ySc_spread, .code ySc_spread prog_1_method_11_code 3 (some .long), .instanceMethod yFg_haveSpread, .code yFg_haveSpread prog_5_method_4_code 2 (some .boolean), .instanceMethod yFg_tellSpread, .code yFg_tellSpread prog_5_method_6_code 4 (some .long), .methodLink RFg 83 yFg_weighedScatter, .instanceMethod yFg_weighedScatter, .code yFg_weighedScatter prog_5_method_7_code 2 (some .long), .methodLink RFg 87 yFg_pairs, .instanceMethod yFg_pairs, .code yFg_pairs prog_5_method_8_code 2 (some .long), .methodLink RLw 70 ySc_plan, .instanceMethod ySc_plan, .selects RSc ySc_plan ySc_plan, .code ySc_plan prog_1_method_12_code 6 (some .long), .constantLong RSc 126 (lZ (1000000000)), .constantLong RSc 128 (lZ (1000)), .instanceMethod yPl_prepare, .code yPl_prepare prog_6_method_3_code 11 none, .constantLong RPl 68 (lZ (60)), .instanceMethod yPl_findCheapest, .code yPl_findCheapest prog_6_method_4_code 2 (some .long), .constantLong RPl 83 (lZ (9223372036854775807)), .methodLink RPl 88 arraycopyName, .static arraycopyName, .native arraycopyName, .methodLink RPl 94 yPl_considerTrial, .instanceMethod yPl_considerTrial, .code yPl_considerTrial prog_6_method_5_code 4 none]
def wsAll_9 : List Cond := [.methodLink RPl 103 yPl_isNearEnough, .instanceMethod yPl_isNearEnough, .code yPl_isNearEnough prog_6_method_6_code 4 (some .boolean), .methodLink RPl 97 yPl_stepTrial, .instanceMethod yPl_stepTrial, .code yPl_stepTrial prog_6_method_7_code 2 (some .boolean), .constantLong RPl 101 (lZ (-1)), .methodLink RLw 75 ySc_planned, .instanceMethod ySc_planned, .selects RSc ySc_planned ySc_planned, .code ySc_planned prog_1_method_13_code 2 (some .int), .instanceMethod yPl_heldBags, .code yPl_heldBags prog_6_method_2_code 2 (some .int), .methodLink RLw 79 ySc_compared, .instanceMethod ySc_compared, .selects RSc ySc_compared ySc_compared, .code ySc_compared prog_1_method_14_code 3 (some .long), .instanceMethod yCp_gather, .code yCp_gather prog_3_method_2_code 4 (some .boolean), .methodLink RCp 43 yCp_take, .instanceMethod yCp_take, .code yCp_take prog_3_method_3_code 4 none, .methodLink RCp 47 yJI_bitCount, .static yJI_bitCount, .code yJI_bitCount prog_12_method_49_code 1 (some .int), .constant RJI 265 (iZ (1431655765)), .constant RJI 266 (iZ (858993459)), .constant RJI 267 (iZ (252645135)), .instanceMethod yCp_countFarWays, .code yCp_countFarWays prog_3_method_5_code 6 (some .long), .methodLink RCp 56 yCp_apart, .instanceMethod yCp_apart, .code yCp_apart prog_3_method_6_code 5 (some .long), .methodLink RCp 60 Lib.MathLoose.abs_long.x, .static Lib.MathLoose.abs_long.x, .code Lib.MathLoose.abs_long.x prog_13_method_61_code 2 (some .long), .instanceMethod yCp_countWays, .code yCp_countWays prog_3_method_4_code 4 (some .long), .methodLink RLw 83 ySc_joined, .instanceMethod ySc_joined]
def wsAll_10 : List Cond := [.selects RSc ySc_joined ySc_joined, .code ySc_joined prog_1_method_15_code 3 (some .boolean), .instanceMethod ySt_merge, .code ySt_merge prog_8_method_6_code 4 (some .boolean), .instanceMethod yBg_move, .code yBg_move prog_2_method_7_code 4 none, .methodLink RLw 87 ySc_repeat, .instanceMethod ySc_repeat, .selects RSc ySc_repeat ySc_repeat, .code ySc_repeat prog_1_method_16_code 5 (some .int), .methodLink RSc 158 ySc_isGrams, .instanceMethod yRp_add, .code yRp_add prog_7_method_2_code 5 (some .int), .methodLink RLw 92 ySc_error, .instanceMethod ySc_error, .selects RSc ySc_error ySc_error, .code ySc_error prog_1_method_17_code 3 (some .long), .instanceMethod yRp_tellError, .code yRp_tellError prog_7_method_3_code 11 (some .long), .constantLong RRp 32 (lZ (2)), .constantLong RRp 38 (lZ (-1)), .methodLink RLw 96 ySc_counting, .instanceMethod ySc_counting, .selects RSc ySc_counting ySc_counting, .code ySc_counting prog_1_method_18_code 1 (some .int), .methodLink RLw 9 yLw_cell, .static yLw_cell, .code yLw_cell method_2_code 2 (some .int), .classLink RLw 18 RMd, .instantiable RMd 21, .methodLink RLw 20 yMd_init, .instanceMethod yMd_init, .code yMd_init prog_11_method_1_code 3 none, .methodLink RMd 1 objectInit, .fieldLink RMd 54 "StratumCountsModel" "seed" "J", .fieldLink RMd 58 "StratumCountsModel" "strata" "I", .fieldLink RMd 7 "StratumCountsModel" "sizes" "[I", .fieldLink RMd 13 "StratumCountsModel" "costs" "[J", .fieldLink RMd 17 "StratumCountsModel" "gone" "[Z", .fieldLink RMd 21 "StratumCountsModel" "drawn" "[I"]
def wsAll_11 : List Cond := [.fieldLink RMd 24 "StratumCountsModel" "drawnCounts" "[I", .fieldLink RMd 62 "StratumCountsModel" "bags" "I", .fieldLink RMd 27 "StratumCountsModel" "owners" "[I", .fieldLink RMd 30 "StratumCountsModel" "years" "[I", .fieldLink RMd 33 "StratumCountsModel" "missing" "[Z", .fieldLink RMd 36 "StratumCountsModel" "grams" "[J", .fieldLink RMd 145 "StratumCountsModel" "hasPlan" "Z", .fieldLink RMd 39 "StratumCountsModel" "planned" "[I", .fieldLink RMd 170 "StratumCountsModel" "again" "I", .fieldLink RMd 42 "StratumCountsModel" "againBag" "[I", .fieldLink RMd 45 "StratumCountsModel" "againKind" "[I", .fieldLink RMd 48 "StratumCountsModel" "againGrams" "[J", .fieldLink RMd 100 "StratumCountsModel" "over" "J", .fieldLink RMd 103 "StratumCountsModel" "under" "J", .fieldLink RMd 51 "StratumCountsModel" "trial" "[I", .lays "StratumCountsModel" "StratumCountsModel" "seed" "J", .lays "StratumCountsModel" "StratumCountsModel" "strata" "I", .laysFinal "StratumCountsModel" "StratumCountsModel" "sizes" "[I", .laysFinal "StratumCountsModel" "StratumCountsModel" "costs" "[J", .laysFinal "StratumCountsModel" "StratumCountsModel" "gone" "[Z", .laysFinal "StratumCountsModel" "StratumCountsModel" "drawn" "[I", .laysFinal "StratumCountsModel" "StratumCountsModel" "drawnCounts" "[I", .lays "StratumCountsModel" "StratumCountsModel" "bags" "I", .laysFinal "StratumCountsModel" "StratumCountsModel" "owners" "[I", .laysFinal "StratumCountsModel" "StratumCountsModel" "years" "[I", .laysFinal "StratumCountsModel" "StratumCountsModel" "missing" "[Z", .laysFinal "StratumCountsModel" "StratumCountsModel" "grams" "[J", .lays "StratumCountsModel" "StratumCountsModel" "hasPlan" "Z", .laysFinal "StratumCountsModel" "StratumCountsModel" "planned" "[I", .lays "StratumCountsModel" "StratumCountsModel" "again" "I", .laysFinal "StratumCountsModel" "StratumCountsModel" "againBag" "[I", .laysFinal "StratumCountsModel" "StratumCountsModel" "againKind" "[I", .laysFinal "StratumCountsModel" "StratumCountsModel" "againGrams" "[J", .lays "StratumCountsModel" "StratumCountsModel" "over" "J", .lays "StratumCountsModel" "StratumCountsModel" "under" "J", .laysFinal "StratumCountsModel" "StratumCountsModel" "trial" "[I", .methodLink RLw 25 yMd_stratum, .instanceMethod yMd_stratum, .selects RMd yMd_stratum yMd_stratum, .code yMd_stratum prog_11_method_7_code 2 (some .int)]
def wsAll_12 : List Cond := [.constantLong RMd 65 (lZ (100)), .methodLink RMd 67 yMd_isIn, .static yMd_isIn, .code yMd_isIn prog_11_method_3_code 6 (some .boolean), .methodLink RLw 32 yMd_cost, .instanceMethod yMd_cost, .selects RMd yMd_cost yMd_cost, .code yMd_cost prog_11_method_8_code 4 (some .boolean), .methodLink RMd 71 yMd_isHere, .instanceMethod yMd_isHere, .code yMd_isHere prog_11_method_4_code 2 (some .boolean), .constantLong RMd 75 (lZ (100000)), .methodLink RLw 36 yMd_bag, .instanceMethod yMd_bag, .selects RMd yMd_bag yMd_bag, .code yMd_bag prog_11_method_9_code 2 (some .int), .methodLink RLw 41 yMd_weight, .instanceMethod yMd_weight, .selects RMd yMd_weight yMd_weight, .code yMd_weight prog_11_method_10_code 5 (some .boolean), .methodLink RMd 77 yMd_isBag, .instanceMethod yMd_isBag, .code yMd_isBag prog_11_method_5_code 2 (some .boolean), .methodLink RMd 80 yMd_isKind, .static yMd_isKind, .code yMd_isKind prog_11_method_6_code 1 (some .boolean), .constantLong RMd 83 (lZ (10000)), .methodLink RLw 46 yMd_year, .instanceMethod yMd_year, .selects RMd yMd_year yMd_year, .code yMd_year prog_11_method_11_code 3 (some .boolean), .methodLink RLw 51 yMd_missing, .instanceMethod yMd_missing, .selects RMd yMd_missing yMd_missing, .code yMd_missing prog_11_method_12_code 2 (some .boolean), .methodLink RLw 56 yMd_draw, .instanceMethod yMd_draw, .selects RMd yMd_draw yMd_draw, .code yMd_draw prog_11_method_13_code 6 (some .int), .constantLong RMd 85 (lZ (6364136223846793005))]
def wsAll_13 : List Cond := [.constantLong RMd 87 (lZ (1442695040888963407)), .methodLink RLw 60 yMd_drawn, .instanceMethod yMd_drawn, .selects RMd yMd_drawn yMd_drawn, .code yMd_drawn prog_11_method_14_code 3 (some .int), .methodLink RLw 100 yMd_counting, .instanceMethod yMd_counting, .selects RMd yMd_counting yMd_counting, .code yMd_counting prog_11_method_19_code 3 (some .int), .methodLink RMd 93 yMd_counts, .instanceMethod yMd_counts, .code yMd_counts prog_11_method_16_code 2 (some .boolean), .methodLink RMd 89 yMd_countOf, .instanceMethod yMd_countOf, .code yMd_countOf prog_11_method_15_code 4 (some .int), .methodLink RLw 65 yMd_mean, .instanceMethod yMd_mean, .selects RMd yMd_mean yMd_mean, .code yMd_mean prog_11_method_24_code 6 (some .long), .methodLink RMd 106 yMd_counting, .constantLong RMd 110 (lZ (-1)), .methodLink RMd 112 yMd_multiple, .static yMd_multiple, .code yMd_multiple prog_11_method_22_code 4 (some .long), .methodLink RMd 96 yMd_common, .static yMd_common, .code yMd_common prog_11_method_21_code 10 (some .long), .methodLink RMd 115 yMd_sumOf, .instanceMethod yMd_sumOf, .code yMd_sumOf prog_11_method_17_code 6 (some .long), .methodLink RMd 119 yMd_allSizes, .instanceMethod yMd_allSizes, .code yMd_allSizes prog_11_method_20_code 4 (some .long), .methodLink RMd 123 yMd_part, .instanceMethod yMd_part, .code yMd_part prog_11_method_23_code 4 (some .long), .methodLink RLw 69 yMd_spread, .instanceMethod yMd_spread, .selects RMd yMd_spread yMd_spread, .code yMd_spread prog_11_method_28_code 3 (some .long)]
def wsAll_14 : List Cond := [.methodLink RMd 134 yMd_hasSpread, .instanceMethod yMd_hasSpread, .code yMd_hasSpread prog_11_method_25_code 4 (some .boolean), .methodLink RMd 137 yMd_makeSpread, .instanceMethod yMd_makeSpread, .code yMd_makeSpread prog_11_method_27_code 10 none, .methodLink RMd 127 yMd_bagsOf, .instanceMethod yMd_bagsOf, .code yMd_bagsOf prog_11_method_26_code 3 (some .long), .methodLink RMd 131 yMd_squaresOf, .instanceMethod yMd_squaresOf, .code yMd_squaresOf prog_11_method_18_code 8 (some .long), .methodLink RLw 74 yMd_plan, .instanceMethod yMd_plan, .selects RMd yMd_plan yMd_plan, .code yMd_plan prog_11_method_33_code 10 (some .long), .constantLong RMd 141 (lZ (1000000000)), .constantLong RMd 143 (lZ (1000)), .methodLink RMd 149 yMd_isOwn, .instanceMethod yMd_isOwn, .code yMd_isOwn prog_11_method_32_code 5 (some .boolean), .methodLink RMd 152 yMd_tryPlan, .instanceMethod yMd_tryPlan, .code yMd_tryPlan prog_11_method_31_code 4 none, .methodLink RMd 156 yMd_trialCost, .instanceMethod yMd_trialCost, .code yMd_trialCost prog_11_method_30_code 4 (some .long), .methodLink RMd 159 yMd_isAtMost, .static yMd_isAtMost, .code yMd_isAtMost prog_11_method_29_code 27 (some .boolean), .methodLink RLw 78 yMd_planned, .instanceMethod yMd_planned, .selects RMd yMd_planned yMd_planned, .code yMd_planned prog_11_method_34_code 2 (some .int), .methodLink RLw 82 yMd_compared, .instanceMethod yMd_compared, .selects RMd yMd_compared yMd_compared, .code yMd_compared prog_11_method_37_code 16 (some .long), .methodLink RMd 163 yMd_bagsOfYear, .instanceMethod yMd_bagsOfYear]
def wsAll_15 : List Cond := [.code yMd_bagsOfYear prog_11_method_35_code 4 (some .int), .methodLink RMd 166 yMd_apart, .instanceMethod yMd_apart, .code yMd_apart prog_11_method_36_code 15 (some .long), .methodLink RLw 86 yMd_joined, .instanceMethod yMd_joined, .selects RMd yMd_joined yMd_joined, .code yMd_joined prog_11_method_38_code 4 (some .boolean), .methodLink RLw 91 yMd_repeat, .instanceMethod yMd_repeat, .selects RMd yMd_repeat yMd_repeat, .code yMd_repeat prog_11_method_39_code 5 (some .int), .methodLink RLw 95 yMd_error, .instanceMethod yMd_error, .selects RMd yMd_error yMd_error, .code yMd_error prog_11_method_40_code 6 (some .long), .constantLong RMd 173 (lZ (2)), .constantLong RLw 26 (lZ (4294967295))]
def wsAll : List Cond := wsAll_0 ++ (wsAll_1 ++ (wsAll_2 ++ (wsAll_3 ++ (wsAll_4 ++ (wsAll_5 ++ (wsAll_6 ++ (wsAll_7 ++ (wsAll_8 ++ (wsAll_9 ++ (wsAll_10 ++ (wsAll_11 ++ (wsAll_12 ++ (wsAll_13 ++ (wsAll_14 ++ (wsAll_15)))))))))))))))
def nwAll : List Cond := [.methodLinkNest RSc 9 ySt_init "StratumCounts", .fieldLinkNest RFg 43 "StratumCounts$Strata" "sizes" "[I" "StratumCounts", .fieldLinkNest RSc 84 "StratumCounts$Strata" "sizes" "[I" "StratumCounts", .fieldLinkNest RPl 50 "StratumCounts$Strata" "costs" "[J" "StratumCounts", .methodLinkNest RSc 18 yBg_init "StratumCounts", .fieldLinkNest RFg 53 "StratumCounts$Bags" "homes" "[I" "StratumCounts", .fieldLinkNest RCp 39 "StratumCounts$Bags" "dates" "[I" "StratumCounts", .fieldLinkNest RCp 31 "StratumCounts$Bags" "lost" "[Z" "StratumCounts", .fieldLinkNest RFg 56 "StratumCounts$Bags" "lost" "[Z" "StratumCounts", .fieldLinkNest RCp 26 "StratumCounts$Bags" "made" "I" "StratumCounts", .fieldLinkNest RFg 48 "StratumCounts$Bags" "made" "I" "StratumCounts", .methodLinkNest RSc 25 yDr_init "StratumCounts", .methodLinkNest RSc 34 yRp_init "StratumCounts", .methodLinkNest RSc 41 yFg_init "StratumCounts", .methodLinkNest RFg 26 yTm_init "StratumCounts", .fieldLinkNest RPl 45 "StratumCounts$Figures" "numbers" "[J" "StratumCounts", .fieldLinkNest RSc 111 "StratumCounts$Figures" "counted" "I" "StratumCounts", .fieldLinkNest RPl 74 "StratumCounts$Figures" "total" "J" "StratumCounts", .methodLinkNest RSc 48 yPl_init "StratumCounts", .methodLinkNest RPl 33 yTm_init "StratumCounts", .methodLinkNest RSc 55 yCp_init "StratumCounts", .methodLinkNest RSc 60 ySt_add "StratumCounts", .methodLinkNest RSc 64 ySt_setCost "StratumCounts", .methodLinkNest RSc 68 ySt_stands "StratumCounts", .methodLinkNest RSc 72 yBg_add "StratumCounts", .methodLinkNest RSc 73 yBg_setGrams "StratumCounts", .methodLinkNest RBg 34 ySc_isKind "StratumCounts", .methodLinkNest RBg 37 ySc_isGrams "StratumCounts", .methodLinkNest RSc 77 yBg_setYear "StratumCounts", .methodLinkNest RSc 81 yBg_lose "StratumCounts", .methodLinkNest RSc 88 yDr_take "StratumCounts", .methodLinkNest RSc 92 ySt_has "StratumCounts", .methodLinkNest RSc 95 yDr_taken "StratumCounts", .methodLinkNest RSc 107 yFg_gather "StratumCounts", .methodLinkNest RFg 60 yBg_gramsOf "StratumCounts", .methodLinkNest RSc 115 yFg_tellMean "StratumCounts", .methodLinkNest RFg 64 yTm_clear "StratumCounts", .methodLinkNest RFg 67 yTm_set "StratumCounts", .methodLinkNest RFg 71 yTm_common "StratumCounts", .methodLinkNest RTm 24 ySc_leastCommon "StratumCounts", .methodLinkNest RFg 75 yTm_sum "StratumCounts", .methodLinkNest RFg 79 ySc_tell "StratumCounts", .methodLinkNest RSc 119 yFg_haveSpread "StratumCounts", .methodLinkNest RSc 123 yFg_tellSpread "StratumCounts", .methodLinkNest RSc 130 yPl_prepare "StratumCounts", .methodLinkNest RPl 42 yTm_clear "StratumCounts", .methodLinkNest RPl 53 yFg_weighedScatter "StratumCounts", .methodLinkNest RPl 57 yFg_pairs "StratumCounts", .methodLinkNest RPl 60 yTm_set "StratumCounts", .methodLinkNest RPl 64 yTm_common "StratumCounts", .methodLinkNest RPl 70 yTm_scaled "StratumCounts", .methodLinkNest RSc 134 yPl_findCheapest "StratumCounts", .methodLinkNest RSc 138 yPl_heldBags "StratumCounts", .methodLinkNest RSc 141 yCp_gather "StratumCounts", .methodLinkNest RCp 35 yBg_gramsOf "StratumCounts", .methodLinkNest RSc 144 yCp_countFarWays "StratumCounts", .methodLinkNest RSc 147 yCp_countWays "StratumCounts", .methodLinkNest RSc 150 ySt_merge "StratumCounts", .methodLinkNest RSc 153 yBg_move "StratumCounts", .methodLinkNest RSc 157 yBg_has "StratumCounts", .methodLinkNest RSc 162 yRp_add "StratumCounts", .methodLinkNest RSc 165 yRp_tellError "StratumCounts", .methodLinkNest RRp 26 yBg_gramsOf "StratumCounts", .methodLinkNest RRp 34 ySc_tell "StratumCounts"]
theorem wsAll_c0 : ∀ w ∈ wsAll_0, w ∈ wsAll := fun w h => List.mem_append_left _ h
theorem wsAll_c1 : ∀ w ∈ wsAll_1, w ∈ wsAll := fun w h => List.mem_append_right _ (List.mem_append_left _ h)
theorem wsAll_c2 : ∀ w ∈ wsAll_2, w ∈ wsAll := fun w h => List.mem_append_right _ (List.mem_append_right _ (List.mem_append_left _ h))
theorem wsAll_c3 : ∀ w ∈ wsAll_3, w ∈ wsAll := fun w h => List.mem_append_right _ (List.mem_append_right _ (List.mem_append_right _ (List.mem_append_left _ h)))
theorem wsAll_c4 : ∀ w ∈ wsAll_4, w ∈ wsAll := fun w h => List.mem_append_right _ (List.mem_append_right _ (List.mem_append_right _ (List.mem_append_right _ (List.mem_append_left _ h))))
theorem wsAll_c5 : ∀ w ∈ wsAll_5, w ∈ wsAll := fun w h => List.mem_append_right _ (List.mem_append_right _ (List.mem_append_right _ (List.mem_append_right _ (List.mem_append_right _ (List.mem_append_left _ h)))))
theorem wsAll_c6 : ∀ w ∈ wsAll_6, w ∈ wsAll := fun w h => List.mem_append_right _ (List.mem_append_right _ (List.mem_append_right _ (List.mem_append_right _ (List.mem_append_right _ (List.mem_append_right _ (List.mem_append_left _ h))))))
theorem wsAll_c7 : ∀ w ∈ wsAll_7, w ∈ wsAll := fun w h => List.mem_append_right _ (List.mem_append_right _ (List.mem_append_right _ (List.mem_append_right _ (List.mem_append_right _ (List.mem_append_right _ (List.mem_append_right _ (List.mem_append_left _ h)))))))
theorem wsAll_c8 : ∀ w ∈ wsAll_8, w ∈ wsAll := fun w h => List.mem_append_right _ (List.mem_append_right _ (List.mem_append_right _ (List.mem_append_right _ (List.mem_append_right _ (List.mem_append_right _ (List.mem_append_right _ (List.mem_append_right _ (List.mem_append_left _ h))))))))
theorem wsAll_c9 : ∀ w ∈ wsAll_9, w ∈ wsAll := fun w h => List.mem_append_right _ (List.mem_append_right _ (List.mem_append_right _ (List.mem_append_right _ (List.mem_append_right _ (List.mem_append_right _ (List.mem_append_right _ (List.mem_append_right _ (List.mem_append_right _ (List.mem_append_left _ h)))))))))
theorem wsAll_c10 : ∀ w ∈ wsAll_10, w ∈ wsAll := fun w h => List.mem_append_right _ (List.mem_append_right _ (List.mem_append_right _ (List.mem_append_right _ (List.mem_append_right _ (List.mem_append_right _ (List.mem_append_right _ (List.mem_append_right _ (List.mem_append_right _ (List.mem_append_right _ (List.mem_append_left _ h))))))))))
theorem wsAll_c11 : ∀ w ∈ wsAll_11, w ∈ wsAll := fun w h => List.mem_append_right _ (List.mem_append_right _ (List.mem_append_right _ (List.mem_append_right _ (List.mem_append_right _ (List.mem_append_right _ (List.mem_append_right _ (List.mem_append_right _ (List.mem_append_right _ (List.mem_append_right _ (List.mem_append_right _ (List.mem_append_left _ h)))))))))))
theorem wsAll_c12 : ∀ w ∈ wsAll_12, w ∈ wsAll := fun w h => List.mem_append_right _ (List.mem_append_right _ (List.mem_append_right _ (List.mem_append_right _ (List.mem_append_right _ (List.mem_append_right _ (List.mem_append_right _ (List.mem_append_right _ (List.mem_append_right _ (List.mem_append_right _ (List.mem_append_right _ (List.mem_append_right _ (List.mem_append_left _ h))))))))))))
theorem wsAll_c13 : ∀ w ∈ wsAll_13, w ∈ wsAll := fun w h => List.mem_append_right _ (List.mem_append_right _ (List.mem_append_right _ (List.mem_append_right _ (List.mem_append_right _ (List.mem_append_right _ (List.mem_append_right _ (List.mem_append_right _ (List.mem_append_right _ (List.mem_append_right _ (List.mem_append_right _ (List.mem_append_right _ (List.mem_append_right _ (List.mem_append_left _ h)))))))))))))
theorem wsAll_c14 : ∀ w ∈ wsAll_14, w ∈ wsAll := fun w h => List.mem_append_right _ (List.mem_append_right _ (List.mem_append_right _ (List.mem_append_right _ (List.mem_append_right _ (List.mem_append_right _ (List.mem_append_right _ (List.mem_append_right _ (List.mem_append_right _ (List.mem_append_right _ (List.mem_append_right _ (List.mem_append_right _ (List.mem_append_right _ (List.mem_append_right _ (List.mem_append_left _ h))))))))))))))
theorem wsAll_c15 : ∀ w ∈ wsAll_15, w ∈ wsAll := fun w h => List.mem_append_right _ (List.mem_append_right _ (List.mem_append_right _ (List.mem_append_right _ (List.mem_append_right _ (List.mem_append_right _ (List.mem_append_right _ (List.mem_append_right _ (List.mem_append_right _ (List.mem_append_right _ (List.mem_append_right _ (List.mem_append_right _ (List.mem_append_right _ (List.mem_append_right _ (List.mem_append_right _ (h)))))))))))))))
theorem g0 : .selects RSt ySt_add ySt_add ∈ wsAll := wsAll_c0 _ (List.mem_of_getElem? (i := 0) rfl)
theorem g1 : .selects RSt ySt_setCost ySt_setCost ∈ wsAll := wsAll_c0 _ (List.mem_of_getElem? (i := 1) rfl)
theorem g2 : .selects RSt ySt_stands ySt_stands ∈ wsAll := wsAll_c0 _ (List.mem_of_getElem? (i := 2) rfl)
theorem g3 : .selects RSt ySt_has ySt_has ∈ wsAll := wsAll_c0 _ (List.mem_of_getElem? (i := 3) rfl)
theorem g4 : .selects RBg yBg_add yBg_add ∈ wsAll := wsAll_c0 _ (List.mem_of_getElem? (i := 4) rfl)
theorem g5 : .selects RBg yBg_setGrams yBg_setGrams ∈ wsAll := wsAll_c0 _ (List.mem_of_getElem? (i := 5) rfl)
theorem g6 : .selects RBg yBg_has yBg_has ∈ wsAll := wsAll_c0 _ (List.mem_of_getElem? (i := 6) rfl)
theorem g7 : .selects RBg yBg_setYear yBg_setYear ∈ wsAll := wsAll_c0 _ (List.mem_of_getElem? (i := 7) rfl)
theorem g8 : .selects RBg yBg_lose yBg_lose ∈ wsAll := wsAll_c0 _ (List.mem_of_getElem? (i := 8) rfl)
theorem g9 : .selects RDr yDr_take yDr_take ∈ wsAll := wsAll_c0 _ (List.mem_of_getElem? (i := 9) rfl)
theorem g10 : .selects RDr yDr_nextBelow yDr_nextBelow ∈ wsAll := wsAll_c0 _ (List.mem_of_getElem? (i := 10) rfl)
theorem g11 : .selects RDr yDr_swap yDr_swap ∈ wsAll := wsAll_c0 _ (List.mem_of_getElem? (i := 11) rfl)
theorem g12 : .selects RDr yDr_taken yDr_taken ∈ wsAll := wsAll_c0 _ (List.mem_of_getElem? (i := 12) rfl)
theorem g13 : .selects RFg yFg_gather yFg_gather ∈ wsAll := wsAll_c0 _ (List.mem_of_getElem? (i := 13) rfl)
theorem g14 : .selects RFg yFg_gatherOne yFg_gatherOne ∈ wsAll := wsAll_c0 _ (List.mem_of_getElem? (i := 14) rfl)
theorem g15 : .selects RBg yBg_gramsOf yBg_gramsOf ∈ wsAll := wsAll_c0 _ (List.mem_of_getElem? (i := 15) rfl)
theorem g16 : .selects RFg yFg_tellMean yFg_tellMean ∈ wsAll := wsAll_c0 _ (List.mem_of_getElem? (i := 16) rfl)
theorem g17 : .selects RTm yTm_clear yTm_clear ∈ wsAll := wsAll_c0 _ (List.mem_of_getElem? (i := 17) rfl)
theorem g18 : .selects RTm yTm_set yTm_set ∈ wsAll := wsAll_c0 _ (List.mem_of_getElem? (i := 18) rfl)
theorem g19 : .selects RTm yTm_common yTm_common ∈ wsAll := wsAll_c0 _ (List.mem_of_getElem? (i := 19) rfl)
theorem g20 : .selects RTm yTm_sum yTm_sum ∈ wsAll := wsAll_c0 _ (List.mem_of_getElem? (i := 20) rfl)
theorem g21 : .selects RTm yTm_scaled yTm_scaled ∈ wsAll := wsAll_c0 _ (List.mem_of_getElem? (i := 21) rfl)
theorem g22 : .selects RFg yFg_haveSpread yFg_haveSpread ∈ wsAll := wsAll_c0 _ (List.mem_of_getElem? (i := 22) rfl)
theorem g23 : .selects RFg yFg_tellSpread yFg_tellSpread ∈ wsAll := wsAll_c0 _ (List.mem_of_getElem? (i := 23) rfl)
theorem g24 : .selects RFg yFg_weighedScatter yFg_weighedScatter ∈ wsAll := wsAll_c0 _ (List.mem_of_getElem? (i := 24) rfl)
theorem g25 : .selects RFg yFg_pairs yFg_pairs ∈ wsAll := wsAll_c0 _ (List.mem_of_getElem? (i := 25) rfl)
theorem g26 : .selects RPl yPl_prepare yPl_prepare ∈ wsAll := wsAll_c0 _ (List.mem_of_getElem? (i := 26) rfl)
theorem g27 : .selects RPl yPl_findCheapest yPl_findCheapest ∈ wsAll := wsAll_c0 _ (List.mem_of_getElem? (i := 27) rfl)
theorem g28 : .selects RPl yPl_considerTrial yPl_considerTrial ∈ wsAll := wsAll_c0 _ (List.mem_of_getElem? (i := 28) rfl)
theorem g29 : .selects RPl yPl_isNearEnough yPl_isNearEnough ∈ wsAll := wsAll_c0 _ (List.mem_of_getElem? (i := 29) rfl)
theorem g30 : .selects RPl yPl_stepTrial yPl_stepTrial ∈ wsAll := wsAll_c0 _ (List.mem_of_getElem? (i := 30) rfl)
theorem g31 : .selects RPl yPl_heldBags yPl_heldBags ∈ wsAll := wsAll_c0 _ (List.mem_of_getElem? (i := 31) rfl)
theorem g32 : .selects RCp yCp_gather yCp_gather ∈ wsAll := wsAll_c0 _ (List.mem_of_getElem? (i := 32) rfl)
theorem g33 : .selects RCp yCp_take yCp_take ∈ wsAll := wsAll_c0 _ (List.mem_of_getElem? (i := 33) rfl)
theorem g34 : .selects RCp yCp_countFarWays yCp_countFarWays ∈ wsAll := wsAll_c0 _ (List.mem_of_getElem? (i := 34) rfl)
theorem g35 : .selects RCp yCp_apart yCp_apart ∈ wsAll := wsAll_c0 _ (List.mem_of_getElem? (i := 35) rfl)
theorem g36 : .selects RCp yCp_countWays yCp_countWays ∈ wsAll := wsAll_c0 _ (List.mem_of_getElem? (i := 36) rfl)
theorem g37 : .selects RSt ySt_merge ySt_merge ∈ wsAll := wsAll_c0 _ (List.mem_of_getElem? (i := 37) rfl)
theorem g38 : .selects RBg yBg_move yBg_move ∈ wsAll := wsAll_c0 _ (List.mem_of_getElem? (i := 38) rfl)
theorem g39 : .selects RRp yRp_add yRp_add ∈ wsAll := wsAll_c0 _ (List.mem_of_getElem? (i := 39) rfl)
theorem g40 : .selects RRp yRp_tellError yRp_tellError ∈ wsAll := wsAll_c1 _ (List.mem_of_getElem? (i := 0) rfl)
theorem g41 : .selects RMd yMd_isHere yMd_isHere ∈ wsAll := wsAll_c1 _ (List.mem_of_getElem? (i := 1) rfl)
theorem g42 : .selects RMd yMd_isBag yMd_isBag ∈ wsAll := wsAll_c1 _ (List.mem_of_getElem? (i := 2) rfl)
theorem g43 : .selects RMd yMd_counts yMd_counts ∈ wsAll := wsAll_c1 _ (List.mem_of_getElem? (i := 3) rfl)
theorem g44 : .selects RMd yMd_countOf yMd_countOf ∈ wsAll := wsAll_c1 _ (List.mem_of_getElem? (i := 4) rfl)
theorem g45 : .selects RMd yMd_sumOf yMd_sumOf ∈ wsAll := wsAll_c1 _ (List.mem_of_getElem? (i := 5) rfl)
theorem g46 : .selects RMd yMd_allSizes yMd_allSizes ∈ wsAll := wsAll_c1 _ (List.mem_of_getElem? (i := 6) rfl)
theorem g47 : .selects RMd yMd_part yMd_part ∈ wsAll := wsAll_c1 _ (List.mem_of_getElem? (i := 7) rfl)
theorem g48 : .selects RMd yMd_hasSpread yMd_hasSpread ∈ wsAll := wsAll_c1 _ (List.mem_of_getElem? (i := 8) rfl)
theorem g49 : .selects RMd yMd_makeSpread yMd_makeSpread ∈ wsAll := wsAll_c1 _ (List.mem_of_getElem? (i := 9) rfl)
theorem g50 : .selects RMd yMd_bagsOf yMd_bagsOf ∈ wsAll := wsAll_c1 _ (List.mem_of_getElem? (i := 10) rfl)
theorem g51 : .selects RMd yMd_squaresOf yMd_squaresOf ∈ wsAll := wsAll_c1 _ (List.mem_of_getElem? (i := 11) rfl)
theorem g52 : .selects RMd yMd_isOwn yMd_isOwn ∈ wsAll := wsAll_c1 _ (List.mem_of_getElem? (i := 12) rfl)
theorem g53 : .selects RMd yMd_tryPlan yMd_tryPlan ∈ wsAll := wsAll_c1 _ (List.mem_of_getElem? (i := 13) rfl)
theorem g54 : .selects RMd yMd_trialCost yMd_trialCost ∈ wsAll := wsAll_c1 _ (List.mem_of_getElem? (i := 14) rfl)
theorem g55 : .selects RMd yMd_bagsOfYear yMd_bagsOfYear ∈ wsAll := wsAll_c1 _ (List.mem_of_getElem? (i := 15) rfl)
theorem g56 : .selects RMd yMd_apart yMd_apart ∈ wsAll := wsAll_c1 _ (List.mem_of_getElem? (i := 16) rfl)
theorem g57 : .initialized RLw ∈ wsAll := wsAll_c1 _ (List.mem_of_getElem? (i := 17) rfl)
theorem g58 : .initialized RSc ∈ wsAll := wsAll_c1 _ (List.mem_of_getElem? (i := 18) rfl)
theorem g59 : .initialized RSt ∈ wsAll := wsAll_c1 _ (List.mem_of_getElem? (i := 19) rfl)
theorem g60 : .initialized RBg ∈ wsAll := wsAll_c1 _ (List.mem_of_getElem? (i := 20) rfl)
theorem g61 : .initialized RDr ∈ wsAll := wsAll_c1 _ (List.mem_of_getElem? (i := 21) rfl)
theorem g62 : .initialized RRp ∈ wsAll := wsAll_c1 _ (List.mem_of_getElem? (i := 22) rfl)
theorem g63 : .initialized RFg ∈ wsAll := wsAll_c1 _ (List.mem_of_getElem? (i := 23) rfl)
theorem g64 : .initialized RTm ∈ wsAll := wsAll_c1 _ (List.mem_of_getElem? (i := 24) rfl)
theorem g65 : .initialized RPl ∈ wsAll := wsAll_c1 _ (List.mem_of_getElem? (i := 25) rfl)
theorem g66 : .initialized RCp ∈ wsAll := wsAll_c1 _ (List.mem_of_getElem? (i := 26) rfl)
theorem g67 : .initialized RMd ∈ wsAll := wsAll_c1 _ (List.mem_of_getElem? (i := 27) rfl)
theorem g68 : .initialized RJA ∈ wsAll := wsAll_c1 _ (List.mem_of_getElem? (i := 28) rfl)
theorem g69 : .initialized RJS ∈ wsAll := wsAll_c1 _ (List.mem_of_getElem? (i := 29) rfl)
theorem g70 : .initialized RJI ∈ wsAll := wsAll_c1 _ (List.mem_of_getElem? (i := 30) rfl)
theorem g71 : .initialized RJM ∈ wsAll := wsAll_c1 _ (List.mem_of_getElem? (i := 31) rfl)
theorem g72 : .classLink RLw 7 RSc ∈ wsAll := wsAll_c1 _ (List.mem_of_getElem? (i := 32) rfl)
theorem g73 : .instantiable RSc 7 ∈ wsAll := wsAll_c1 _ (List.mem_of_getElem? (i := 33) rfl)
theorem g74 : .methodLink RLw 15 ySc_init ∈ wsAll := wsAll_c1 _ (List.mem_of_getElem? (i := 34) rfl)
theorem g75 : .instanceMethod ySc_init ∈ wsAll := wsAll_c1 _ (List.mem_of_getElem? (i := 35) rfl)
theorem g76 : .code ySc_init prog_1_method_1_code 3 none ∈ wsAll := wsAll_c1 _ (List.mem_of_getElem? (i := 36) rfl)
theorem g77 : .methodLink RSc 1 objectInit ∈ wsAll := wsAll_c1 _ (List.mem_of_getElem? (i := 37) rfl)
theorem g78 : .instanceMethod objectInit ∈ wsAll := wsAll_c1 _ (List.mem_of_getElem? (i := 38) rfl)
theorem g79 : .code objectInit object_method_1_code 1 none ∈ wsAll := wsAll_c1 _ (List.mem_of_getElem? (i := 39) rfl)
theorem g80 : .classLink RSc 7 RSt ∈ wsAll := wsAll_c2 _ (List.mem_of_getElem? (i := 0) rfl)
theorem g81 : .instantiable RSt 4 ∈ wsAll := wsAll_c2 _ (List.mem_of_getElem? (i := 1) rfl)
theorem g82 : .instanceMethod ySt_init ∈ wsAll := wsAll_c2 _ (List.mem_of_getElem? (i := 2) rfl)
theorem g83 : .code ySt_init prog_8_method_1_code 1 none ∈ wsAll := wsAll_c2 _ (List.mem_of_getElem? (i := 3) rfl)
theorem g84 : .methodLink RSt 3 objectInit ∈ wsAll := wsAll_c2 _ (List.mem_of_getElem? (i := 4) rfl)
theorem g85 : .fieldLink RSt 9 "StratumCounts$Strata" "sizes" "[I" ∈ wsAll := wsAll_c2 _ (List.mem_of_getElem? (i := 5) rfl)
theorem g86 : .fieldLink RSt 15 "StratumCounts$Strata" "costs" "[J" ∈ wsAll := wsAll_c2 _ (List.mem_of_getElem? (i := 6) rfl)
theorem g87 : .fieldLink RSt 19 "StratumCounts$Strata" "gone" "[Z" ∈ wsAll := wsAll_c2 _ (List.mem_of_getElem? (i := 7) rfl)
theorem g88 : .fieldLink RSt 23 "StratumCounts$Strata" "made" "I" ∈ wsAll := wsAll_c2 _ (List.mem_of_getElem? (i := 8) rfl)
theorem g89 : .laysFinal "StratumCounts$Strata" "StratumCounts$Strata" "sizes" "[I" ∈ wsAll := wsAll_c2 _ (List.mem_of_getElem? (i := 9) rfl)
theorem g90 : .laysFinal "StratumCounts$Strata" "StratumCounts$Strata" "costs" "[J" ∈ wsAll := wsAll_c2 _ (List.mem_of_getElem? (i := 10) rfl)
theorem g91 : .laysFinal "StratumCounts$Strata" "StratumCounts$Strata" "gone" "[Z" ∈ wsAll := wsAll_c2 _ (List.mem_of_getElem? (i := 11) rfl)
theorem g92 : .lays "StratumCounts$Strata" "StratumCounts$Strata" "made" "I" ∈ wsAll := wsAll_c2 _ (List.mem_of_getElem? (i := 12) rfl)
theorem g93 : .arrayClass .int ∈ wsAll := wsAll_c2 _ (List.mem_of_getElem? (i := 13) rfl)
theorem g94 : .arrayClass .long ∈ wsAll := wsAll_c2 _ (List.mem_of_getElem? (i := 14) rfl)
theorem g95 : .arrayClass .boolean ∈ wsAll := wsAll_c2 _ (List.mem_of_getElem? (i := 15) rfl)
theorem g96 : .classLink RSc 16 RBg ∈ wsAll := wsAll_c2 _ (List.mem_of_getElem? (i := 16) rfl)
theorem g97 : .instantiable RBg 5 ∈ wsAll := wsAll_c2 _ (List.mem_of_getElem? (i := 17) rfl)
theorem g98 : .instanceMethod yBg_init ∈ wsAll := wsAll_c2 _ (List.mem_of_getElem? (i := 18) rfl)
theorem g99 : .code yBg_init prog_2_method_1_code 1 none ∈ wsAll := wsAll_c2 _ (List.mem_of_getElem? (i := 19) rfl)
theorem g100 : .methodLink RBg 3 objectInit ∈ wsAll := wsAll_c2 _ (List.mem_of_getElem? (i := 20) rfl)
theorem g101 : .fieldLink RBg 9 "StratumCounts$Bags" "homes" "[I" ∈ wsAll := wsAll_c2 _ (List.mem_of_getElem? (i := 21) rfl)
theorem g102 : .fieldLink RBg 15 "StratumCounts$Bags" "dates" "[I" ∈ wsAll := wsAll_c2 _ (List.mem_of_getElem? (i := 22) rfl)
theorem g103 : .fieldLink RBg 18 "StratumCounts$Bags" "lost" "[Z" ∈ wsAll := wsAll_c2 _ (List.mem_of_getElem? (i := 23) rfl)
theorem g104 : .fieldLink RBg 22 "StratumCounts$Bags" "grams" "[J" ∈ wsAll := wsAll_c2 _ (List.mem_of_getElem? (i := 24) rfl)
theorem g105 : .fieldLink RBg 26 "StratumCounts$Bags" "made" "I" ∈ wsAll := wsAll_c2 _ (List.mem_of_getElem? (i := 25) rfl)
theorem g106 : .laysFinal "StratumCounts$Bags" "StratumCounts$Bags" "homes" "[I" ∈ wsAll := wsAll_c2 _ (List.mem_of_getElem? (i := 26) rfl)
theorem g107 : .laysFinal "StratumCounts$Bags" "StratumCounts$Bags" "dates" "[I" ∈ wsAll := wsAll_c2 _ (List.mem_of_getElem? (i := 27) rfl)
theorem g108 : .laysFinal "StratumCounts$Bags" "StratumCounts$Bags" "lost" "[Z" ∈ wsAll := wsAll_c2 _ (List.mem_of_getElem? (i := 28) rfl)
theorem g109 : .laysFinal "StratumCounts$Bags" "StratumCounts$Bags" "grams" "[J" ∈ wsAll := wsAll_c2 _ (List.mem_of_getElem? (i := 29) rfl)
theorem g110 : .lays "StratumCounts$Bags" "StratumCounts$Bags" "made" "I" ∈ wsAll := wsAll_c2 _ (List.mem_of_getElem? (i := 30) rfl)
theorem g111 : .classLink RSc 23 RDr ∈ wsAll := wsAll_c2 _ (List.mem_of_getElem? (i := 31) rfl)
theorem g112 : .instantiable RDr 3 ∈ wsAll := wsAll_c2 _ (List.mem_of_getElem? (i := 32) rfl)
theorem g113 : .instanceMethod yDr_init ∈ wsAll := wsAll_c2 _ (List.mem_of_getElem? (i := 33) rfl)
theorem g114 : .code yDr_init prog_4_method_1_code 3 none ∈ wsAll := wsAll_c2 _ (List.mem_of_getElem? (i := 34) rfl)
theorem g115 : .methodLink RDr 3 objectInit ∈ wsAll := wsAll_c2 _ (List.mem_of_getElem? (i := 35) rfl)
theorem g116 : .fieldLink RDr 9 "StratumCounts$Draws" "lists" "[I" ∈ wsAll := wsAll_c2 _ (List.mem_of_getElem? (i := 36) rfl)
theorem g117 : .fieldLink RDr 15 "StratumCounts$Draws" "lengths" "[I" ∈ wsAll := wsAll_c2 _ (List.mem_of_getElem? (i := 37) rfl)
theorem g118 : .fieldLink RDr 18 "StratumCounts$Draws" "seed" "J" ∈ wsAll := wsAll_c2 _ (List.mem_of_getElem? (i := 38) rfl)
theorem g119 : .laysFinal "StratumCounts$Draws" "StratumCounts$Draws" "lists" "[I" ∈ wsAll := wsAll_c2 _ (List.mem_of_getElem? (i := 39) rfl)
theorem g120 : .laysFinal "StratumCounts$Draws" "StratumCounts$Draws" "lengths" "[I" ∈ wsAll := wsAll_c3 _ (List.mem_of_getElem? (i := 0) rfl)
theorem g121 : .lays "StratumCounts$Draws" "StratumCounts$Draws" "seed" "J" ∈ wsAll := wsAll_c3 _ (List.mem_of_getElem? (i := 1) rfl)
theorem g122 : .classLink RSc 32 RRp ∈ wsAll := wsAll_c3 _ (List.mem_of_getElem? (i := 2) rfl)
theorem g123 : .instantiable RRp 4 ∈ wsAll := wsAll_c3 _ (List.mem_of_getElem? (i := 3) rfl)
theorem g124 : .instanceMethod yRp_init ∈ wsAll := wsAll_c3 _ (List.mem_of_getElem? (i := 4) rfl)
theorem g125 : .code yRp_init prog_7_method_1_code 1 none ∈ wsAll := wsAll_c3 _ (List.mem_of_getElem? (i := 5) rfl)
theorem g126 : .methodLink RRp 3 objectInit ∈ wsAll := wsAll_c3 _ (List.mem_of_getElem? (i := 6) rfl)
theorem g127 : .fieldLink RRp 9 "StratumCounts$Repeats" "sorted" "[I" ∈ wsAll := wsAll_c3 _ (List.mem_of_getElem? (i := 7) rfl)
theorem g128 : .fieldLink RRp 15 "StratumCounts$Repeats" "kinds" "[I" ∈ wsAll := wsAll_c3 _ (List.mem_of_getElem? (i := 8) rfl)
theorem g129 : .fieldLink RRp 18 "StratumCounts$Repeats" "found" "[J" ∈ wsAll := wsAll_c3 _ (List.mem_of_getElem? (i := 9) rfl)
theorem g130 : .fieldLink RRp 22 "StratumCounts$Repeats" "made" "I" ∈ wsAll := wsAll_c3 _ (List.mem_of_getElem? (i := 10) rfl)
theorem g131 : .laysFinal "StratumCounts$Repeats" "StratumCounts$Repeats" "sorted" "[I" ∈ wsAll := wsAll_c3 _ (List.mem_of_getElem? (i := 11) rfl)
theorem g132 : .laysFinal "StratumCounts$Repeats" "StratumCounts$Repeats" "kinds" "[I" ∈ wsAll := wsAll_c3 _ (List.mem_of_getElem? (i := 12) rfl)
theorem g133 : .laysFinal "StratumCounts$Repeats" "StratumCounts$Repeats" "found" "[J" ∈ wsAll := wsAll_c3 _ (List.mem_of_getElem? (i := 13) rfl)
theorem g134 : .lays "StratumCounts$Repeats" "StratumCounts$Repeats" "made" "I" ∈ wsAll := wsAll_c3 _ (List.mem_of_getElem? (i := 14) rfl)
theorem g135 : .classLink RSc 39 RFg ∈ wsAll := wsAll_c3 _ (List.mem_of_getElem? (i := 15) rfl)
theorem g136 : .instantiable RFg 7 ∈ wsAll := wsAll_c3 _ (List.mem_of_getElem? (i := 16) rfl)
theorem g137 : .instanceMethod yFg_init ∈ wsAll := wsAll_c3 _ (List.mem_of_getElem? (i := 17) rfl)
theorem g138 : .code yFg_init prog_5_method_1_code 1 none ∈ wsAll := wsAll_c3 _ (List.mem_of_getElem? (i := 18) rfl)
theorem g139 : .methodLink RFg 3 objectInit ∈ wsAll := wsAll_c3 _ (List.mem_of_getElem? (i := 19) rfl)
theorem g140 : .classLink RFg 24 RTm ∈ wsAll := wsAll_c3 _ (List.mem_of_getElem? (i := 20) rfl)
theorem g141 : .instantiable RTm 2 ∈ wsAll := wsAll_c3 _ (List.mem_of_getElem? (i := 21) rfl)
theorem g142 : .instanceMethod yTm_init ∈ wsAll := wsAll_c3 _ (List.mem_of_getElem? (i := 22) rfl)
theorem g143 : .code yTm_init prog_9_method_1_code 1 none ∈ wsAll := wsAll_c3 _ (List.mem_of_getElem? (i := 23) rfl)
theorem g144 : .methodLink RTm 3 objectInit ∈ wsAll := wsAll_c3 _ (List.mem_of_getElem? (i := 24) rfl)
theorem g145 : .fieldLink RTm 9 "StratumCounts$Terms" "aboves" "[J" ∈ wsAll := wsAll_c3 _ (List.mem_of_getElem? (i := 25) rfl)
theorem g146 : .fieldLink RTm 15 "StratumCounts$Terms" "belows" "[J" ∈ wsAll := wsAll_c3 _ (List.mem_of_getElem? (i := 26) rfl)
theorem g147 : .laysFinal "StratumCounts$Terms" "StratumCounts$Terms" "aboves" "[J" ∈ wsAll := wsAll_c3 _ (List.mem_of_getElem? (i := 27) rfl)
theorem g148 : .laysFinal "StratumCounts$Terms" "StratumCounts$Terms" "belows" "[J" ∈ wsAll := wsAll_c3 _ (List.mem_of_getElem? (i := 28) rfl)
theorem g149 : .fieldLink RFg 9 "StratumCounts$Figures" "sizes" "[J" ∈ wsAll := wsAll_c3 _ (List.mem_of_getElem? (i := 29) rfl)
theorem g150 : .fieldLink RFg 15 "StratumCounts$Figures" "numbers" "[J" ∈ wsAll := wsAll_c3 _ (List.mem_of_getElem? (i := 30) rfl)
theorem g151 : .fieldLink RFg 18 "StratumCounts$Figures" "sums" "[J" ∈ wsAll := wsAll_c3 _ (List.mem_of_getElem? (i := 31) rfl)
theorem g152 : .fieldLink RFg 21 "StratumCounts$Figures" "scatters" "[J" ∈ wsAll := wsAll_c3 _ (List.mem_of_getElem? (i := 32) rfl)
theorem g153 : .fieldLink RFg 27 "StratumCounts$Figures" "terms" "LStratumCounts$Terms;" ∈ wsAll := wsAll_c3 _ (List.mem_of_getElem? (i := 33) rfl)
theorem g154 : .fieldLink RFg 31 "StratumCounts$Figures" "counted" "I" ∈ wsAll := wsAll_c3 _ (List.mem_of_getElem? (i := 34) rfl)
theorem g155 : .fieldLink RFg 35 "StratumCounts$Figures" "total" "J" ∈ wsAll := wsAll_c3 _ (List.mem_of_getElem? (i := 35) rfl)
theorem g156 : .laysFinal "StratumCounts$Figures" "StratumCounts$Figures" "sizes" "[J" ∈ wsAll := wsAll_c3 _ (List.mem_of_getElem? (i := 36) rfl)
theorem g157 : .laysFinal "StratumCounts$Figures" "StratumCounts$Figures" "numbers" "[J" ∈ wsAll := wsAll_c3 _ (List.mem_of_getElem? (i := 37) rfl)
theorem g158 : .laysFinal "StratumCounts$Figures" "StratumCounts$Figures" "sums" "[J" ∈ wsAll := wsAll_c3 _ (List.mem_of_getElem? (i := 38) rfl)
theorem g159 : .laysFinal "StratumCounts$Figures" "StratumCounts$Figures" "scatters" "[J" ∈ wsAll := wsAll_c3 _ (List.mem_of_getElem? (i := 39) rfl)
theorem g160 : .laysFinal "StratumCounts$Figures" "StratumCounts$Figures" "terms" "LStratumCounts$Terms;" ∈ wsAll := wsAll_c4 _ (List.mem_of_getElem? (i := 0) rfl)
theorem g161 : .lays "StratumCounts$Figures" "StratumCounts$Figures" "counted" "I" ∈ wsAll := wsAll_c4 _ (List.mem_of_getElem? (i := 1) rfl)
theorem g162 : .lays "StratumCounts$Figures" "StratumCounts$Figures" "total" "J" ∈ wsAll := wsAll_c4 _ (List.mem_of_getElem? (i := 2) rfl)
theorem g163 : .classLink RSc 46 RPl ∈ wsAll := wsAll_c4 _ (List.mem_of_getElem? (i := 3) rfl)
theorem g164 : .instantiable RPl 10 ∈ wsAll := wsAll_c4 _ (List.mem_of_getElem? (i := 4) rfl)
theorem g165 : .instanceMethod yPl_init ∈ wsAll := wsAll_c4 _ (List.mem_of_getElem? (i := 5) rfl)
theorem g166 : .code yPl_init prog_6_method_1_code 1 none ∈ wsAll := wsAll_c4 _ (List.mem_of_getElem? (i := 6) rfl)
theorem g167 : .methodLink RPl 3 objectInit ∈ wsAll := wsAll_c4 _ (List.mem_of_getElem? (i := 7) rfl)
theorem g168 : .classLink RPl 31 RTm ∈ wsAll := wsAll_c4 _ (List.mem_of_getElem? (i := 8) rfl)
theorem g169 : .fieldLink RPl 9 "StratumCounts$Planner" "held" "[I" ∈ wsAll := wsAll_c4 _ (List.mem_of_getElem? (i := 9) rfl)
theorem g170 : .fieldLink RPl 15 "StratumCounts$Planner" "trial" "[I" ∈ wsAll := wsAll_c4 _ (List.mem_of_getElem? (i := 10) rfl)
theorem g171 : .fieldLink RPl 18 "StratumCounts$Planner" "fewest" "[I" ∈ wsAll := wsAll_c4 _ (List.mem_of_getElem? (i := 11) rfl)
theorem g172 : .fieldLink RPl 21 "StratumCounts$Planner" "most" "[I" ∈ wsAll := wsAll_c4 _ (List.mem_of_getElem? (i := 12) rfl)
theorem g173 : .fieldLink RPl 24 "StratumCounts$Planner" "costs" "[J" ∈ wsAll := wsAll_c4 _ (List.mem_of_getElem? (i := 13) rfl)
theorem g174 : .fieldLink RPl 28 "StratumCounts$Planner" "burdens" "[J" ∈ wsAll := wsAll_c4 _ (List.mem_of_getElem? (i := 14) rfl)
theorem g175 : .fieldLink RPl 34 "StratumCounts$Planner" "terms" "LStratumCounts$Terms;" ∈ wsAll := wsAll_c4 _ (List.mem_of_getElem? (i := 15) rfl)
theorem g176 : .fieldLink RPl 38 "StratumCounts$Planner" "holds" "Z" ∈ wsAll := wsAll_c4 _ (List.mem_of_getElem? (i := 16) rfl)
theorem g177 : .fieldLink RPl 78 "StratumCounts$Planner" "limit" "J" ∈ wsAll := wsAll_c4 _ (List.mem_of_getElem? (i := 17) rfl)
theorem g178 : .fieldLink RPl 85 "StratumCounts$Planner" "cheapest" "J" ∈ wsAll := wsAll_c4 _ (List.mem_of_getElem? (i := 18) rfl)
theorem g179 : .laysFinal "StratumCounts$Planner" "StratumCounts$Planner" "held" "[I" ∈ wsAll := wsAll_c4 _ (List.mem_of_getElem? (i := 19) rfl)
theorem g180 : .laysFinal "StratumCounts$Planner" "StratumCounts$Planner" "trial" "[I" ∈ wsAll := wsAll_c4 _ (List.mem_of_getElem? (i := 20) rfl)
theorem g181 : .laysFinal "StratumCounts$Planner" "StratumCounts$Planner" "fewest" "[I" ∈ wsAll := wsAll_c4 _ (List.mem_of_getElem? (i := 21) rfl)
theorem g182 : .laysFinal "StratumCounts$Planner" "StratumCounts$Planner" "most" "[I" ∈ wsAll := wsAll_c4 _ (List.mem_of_getElem? (i := 22) rfl)
theorem g183 : .laysFinal "StratumCounts$Planner" "StratumCounts$Planner" "costs" "[J" ∈ wsAll := wsAll_c4 _ (List.mem_of_getElem? (i := 23) rfl)
theorem g184 : .laysFinal "StratumCounts$Planner" "StratumCounts$Planner" "burdens" "[J" ∈ wsAll := wsAll_c4 _ (List.mem_of_getElem? (i := 24) rfl)
theorem g185 : .laysFinal "StratumCounts$Planner" "StratumCounts$Planner" "terms" "LStratumCounts$Terms;" ∈ wsAll := wsAll_c4 _ (List.mem_of_getElem? (i := 25) rfl)
theorem g186 : .lays "StratumCounts$Planner" "StratumCounts$Planner" "holds" "Z" ∈ wsAll := wsAll_c4 _ (List.mem_of_getElem? (i := 26) rfl)
theorem g187 : .lays "StratumCounts$Planner" "StratumCounts$Planner" "limit" "J" ∈ wsAll := wsAll_c4 _ (List.mem_of_getElem? (i := 27) rfl)
theorem g188 : .lays "StratumCounts$Planner" "StratumCounts$Planner" "cheapest" "J" ∈ wsAll := wsAll_c4 _ (List.mem_of_getElem? (i := 28) rfl)
theorem g189 : .classLink RSc 53 RCp ∈ wsAll := wsAll_c4 _ (List.mem_of_getElem? (i := 29) rfl)
theorem g190 : .instantiable RCp 5 ∈ wsAll := wsAll_c4 _ (List.mem_of_getElem? (i := 30) rfl)
theorem g191 : .instanceMethod yCp_init ∈ wsAll := wsAll_c4 _ (List.mem_of_getElem? (i := 31) rfl)
theorem g192 : .code yCp_init prog_3_method_1_code 1 none ∈ wsAll := wsAll_c4 _ (List.mem_of_getElem? (i := 32) rfl)
theorem g193 : .methodLink RCp 3 objectInit ∈ wsAll := wsAll_c4 _ (List.mem_of_getElem? (i := 33) rfl)
theorem g194 : .fieldLink RCp 9 "StratumCounts$Comparison" "grams" "[J" ∈ wsAll := wsAll_c4 _ (List.mem_of_getElem? (i := 34) rfl)
theorem g195 : .fieldLink RCp 15 "StratumCounts$Comparison" "number" "I" ∈ wsAll := wsAll_c4 _ (List.mem_of_getElem? (i := 35) rfl)
theorem g196 : .fieldLink RCp 53 "StratumCounts$Comparison" "firsts" "I" ∈ wsAll := wsAll_c4 _ (List.mem_of_getElem? (i := 36) rfl)
theorem g197 : .fieldLink RCp 19 "StratumCounts$Comparison" "actual" "I" ∈ wsAll := wsAll_c4 _ (List.mem_of_getElem? (i := 37) rfl)
theorem g198 : .fieldLink RCp 22 "StratumCounts$Comparison" "total" "J" ∈ wsAll := wsAll_c4 _ (List.mem_of_getElem? (i := 38) rfl)
theorem g199 : .laysFinal "StratumCounts$Comparison" "StratumCounts$Comparison" "grams" "[J" ∈ wsAll := wsAll_c4 _ (List.mem_of_getElem? (i := 39) rfl)
theorem g200 : .lays "StratumCounts$Comparison" "StratumCounts$Comparison" "number" "I" ∈ wsAll := wsAll_c5 _ (List.mem_of_getElem? (i := 0) rfl)
theorem g201 : .lays "StratumCounts$Comparison" "StratumCounts$Comparison" "firsts" "I" ∈ wsAll := wsAll_c5 _ (List.mem_of_getElem? (i := 1) rfl)
theorem g202 : .lays "StratumCounts$Comparison" "StratumCounts$Comparison" "actual" "I" ∈ wsAll := wsAll_c5 _ (List.mem_of_getElem? (i := 2) rfl)
theorem g203 : .lays "StratumCounts$Comparison" "StratumCounts$Comparison" "total" "J" ∈ wsAll := wsAll_c5 _ (List.mem_of_getElem? (i := 3) rfl)
theorem g204 : .fieldLink RSc 10 "StratumCounts" "strata" "LStratumCounts$Strata;" ∈ wsAll := wsAll_c5 _ (List.mem_of_getElem? (i := 4) rfl)
theorem g205 : .fieldLink RSc 19 "StratumCounts" "bags" "LStratumCounts$Bags;" ∈ wsAll := wsAll_c5 _ (List.mem_of_getElem? (i := 5) rfl)
theorem g206 : .fieldLink RSc 28 "StratumCounts" "draws" "LStratumCounts$Draws;" ∈ wsAll := wsAll_c5 _ (List.mem_of_getElem? (i := 6) rfl)
theorem g207 : .fieldLink RSc 35 "StratumCounts" "repeats" "LStratumCounts$Repeats;" ∈ wsAll := wsAll_c5 _ (List.mem_of_getElem? (i := 7) rfl)
theorem g208 : .fieldLink RSc 42 "StratumCounts" "figures" "LStratumCounts$Figures;" ∈ wsAll := wsAll_c5 _ (List.mem_of_getElem? (i := 8) rfl)
theorem g209 : .fieldLink RSc 49 "StratumCounts" "planner" "LStratumCounts$Planner;" ∈ wsAll := wsAll_c5 _ (List.mem_of_getElem? (i := 9) rfl)
theorem g210 : .fieldLink RSc 56 "StratumCounts" "comparison" "LStratumCounts$Comparison;" ∈ wsAll := wsAll_c5 _ (List.mem_of_getElem? (i := 10) rfl)
theorem g211 : .laysFinal "StratumCounts" "StratumCounts" "strata" "LStratumCounts$Strata;" ∈ wsAll := wsAll_c5 _ (List.mem_of_getElem? (i := 11) rfl)
theorem g212 : .laysFinal "StratumCounts" "StratumCounts" "bags" "LStratumCounts$Bags;" ∈ wsAll := wsAll_c5 _ (List.mem_of_getElem? (i := 12) rfl)
theorem g213 : .laysFinal "StratumCounts" "StratumCounts" "draws" "LStratumCounts$Draws;" ∈ wsAll := wsAll_c5 _ (List.mem_of_getElem? (i := 13) rfl)
theorem g214 : .laysFinal "StratumCounts" "StratumCounts" "repeats" "LStratumCounts$Repeats;" ∈ wsAll := wsAll_c5 _ (List.mem_of_getElem? (i := 14) rfl)
theorem g215 : .laysFinal "StratumCounts" "StratumCounts" "figures" "LStratumCounts$Figures;" ∈ wsAll := wsAll_c5 _ (List.mem_of_getElem? (i := 15) rfl)
theorem g216 : .laysFinal "StratumCounts" "StratumCounts" "planner" "LStratumCounts$Planner;" ∈ wsAll := wsAll_c5 _ (List.mem_of_getElem? (i := 16) rfl)
theorem g217 : .laysFinal "StratumCounts" "StratumCounts" "comparison" "LStratumCounts$Comparison;" ∈ wsAll := wsAll_c5 _ (List.mem_of_getElem? (i := 17) rfl)
theorem g218 : .methodLink RLw 21 ySc_stratum ∈ wsAll := wsAll_c5 _ (List.mem_of_getElem? (i := 18) rfl)
theorem g219 : .instanceMethod ySc_stratum ∈ wsAll := wsAll_c5 _ (List.mem_of_getElem? (i := 19) rfl)
theorem g220 : .selects RSc ySc_stratum ySc_stratum ∈ wsAll := wsAll_c5 _ (List.mem_of_getElem? (i := 20) rfl)
theorem g221 : .code ySc_stratum prog_1_method_2_code 2 (some .int) ∈ wsAll := wsAll_c5 _ (List.mem_of_getElem? (i := 21) rfl)
theorem g222 : .instanceMethod ySt_add ∈ wsAll := wsAll_c5 _ (List.mem_of_getElem? (i := 22) rfl)
theorem g223 : .code ySt_add prog_8_method_4_code 3 (some .int) ∈ wsAll := wsAll_c5 _ (List.mem_of_getElem? (i := 23) rfl)
theorem g224 : .methodLink RLw 28 ySc_cost ∈ wsAll := wsAll_c5 _ (List.mem_of_getElem? (i := 24) rfl)
theorem g225 : .instanceMethod ySc_cost ∈ wsAll := wsAll_c5 _ (List.mem_of_getElem? (i := 25) rfl)
theorem g226 : .selects RSc ySc_cost ySc_cost ∈ wsAll := wsAll_c5 _ (List.mem_of_getElem? (i := 26) rfl)
theorem g227 : .code ySc_cost prog_1_method_3_code 4 (some .boolean) ∈ wsAll := wsAll_c5 _ (List.mem_of_getElem? (i := 27) rfl)
theorem g228 : .instanceMethod ySt_setCost ∈ wsAll := wsAll_c5 _ (List.mem_of_getElem? (i := 28) rfl)
theorem g229 : .code ySt_setCost prog_8_method_5_code 4 (some .boolean) ∈ wsAll := wsAll_c5 _ (List.mem_of_getElem? (i := 29) rfl)
theorem g230 : .methodLink RSt 31 ySt_stands ∈ wsAll := wsAll_c5 _ (List.mem_of_getElem? (i := 30) rfl)
theorem g231 : .instanceMethod ySt_stands ∈ wsAll := wsAll_c5 _ (List.mem_of_getElem? (i := 31) rfl)
theorem g232 : .code ySt_stands prog_8_method_3_code 2 (some .boolean) ∈ wsAll := wsAll_c5 _ (List.mem_of_getElem? (i := 32) rfl)
theorem g233 : .methodLink RSt 27 ySt_has ∈ wsAll := wsAll_c5 _ (List.mem_of_getElem? (i := 33) rfl)
theorem g234 : .instanceMethod ySt_has ∈ wsAll := wsAll_c5 _ (List.mem_of_getElem? (i := 34) rfl)
theorem g235 : .code ySt_has prog_8_method_2_code 2 (some .boolean) ∈ wsAll := wsAll_c5 _ (List.mem_of_getElem? (i := 35) rfl)
theorem g236 : .constantLong RSt 34 (lZ (100000)) ∈ wsAll := wsAll_c5 _ (List.mem_of_getElem? (i := 36) rfl)
theorem g237 : .methodLink RLw 33 ySc_bag ∈ wsAll := wsAll_c5 _ (List.mem_of_getElem? (i := 37) rfl)
theorem g238 : .instanceMethod ySc_bag ∈ wsAll := wsAll_c5 _ (List.mem_of_getElem? (i := 38) rfl)
theorem g239 : .selects RSc ySc_bag ySc_bag ∈ wsAll := wsAll_c5 _ (List.mem_of_getElem? (i := 39) rfl)
theorem g240 : .code ySc_bag prog_1_method_4_code 2 (some .int) ∈ wsAll := wsAll_c6 _ (List.mem_of_getElem? (i := 0) rfl)
theorem g241 : .instanceMethod yBg_add ∈ wsAll := wsAll_c6 _ (List.mem_of_getElem? (i := 1) rfl)
theorem g242 : .code yBg_add prog_2_method_3_code 3 (some .int) ∈ wsAll := wsAll_c6 _ (List.mem_of_getElem? (i := 2) rfl)
theorem g243 : .methodLink RLw 37 ySc_weight ∈ wsAll := wsAll_c6 _ (List.mem_of_getElem? (i := 3) rfl)
theorem g244 : .instanceMethod ySc_weight ∈ wsAll := wsAll_c6 _ (List.mem_of_getElem? (i := 4) rfl)
theorem g245 : .selects RSc ySc_weight ySc_weight ∈ wsAll := wsAll_c6 _ (List.mem_of_getElem? (i := 5) rfl)
theorem g246 : .code ySc_weight prog_1_method_5_code 5 (some .boolean) ∈ wsAll := wsAll_c6 _ (List.mem_of_getElem? (i := 6) rfl)
theorem g247 : .instanceMethod yBg_setGrams ∈ wsAll := wsAll_c6 _ (List.mem_of_getElem? (i := 7) rfl)
theorem g248 : .code yBg_setGrams prog_2_method_4_code 5 (some .boolean) ∈ wsAll := wsAll_c6 _ (List.mem_of_getElem? (i := 8) rfl)
theorem g249 : .methodLink RBg 30 yBg_has ∈ wsAll := wsAll_c6 _ (List.mem_of_getElem? (i := 9) rfl)
theorem g250 : .instanceMethod yBg_has ∈ wsAll := wsAll_c6 _ (List.mem_of_getElem? (i := 10) rfl)
theorem g251 : .code yBg_has prog_2_method_2_code 2 (some .boolean) ∈ wsAll := wsAll_c6 _ (List.mem_of_getElem? (i := 11) rfl)
theorem g252 : .static ySc_isKind ∈ wsAll := wsAll_c6 _ (List.mem_of_getElem? (i := 12) rfl)
theorem g253 : .code ySc_isKind prog_1_method_19_code 1 (some .boolean) ∈ wsAll := wsAll_c6 _ (List.mem_of_getElem? (i := 13) rfl)
theorem g254 : .static ySc_isGrams ∈ wsAll := wsAll_c6 _ (List.mem_of_getElem? (i := 14) rfl)
theorem g255 : .code ySc_isGrams prog_1_method_21_code 2 (some .boolean) ∈ wsAll := wsAll_c6 _ (List.mem_of_getElem? (i := 15) rfl)
theorem g256 : .constantLong RSc 169 (lZ (10000)) ∈ wsAll := wsAll_c6 _ (List.mem_of_getElem? (i := 16) rfl)
theorem g257 : .methodLink RLw 42 ySc_year ∈ wsAll := wsAll_c6 _ (List.mem_of_getElem? (i := 17) rfl)
theorem g258 : .instanceMethod ySc_year ∈ wsAll := wsAll_c6 _ (List.mem_of_getElem? (i := 18) rfl)
theorem g259 : .selects RSc ySc_year ySc_year ∈ wsAll := wsAll_c6 _ (List.mem_of_getElem? (i := 19) rfl)
theorem g260 : .code ySc_year prog_1_method_6_code 3 (some .boolean) ∈ wsAll := wsAll_c6 _ (List.mem_of_getElem? (i := 20) rfl)
theorem g261 : .instanceMethod yBg_setYear ∈ wsAll := wsAll_c6 _ (List.mem_of_getElem? (i := 21) rfl)
theorem g262 : .code yBg_setYear prog_2_method_5_code 3 (some .boolean) ∈ wsAll := wsAll_c6 _ (List.mem_of_getElem? (i := 22) rfl)
theorem g263 : .methodLink RLw 47 ySc_missing ∈ wsAll := wsAll_c6 _ (List.mem_of_getElem? (i := 23) rfl)
theorem g264 : .instanceMethod ySc_missing ∈ wsAll := wsAll_c6 _ (List.mem_of_getElem? (i := 24) rfl)
theorem g265 : .selects RSc ySc_missing ySc_missing ∈ wsAll := wsAll_c6 _ (List.mem_of_getElem? (i := 25) rfl)
theorem g266 : .code ySc_missing prog_1_method_7_code 2 (some .boolean) ∈ wsAll := wsAll_c6 _ (List.mem_of_getElem? (i := 26) rfl)
theorem g267 : .instanceMethod yBg_lose ∈ wsAll := wsAll_c6 _ (List.mem_of_getElem? (i := 27) rfl)
theorem g268 : .code yBg_lose prog_2_method_6_code 2 (some .boolean) ∈ wsAll := wsAll_c6 _ (List.mem_of_getElem? (i := 28) rfl)
theorem g269 : .methodLink RLw 52 ySc_draw ∈ wsAll := wsAll_c6 _ (List.mem_of_getElem? (i := 29) rfl)
theorem g270 : .instanceMethod ySc_draw ∈ wsAll := wsAll_c6 _ (List.mem_of_getElem? (i := 30) rfl)
theorem g271 : .selects RSc ySc_draw ySc_draw ∈ wsAll := wsAll_c6 _ (List.mem_of_getElem? (i := 31) rfl)
theorem g272 : .code ySc_draw prog_1_method_8_code 3 (some .int) ∈ wsAll := wsAll_c6 _ (List.mem_of_getElem? (i := 32) rfl)
theorem g273 : .instanceMethod yDr_take ∈ wsAll := wsAll_c6 _ (List.mem_of_getElem? (i := 33) rfl)
theorem g274 : .code yDr_take prog_4_method_2_code 6 (some .int) ∈ wsAll := wsAll_c6 _ (List.mem_of_getElem? (i := 34) rfl)
theorem g275 : .methodLink RDr 22 yDr_nextBelow ∈ wsAll := wsAll_c6 _ (List.mem_of_getElem? (i := 35) rfl)
theorem g276 : .instanceMethod yDr_nextBelow ∈ wsAll := wsAll_c6 _ (List.mem_of_getElem? (i := 36) rfl)
theorem g277 : .code yDr_nextBelow prog_4_method_3_code 2 (some .int) ∈ wsAll := wsAll_c6 _ (List.mem_of_getElem? (i := 37) rfl)
theorem g278 : .constantLong RDr 30 (lZ (6364136223846793005)) ∈ wsAll := wsAll_c6 _ (List.mem_of_getElem? (i := 38) rfl)
theorem g279 : .constantLong RDr 32 (lZ (1442695040888963407)) ∈ wsAll := wsAll_c6 _ (List.mem_of_getElem? (i := 39) rfl)
theorem g280 : .methodLink RDr 26 yDr_swap ∈ wsAll := wsAll_c7 _ (List.mem_of_getElem? (i := 0) rfl)
theorem g281 : .instanceMethod yDr_swap ∈ wsAll := wsAll_c7 _ (List.mem_of_getElem? (i := 1) rfl)
theorem g282 : .code yDr_swap prog_4_method_4_code 4 none ∈ wsAll := wsAll_c7 _ (List.mem_of_getElem? (i := 2) rfl)
theorem g283 : .methodLink RLw 57 ySc_drawn ∈ wsAll := wsAll_c7 _ (List.mem_of_getElem? (i := 3) rfl)
theorem g284 : .instanceMethod ySc_drawn ∈ wsAll := wsAll_c7 _ (List.mem_of_getElem? (i := 4) rfl)
theorem g285 : .selects RSc ySc_drawn ySc_drawn ∈ wsAll := wsAll_c7 _ (List.mem_of_getElem? (i := 5) rfl)
theorem g286 : .code ySc_drawn prog_1_method_9_code 3 (some .int) ∈ wsAll := wsAll_c7 _ (List.mem_of_getElem? (i := 6) rfl)
theorem g287 : .instanceMethod yDr_taken ∈ wsAll := wsAll_c7 _ (List.mem_of_getElem? (i := 7) rfl)
theorem g288 : .code yDr_taken prog_4_method_5_code 3 (some .int) ∈ wsAll := wsAll_c7 _ (List.mem_of_getElem? (i := 8) rfl)
theorem g289 : .methodLink RLw 61 ySc_mean ∈ wsAll := wsAll_c7 _ (List.mem_of_getElem? (i := 9) rfl)
theorem g290 : .instanceMethod ySc_mean ∈ wsAll := wsAll_c7 _ (List.mem_of_getElem? (i := 10) rfl)
theorem g291 : .selects RSc ySc_mean ySc_mean ∈ wsAll := wsAll_c7 _ (List.mem_of_getElem? (i := 11) rfl)
theorem g292 : .code ySc_mean prog_1_method_10_code 3 (some .long) ∈ wsAll := wsAll_c7 _ (List.mem_of_getElem? (i := 12) rfl)
theorem g293 : .methodLink RSc 99 ySc_isKind ∈ wsAll := wsAll_c7 _ (List.mem_of_getElem? (i := 13) rfl)
theorem g294 : .methodLink RSc 102 ySc_isPart ∈ wsAll := wsAll_c7 _ (List.mem_of_getElem? (i := 14) rfl)
theorem g295 : .static ySc_isPart ∈ wsAll := wsAll_c7 _ (List.mem_of_getElem? (i := 15) rfl)
theorem g296 : .code ySc_isPart prog_1_method_20_code 1 (some .boolean) ∈ wsAll := wsAll_c7 _ (List.mem_of_getElem? (i := 16) rfl)
theorem g297 : .constantLong RSc 105 (lZ (-1)) ∈ wsAll := wsAll_c7 _ (List.mem_of_getElem? (i := 17) rfl)
theorem g298 : .instanceMethod yFg_gather ∈ wsAll := wsAll_c7 _ (List.mem_of_getElem? (i := 18) rfl)
theorem g299 : .code yFg_gather prog_5_method_2_code 5 none ∈ wsAll := wsAll_c7 _ (List.mem_of_getElem? (i := 19) rfl)
theorem g300 : .methodLink RFg 39 yFg_gatherOne ∈ wsAll := wsAll_c7 _ (List.mem_of_getElem? (i := 20) rfl)
theorem g301 : .instanceMethod yFg_gatherOne ∈ wsAll := wsAll_c7 _ (List.mem_of_getElem? (i := 21) rfl)
theorem g302 : .code yFg_gatherOne prog_5_method_3_code 13 none ∈ wsAll := wsAll_c7 _ (List.mem_of_getElem? (i := 22) rfl)
theorem g303 : .instanceMethod yBg_gramsOf ∈ wsAll := wsAll_c7 _ (List.mem_of_getElem? (i := 23) rfl)
theorem g304 : .code yBg_gramsOf prog_2_method_8_code 3 (some .long) ∈ wsAll := wsAll_c7 _ (List.mem_of_getElem? (i := 24) rfl)
theorem g305 : .instanceMethod yFg_tellMean ∈ wsAll := wsAll_c7 _ (List.mem_of_getElem? (i := 25) rfl)
theorem g306 : .code yFg_tellMean prog_5_method_5_code 4 (some .long) ∈ wsAll := wsAll_c7 _ (List.mem_of_getElem? (i := 26) rfl)
theorem g307 : .instanceMethod yTm_clear ∈ wsAll := wsAll_c7 _ (List.mem_of_getElem? (i := 27) rfl)
theorem g308 : .code yTm_clear prog_9_method_2_code 1 none ∈ wsAll := wsAll_c7 _ (List.mem_of_getElem? (i := 28) rfl)
theorem g309 : .methodLink RTm 18 yJA_fill ∈ wsAll := wsAll_c7 _ (List.mem_of_getElem? (i := 29) rfl)
theorem g310 : .static yJA_fill ∈ wsAll := wsAll_c7 _ (List.mem_of_getElem? (i := 30) rfl)
theorem g311 : .code yJA_fill prog_15_method_101_code 5 none ∈ wsAll := wsAll_c7 _ (List.mem_of_getElem? (i := 31) rfl)
theorem g312 : .instanceMethod yTm_set ∈ wsAll := wsAll_c7 _ (List.mem_of_getElem? (i := 32) rfl)
theorem g313 : .code yTm_set prog_9_method_3_code 6 none ∈ wsAll := wsAll_c7 _ (List.mem_of_getElem? (i := 33) rfl)
theorem g314 : .instanceMethod yTm_common ∈ wsAll := wsAll_c7 _ (List.mem_of_getElem? (i := 34) rfl)
theorem g315 : .code yTm_common prog_9_method_4_code 4 (some .long) ∈ wsAll := wsAll_c7 _ (List.mem_of_getElem? (i := 35) rfl)
theorem g316 : .static ySc_leastCommon ∈ wsAll := wsAll_c7 _ (List.mem_of_getElem? (i := 36) rfl)
theorem g317 : .code ySc_leastCommon prog_1_method_23_code 6 (some .long) ∈ wsAll := wsAll_c7 _ (List.mem_of_getElem? (i := 37) rfl)
theorem g318 : .methodLink RSc 171 ySc_greatestShared ∈ wsAll := wsAll_c7 _ (List.mem_of_getElem? (i := 38) rfl)
theorem g319 : .static ySc_greatestShared ∈ wsAll := wsAll_c7 _ (List.mem_of_getElem? (i := 39) rfl)
theorem g320 : .code ySc_greatestShared prog_1_method_22_code 11 (some .long) ∈ wsAll := wsAll_c8 _ (List.mem_of_getElem? (i := 0) rfl)
theorem g321 : .instanceMethod yTm_sum ∈ wsAll := wsAll_c8 _ (List.mem_of_getElem? (i := 1) rfl)
theorem g322 : .code yTm_sum prog_9_method_6_code 6 (some .long) ∈ wsAll := wsAll_c8 _ (List.mem_of_getElem? (i := 2) rfl)
theorem g323 : .methodLink RTm 28 yTm_scaled ∈ wsAll := wsAll_c8 _ (List.mem_of_getElem? (i := 3) rfl)
theorem g324 : .instanceMethod yTm_scaled ∈ wsAll := wsAll_c8 _ (List.mem_of_getElem? (i := 4) rfl)
theorem g325 : .code yTm_scaled prog_9_method_5_code 4 (some .long) ∈ wsAll := wsAll_c8 _ (List.mem_of_getElem? (i := 5) rfl)
theorem g326 : .static ySc_tell ∈ wsAll := wsAll_c8 _ (List.mem_of_getElem? (i := 6) rfl)
theorem g327 : .code ySc_tell prog_1_method_24_code 7 (some .long) ∈ wsAll := wsAll_c8 _ (List.mem_of_getElem? (i := 7) rfl)
theorem g328 : .methodLink RLw 66 ySc_spread ∈ wsAll := wsAll_c8 _ (List.mem_of_getElem? (i := 8) rfl)
theorem g329 : .instanceMethod ySc_spread ∈ wsAll := wsAll_c8 _ (List.mem_of_getElem? (i := 9) rfl)
theorem g330 : .selects RSc ySc_spread ySc_spread ∈ wsAll := wsAll_c8 _ (List.mem_of_getElem? (i := 10) rfl)
theorem g331 : .code ySc_spread prog_1_method_11_code 3 (some .long) ∈ wsAll := wsAll_c8 _ (List.mem_of_getElem? (i := 11) rfl)
theorem g332 : .instanceMethod yFg_haveSpread ∈ wsAll := wsAll_c8 _ (List.mem_of_getElem? (i := 12) rfl)
theorem g333 : .code yFg_haveSpread prog_5_method_4_code 2 (some .boolean) ∈ wsAll := wsAll_c8 _ (List.mem_of_getElem? (i := 13) rfl)
theorem g334 : .instanceMethod yFg_tellSpread ∈ wsAll := wsAll_c8 _ (List.mem_of_getElem? (i := 14) rfl)
theorem g335 : .code yFg_tellSpread prog_5_method_6_code 4 (some .long) ∈ wsAll := wsAll_c8 _ (List.mem_of_getElem? (i := 15) rfl)
theorem g336 : .methodLink RFg 83 yFg_weighedScatter ∈ wsAll := wsAll_c8 _ (List.mem_of_getElem? (i := 16) rfl)
theorem g337 : .instanceMethod yFg_weighedScatter ∈ wsAll := wsAll_c8 _ (List.mem_of_getElem? (i := 17) rfl)
theorem g338 : .code yFg_weighedScatter prog_5_method_7_code 2 (some .long) ∈ wsAll := wsAll_c8 _ (List.mem_of_getElem? (i := 18) rfl)
theorem g339 : .methodLink RFg 87 yFg_pairs ∈ wsAll := wsAll_c8 _ (List.mem_of_getElem? (i := 19) rfl)
theorem g340 : .instanceMethod yFg_pairs ∈ wsAll := wsAll_c8 _ (List.mem_of_getElem? (i := 20) rfl)
theorem g341 : .code yFg_pairs prog_5_method_8_code 2 (some .long) ∈ wsAll := wsAll_c8 _ (List.mem_of_getElem? (i := 21) rfl)
theorem g342 : .methodLink RLw 70 ySc_plan ∈ wsAll := wsAll_c8 _ (List.mem_of_getElem? (i := 22) rfl)
theorem g343 : .instanceMethod ySc_plan ∈ wsAll := wsAll_c8 _ (List.mem_of_getElem? (i := 23) rfl)
theorem g344 : .selects RSc ySc_plan ySc_plan ∈ wsAll := wsAll_c8 _ (List.mem_of_getElem? (i := 24) rfl)
theorem g345 : .code ySc_plan prog_1_method_12_code 6 (some .long) ∈ wsAll := wsAll_c8 _ (List.mem_of_getElem? (i := 25) rfl)
theorem g346 : .constantLong RSc 126 (lZ (1000000000)) ∈ wsAll := wsAll_c8 _ (List.mem_of_getElem? (i := 26) rfl)
theorem g347 : .constantLong RSc 128 (lZ (1000)) ∈ wsAll := wsAll_c8 _ (List.mem_of_getElem? (i := 27) rfl)
theorem g348 : .instanceMethod yPl_prepare ∈ wsAll := wsAll_c8 _ (List.mem_of_getElem? (i := 28) rfl)
theorem g349 : .code yPl_prepare prog_6_method_3_code 11 none ∈ wsAll := wsAll_c8 _ (List.mem_of_getElem? (i := 29) rfl)
theorem g350 : .constantLong RPl 68 (lZ (60)) ∈ wsAll := wsAll_c8 _ (List.mem_of_getElem? (i := 30) rfl)
theorem g351 : .instanceMethod yPl_findCheapest ∈ wsAll := wsAll_c8 _ (List.mem_of_getElem? (i := 31) rfl)
theorem g352 : .code yPl_findCheapest prog_6_method_4_code 2 (some .long) ∈ wsAll := wsAll_c8 _ (List.mem_of_getElem? (i := 32) rfl)
theorem g353 : .constantLong RPl 83 (lZ (9223372036854775807)) ∈ wsAll := wsAll_c8 _ (List.mem_of_getElem? (i := 33) rfl)
theorem g354 : .methodLink RPl 88 arraycopyName ∈ wsAll := wsAll_c8 _ (List.mem_of_getElem? (i := 34) rfl)
theorem g355 : .static arraycopyName ∈ wsAll := wsAll_c8 _ (List.mem_of_getElem? (i := 35) rfl)
theorem g356 : .native arraycopyName ∈ wsAll := wsAll_c8 _ (List.mem_of_getElem? (i := 36) rfl)
theorem g357 : .methodLink RPl 94 yPl_considerTrial ∈ wsAll := wsAll_c8 _ (List.mem_of_getElem? (i := 37) rfl)
theorem g358 : .instanceMethod yPl_considerTrial ∈ wsAll := wsAll_c8 _ (List.mem_of_getElem? (i := 38) rfl)
theorem g359 : .code yPl_considerTrial prog_6_method_5_code 4 none ∈ wsAll := wsAll_c8 _ (List.mem_of_getElem? (i := 39) rfl)
theorem g360 : .methodLink RPl 103 yPl_isNearEnough ∈ wsAll := wsAll_c9 _ (List.mem_of_getElem? (i := 0) rfl)
theorem g361 : .instanceMethod yPl_isNearEnough ∈ wsAll := wsAll_c9 _ (List.mem_of_getElem? (i := 1) rfl)
theorem g362 : .code yPl_isNearEnough prog_6_method_6_code 4 (some .boolean) ∈ wsAll := wsAll_c9 _ (List.mem_of_getElem? (i := 2) rfl)
theorem g363 : .methodLink RPl 97 yPl_stepTrial ∈ wsAll := wsAll_c9 _ (List.mem_of_getElem? (i := 3) rfl)
theorem g364 : .instanceMethod yPl_stepTrial ∈ wsAll := wsAll_c9 _ (List.mem_of_getElem? (i := 4) rfl)
theorem g365 : .code yPl_stepTrial prog_6_method_7_code 2 (some .boolean) ∈ wsAll := wsAll_c9 _ (List.mem_of_getElem? (i := 5) rfl)
theorem g366 : .constantLong RPl 101 (lZ (-1)) ∈ wsAll := wsAll_c9 _ (List.mem_of_getElem? (i := 6) rfl)
theorem g367 : .methodLink RLw 75 ySc_planned ∈ wsAll := wsAll_c9 _ (List.mem_of_getElem? (i := 7) rfl)
theorem g368 : .instanceMethod ySc_planned ∈ wsAll := wsAll_c9 _ (List.mem_of_getElem? (i := 8) rfl)
theorem g369 : .selects RSc ySc_planned ySc_planned ∈ wsAll := wsAll_c9 _ (List.mem_of_getElem? (i := 9) rfl)
theorem g370 : .code ySc_planned prog_1_method_13_code 2 (some .int) ∈ wsAll := wsAll_c9 _ (List.mem_of_getElem? (i := 10) rfl)
theorem g371 : .instanceMethod yPl_heldBags ∈ wsAll := wsAll_c9 _ (List.mem_of_getElem? (i := 11) rfl)
theorem g372 : .code yPl_heldBags prog_6_method_2_code 2 (some .int) ∈ wsAll := wsAll_c9 _ (List.mem_of_getElem? (i := 12) rfl)
theorem g373 : .methodLink RLw 79 ySc_compared ∈ wsAll := wsAll_c9 _ (List.mem_of_getElem? (i := 13) rfl)
theorem g374 : .instanceMethod ySc_compared ∈ wsAll := wsAll_c9 _ (List.mem_of_getElem? (i := 14) rfl)
theorem g375 : .selects RSc ySc_compared ySc_compared ∈ wsAll := wsAll_c9 _ (List.mem_of_getElem? (i := 15) rfl)
theorem g376 : .code ySc_compared prog_1_method_14_code 3 (some .long) ∈ wsAll := wsAll_c9 _ (List.mem_of_getElem? (i := 16) rfl)
theorem g377 : .instanceMethod yCp_gather ∈ wsAll := wsAll_c9 _ (List.mem_of_getElem? (i := 17) rfl)
theorem g378 : .code yCp_gather prog_3_method_2_code 4 (some .boolean) ∈ wsAll := wsAll_c9 _ (List.mem_of_getElem? (i := 18) rfl)
theorem g379 : .methodLink RCp 43 yCp_take ∈ wsAll := wsAll_c9 _ (List.mem_of_getElem? (i := 19) rfl)
theorem g380 : .instanceMethod yCp_take ∈ wsAll := wsAll_c9 _ (List.mem_of_getElem? (i := 20) rfl)
theorem g381 : .code yCp_take prog_3_method_3_code 4 none ∈ wsAll := wsAll_c9 _ (List.mem_of_getElem? (i := 21) rfl)
theorem g382 : .methodLink RCp 47 yJI_bitCount ∈ wsAll := wsAll_c9 _ (List.mem_of_getElem? (i := 22) rfl)
theorem g383 : .static yJI_bitCount ∈ wsAll := wsAll_c9 _ (List.mem_of_getElem? (i := 23) rfl)
theorem g384 : .code yJI_bitCount prog_12_method_49_code 1 (some .int) ∈ wsAll := wsAll_c9 _ (List.mem_of_getElem? (i := 24) rfl)
theorem g385 : .constant RJI 265 (iZ (1431655765)) ∈ wsAll := wsAll_c9 _ (List.mem_of_getElem? (i := 25) rfl)
theorem g386 : .constant RJI 266 (iZ (858993459)) ∈ wsAll := wsAll_c9 _ (List.mem_of_getElem? (i := 26) rfl)
theorem g387 : .constant RJI 267 (iZ (252645135)) ∈ wsAll := wsAll_c9 _ (List.mem_of_getElem? (i := 27) rfl)
theorem g388 : .instanceMethod yCp_countFarWays ∈ wsAll := wsAll_c9 _ (List.mem_of_getElem? (i := 28) rfl)
theorem g389 : .code yCp_countFarWays prog_3_method_5_code 6 (some .long) ∈ wsAll := wsAll_c9 _ (List.mem_of_getElem? (i := 29) rfl)
theorem g390 : .methodLink RCp 56 yCp_apart ∈ wsAll := wsAll_c9 _ (List.mem_of_getElem? (i := 30) rfl)
theorem g391 : .instanceMethod yCp_apart ∈ wsAll := wsAll_c9 _ (List.mem_of_getElem? (i := 31) rfl)
theorem g392 : .code yCp_apart prog_3_method_6_code 5 (some .long) ∈ wsAll := wsAll_c9 _ (List.mem_of_getElem? (i := 32) rfl)
theorem g393 : .methodLink RCp 60 Lib.MathLoose.abs_long.x ∈ wsAll := wsAll_c9 _ (List.mem_of_getElem? (i := 33) rfl)
theorem g394 : .static Lib.MathLoose.abs_long.x ∈ wsAll := wsAll_c9 _ (List.mem_of_getElem? (i := 34) rfl)
theorem g395 : .code Lib.MathLoose.abs_long.x prog_13_method_61_code 2 (some .long) ∈ wsAll := wsAll_c9 _ (List.mem_of_getElem? (i := 35) rfl)
theorem g396 : .instanceMethod yCp_countWays ∈ wsAll := wsAll_c9 _ (List.mem_of_getElem? (i := 36) rfl)
theorem g397 : .code yCp_countWays prog_3_method_4_code 4 (some .long) ∈ wsAll := wsAll_c9 _ (List.mem_of_getElem? (i := 37) rfl)
theorem g398 : .methodLink RLw 83 ySc_joined ∈ wsAll := wsAll_c9 _ (List.mem_of_getElem? (i := 38) rfl)
theorem g399 : .instanceMethod ySc_joined ∈ wsAll := wsAll_c9 _ (List.mem_of_getElem? (i := 39) rfl)
theorem g400 : .selects RSc ySc_joined ySc_joined ∈ wsAll := wsAll_c10 _ (List.mem_of_getElem? (i := 0) rfl)
theorem g401 : .code ySc_joined prog_1_method_15_code 3 (some .boolean) ∈ wsAll := wsAll_c10 _ (List.mem_of_getElem? (i := 1) rfl)
theorem g402 : .instanceMethod ySt_merge ∈ wsAll := wsAll_c10 _ (List.mem_of_getElem? (i := 2) rfl)
theorem g403 : .code ySt_merge prog_8_method_6_code 4 (some .boolean) ∈ wsAll := wsAll_c10 _ (List.mem_of_getElem? (i := 3) rfl)
theorem g404 : .instanceMethod yBg_move ∈ wsAll := wsAll_c10 _ (List.mem_of_getElem? (i := 4) rfl)
theorem g405 : .code yBg_move prog_2_method_7_code 4 none ∈ wsAll := wsAll_c10 _ (List.mem_of_getElem? (i := 5) rfl)
theorem g406 : .methodLink RLw 87 ySc_repeat ∈ wsAll := wsAll_c10 _ (List.mem_of_getElem? (i := 6) rfl)
theorem g407 : .instanceMethod ySc_repeat ∈ wsAll := wsAll_c10 _ (List.mem_of_getElem? (i := 7) rfl)
theorem g408 : .selects RSc ySc_repeat ySc_repeat ∈ wsAll := wsAll_c10 _ (List.mem_of_getElem? (i := 8) rfl)
theorem g409 : .code ySc_repeat prog_1_method_16_code 5 (some .int) ∈ wsAll := wsAll_c10 _ (List.mem_of_getElem? (i := 9) rfl)
theorem g410 : .methodLink RSc 158 ySc_isGrams ∈ wsAll := wsAll_c10 _ (List.mem_of_getElem? (i := 10) rfl)
theorem g411 : .instanceMethod yRp_add ∈ wsAll := wsAll_c10 _ (List.mem_of_getElem? (i := 11) rfl)
theorem g412 : .code yRp_add prog_7_method_2_code 5 (some .int) ∈ wsAll := wsAll_c10 _ (List.mem_of_getElem? (i := 12) rfl)
theorem g413 : .methodLink RLw 92 ySc_error ∈ wsAll := wsAll_c10 _ (List.mem_of_getElem? (i := 13) rfl)
theorem g414 : .instanceMethod ySc_error ∈ wsAll := wsAll_c10 _ (List.mem_of_getElem? (i := 14) rfl)
theorem g415 : .selects RSc ySc_error ySc_error ∈ wsAll := wsAll_c10 _ (List.mem_of_getElem? (i := 15) rfl)
theorem g416 : .code ySc_error prog_1_method_17_code 3 (some .long) ∈ wsAll := wsAll_c10 _ (List.mem_of_getElem? (i := 16) rfl)
theorem g417 : .instanceMethod yRp_tellError ∈ wsAll := wsAll_c10 _ (List.mem_of_getElem? (i := 17) rfl)
theorem g418 : .code yRp_tellError prog_7_method_3_code 11 (some .long) ∈ wsAll := wsAll_c10 _ (List.mem_of_getElem? (i := 18) rfl)
theorem g419 : .constantLong RRp 32 (lZ (2)) ∈ wsAll := wsAll_c10 _ (List.mem_of_getElem? (i := 19) rfl)
theorem g420 : .constantLong RRp 38 (lZ (-1)) ∈ wsAll := wsAll_c10 _ (List.mem_of_getElem? (i := 20) rfl)
theorem g421 : .methodLink RLw 96 ySc_counting ∈ wsAll := wsAll_c10 _ (List.mem_of_getElem? (i := 21) rfl)
theorem g422 : .instanceMethod ySc_counting ∈ wsAll := wsAll_c10 _ (List.mem_of_getElem? (i := 22) rfl)
theorem g423 : .selects RSc ySc_counting ySc_counting ∈ wsAll := wsAll_c10 _ (List.mem_of_getElem? (i := 23) rfl)
theorem g424 : .code ySc_counting prog_1_method_18_code 1 (some .int) ∈ wsAll := wsAll_c10 _ (List.mem_of_getElem? (i := 24) rfl)
theorem g425 : .methodLink RLw 9 yLw_cell ∈ wsAll := wsAll_c10 _ (List.mem_of_getElem? (i := 25) rfl)
theorem g426 : .static yLw_cell ∈ wsAll := wsAll_c10 _ (List.mem_of_getElem? (i := 26) rfl)
theorem g427 : .code yLw_cell method_2_code 2 (some .int) ∈ wsAll := wsAll_c10 _ (List.mem_of_getElem? (i := 27) rfl)
theorem g428 : .classLink RLw 18 RMd ∈ wsAll := wsAll_c10 _ (List.mem_of_getElem? (i := 28) rfl)
theorem g429 : .instantiable RMd 21 ∈ wsAll := wsAll_c10 _ (List.mem_of_getElem? (i := 29) rfl)
theorem g430 : .methodLink RLw 20 yMd_init ∈ wsAll := wsAll_c10 _ (List.mem_of_getElem? (i := 30) rfl)
theorem g431 : .instanceMethod yMd_init ∈ wsAll := wsAll_c10 _ (List.mem_of_getElem? (i := 31) rfl)
theorem g432 : .code yMd_init prog_11_method_1_code 3 none ∈ wsAll := wsAll_c10 _ (List.mem_of_getElem? (i := 32) rfl)
theorem g433 : .methodLink RMd 1 objectInit ∈ wsAll := wsAll_c10 _ (List.mem_of_getElem? (i := 33) rfl)
theorem g434 : .fieldLink RMd 54 "StratumCountsModel" "seed" "J" ∈ wsAll := wsAll_c10 _ (List.mem_of_getElem? (i := 34) rfl)
theorem g435 : .fieldLink RMd 58 "StratumCountsModel" "strata" "I" ∈ wsAll := wsAll_c10 _ (List.mem_of_getElem? (i := 35) rfl)
theorem g436 : .fieldLink RMd 7 "StratumCountsModel" "sizes" "[I" ∈ wsAll := wsAll_c10 _ (List.mem_of_getElem? (i := 36) rfl)
theorem g437 : .fieldLink RMd 13 "StratumCountsModel" "costs" "[J" ∈ wsAll := wsAll_c10 _ (List.mem_of_getElem? (i := 37) rfl)
theorem g438 : .fieldLink RMd 17 "StratumCountsModel" "gone" "[Z" ∈ wsAll := wsAll_c10 _ (List.mem_of_getElem? (i := 38) rfl)
theorem g439 : .fieldLink RMd 21 "StratumCountsModel" "drawn" "[I" ∈ wsAll := wsAll_c10 _ (List.mem_of_getElem? (i := 39) rfl)
theorem g440 : .fieldLink RMd 24 "StratumCountsModel" "drawnCounts" "[I" ∈ wsAll := wsAll_c11 _ (List.mem_of_getElem? (i := 0) rfl)
theorem g441 : .fieldLink RMd 62 "StratumCountsModel" "bags" "I" ∈ wsAll := wsAll_c11 _ (List.mem_of_getElem? (i := 1) rfl)
theorem g442 : .fieldLink RMd 27 "StratumCountsModel" "owners" "[I" ∈ wsAll := wsAll_c11 _ (List.mem_of_getElem? (i := 2) rfl)
theorem g443 : .fieldLink RMd 30 "StratumCountsModel" "years" "[I" ∈ wsAll := wsAll_c11 _ (List.mem_of_getElem? (i := 3) rfl)
theorem g444 : .fieldLink RMd 33 "StratumCountsModel" "missing" "[Z" ∈ wsAll := wsAll_c11 _ (List.mem_of_getElem? (i := 4) rfl)
theorem g445 : .fieldLink RMd 36 "StratumCountsModel" "grams" "[J" ∈ wsAll := wsAll_c11 _ (List.mem_of_getElem? (i := 5) rfl)
theorem g446 : .fieldLink RMd 145 "StratumCountsModel" "hasPlan" "Z" ∈ wsAll := wsAll_c11 _ (List.mem_of_getElem? (i := 6) rfl)
theorem g447 : .fieldLink RMd 39 "StratumCountsModel" "planned" "[I" ∈ wsAll := wsAll_c11 _ (List.mem_of_getElem? (i := 7) rfl)
theorem g448 : .fieldLink RMd 170 "StratumCountsModel" "again" "I" ∈ wsAll := wsAll_c11 _ (List.mem_of_getElem? (i := 8) rfl)
theorem g449 : .fieldLink RMd 42 "StratumCountsModel" "againBag" "[I" ∈ wsAll := wsAll_c11 _ (List.mem_of_getElem? (i := 9) rfl)
theorem g450 : .fieldLink RMd 45 "StratumCountsModel" "againKind" "[I" ∈ wsAll := wsAll_c11 _ (List.mem_of_getElem? (i := 10) rfl)
theorem g451 : .fieldLink RMd 48 "StratumCountsModel" "againGrams" "[J" ∈ wsAll := wsAll_c11 _ (List.mem_of_getElem? (i := 11) rfl)
theorem g452 : .fieldLink RMd 100 "StratumCountsModel" "over" "J" ∈ wsAll := wsAll_c11 _ (List.mem_of_getElem? (i := 12) rfl)
theorem g453 : .fieldLink RMd 103 "StratumCountsModel" "under" "J" ∈ wsAll := wsAll_c11 _ (List.mem_of_getElem? (i := 13) rfl)
theorem g454 : .fieldLink RMd 51 "StratumCountsModel" "trial" "[I" ∈ wsAll := wsAll_c11 _ (List.mem_of_getElem? (i := 14) rfl)
theorem g455 : .lays "StratumCountsModel" "StratumCountsModel" "seed" "J" ∈ wsAll := wsAll_c11 _ (List.mem_of_getElem? (i := 15) rfl)
theorem g456 : .lays "StratumCountsModel" "StratumCountsModel" "strata" "I" ∈ wsAll := wsAll_c11 _ (List.mem_of_getElem? (i := 16) rfl)
theorem g457 : .laysFinal "StratumCountsModel" "StratumCountsModel" "sizes" "[I" ∈ wsAll := wsAll_c11 _ (List.mem_of_getElem? (i := 17) rfl)
theorem g458 : .laysFinal "StratumCountsModel" "StratumCountsModel" "costs" "[J" ∈ wsAll := wsAll_c11 _ (List.mem_of_getElem? (i := 18) rfl)
theorem g459 : .laysFinal "StratumCountsModel" "StratumCountsModel" "gone" "[Z" ∈ wsAll := wsAll_c11 _ (List.mem_of_getElem? (i := 19) rfl)
theorem g460 : .laysFinal "StratumCountsModel" "StratumCountsModel" "drawn" "[I" ∈ wsAll := wsAll_c11 _ (List.mem_of_getElem? (i := 20) rfl)
theorem g461 : .laysFinal "StratumCountsModel" "StratumCountsModel" "drawnCounts" "[I" ∈ wsAll := wsAll_c11 _ (List.mem_of_getElem? (i := 21) rfl)
theorem g462 : .lays "StratumCountsModel" "StratumCountsModel" "bags" "I" ∈ wsAll := wsAll_c11 _ (List.mem_of_getElem? (i := 22) rfl)
theorem g463 : .laysFinal "StratumCountsModel" "StratumCountsModel" "owners" "[I" ∈ wsAll := wsAll_c11 _ (List.mem_of_getElem? (i := 23) rfl)
theorem g464 : .laysFinal "StratumCountsModel" "StratumCountsModel" "years" "[I" ∈ wsAll := wsAll_c11 _ (List.mem_of_getElem? (i := 24) rfl)
theorem g465 : .laysFinal "StratumCountsModel" "StratumCountsModel" "missing" "[Z" ∈ wsAll := wsAll_c11 _ (List.mem_of_getElem? (i := 25) rfl)
theorem g466 : .laysFinal "StratumCountsModel" "StratumCountsModel" "grams" "[J" ∈ wsAll := wsAll_c11 _ (List.mem_of_getElem? (i := 26) rfl)
theorem g467 : .lays "StratumCountsModel" "StratumCountsModel" "hasPlan" "Z" ∈ wsAll := wsAll_c11 _ (List.mem_of_getElem? (i := 27) rfl)
theorem g468 : .laysFinal "StratumCountsModel" "StratumCountsModel" "planned" "[I" ∈ wsAll := wsAll_c11 _ (List.mem_of_getElem? (i := 28) rfl)
theorem g469 : .lays "StratumCountsModel" "StratumCountsModel" "again" "I" ∈ wsAll := wsAll_c11 _ (List.mem_of_getElem? (i := 29) rfl)
theorem g470 : .laysFinal "StratumCountsModel" "StratumCountsModel" "againBag" "[I" ∈ wsAll := wsAll_c11 _ (List.mem_of_getElem? (i := 30) rfl)
theorem g471 : .laysFinal "StratumCountsModel" "StratumCountsModel" "againKind" "[I" ∈ wsAll := wsAll_c11 _ (List.mem_of_getElem? (i := 31) rfl)
theorem g472 : .laysFinal "StratumCountsModel" "StratumCountsModel" "againGrams" "[J" ∈ wsAll := wsAll_c11 _ (List.mem_of_getElem? (i := 32) rfl)
theorem g473 : .lays "StratumCountsModel" "StratumCountsModel" "over" "J" ∈ wsAll := wsAll_c11 _ (List.mem_of_getElem? (i := 33) rfl)
theorem g474 : .lays "StratumCountsModel" "StratumCountsModel" "under" "J" ∈ wsAll := wsAll_c11 _ (List.mem_of_getElem? (i := 34) rfl)
theorem g475 : .laysFinal "StratumCountsModel" "StratumCountsModel" "trial" "[I" ∈ wsAll := wsAll_c11 _ (List.mem_of_getElem? (i := 35) rfl)
theorem g476 : .methodLink RLw 25 yMd_stratum ∈ wsAll := wsAll_c11 _ (List.mem_of_getElem? (i := 36) rfl)
theorem g477 : .instanceMethod yMd_stratum ∈ wsAll := wsAll_c11 _ (List.mem_of_getElem? (i := 37) rfl)
theorem g478 : .selects RMd yMd_stratum yMd_stratum ∈ wsAll := wsAll_c11 _ (List.mem_of_getElem? (i := 38) rfl)
theorem g479 : .code yMd_stratum prog_11_method_7_code 2 (some .int) ∈ wsAll := wsAll_c11 _ (List.mem_of_getElem? (i := 39) rfl)
theorem g480 : .constantLong RMd 65 (lZ (100)) ∈ wsAll := wsAll_c12 _ (List.mem_of_getElem? (i := 0) rfl)
theorem g481 : .methodLink RMd 67 yMd_isIn ∈ wsAll := wsAll_c12 _ (List.mem_of_getElem? (i := 1) rfl)
theorem g482 : .static yMd_isIn ∈ wsAll := wsAll_c12 _ (List.mem_of_getElem? (i := 2) rfl)
theorem g483 : .code yMd_isIn prog_11_method_3_code 6 (some .boolean) ∈ wsAll := wsAll_c12 _ (List.mem_of_getElem? (i := 3) rfl)
theorem g484 : .methodLink RLw 32 yMd_cost ∈ wsAll := wsAll_c12 _ (List.mem_of_getElem? (i := 4) rfl)
theorem g485 : .instanceMethod yMd_cost ∈ wsAll := wsAll_c12 _ (List.mem_of_getElem? (i := 5) rfl)
theorem g486 : .selects RMd yMd_cost yMd_cost ∈ wsAll := wsAll_c12 _ (List.mem_of_getElem? (i := 6) rfl)
theorem g487 : .code yMd_cost prog_11_method_8_code 4 (some .boolean) ∈ wsAll := wsAll_c12 _ (List.mem_of_getElem? (i := 7) rfl)
theorem g488 : .methodLink RMd 71 yMd_isHere ∈ wsAll := wsAll_c12 _ (List.mem_of_getElem? (i := 8) rfl)
theorem g489 : .instanceMethod yMd_isHere ∈ wsAll := wsAll_c12 _ (List.mem_of_getElem? (i := 9) rfl)
theorem g490 : .code yMd_isHere prog_11_method_4_code 2 (some .boolean) ∈ wsAll := wsAll_c12 _ (List.mem_of_getElem? (i := 10) rfl)
theorem g491 : .constantLong RMd 75 (lZ (100000)) ∈ wsAll := wsAll_c12 _ (List.mem_of_getElem? (i := 11) rfl)
theorem g492 : .methodLink RLw 36 yMd_bag ∈ wsAll := wsAll_c12 _ (List.mem_of_getElem? (i := 12) rfl)
theorem g493 : .instanceMethod yMd_bag ∈ wsAll := wsAll_c12 _ (List.mem_of_getElem? (i := 13) rfl)
theorem g494 : .selects RMd yMd_bag yMd_bag ∈ wsAll := wsAll_c12 _ (List.mem_of_getElem? (i := 14) rfl)
theorem g495 : .code yMd_bag prog_11_method_9_code 2 (some .int) ∈ wsAll := wsAll_c12 _ (List.mem_of_getElem? (i := 15) rfl)
theorem g496 : .methodLink RLw 41 yMd_weight ∈ wsAll := wsAll_c12 _ (List.mem_of_getElem? (i := 16) rfl)
theorem g497 : .instanceMethod yMd_weight ∈ wsAll := wsAll_c12 _ (List.mem_of_getElem? (i := 17) rfl)
theorem g498 : .selects RMd yMd_weight yMd_weight ∈ wsAll := wsAll_c12 _ (List.mem_of_getElem? (i := 18) rfl)
theorem g499 : .code yMd_weight prog_11_method_10_code 5 (some .boolean) ∈ wsAll := wsAll_c12 _ (List.mem_of_getElem? (i := 19) rfl)
theorem g500 : .methodLink RMd 77 yMd_isBag ∈ wsAll := wsAll_c12 _ (List.mem_of_getElem? (i := 20) rfl)
theorem g501 : .instanceMethod yMd_isBag ∈ wsAll := wsAll_c12 _ (List.mem_of_getElem? (i := 21) rfl)
theorem g502 : .code yMd_isBag prog_11_method_5_code 2 (some .boolean) ∈ wsAll := wsAll_c12 _ (List.mem_of_getElem? (i := 22) rfl)
theorem g503 : .methodLink RMd 80 yMd_isKind ∈ wsAll := wsAll_c12 _ (List.mem_of_getElem? (i := 23) rfl)
theorem g504 : .static yMd_isKind ∈ wsAll := wsAll_c12 _ (List.mem_of_getElem? (i := 24) rfl)
theorem g505 : .code yMd_isKind prog_11_method_6_code 1 (some .boolean) ∈ wsAll := wsAll_c12 _ (List.mem_of_getElem? (i := 25) rfl)
theorem g506 : .constantLong RMd 83 (lZ (10000)) ∈ wsAll := wsAll_c12 _ (List.mem_of_getElem? (i := 26) rfl)
theorem g507 : .methodLink RLw 46 yMd_year ∈ wsAll := wsAll_c12 _ (List.mem_of_getElem? (i := 27) rfl)
theorem g508 : .instanceMethod yMd_year ∈ wsAll := wsAll_c12 _ (List.mem_of_getElem? (i := 28) rfl)
theorem g509 : .selects RMd yMd_year yMd_year ∈ wsAll := wsAll_c12 _ (List.mem_of_getElem? (i := 29) rfl)
theorem g510 : .code yMd_year prog_11_method_11_code 3 (some .boolean) ∈ wsAll := wsAll_c12 _ (List.mem_of_getElem? (i := 30) rfl)
theorem g511 : .methodLink RLw 51 yMd_missing ∈ wsAll := wsAll_c12 _ (List.mem_of_getElem? (i := 31) rfl)
theorem g512 : .instanceMethod yMd_missing ∈ wsAll := wsAll_c12 _ (List.mem_of_getElem? (i := 32) rfl)
theorem g513 : .selects RMd yMd_missing yMd_missing ∈ wsAll := wsAll_c12 _ (List.mem_of_getElem? (i := 33) rfl)
theorem g514 : .code yMd_missing prog_11_method_12_code 2 (some .boolean) ∈ wsAll := wsAll_c12 _ (List.mem_of_getElem? (i := 34) rfl)
theorem g515 : .methodLink RLw 56 yMd_draw ∈ wsAll := wsAll_c12 _ (List.mem_of_getElem? (i := 35) rfl)
theorem g516 : .instanceMethod yMd_draw ∈ wsAll := wsAll_c12 _ (List.mem_of_getElem? (i := 36) rfl)
theorem g517 : .selects RMd yMd_draw yMd_draw ∈ wsAll := wsAll_c12 _ (List.mem_of_getElem? (i := 37) rfl)
theorem g518 : .code yMd_draw prog_11_method_13_code 6 (some .int) ∈ wsAll := wsAll_c12 _ (List.mem_of_getElem? (i := 38) rfl)
theorem g519 : .constantLong RMd 85 (lZ (6364136223846793005)) ∈ wsAll := wsAll_c12 _ (List.mem_of_getElem? (i := 39) rfl)
theorem g520 : .constantLong RMd 87 (lZ (1442695040888963407)) ∈ wsAll := wsAll_c13 _ (List.mem_of_getElem? (i := 0) rfl)
theorem g521 : .methodLink RLw 60 yMd_drawn ∈ wsAll := wsAll_c13 _ (List.mem_of_getElem? (i := 1) rfl)
theorem g522 : .instanceMethod yMd_drawn ∈ wsAll := wsAll_c13 _ (List.mem_of_getElem? (i := 2) rfl)
theorem g523 : .selects RMd yMd_drawn yMd_drawn ∈ wsAll := wsAll_c13 _ (List.mem_of_getElem? (i := 3) rfl)
theorem g524 : .code yMd_drawn prog_11_method_14_code 3 (some .int) ∈ wsAll := wsAll_c13 _ (List.mem_of_getElem? (i := 4) rfl)
theorem g525 : .methodLink RLw 100 yMd_counting ∈ wsAll := wsAll_c13 _ (List.mem_of_getElem? (i := 5) rfl)
theorem g526 : .instanceMethod yMd_counting ∈ wsAll := wsAll_c13 _ (List.mem_of_getElem? (i := 6) rfl)
theorem g527 : .selects RMd yMd_counting yMd_counting ∈ wsAll := wsAll_c13 _ (List.mem_of_getElem? (i := 7) rfl)
theorem g528 : .code yMd_counting prog_11_method_19_code 3 (some .int) ∈ wsAll := wsAll_c13 _ (List.mem_of_getElem? (i := 8) rfl)
theorem g529 : .methodLink RMd 93 yMd_counts ∈ wsAll := wsAll_c13 _ (List.mem_of_getElem? (i := 9) rfl)
theorem g530 : .instanceMethod yMd_counts ∈ wsAll := wsAll_c13 _ (List.mem_of_getElem? (i := 10) rfl)
theorem g531 : .code yMd_counts prog_11_method_16_code 2 (some .boolean) ∈ wsAll := wsAll_c13 _ (List.mem_of_getElem? (i := 11) rfl)
theorem g532 : .methodLink RMd 89 yMd_countOf ∈ wsAll := wsAll_c13 _ (List.mem_of_getElem? (i := 12) rfl)
theorem g533 : .instanceMethod yMd_countOf ∈ wsAll := wsAll_c13 _ (List.mem_of_getElem? (i := 13) rfl)
theorem g534 : .code yMd_countOf prog_11_method_15_code 4 (some .int) ∈ wsAll := wsAll_c13 _ (List.mem_of_getElem? (i := 14) rfl)
theorem g535 : .methodLink RLw 65 yMd_mean ∈ wsAll := wsAll_c13 _ (List.mem_of_getElem? (i := 15) rfl)
theorem g536 : .instanceMethod yMd_mean ∈ wsAll := wsAll_c13 _ (List.mem_of_getElem? (i := 16) rfl)
theorem g537 : .selects RMd yMd_mean yMd_mean ∈ wsAll := wsAll_c13 _ (List.mem_of_getElem? (i := 17) rfl)
theorem g538 : .code yMd_mean prog_11_method_24_code 6 (some .long) ∈ wsAll := wsAll_c13 _ (List.mem_of_getElem? (i := 18) rfl)
theorem g539 : .methodLink RMd 106 yMd_counting ∈ wsAll := wsAll_c13 _ (List.mem_of_getElem? (i := 19) rfl)
theorem g540 : .constantLong RMd 110 (lZ (-1)) ∈ wsAll := wsAll_c13 _ (List.mem_of_getElem? (i := 20) rfl)
theorem g541 : .methodLink RMd 112 yMd_multiple ∈ wsAll := wsAll_c13 _ (List.mem_of_getElem? (i := 21) rfl)
theorem g542 : .static yMd_multiple ∈ wsAll := wsAll_c13 _ (List.mem_of_getElem? (i := 22) rfl)
theorem g543 : .code yMd_multiple prog_11_method_22_code 4 (some .long) ∈ wsAll := wsAll_c13 _ (List.mem_of_getElem? (i := 23) rfl)
theorem g544 : .methodLink RMd 96 yMd_common ∈ wsAll := wsAll_c13 _ (List.mem_of_getElem? (i := 24) rfl)
theorem g545 : .static yMd_common ∈ wsAll := wsAll_c13 _ (List.mem_of_getElem? (i := 25) rfl)
theorem g546 : .code yMd_common prog_11_method_21_code 10 (some .long) ∈ wsAll := wsAll_c13 _ (List.mem_of_getElem? (i := 26) rfl)
theorem g547 : .methodLink RMd 115 yMd_sumOf ∈ wsAll := wsAll_c13 _ (List.mem_of_getElem? (i := 27) rfl)
theorem g548 : .instanceMethod yMd_sumOf ∈ wsAll := wsAll_c13 _ (List.mem_of_getElem? (i := 28) rfl)
theorem g549 : .code yMd_sumOf prog_11_method_17_code 6 (some .long) ∈ wsAll := wsAll_c13 _ (List.mem_of_getElem? (i := 29) rfl)
theorem g550 : .methodLink RMd 119 yMd_allSizes ∈ wsAll := wsAll_c13 _ (List.mem_of_getElem? (i := 30) rfl)
theorem g551 : .instanceMethod yMd_allSizes ∈ wsAll := wsAll_c13 _ (List.mem_of_getElem? (i := 31) rfl)
theorem g552 : .code yMd_allSizes prog_11_method_20_code 4 (some .long) ∈ wsAll := wsAll_c13 _ (List.mem_of_getElem? (i := 32) rfl)
theorem g553 : .methodLink RMd 123 yMd_part ∈ wsAll := wsAll_c13 _ (List.mem_of_getElem? (i := 33) rfl)
theorem g554 : .instanceMethod yMd_part ∈ wsAll := wsAll_c13 _ (List.mem_of_getElem? (i := 34) rfl)
theorem g555 : .code yMd_part prog_11_method_23_code 4 (some .long) ∈ wsAll := wsAll_c13 _ (List.mem_of_getElem? (i := 35) rfl)
theorem g556 : .methodLink RLw 69 yMd_spread ∈ wsAll := wsAll_c13 _ (List.mem_of_getElem? (i := 36) rfl)
theorem g557 : .instanceMethod yMd_spread ∈ wsAll := wsAll_c13 _ (List.mem_of_getElem? (i := 37) rfl)
theorem g558 : .selects RMd yMd_spread yMd_spread ∈ wsAll := wsAll_c13 _ (List.mem_of_getElem? (i := 38) rfl)
theorem g559 : .code yMd_spread prog_11_method_28_code 3 (some .long) ∈ wsAll := wsAll_c13 _ (List.mem_of_getElem? (i := 39) rfl)
theorem g560 : .methodLink RMd 134 yMd_hasSpread ∈ wsAll := wsAll_c14 _ (List.mem_of_getElem? (i := 0) rfl)
theorem g561 : .instanceMethod yMd_hasSpread ∈ wsAll := wsAll_c14 _ (List.mem_of_getElem? (i := 1) rfl)
theorem g562 : .code yMd_hasSpread prog_11_method_25_code 4 (some .boolean) ∈ wsAll := wsAll_c14 _ (List.mem_of_getElem? (i := 2) rfl)
theorem g563 : .methodLink RMd 137 yMd_makeSpread ∈ wsAll := wsAll_c14 _ (List.mem_of_getElem? (i := 3) rfl)
theorem g564 : .instanceMethod yMd_makeSpread ∈ wsAll := wsAll_c14 _ (List.mem_of_getElem? (i := 4) rfl)
theorem g565 : .code yMd_makeSpread prog_11_method_27_code 10 none ∈ wsAll := wsAll_c14 _ (List.mem_of_getElem? (i := 5) rfl)
theorem g566 : .methodLink RMd 127 yMd_bagsOf ∈ wsAll := wsAll_c14 _ (List.mem_of_getElem? (i := 6) rfl)
theorem g567 : .instanceMethod yMd_bagsOf ∈ wsAll := wsAll_c14 _ (List.mem_of_getElem? (i := 7) rfl)
theorem g568 : .code yMd_bagsOf prog_11_method_26_code 3 (some .long) ∈ wsAll := wsAll_c14 _ (List.mem_of_getElem? (i := 8) rfl)
theorem g569 : .methodLink RMd 131 yMd_squaresOf ∈ wsAll := wsAll_c14 _ (List.mem_of_getElem? (i := 9) rfl)
theorem g570 : .instanceMethod yMd_squaresOf ∈ wsAll := wsAll_c14 _ (List.mem_of_getElem? (i := 10) rfl)
theorem g571 : .code yMd_squaresOf prog_11_method_18_code 8 (some .long) ∈ wsAll := wsAll_c14 _ (List.mem_of_getElem? (i := 11) rfl)
theorem g572 : .methodLink RLw 74 yMd_plan ∈ wsAll := wsAll_c14 _ (List.mem_of_getElem? (i := 12) rfl)
theorem g573 : .instanceMethod yMd_plan ∈ wsAll := wsAll_c14 _ (List.mem_of_getElem? (i := 13) rfl)
theorem g574 : .selects RMd yMd_plan yMd_plan ∈ wsAll := wsAll_c14 _ (List.mem_of_getElem? (i := 14) rfl)
theorem g575 : .code yMd_plan prog_11_method_33_code 10 (some .long) ∈ wsAll := wsAll_c14 _ (List.mem_of_getElem? (i := 15) rfl)
theorem g576 : .constantLong RMd 141 (lZ (1000000000)) ∈ wsAll := wsAll_c14 _ (List.mem_of_getElem? (i := 16) rfl)
theorem g577 : .constantLong RMd 143 (lZ (1000)) ∈ wsAll := wsAll_c14 _ (List.mem_of_getElem? (i := 17) rfl)
theorem g578 : .methodLink RMd 149 yMd_isOwn ∈ wsAll := wsAll_c14 _ (List.mem_of_getElem? (i := 18) rfl)
theorem g579 : .instanceMethod yMd_isOwn ∈ wsAll := wsAll_c14 _ (List.mem_of_getElem? (i := 19) rfl)
theorem g580 : .code yMd_isOwn prog_11_method_32_code 5 (some .boolean) ∈ wsAll := wsAll_c14 _ (List.mem_of_getElem? (i := 20) rfl)
theorem g581 : .methodLink RMd 152 yMd_tryPlan ∈ wsAll := wsAll_c14 _ (List.mem_of_getElem? (i := 21) rfl)
theorem g582 : .instanceMethod yMd_tryPlan ∈ wsAll := wsAll_c14 _ (List.mem_of_getElem? (i := 22) rfl)
theorem g583 : .code yMd_tryPlan prog_11_method_31_code 4 none ∈ wsAll := wsAll_c14 _ (List.mem_of_getElem? (i := 23) rfl)
theorem g584 : .methodLink RMd 156 yMd_trialCost ∈ wsAll := wsAll_c14 _ (List.mem_of_getElem? (i := 24) rfl)
theorem g585 : .instanceMethod yMd_trialCost ∈ wsAll := wsAll_c14 _ (List.mem_of_getElem? (i := 25) rfl)
theorem g586 : .code yMd_trialCost prog_11_method_30_code 4 (some .long) ∈ wsAll := wsAll_c14 _ (List.mem_of_getElem? (i := 26) rfl)
theorem g587 : .methodLink RMd 159 yMd_isAtMost ∈ wsAll := wsAll_c14 _ (List.mem_of_getElem? (i := 27) rfl)
theorem g588 : .static yMd_isAtMost ∈ wsAll := wsAll_c14 _ (List.mem_of_getElem? (i := 28) rfl)
theorem g589 : .code yMd_isAtMost prog_11_method_29_code 27 (some .boolean) ∈ wsAll := wsAll_c14 _ (List.mem_of_getElem? (i := 29) rfl)
theorem g590 : .methodLink RLw 78 yMd_planned ∈ wsAll := wsAll_c14 _ (List.mem_of_getElem? (i := 30) rfl)
theorem g591 : .instanceMethod yMd_planned ∈ wsAll := wsAll_c14 _ (List.mem_of_getElem? (i := 31) rfl)
theorem g592 : .selects RMd yMd_planned yMd_planned ∈ wsAll := wsAll_c14 _ (List.mem_of_getElem? (i := 32) rfl)
theorem g593 : .code yMd_planned prog_11_method_34_code 2 (some .int) ∈ wsAll := wsAll_c14 _ (List.mem_of_getElem? (i := 33) rfl)
theorem g594 : .methodLink RLw 82 yMd_compared ∈ wsAll := wsAll_c14 _ (List.mem_of_getElem? (i := 34) rfl)
theorem g595 : .instanceMethod yMd_compared ∈ wsAll := wsAll_c14 _ (List.mem_of_getElem? (i := 35) rfl)
theorem g596 : .selects RMd yMd_compared yMd_compared ∈ wsAll := wsAll_c14 _ (List.mem_of_getElem? (i := 36) rfl)
theorem g597 : .code yMd_compared prog_11_method_37_code 16 (some .long) ∈ wsAll := wsAll_c14 _ (List.mem_of_getElem? (i := 37) rfl)
theorem g598 : .methodLink RMd 163 yMd_bagsOfYear ∈ wsAll := wsAll_c14 _ (List.mem_of_getElem? (i := 38) rfl)
theorem g599 : .instanceMethod yMd_bagsOfYear ∈ wsAll := wsAll_c14 _ (List.mem_of_getElem? (i := 39) rfl)
theorem g600 : .code yMd_bagsOfYear prog_11_method_35_code 4 (some .int) ∈ wsAll := wsAll_c15 _ (List.mem_of_getElem? (i := 0) rfl)
theorem g601 : .methodLink RMd 166 yMd_apart ∈ wsAll := wsAll_c15 _ (List.mem_of_getElem? (i := 1) rfl)
theorem g602 : .instanceMethod yMd_apart ∈ wsAll := wsAll_c15 _ (List.mem_of_getElem? (i := 2) rfl)
theorem g603 : .code yMd_apart prog_11_method_36_code 15 (some .long) ∈ wsAll := wsAll_c15 _ (List.mem_of_getElem? (i := 3) rfl)
theorem g604 : .methodLink RLw 86 yMd_joined ∈ wsAll := wsAll_c15 _ (List.mem_of_getElem? (i := 4) rfl)
theorem g605 : .instanceMethod yMd_joined ∈ wsAll := wsAll_c15 _ (List.mem_of_getElem? (i := 5) rfl)
theorem g606 : .selects RMd yMd_joined yMd_joined ∈ wsAll := wsAll_c15 _ (List.mem_of_getElem? (i := 6) rfl)
theorem g607 : .code yMd_joined prog_11_method_38_code 4 (some .boolean) ∈ wsAll := wsAll_c15 _ (List.mem_of_getElem? (i := 7) rfl)
theorem g608 : .methodLink RLw 91 yMd_repeat ∈ wsAll := wsAll_c15 _ (List.mem_of_getElem? (i := 8) rfl)
theorem g609 : .instanceMethod yMd_repeat ∈ wsAll := wsAll_c15 _ (List.mem_of_getElem? (i := 9) rfl)
theorem g610 : .selects RMd yMd_repeat yMd_repeat ∈ wsAll := wsAll_c15 _ (List.mem_of_getElem? (i := 10) rfl)
theorem g611 : .code yMd_repeat prog_11_method_39_code 5 (some .int) ∈ wsAll := wsAll_c15 _ (List.mem_of_getElem? (i := 11) rfl)
theorem g612 : .methodLink RLw 95 yMd_error ∈ wsAll := wsAll_c15 _ (List.mem_of_getElem? (i := 12) rfl)
theorem g613 : .instanceMethod yMd_error ∈ wsAll := wsAll_c15 _ (List.mem_of_getElem? (i := 13) rfl)
theorem g614 : .selects RMd yMd_error yMd_error ∈ wsAll := wsAll_c15 _ (List.mem_of_getElem? (i := 14) rfl)
theorem g615 : .code yMd_error prog_11_method_40_code 6 (some .long) ∈ wsAll := wsAll_c15 _ (List.mem_of_getElem? (i := 15) rfl)
theorem g616 : .constantLong RMd 173 (lZ (2)) ∈ wsAll := wsAll_c15 _ (List.mem_of_getElem? (i := 16) rfl)
theorem g617 : .constantLong RLw 26 (lZ (4294967295)) ∈ wsAll := wsAll_c15 _ (List.mem_of_getElem? (i := 17) rfl)
theorem n0 : .methodLinkNest RSc 9 ySt_init "StratumCounts" ∈ nwAll := List.mem_of_getElem? (i := 0) rfl
theorem n1 : .fieldLinkNest RFg 43 "StratumCounts$Strata" "sizes" "[I" "StratumCounts" ∈ nwAll := List.mem_of_getElem? (i := 1) rfl
theorem n2 : .fieldLinkNest RSc 84 "StratumCounts$Strata" "sizes" "[I" "StratumCounts" ∈ nwAll := List.mem_of_getElem? (i := 2) rfl
theorem n3 : .fieldLinkNest RPl 50 "StratumCounts$Strata" "costs" "[J" "StratumCounts" ∈ nwAll := List.mem_of_getElem? (i := 3) rfl
theorem n4 : .methodLinkNest RSc 18 yBg_init "StratumCounts" ∈ nwAll := List.mem_of_getElem? (i := 4) rfl
theorem n5 : .fieldLinkNest RFg 53 "StratumCounts$Bags" "homes" "[I" "StratumCounts" ∈ nwAll := List.mem_of_getElem? (i := 5) rfl
theorem n6 : .fieldLinkNest RCp 39 "StratumCounts$Bags" "dates" "[I" "StratumCounts" ∈ nwAll := List.mem_of_getElem? (i := 6) rfl
theorem n7 : .fieldLinkNest RCp 31 "StratumCounts$Bags" "lost" "[Z" "StratumCounts" ∈ nwAll := List.mem_of_getElem? (i := 7) rfl
theorem n8 : .fieldLinkNest RFg 56 "StratumCounts$Bags" "lost" "[Z" "StratumCounts" ∈ nwAll := List.mem_of_getElem? (i := 8) rfl
theorem n9 : .fieldLinkNest RCp 26 "StratumCounts$Bags" "made" "I" "StratumCounts" ∈ nwAll := List.mem_of_getElem? (i := 9) rfl
theorem n10 : .fieldLinkNest RFg 48 "StratumCounts$Bags" "made" "I" "StratumCounts" ∈ nwAll := List.mem_of_getElem? (i := 10) rfl
theorem n11 : .methodLinkNest RSc 25 yDr_init "StratumCounts" ∈ nwAll := List.mem_of_getElem? (i := 11) rfl
theorem n12 : .methodLinkNest RSc 34 yRp_init "StratumCounts" ∈ nwAll := List.mem_of_getElem? (i := 12) rfl
theorem n13 : .methodLinkNest RSc 41 yFg_init "StratumCounts" ∈ nwAll := List.mem_of_getElem? (i := 13) rfl
theorem n14 : .methodLinkNest RFg 26 yTm_init "StratumCounts" ∈ nwAll := List.mem_of_getElem? (i := 14) rfl
theorem n15 : .fieldLinkNest RPl 45 "StratumCounts$Figures" "numbers" "[J" "StratumCounts" ∈ nwAll := List.mem_of_getElem? (i := 15) rfl
theorem n16 : .fieldLinkNest RSc 111 "StratumCounts$Figures" "counted" "I" "StratumCounts" ∈ nwAll := List.mem_of_getElem? (i := 16) rfl
theorem n17 : .fieldLinkNest RPl 74 "StratumCounts$Figures" "total" "J" "StratumCounts" ∈ nwAll := List.mem_of_getElem? (i := 17) rfl
theorem n18 : .methodLinkNest RSc 48 yPl_init "StratumCounts" ∈ nwAll := List.mem_of_getElem? (i := 18) rfl
theorem n19 : .methodLinkNest RPl 33 yTm_init "StratumCounts" ∈ nwAll := List.mem_of_getElem? (i := 19) rfl
theorem n20 : .methodLinkNest RSc 55 yCp_init "StratumCounts" ∈ nwAll := List.mem_of_getElem? (i := 20) rfl
theorem n21 : .methodLinkNest RSc 60 ySt_add "StratumCounts" ∈ nwAll := List.mem_of_getElem? (i := 21) rfl
theorem n22 : .methodLinkNest RSc 64 ySt_setCost "StratumCounts" ∈ nwAll := List.mem_of_getElem? (i := 22) rfl
theorem n23 : .methodLinkNest RSc 68 ySt_stands "StratumCounts" ∈ nwAll := List.mem_of_getElem? (i := 23) rfl
theorem n24 : .methodLinkNest RSc 72 yBg_add "StratumCounts" ∈ nwAll := List.mem_of_getElem? (i := 24) rfl
theorem n25 : .methodLinkNest RSc 73 yBg_setGrams "StratumCounts" ∈ nwAll := List.mem_of_getElem? (i := 25) rfl
theorem n26 : .methodLinkNest RBg 34 ySc_isKind "StratumCounts" ∈ nwAll := List.mem_of_getElem? (i := 26) rfl
theorem n27 : .methodLinkNest RBg 37 ySc_isGrams "StratumCounts" ∈ nwAll := List.mem_of_getElem? (i := 27) rfl
theorem n28 : .methodLinkNest RSc 77 yBg_setYear "StratumCounts" ∈ nwAll := List.mem_of_getElem? (i := 28) rfl
theorem n29 : .methodLinkNest RSc 81 yBg_lose "StratumCounts" ∈ nwAll := List.mem_of_getElem? (i := 29) rfl
theorem n30 : .methodLinkNest RSc 88 yDr_take "StratumCounts" ∈ nwAll := List.mem_of_getElem? (i := 30) rfl
theorem n31 : .methodLinkNest RSc 92 ySt_has "StratumCounts" ∈ nwAll := List.mem_of_getElem? (i := 31) rfl
theorem n32 : .methodLinkNest RSc 95 yDr_taken "StratumCounts" ∈ nwAll := List.mem_of_getElem? (i := 32) rfl
theorem n33 : .methodLinkNest RSc 107 yFg_gather "StratumCounts" ∈ nwAll := List.mem_of_getElem? (i := 33) rfl
theorem n34 : .methodLinkNest RFg 60 yBg_gramsOf "StratumCounts" ∈ nwAll := List.mem_of_getElem? (i := 34) rfl
theorem n35 : .methodLinkNest RSc 115 yFg_tellMean "StratumCounts" ∈ nwAll := List.mem_of_getElem? (i := 35) rfl
theorem n36 : .methodLinkNest RFg 64 yTm_clear "StratumCounts" ∈ nwAll := List.mem_of_getElem? (i := 36) rfl
theorem n37 : .methodLinkNest RFg 67 yTm_set "StratumCounts" ∈ nwAll := List.mem_of_getElem? (i := 37) rfl
theorem n38 : .methodLinkNest RFg 71 yTm_common "StratumCounts" ∈ nwAll := List.mem_of_getElem? (i := 38) rfl
theorem n39 : .methodLinkNest RTm 24 ySc_leastCommon "StratumCounts" ∈ nwAll := List.mem_of_getElem? (i := 39) rfl
theorem n40 : .methodLinkNest RFg 75 yTm_sum "StratumCounts" ∈ nwAll := List.mem_of_getElem? (i := 40) rfl
theorem n41 : .methodLinkNest RFg 79 ySc_tell "StratumCounts" ∈ nwAll := List.mem_of_getElem? (i := 41) rfl
theorem n42 : .methodLinkNest RSc 119 yFg_haveSpread "StratumCounts" ∈ nwAll := List.mem_of_getElem? (i := 42) rfl
theorem n43 : .methodLinkNest RSc 123 yFg_tellSpread "StratumCounts" ∈ nwAll := List.mem_of_getElem? (i := 43) rfl
theorem n44 : .methodLinkNest RSc 130 yPl_prepare "StratumCounts" ∈ nwAll := List.mem_of_getElem? (i := 44) rfl
theorem n45 : .methodLinkNest RPl 42 yTm_clear "StratumCounts" ∈ nwAll := List.mem_of_getElem? (i := 45) rfl
theorem n46 : .methodLinkNest RPl 53 yFg_weighedScatter "StratumCounts" ∈ nwAll := List.mem_of_getElem? (i := 46) rfl
theorem n47 : .methodLinkNest RPl 57 yFg_pairs "StratumCounts" ∈ nwAll := List.mem_of_getElem? (i := 47) rfl
theorem n48 : .methodLinkNest RPl 60 yTm_set "StratumCounts" ∈ nwAll := List.mem_of_getElem? (i := 48) rfl
theorem n49 : .methodLinkNest RPl 64 yTm_common "StratumCounts" ∈ nwAll := List.mem_of_getElem? (i := 49) rfl
theorem n50 : .methodLinkNest RPl 70 yTm_scaled "StratumCounts" ∈ nwAll := List.mem_of_getElem? (i := 50) rfl
theorem n51 : .methodLinkNest RSc 134 yPl_findCheapest "StratumCounts" ∈ nwAll := List.mem_of_getElem? (i := 51) rfl
theorem n52 : .methodLinkNest RSc 138 yPl_heldBags "StratumCounts" ∈ nwAll := List.mem_of_getElem? (i := 52) rfl
theorem n53 : .methodLinkNest RSc 141 yCp_gather "StratumCounts" ∈ nwAll := List.mem_of_getElem? (i := 53) rfl
theorem n54 : .methodLinkNest RCp 35 yBg_gramsOf "StratumCounts" ∈ nwAll := List.mem_of_getElem? (i := 54) rfl
theorem n55 : .methodLinkNest RSc 144 yCp_countFarWays "StratumCounts" ∈ nwAll := List.mem_of_getElem? (i := 55) rfl
theorem n56 : .methodLinkNest RSc 147 yCp_countWays "StratumCounts" ∈ nwAll := List.mem_of_getElem? (i := 56) rfl
theorem n57 : .methodLinkNest RSc 150 ySt_merge "StratumCounts" ∈ nwAll := List.mem_of_getElem? (i := 57) rfl
theorem n58 : .methodLinkNest RSc 153 yBg_move "StratumCounts" ∈ nwAll := List.mem_of_getElem? (i := 58) rfl
theorem n59 : .methodLinkNest RSc 157 yBg_has "StratumCounts" ∈ nwAll := List.mem_of_getElem? (i := 59) rfl
theorem n60 : .methodLinkNest RSc 162 yRp_add "StratumCounts" ∈ nwAll := List.mem_of_getElem? (i := 60) rfl
theorem n61 : .methodLinkNest RSc 165 yRp_tellError "StratumCounts" ∈ nwAll := List.mem_of_getElem? (i := 61) rfl
theorem n62 : .methodLinkNest RRp 26 yBg_gramsOf "StratumCounts" ∈ nwAll := List.mem_of_getElem? (i := 62) rfl
theorem n63 : .methodLinkNest RRp 34 ySc_tell "StratumCounts" ∈ nwAll := List.mem_of_getElem? (i := 63) rfl
theorem wsAll_ok : wsAll.all goodWord = true := by decide +kernel
theorem nwAll_ok : nwAll.all cq_is = true := by decide +kernel
theorem hm {x w : Cond} (h : w ∈ wsAll) : w ∈ x :: wsAll := List.mem_cons_of_mem _ h
theorem gAll {x y : Cond} (hy : y ∈ wsAll) : GoodIn (x :: wsAll) (y :: wsAll) := by
  intro w hw
  have h1 : w ∈ wsAll := by
    rcases List.mem_cons.mp hw with h | h
    · rw [h]; exact hy
    · exact h
  exact ⟨List.mem_cons_of_mem _ h1, good_of_word (List.all_eq_true.mp wsAll_ok w h1)⟩
theorem layBg {x : Cond} : ∀ w ∈ u_ws RBg TBg 5, w ∈ x :: wsAll := by
  intro w hw
  refine hm ?_
  obtain ⟨k, hk, rfl⟩ := List.mem_map.mp hw
  have hk := List.mem_range.mp hk
  rcases (show k = 0 ∨ k = 1 ∨ k = 2 ∨ k = 3 ∨ k = 4 by omega) with rfl | rfl | rfl | rfl | rfl
  · exact g106
  · exact g107
  · exact g108
  · exact g109
  · exact g110
theorem layCp {x : Cond} : ∀ w ∈ u_ws RCp TCp 5, w ∈ x :: wsAll := by
  intro w hw
  refine hm ?_
  obtain ⟨k, hk, rfl⟩ := List.mem_map.mp hw
  have hk := List.mem_range.mp hk
  rcases (show k = 0 ∨ k = 1 ∨ k = 2 ∨ k = 3 ∨ k = 4 by omega) with rfl | rfl | rfl | rfl | rfl
  · exact g199
  · exact g200
  · exact g201
  · exact g202
  · exact g203
theorem layDr {x : Cond} : ∀ w ∈ u_ws RDr TDr 3, w ∈ x :: wsAll := by
  intro w hw
  refine hm ?_
  obtain ⟨k, hk, rfl⟩ := List.mem_map.mp hw
  have hk := List.mem_range.mp hk
  rcases (show k = 0 ∨ k = 1 ∨ k = 2 by omega) with rfl | rfl | rfl
  · exact g119
  · exact g120
  · exact g121
theorem layFg {x : Cond} : ∀ w ∈ u_ws RFg TFg 7, w ∈ x :: wsAll := by
  intro w hw
  refine hm ?_
  obtain ⟨k, hk, rfl⟩ := List.mem_map.mp hw
  have hk := List.mem_range.mp hk
  rcases (show k = 0 ∨ k = 1 ∨ k = 2 ∨ k = 3 ∨ k = 4 ∨ k = 5 ∨ k = 6 by omega) with rfl | rfl | rfl | rfl | rfl | rfl | rfl
  · exact g156
  · exact g157
  · exact g158
  · exact g159
  · exact g160
  · exact g161
  · exact g162
theorem layPl {x : Cond} : ∀ w ∈ u_ws RPl TPl 10, w ∈ x :: wsAll := by
  intro w hw
  refine hm ?_
  obtain ⟨k, hk, rfl⟩ := List.mem_map.mp hw
  have hk := List.mem_range.mp hk
  rcases (show k = 0 ∨ k = 1 ∨ k = 2 ∨ k = 3 ∨ k = 4 ∨ k = 5 ∨ k = 6 ∨ k = 7 ∨ k = 8 ∨ k = 9 by omega) with rfl | rfl | rfl | rfl | rfl | rfl | rfl | rfl | rfl | rfl
  · exact g179
  · exact g180
  · exact g181
  · exact g182
  · exact g183
  · exact g184
  · exact g185
  · exact g186
  · exact g187
  · exact g188
theorem layRp {x : Cond} : ∀ w ∈ u_ws RRp TRp 4, w ∈ x :: wsAll := by
  intro w hw
  refine hm ?_
  obtain ⟨k, hk, rfl⟩ := List.mem_map.mp hw
  have hk := List.mem_range.mp hk
  rcases (show k = 0 ∨ k = 1 ∨ k = 2 ∨ k = 3 by omega) with rfl | rfl | rfl | rfl
  · exact g131
  · exact g132
  · exact g133
  · exact g134
theorem laySt {x : Cond} : ∀ w ∈ u_ws RSt TSt 4, w ∈ x :: wsAll := by
  intro w hw
  refine hm ?_
  obtain ⟨k, hk, rfl⟩ := List.mem_map.mp hw
  have hk := List.mem_range.mp hk
  rcases (show k = 0 ∨ k = 1 ∨ k = 2 ∨ k = 3 by omega) with rfl | rfl | rfl | rfl
  · exact g89
  · exact g90
  · exact g91
  · exact g92
theorem layTm {x : Cond} : ∀ w ∈ u_ws RTm TTm 2, w ∈ x :: wsAll := by
  intro w hw
  refine hm ?_
  obtain ⟨k, hk, rfl⟩ := List.mem_map.mp hw
  have hk := List.mem_range.mp hk
  rcases (show k = 0 ∨ k = 1 by omega) with rfl | rfl
  · exact g147
  · exact g148
theorem laySc {x : Cond} : ∀ w ∈ u_ws RSc TSc 7, w ∈ x :: wsAll := by
  intro w hw
  refine hm ?_
  obtain ⟨k, hk, rfl⟩ := List.mem_map.mp hw
  have hk := List.mem_range.mp hk
  rcases (show k = 0 ∨ k = 1 ∨ k = 2 ∨ k = 3 ∨ k = 4 ∨ k = 5 ∨ k = 6 by omega) with rfl | rfl | rfl | rfl | rfl | rfl | rfl
  · exact g211
  · exact g212
  · exact g213
  · exact g214
  · exact g215
  · exact g216
  · exact g217
theorem layMd {x : Cond} : ∀ w ∈ u_ws RMd TMd 21, w ∈ x :: wsAll := by
  intro w hw
  refine hm ?_
  obtain ⟨k, hk, rfl⟩ := List.mem_map.mp hw
  have hk := List.mem_range.mp hk
  rcases (show k = 0 ∨ k = 1 ∨ k = 2 ∨ k = 3 ∨ k = 4 ∨ k = 5 ∨ k = 6 ∨ k = 7 ∨ k = 8 ∨ k = 9 ∨ k = 10 ∨ k = 11 ∨ k = 12 ∨ k = 13 ∨ k = 14 ∨ k = 15 ∨ k = 16 ∨ k = 17 ∨ k = 18 ∨ k = 19 ∨ k = 20 by omega) with rfl | rfl | rfl | rfl | rfl | rfl | rfl | rfl | rfl | rfl | rfl | rfl | rfl | rfl | rfl | rfl | rfl | rfl | rfl | rfl | rfl
  · exact g455
  · exact g456
  · exact g457
  · exact g458
  · exact g459
  · exact g460
  · exact g461
  · exact g462
  · exact g463
  · exact g464
  · exact g465
  · exact g466
  · exact g467
  · exact g468
  · exact g469
  · exact g470
  · exact g471
  · exact g472
  · exact g473
  · exact g474
  · exact g475
theorem cmBg_init : .code yBg_init cBg_init 1 none ∈ wsAll := g99
def wsBg_init : List Cond := .code yBg_init cBg_init 1 none :: wsAll
theorem cmBg_has : .code yBg_has cBg_has 2 (some .boolean) ∈ wsAll := g251
def wsBg_has : List Cond := .code yBg_has cBg_has 2 (some .boolean) :: wsAll
theorem cmBg_add : .code yBg_add cBg_add 3 (some .int) ∈ wsAll := g242
def wsBg_add : List Cond := .code yBg_add cBg_add 3 (some .int) :: wsAll
theorem cmBg_setGrams : .code yBg_setGrams cBg_setGrams 5 (some .boolean) ∈ wsAll := g248
def wsBg_setGrams : List Cond := .code yBg_setGrams cBg_setGrams 5 (some .boolean) :: wsAll
theorem cmBg_setYear : .code yBg_setYear cBg_setYear 3 (some .boolean) ∈ wsAll := g262
def wsBg_setYear : List Cond := .code yBg_setYear cBg_setYear 3 (some .boolean) :: wsAll
theorem cmBg_lose : .code yBg_lose cBg_lose 2 (some .boolean) ∈ wsAll := g268
def wsBg_lose : List Cond := .code yBg_lose cBg_lose 2 (some .boolean) :: wsAll
theorem cmBg_move : .code yBg_move cBg_move 4 none ∈ wsAll := g405
def wsBg_move : List Cond := .code yBg_move cBg_move 4 none :: wsAll
theorem cmBg_gramsOf : .code yBg_gramsOf cBg_gramsOf 3 (some .long) ∈ wsAll := g304
def wsBg_gramsOf : List Cond := .code yBg_gramsOf cBg_gramsOf 3 (some .long) :: wsAll
theorem cmCp_init : .code yCp_init cCp_init 1 none ∈ wsAll := g192
def wsCp_init : List Cond := .code yCp_init cCp_init 1 none :: wsAll
theorem cmCp_gather : .code yCp_gather cCp_gather 4 (some .boolean) ∈ wsAll := g378
def wsCp_gather : List Cond := .code yCp_gather cCp_gather 4 (some .boolean) :: wsAll
theorem cmCp_take : .code yCp_take cCp_take 4 none ∈ wsAll := g381
def wsCp_take : List Cond := .code yCp_take cCp_take 4 none :: wsAll
theorem cmCp_countWays : .code yCp_countWays cCp_countWays 4 (some .long) ∈ wsAll := g397
def wsCp_countWays : List Cond := .code yCp_countWays cCp_countWays 4 (some .long) :: wsAll
theorem cmCp_countFarWays : .code yCp_countFarWays cCp_countFarWays 6 (some .long) ∈ wsAll := g389
def wsCp_countFarWays : List Cond := .code yCp_countFarWays cCp_countFarWays 6 (some .long) :: wsAll
theorem cmCp_apart : .code yCp_apart cCp_apart 5 (some .long) ∈ wsAll := g392
def wsCp_apart : List Cond := .code yCp_apart cCp_apart 5 (some .long) :: wsAll
theorem cmDr_init : .code yDr_init cDr_init 3 none ∈ wsAll := g114
def wsDr_init : List Cond := .code yDr_init cDr_init 3 none :: wsAll
theorem cmDr_take : .code yDr_take cDr_take 6 (some .int) ∈ wsAll := g274
def wsDr_take : List Cond := .code yDr_take cDr_take 6 (some .int) :: wsAll
theorem cmDr_nextBelow : .code yDr_nextBelow cDr_nextBelow 2 (some .int) ∈ wsAll := g277
def wsDr_nextBelow : List Cond := .code yDr_nextBelow cDr_nextBelow 2 (some .int) :: wsAll
theorem cmDr_swap : .code yDr_swap cDr_swap 4 none ∈ wsAll := g282
def wsDr_swap : List Cond := .code yDr_swap cDr_swap 4 none :: wsAll
theorem cmDr_taken : .code yDr_taken cDr_taken 3 (some .int) ∈ wsAll := g288
def wsDr_taken : List Cond := .code yDr_taken cDr_taken 3 (some .int) :: wsAll
theorem cmFg_init : .code yFg_init cFg_init 1 none ∈ wsAll := g138
def wsFg_init : List Cond := .code yFg_init cFg_init 1 none :: wsAll
theorem cmFg_gather : .code yFg_gather cFg_gather 5 none ∈ wsAll := g299
def wsFg_gather : List Cond := .code yFg_gather cFg_gather 5 none :: wsAll
theorem cmFg_gatherOne : .code yFg_gatherOne cFg_gatherOne 13 none ∈ wsAll := g302
def wsFg_gatherOne : List Cond := .code yFg_gatherOne cFg_gatherOne 13 none :: wsAll
theorem cmFg_haveSpread : .code yFg_haveSpread cFg_haveSpread 2 (some .boolean) ∈ wsAll := g333
def wsFg_haveSpread : List Cond := .code yFg_haveSpread cFg_haveSpread 2 (some .boolean) :: wsAll
theorem cmFg_tellMean : .code yFg_tellMean cFg_tellMean 4 (some .long) ∈ wsAll := g306
def wsFg_tellMean : List Cond := .code yFg_tellMean cFg_tellMean 4 (some .long) :: wsAll
theorem cmFg_tellSpread : .code yFg_tellSpread cFg_tellSpread 4 (some .long) ∈ wsAll := g335
def wsFg_tellSpread : List Cond := .code yFg_tellSpread cFg_tellSpread 4 (some .long) :: wsAll
theorem cmFg_weighedScatter : .code yFg_weighedScatter cFg_weighedScatter 2 (some .long) ∈ wsAll := g338
def wsFg_weighedScatter : List Cond := .code yFg_weighedScatter cFg_weighedScatter 2 (some .long) :: wsAll
theorem cmFg_pairs : .code yFg_pairs cFg_pairs 2 (some .long) ∈ wsAll := g341
def wsFg_pairs : List Cond := .code yFg_pairs cFg_pairs 2 (some .long) :: wsAll
theorem cmPl_init : .code yPl_init cPl_init 1 none ∈ wsAll := g166
def wsPl_init : List Cond := .code yPl_init cPl_init 1 none :: wsAll
theorem cmPl_heldBags : .code yPl_heldBags cPl_heldBags 2 (some .int) ∈ wsAll := g372
def wsPl_heldBags : List Cond := .code yPl_heldBags cPl_heldBags 2 (some .int) :: wsAll
theorem cmPl_prepare : .code yPl_prepare cPl_prepare 11 none ∈ wsAll := g349
def wsPl_prepare : List Cond := .code yPl_prepare cPl_prepare 11 none :: wsAll
theorem cmPl_findCheapest : .code yPl_findCheapest cPl_findCheapest 2 (some .long) ∈ wsAll := g352
def wsPl_findCheapest : List Cond := .code yPl_findCheapest cPl_findCheapest 2 (some .long) :: wsAll
theorem cmPl_considerTrial : .code yPl_considerTrial cPl_considerTrial 4 none ∈ wsAll := g359
def wsPl_considerTrial : List Cond := .code yPl_considerTrial cPl_considerTrial 4 none :: wsAll
theorem cmPl_isNearEnough : .code yPl_isNearEnough cPl_isNearEnough 4 (some .boolean) ∈ wsAll := g362
def wsPl_isNearEnough : List Cond := .code yPl_isNearEnough cPl_isNearEnough 4 (some .boolean) :: wsAll
theorem cmPl_stepTrial : .code yPl_stepTrial cPl_stepTrial 2 (some .boolean) ∈ wsAll := g365
def wsPl_stepTrial : List Cond := .code yPl_stepTrial cPl_stepTrial 2 (some .boolean) :: wsAll
theorem cmRp_init : .code yRp_init cRp_init 1 none ∈ wsAll := g125
def wsRp_init : List Cond := .code yRp_init cRp_init 1 none :: wsAll
theorem cmRp_add : .code yRp_add cRp_add 5 (some .int) ∈ wsAll := g412
def wsRp_add : List Cond := .code yRp_add cRp_add 5 (some .int) :: wsAll
theorem cmRp_tellError : .code yRp_tellError cRp_tellError 11 (some .long) ∈ wsAll := g418
def wsRp_tellError : List Cond := .code yRp_tellError cRp_tellError 11 (some .long) :: wsAll
theorem cmSt_init : .code ySt_init cSt_init 1 none ∈ wsAll := g83
def wsSt_init : List Cond := .code ySt_init cSt_init 1 none :: wsAll
theorem cmSt_has : .code ySt_has cSt_has 2 (some .boolean) ∈ wsAll := g235
def wsSt_has : List Cond := .code ySt_has cSt_has 2 (some .boolean) :: wsAll
theorem cmSt_stands : .code ySt_stands cSt_stands 2 (some .boolean) ∈ wsAll := g232
def wsSt_stands : List Cond := .code ySt_stands cSt_stands 2 (some .boolean) :: wsAll
theorem cmSt_add : .code ySt_add cSt_add 3 (some .int) ∈ wsAll := g223
def wsSt_add : List Cond := .code ySt_add cSt_add 3 (some .int) :: wsAll
theorem cmSt_setCost : .code ySt_setCost cSt_setCost 4 (some .boolean) ∈ wsAll := g229
def wsSt_setCost : List Cond := .code ySt_setCost cSt_setCost 4 (some .boolean) :: wsAll
theorem cmSt_merge : .code ySt_merge cSt_merge 4 (some .boolean) ∈ wsAll := g403
def wsSt_merge : List Cond := .code ySt_merge cSt_merge 4 (some .boolean) :: wsAll
theorem cmTm_init : .code yTm_init cTm_init 1 none ∈ wsAll := g143
def wsTm_init : List Cond := .code yTm_init cTm_init 1 none :: wsAll
theorem cmTm_clear : .code yTm_clear cTm_clear 1 none ∈ wsAll := g308
def wsTm_clear : List Cond := .code yTm_clear cTm_clear 1 none :: wsAll
theorem cmTm_set : .code yTm_set cTm_set 6 none ∈ wsAll := g313
def wsTm_set : List Cond := .code yTm_set cTm_set 6 none :: wsAll
theorem cmTm_common : .code yTm_common cTm_common 4 (some .long) ∈ wsAll := g315
def wsTm_common : List Cond := .code yTm_common cTm_common 4 (some .long) :: wsAll
theorem cmTm_scaled : .code yTm_scaled cTm_scaled 4 (some .long) ∈ wsAll := g325
def wsTm_scaled : List Cond := .code yTm_scaled cTm_scaled 4 (some .long) :: wsAll
theorem cmTm_sum : .code yTm_sum cTm_sum 6 (some .long) ∈ wsAll := g322
def wsTm_sum : List Cond := .code yTm_sum cTm_sum 6 (some .long) :: wsAll
theorem cmSc_init : .code ySc_init cSc_init 3 none ∈ wsAll := g76
def wsSc_init : List Cond := .code ySc_init cSc_init 3 none :: wsAll
theorem cmSc_stratum : .code ySc_stratum cSc_stratum 2 (some .int) ∈ wsAll := g221
def wsSc_stratum : List Cond := .code ySc_stratum cSc_stratum 2 (some .int) :: wsAll
theorem cmSc_cost : .code ySc_cost cSc_cost 4 (some .boolean) ∈ wsAll := g227
def wsSc_cost : List Cond := .code ySc_cost cSc_cost 4 (some .boolean) :: wsAll
theorem cmSc_bag : .code ySc_bag cSc_bag 2 (some .int) ∈ wsAll := g240
def wsSc_bag : List Cond := .code ySc_bag cSc_bag 2 (some .int) :: wsAll
theorem cmSc_weight : .code ySc_weight cSc_weight 5 (some .boolean) ∈ wsAll := g246
def wsSc_weight : List Cond := .code ySc_weight cSc_weight 5 (some .boolean) :: wsAll
theorem cmSc_year : .code ySc_year cSc_year 3 (some .boolean) ∈ wsAll := g260
def wsSc_year : List Cond := .code ySc_year cSc_year 3 (some .boolean) :: wsAll
theorem cmSc_missing : .code ySc_missing cSc_missing 2 (some .boolean) ∈ wsAll := g266
def wsSc_missing : List Cond := .code ySc_missing cSc_missing 2 (some .boolean) :: wsAll
theorem cmSc_draw : .code ySc_draw cSc_draw 3 (some .int) ∈ wsAll := g272
def wsSc_draw : List Cond := .code ySc_draw cSc_draw 3 (some .int) :: wsAll
theorem cmSc_drawn : .code ySc_drawn cSc_drawn 3 (some .int) ∈ wsAll := g286
def wsSc_drawn : List Cond := .code ySc_drawn cSc_drawn 3 (some .int) :: wsAll
theorem cmSc_mean : .code ySc_mean cSc_mean 3 (some .long) ∈ wsAll := g292
def wsSc_mean : List Cond := .code ySc_mean cSc_mean 3 (some .long) :: wsAll
theorem cmSc_spread : .code ySc_spread cSc_spread 3 (some .long) ∈ wsAll := g331
def wsSc_spread : List Cond := .code ySc_spread cSc_spread 3 (some .long) :: wsAll
theorem cmSc_plan : .code ySc_plan cSc_plan 6 (some .long) ∈ wsAll := g345
def wsSc_plan : List Cond := .code ySc_plan cSc_plan 6 (some .long) :: wsAll
theorem cmSc_planned : .code ySc_planned cSc_planned 2 (some .int) ∈ wsAll := g370
def wsSc_planned : List Cond := .code ySc_planned cSc_planned 2 (some .int) :: wsAll
theorem cmSc_compared : .code ySc_compared cSc_compared 3 (some .long) ∈ wsAll := g376
def wsSc_compared : List Cond := .code ySc_compared cSc_compared 3 (some .long) :: wsAll
theorem cmSc_joined : .code ySc_joined cSc_joined 3 (some .boolean) ∈ wsAll := g401
def wsSc_joined : List Cond := .code ySc_joined cSc_joined 3 (some .boolean) :: wsAll
theorem cmSc_repeat : .code ySc_repeat cSc_repeat 5 (some .int) ∈ wsAll := g409
def wsSc_repeat : List Cond := .code ySc_repeat cSc_repeat 5 (some .int) :: wsAll
theorem cmSc_error : .code ySc_error cSc_error 3 (some .long) ∈ wsAll := g416
def wsSc_error : List Cond := .code ySc_error cSc_error 3 (some .long) :: wsAll
theorem cmSc_counting : .code ySc_counting cSc_counting 1 (some .int) ∈ wsAll := g424
def wsSc_counting : List Cond := .code ySc_counting cSc_counting 1 (some .int) :: wsAll
theorem cmSc_isKind : .code ySc_isKind cSc_isKind 1 (some .boolean) ∈ wsAll := g253
def wsSc_isKind : List Cond := .code ySc_isKind cSc_isKind 1 (some .boolean) :: wsAll
theorem cmSc_isPart : .code ySc_isPart cSc_isPart 1 (some .boolean) ∈ wsAll := g296
def wsSc_isPart : List Cond := .code ySc_isPart cSc_isPart 1 (some .boolean) :: wsAll
theorem cmSc_isGrams : .code ySc_isGrams cSc_isGrams 2 (some .boolean) ∈ wsAll := g255
def wsSc_isGrams : List Cond := .code ySc_isGrams cSc_isGrams 2 (some .boolean) :: wsAll
theorem cmSc_greatestShared : .code ySc_greatestShared cSc_greatestShared 11 (some .long) ∈ wsAll := g320
def wsSc_greatestShared : List Cond := .code ySc_greatestShared cSc_greatestShared 11 (some .long) :: wsAll
theorem cmSc_leastCommon : .code ySc_leastCommon cSc_leastCommon 6 (some .long) ∈ wsAll := g317
def wsSc_leastCommon : List Cond := .code ySc_leastCommon cSc_leastCommon 6 (some .long) :: wsAll
theorem cmSc_tell : .code ySc_tell cSc_tell 7 (some .long) ∈ wsAll := g327
def wsSc_tell : List Cond := .code ySc_tell cSc_tell 7 (some .long) :: wsAll
theorem cmLw_cell : .code yLw_cell cLw_cell 2 (some .int) ∈ wsAll := g427
def wsLw_cell : List Cond := .code yLw_cell cLw_cell 2 (some .int) :: wsAll
theorem cmMd_init : .code yMd_init cMd_init 3 none ∈ wsAll := g432
def wsMd_init : List Cond := .code yMd_init cMd_init 3 none :: wsAll
theorem cmMd_isIn : .code yMd_isIn cMd_isIn 6 (some .boolean) ∈ wsAll := g483
def wsMd_isIn : List Cond := .code yMd_isIn cMd_isIn 6 (some .boolean) :: wsAll
theorem cmMd_isHere : .code yMd_isHere cMd_isHere 2 (some .boolean) ∈ wsAll := g490
def wsMd_isHere : List Cond := .code yMd_isHere cMd_isHere 2 (some .boolean) :: wsAll
theorem cmMd_isBag : .code yMd_isBag cMd_isBag 2 (some .boolean) ∈ wsAll := g502
def wsMd_isBag : List Cond := .code yMd_isBag cMd_isBag 2 (some .boolean) :: wsAll
theorem cmMd_isKind : .code yMd_isKind cMd_isKind 1 (some .boolean) ∈ wsAll := g505
def wsMd_isKind : List Cond := .code yMd_isKind cMd_isKind 1 (some .boolean) :: wsAll
theorem cmMd_stratum : .code yMd_stratum cMd_stratum 2 (some .int) ∈ wsAll := g479
def wsMd_stratum : List Cond := .code yMd_stratum cMd_stratum 2 (some .int) :: wsAll
theorem cmMd_cost : .code yMd_cost cMd_cost 4 (some .boolean) ∈ wsAll := g487
def wsMd_cost : List Cond := .code yMd_cost cMd_cost 4 (some .boolean) :: wsAll
theorem cmMd_bag : .code yMd_bag cMd_bag 2 (some .int) ∈ wsAll := g495
def wsMd_bag : List Cond := .code yMd_bag cMd_bag 2 (some .int) :: wsAll
theorem cmMd_weight : .code yMd_weight cMd_weight 5 (some .boolean) ∈ wsAll := g499
def wsMd_weight : List Cond := .code yMd_weight cMd_weight 5 (some .boolean) :: wsAll
theorem cmMd_year : .code yMd_year cMd_year 3 (some .boolean) ∈ wsAll := g510
def wsMd_year : List Cond := .code yMd_year cMd_year 3 (some .boolean) :: wsAll
theorem cmMd_missing : .code yMd_missing cMd_missing 2 (some .boolean) ∈ wsAll := g514
def wsMd_missing : List Cond := .code yMd_missing cMd_missing 2 (some .boolean) :: wsAll
theorem cmMd_draw : .code yMd_draw cMd_draw 6 (some .int) ∈ wsAll := g518
def wsMd_draw : List Cond := .code yMd_draw cMd_draw 6 (some .int) :: wsAll
theorem cmMd_drawn : .code yMd_drawn cMd_drawn 3 (some .int) ∈ wsAll := g524
def wsMd_drawn : List Cond := .code yMd_drawn cMd_drawn 3 (some .int) :: wsAll
theorem cmMd_countOf : .code yMd_countOf cMd_countOf 4 (some .int) ∈ wsAll := g534
def wsMd_countOf : List Cond := .code yMd_countOf cMd_countOf 4 (some .int) :: wsAll
theorem cmMd_counts : .code yMd_counts cMd_counts 2 (some .boolean) ∈ wsAll := g531
def wsMd_counts : List Cond := .code yMd_counts cMd_counts 2 (some .boolean) :: wsAll
theorem cmMd_sumOf : .code yMd_sumOf cMd_sumOf 6 (some .long) ∈ wsAll := g549
def wsMd_sumOf : List Cond := .code yMd_sumOf cMd_sumOf 6 (some .long) :: wsAll
theorem cmMd_squaresOf : .code yMd_squaresOf cMd_squaresOf 8 (some .long) ∈ wsAll := g571
def wsMd_squaresOf : List Cond := .code yMd_squaresOf cMd_squaresOf 8 (some .long) :: wsAll
theorem cmMd_counting : .code yMd_counting cMd_counting 3 (some .int) ∈ wsAll := g528
def wsMd_counting : List Cond := .code yMd_counting cMd_counting 3 (some .int) :: wsAll
theorem cmMd_allSizes : .code yMd_allSizes cMd_allSizes 4 (some .long) ∈ wsAll := g552
def wsMd_allSizes : List Cond := .code yMd_allSizes cMd_allSizes 4 (some .long) :: wsAll
theorem cmMd_common : .code yMd_common cMd_common 10 (some .long) ∈ wsAll := g546
def wsMd_common : List Cond := .code yMd_common cMd_common 10 (some .long) :: wsAll
theorem cmMd_multiple : .code yMd_multiple cMd_multiple 4 (some .long) ∈ wsAll := g543
def wsMd_multiple : List Cond := .code yMd_multiple cMd_multiple 4 (some .long) :: wsAll
theorem cmMd_part : .code yMd_part cMd_part 4 (some .long) ∈ wsAll := g555
def wsMd_part : List Cond := .code yMd_part cMd_part 4 (some .long) :: wsAll
theorem cmMd_mean : .code yMd_mean cMd_mean 6 (some .long) ∈ wsAll := g538
def wsMd_mean : List Cond := .code yMd_mean cMd_mean 6 (some .long) :: wsAll
theorem cmMd_hasSpread : .code yMd_hasSpread cMd_hasSpread 4 (some .boolean) ∈ wsAll := g562
def wsMd_hasSpread : List Cond := .code yMd_hasSpread cMd_hasSpread 4 (some .boolean) :: wsAll
theorem cmMd_bagsOf : .code yMd_bagsOf cMd_bagsOf 3 (some .long) ∈ wsAll := g568
def wsMd_bagsOf : List Cond := .code yMd_bagsOf cMd_bagsOf 3 (some .long) :: wsAll
theorem cmMd_makeSpread : .code yMd_makeSpread cMd_makeSpread 10 none ∈ wsAll := g565
def wsMd_makeSpread : List Cond := .code yMd_makeSpread cMd_makeSpread 10 none :: wsAll
theorem cmMd_spread : .code yMd_spread cMd_spread 3 (some .long) ∈ wsAll := g559
def wsMd_spread : List Cond := .code yMd_spread cMd_spread 3 (some .long) :: wsAll
theorem cmMd_isAtMost : .code yMd_isAtMost cMd_isAtMost 27 (some .boolean) ∈ wsAll := g589
def wsMd_isAtMost : List Cond := .code yMd_isAtMost cMd_isAtMost 27 (some .boolean) :: wsAll
theorem cmMd_trialCost : .code yMd_trialCost cMd_trialCost 4 (some .long) ∈ wsAll := g586
def wsMd_trialCost : List Cond := .code yMd_trialCost cMd_trialCost 4 (some .long) :: wsAll
theorem cmMd_tryPlan : .code yMd_tryPlan cMd_tryPlan 4 none ∈ wsAll := g583
def wsMd_tryPlan : List Cond := .code yMd_tryPlan cMd_tryPlan 4 none :: wsAll
theorem cmMd_isOwn : .code yMd_isOwn cMd_isOwn 5 (some .boolean) ∈ wsAll := g580
def wsMd_isOwn : List Cond := .code yMd_isOwn cMd_isOwn 5 (some .boolean) :: wsAll
theorem cmMd_plan : .code yMd_plan cMd_plan 10 (some .long) ∈ wsAll := g575
def wsMd_plan : List Cond := .code yMd_plan cMd_plan 10 (some .long) :: wsAll
theorem cmMd_planned : .code yMd_planned cMd_planned 2 (some .int) ∈ wsAll := g593
def wsMd_planned : List Cond := .code yMd_planned cMd_planned 2 (some .int) :: wsAll
theorem cmMd_bagsOfYear : .code yMd_bagsOfYear cMd_bagsOfYear 4 (some .int) ∈ wsAll := g600
def wsMd_bagsOfYear : List Cond := .code yMd_bagsOfYear cMd_bagsOfYear 4 (some .int) :: wsAll
theorem cmMd_apart : .code yMd_apart cMd_apart 15 (some .long) ∈ wsAll := g603
def wsMd_apart : List Cond := .code yMd_apart cMd_apart 15 (some .long) :: wsAll
theorem cmMd_compared : .code yMd_compared cMd_compared 16 (some .long) ∈ wsAll := g597
def wsMd_compared : List Cond := .code yMd_compared cMd_compared 16 (some .long) :: wsAll
theorem cmMd_joined : .code yMd_joined cMd_joined 4 (some .boolean) ∈ wsAll := g607
def wsMd_joined : List Cond := .code yMd_joined cMd_joined 4 (some .boolean) :: wsAll
theorem cmMd_repeat : .code yMd_repeat cMd_repeat 5 (some .int) ∈ wsAll := g611
def wsMd_repeat : List Cond := .code yMd_repeat cMd_repeat 5 (some .int) :: wsAll
theorem cmMd_error : .code yMd_error cMd_error 6 (some .long) ∈ wsAll := g615
def wsMd_error : List Cond := .code yMd_error cMd_error 6 (some .long) :: wsAll
theorem cmJI_bitCount : .code yJI_bitCount cJI_bitCount 1 (some .int) ∈ wsAll := g384
def wsJI_bitCount : List Cond := .code yJI_bitCount cJI_bitCount 1 (some .int) :: wsAll
theorem cmJA_fill : .code yJA_fill cJA_fill 5 none ∈ wsAll := g311
def wsJA_fill : List Cond := .code yJA_fill cJA_fill 5 none :: wsAll
