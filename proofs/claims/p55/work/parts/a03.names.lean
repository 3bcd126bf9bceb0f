-- names, layouts: out of the printed names of this claim (a program picks the rows)
def RX0 : String := "BowFoundry$1"
def TX0 : u_T := fun k => match k with
  | _ => ("", "", "", false)
def tyX0 : Nat → FieldType := fun k => match k with
  | _ => .int
theorem nmX0 : ∀ a, a < 0 → ∀ b, b < 0 → a ≠ b → (TX0 a).2.1 ≠ (TX0 b).2.1 := by decide +kernel
theorem tyX0_ok : ∀ k, k < 0 → parseFieldDescriptor (TX0 k).2.2.1 = some (tyX0 k) := by decide +kernel
def RX1 : String := "BowFoundry$Batch"
def TX1 : u_T := fun k => match k with
  | 0 => ("BowFoundry$Batch", "number", "I", false)
  | 1 => ("BowFoundry$Batch", "first", "I", false)
  | 2 => ("BowFoundry$Batch", "size", "I", false)
  | 3 => ("BowFoundry$Batch", "alloy", "I", false)
  | 4 => ("BowFoundry$Batch", "failed", "Z", false)
  | _ => ("BowFoundry$Batch", "squeaks", "[I", true)
def tyX1 : Nat → FieldType := fun k => match k with
  | 0 => .int
  | 1 => .int
  | 2 => .int
  | 3 => .int
  | 4 => .boolean
  | _ => .array .int
theorem nmX1 : ∀ a, a < 6 → ∀ b, b < 6 → a ≠ b → (TX1 a).2.1 ≠ (TX1 b).2.1 := by decide +kernel
theorem tyX1_ok : ∀ k, k < 6 → parseFieldDescriptor (TX1 k).2.2.1 = some (tyX1 k) := by decide +kernel
abbrev cX1_init : ByteArray := prog_3_method_1_code
def yX1_init : MethodName := ⟨RX1, "<init>", "()V"⟩
abbrev cX1_copyFrom : ByteArray := prog_3_method_2_code
def yX1_copyFrom : MethodName := ⟨RX1, "copyFrom", "(LBowFoundry$Batch;)V"⟩
abbrev cX1_contains : ByteArray := prog_3_method_3_code
def yX1_contains : MethodName := ⟨RX1, "contains", "(I)Z"⟩
abbrev cX1_sampled : ByteArray := prog_3_method_5_code
def yX1_sampled : MethodName := ⟨RX1, "sampled", "(I)I"⟩
abbrev cX1_goodSampled : ByteArray := prog_3_method_6_code
def yX1_goodSampled : MethodName := ⟨RX1, "goodSampled", "(II)I"⟩
abbrev cX1_passes : ByteArray := prog_3_method_7_code
def yX1_passes : MethodName := ⟨RX1, "passes", "(II)Z"⟩
abbrev cX1_leastPassingSqueak : ByteArray := prog_3_method_8_code
def yX1_leastPassingSqueak : MethodName := ⟨RX1, "leastPassingSqueak", "(I)I"⟩
abbrev cX1_leastPassingTry : ByteArray := prog_3_method_9_code
def yX1_leastPassingTry : MethodName := ⟨RX1, "leastPassingTry", "(I)I"⟩
def RX2 : String := "BowFoundry$Command"
def TX2 : u_T := fun k => match k with
  | _ => ("", "", "", false)
def tyX2 : Nat → FieldType := fun k => match k with
  | _ => .int
theorem nmX2 : ∀ a, a < 0 → ∀ b, b < 0 → a ≠ b → (TX2 a).2.1 ≠ (TX2 b).2.1 := by decide +kernel
theorem tyX2_ok : ∀ k, k < 0 → parseFieldDescriptor (TX2 k).2.2.1 = some (tyX2 k) := by decide +kernel
def RX3 : String := "BowFoundry$Script"
def TX3 : u_T := fun k => match k with
  | 0 => ("BowFoundry$Script", "text", "Ljava/lang/StringBuilder;", true)
  | 1 => ("BowFoundry$Script", "numbers", "[I", true)
  | 2 => ("BowFoundry$Script", "count", "I", false)
  | 3 => ("BowFoundry$Script", "position", "I", false)
  | _ => ("BowFoundry$Script", "commands", "I", false)
def tyX3 : Nat → FieldType := fun k => match k with
  | 0 => .object "java/lang/StringBuilder"
  | 1 => .array .int
  | 2 => .int
  | 3 => .int
  | _ => .int
theorem nmX3 : ∀ a, a < 5 → ∀ b, b < 5 → a ≠ b → (TX3 a).2.1 ≠ (TX3 b).2.1 := by decide +kernel
theorem tyX3_ok : ∀ k, k < 5 → parseFieldDescriptor (TX3 k).2.2.1 = some (tyX3 k) := by decide +kernel
abbrev cX3_init : ByteArray := prog_5_method_1_code
def yX3_init : MethodName := ⟨RX3, "<init>", "()V"⟩
abbrev cX3_length : ByteArray := prog_5_method_2_code
def yX3_length : MethodName := ⟨RX3, "length", "()I"⟩
abbrev cX3_append : ByteArray := prog_5_method_3_code
def yX3_append : MethodName := ⟨RX3, "append", "(C)I"⟩
abbrev cX3_clear : ByteArray := prog_5_method_4_code
def yX3_clear : MethodName := ⟨RX3, "clear", "()V"⟩
abbrev cX3_firstError : ByteArray := prog_5_method_5_code
def yX3_firstError : MethodName := ⟨RX3, "firstError", "()I"⟩
abbrev cX3_firstFailure : ByteArray := prog_5_method_6_code
def yX3_firstFailure : MethodName := ⟨RX3, "firstFailure", "(LBowFoundry$State;)I"⟩
abbrev cX3_run : ByteArray := prog_5_method_7_code
def yX3_run : MethodName := ⟨RX3, "run", "(LBowFoundry$Command;LBowFoundry$State;)I"⟩
abbrev cX3_nextCommand : ByteArray := prog_5_method_8_code
def yX3_nextCommand : MethodName := ⟨RX3, "nextCommand", "()LBowFoundry$Command;"⟩
abbrev cX3_takesForm : ByteArray := prog_5_method_9_code
def yX3_takesForm : MethodName := ⟨RX3, "takesForm", "(Ljava/lang/String;)Z"⟩
abbrev cX3_takes : ByteArray := prog_5_method_10_code
def yX3_takes : MethodName := ⟨RX3, "takes", "(C)Z"⟩
abbrev cX3_takesNumber : ByteArray := prog_5_method_11_code
def yX3_takesNumber : MethodName := ⟨RX3, "takesNumber", "(Z)Z"⟩
abbrev cX3_digit : ByteArray := prog_5_method_12_code
def yX3_digit : MethodName := ⟨RX3, "digit", "()I"⟩
def RX4 : String := "BowFoundry$State"
def TX4 : u_T := fun k => match k with
  | 0 => ("BowFoundry$State", "alloys", "I", false)
  | 1 => ("BowFoundry$State", "recipes", "[[I", true)
  | 2 => ("BowFoundry$State", "moulds", "I", false)
  | 3 => ("BowFoundry$State", "lengths", "[I", true)
  | 4 => ("BowFoundry$State", "usesRow", "[I", true)
  | 5 => ("BowFoundry$State", "stocks", "[I", true)
  | 6 => ("BowFoundry$State", "bought", "[I", true)
  | 7 => ("BowFoundry$State", "sold", "[I", true)
  | 8 => ("BowFoundry$State", "lost", "[I", true)
  | 9 => ("BowFoundry$State", "tolerance", "I", false)
  | 10 => ("BowFoundry$State", "step", "I", false)
  | 11 => ("BowFoundry$State", "batches", "I", false)
  | 12 => ("BowFoundry$State", "batchRow", "[LBowFoundry$Batch;", true)
  | 13 => ("BowFoundry$State", "nextBatch", "I", false)
  | 14 => ("BowFoundry$State", "castBows", "I", false)
  | 15 => ("BowFoundry$State", "soldBows", "I", false)
  | _ => ("BowFoundry$State", "meltedBows", "I", false)
def tyX4 : Nat → FieldType := fun k => match k with
  | 0 => .int
  | 1 => .array (.array .int)
  | 2 => .int
  | 3 => .array .int
  | 4 => .array .int
  | 5 => .array .int
  | 6 => .array .int
  | 7 => .array .int
  | 8 => .array .int
  | 9 => .int
  | 10 => .int
  | 11 => .int
  | 12 => .array (.object "BowFoundry$Batch")
  | 13 => .int
  | 14 => .int
  | 15 => .int
  | _ => .int
theorem nmX4 : ∀ a, a < 17 → ∀ b, b < 17 → a ≠ b → (TX4 a).2.1 ≠ (TX4 b).2.1 := by decide +kernel
theorem tyX4_ok : ∀ k, k < 17 → parseFieldDescriptor (TX4 k).2.2.1 = some (tyX4 k) := by decide +kernel
abbrev cX4_init : ByteArray := prog_6_method_1_code
def yX4_init : MethodName := ⟨RX4, "<init>", "()V"⟩
abbrev cX4_copyFrom : ByteArray := prog_6_method_2_code
def yX4_copyFrom : MethodName := ⟨RX4, "copyFrom", "(LBowFoundry$State;)V"⟩
abbrev cX4_hasAlloy : ByteArray := prog_6_method_3_code
def yX4_hasAlloy : MethodName := ⟨RX4, "hasAlloy", "(I)Z"⟩
abbrev cX4_hasMould : ByteArray := prog_6_method_4_code
def yX4_hasMould : MethodName := ⟨RX4, "hasMould", "(I)Z"⟩
abbrev cX4_isMetal : ByteArray := prog_6_method_5_code
def yX4_isMetal : MethodName := ⟨RX4, "isMetal", "(I)Z"⟩
abbrev cX4_isPart : ByteArray := prog_6_method_6_code
def yX4_isPart : MethodName := ⟨RX4, "isPart", "(I)Z"⟩
abbrev cX4_mixAlloy : ByteArray := prog_6_method_7_code
def yX4_mixAlloy : MethodName := ⟨RX4, "mixAlloy", "(III)I"⟩
abbrev cX4_placeMould : ByteArray := prog_6_method_8_code
def yX4_placeMould : MethodName := ⟨RX4, "placeMould", "(I)I"⟩
abbrev cX4_takeIn : ByteArray := prog_6_method_9_code
def yX4_takeIn : MethodName := ⟨RX4, "takeIn", "(II)I"⟩
abbrev cX4_pour : ByteArray := prog_6_method_10_code
def yX4_pour : MethodName := ⟨RX4, "pour", "(III)I"⟩
abbrev cX4_fill : ByteArray := prog_6_method_11_code
def yX4_fill : MethodName := ⟨RX4, "fill", "(LBowFoundry$Batch;III)V"⟩
abbrev cX4_examine : ByteArray := prog_6_method_12_code
def yX4_examine : MethodName := ⟨RX4, "examine", "(I)I"⟩
abbrev cX4_meltDown : ByteArray := prog_6_method_13_code
def yX4_meltDown : MethodName := ⟨RX4, "meltDown", "(I)I"⟩
abbrev cX4_remove : ByteArray := prog_6_method_14_code
def yX4_remove : MethodName := ⟨RX4, "remove", "(I)V"⟩
abbrev cX4_resetUses : ByteArray := prog_6_method_15_code
def yX4_resetUses : MethodName := ⟨RX4, "resetUses", "(I)I"⟩
abbrev cX4_changeTolerance : ByteArray := prog_6_method_16_code
def yX4_changeTolerance : MethodName := ⟨RX4, "changeTolerance", "(I)I"⟩
abbrev cX4_changeStep : ByteArray := prog_6_method_17_code
def yX4_changeStep : MethodName := ⟨RX4, "changeStep", "(I)I"⟩
abbrev cX4_partsOf : ByteArray := prog_6_method_18_code
def yX4_partsOf : MethodName := ⟨RX4, "partsOf", "(II)I"⟩
abbrev cX4_lengthOf : ByteArray := prog_6_method_19_code
def yX4_lengthOf : MethodName := ⟨RX4, "lengthOf", "(I)I"⟩
abbrev cX4_usesOf : ByteArray := prog_6_method_20_code
def yX4_usesOf : MethodName := ⟨RX4, "usesOf", "(I)I"⟩
abbrev cX4_stockOf : ByteArray := prog_6_method_21_code
def yX4_stockOf : MethodName := ⟨RX4, "stockOf", "(I)I"⟩
abbrev cX4_lostOf : ByteArray := prog_6_method_22_code
def yX4_lostOf : MethodName := ⟨RX4, "lostOf", "(I)I"⟩
abbrev cX4_placeWith : ByteArray := prog_6_method_23_code
def yX4_placeWith : MethodName := ⟨RX4, "placeWith", "(I)I"⟩
abbrev cX4_placeWithBow : ByteArray := prog_6_method_24_code
def yX4_placeWithBow : MethodName := ⟨RX4, "placeWithBow", "(I)I"⟩
abbrev cX4_batchWith : ByteArray := prog_6_method_25_code
def yX4_batchWith : MethodName := ⟨RX4, "batchWith", "(I)I"⟩
abbrev cX4_squeakOf : ByteArray := prog_6_method_26_code
def yX4_squeakOf : MethodName := ⟨RX4, "squeakOf", "(I)I"⟩
abbrev cX4_squeakToCome : ByteArray := prog_6_method_27_code
def yX4_squeakToCome : MethodName := ⟨RX4, "squeakToCome", "(II)I"⟩
abbrev cX4_bowsInStore : ByteArray := prog_6_method_28_code
def yX4_bowsInStore : MethodName := ⟨RX4, "bowsInStore", "(I)I"⟩
abbrev cX4_metalByBows : ByteArray := prog_6_method_29_code
def yX4_metalByBows : MethodName := ⟨RX4, "metalByBows", "(I)I"⟩
abbrev cX4_metalByBooks : ByteArray := prog_6_method_30_code
def yX4_metalByBooks : MethodName := ⟨RX4, "metalByBooks", "(I)I"⟩
abbrev cX4_bowsInBatches : ByteArray := prog_6_method_33_code
def yX4_bowsInBatches : MethodName := ⟨RX4, "bowsInBatches", "()I"⟩
abbrev cX4_tolerancesAgree : ByteArray := prog_6_method_35_code
def yX4_tolerancesAgree : MethodName := ⟨RX4, "tolerancesAgree", "()Z"⟩
abbrev cX4_metalsAgree : ByteArray := prog_6_method_36_code
def yX4_metalsAgree : MethodName := ⟨RX4, "metalsAgree", "()Z"⟩
abbrev cX4_bowsAgree : ByteArray := prog_6_method_37_code
def yX4_bowsAgree : MethodName := ⟨RX4, "bowsAgree", "()Z"⟩
def RX5 : String := "BowFoundry"
def TX5 : u_T := fun k => match k with
  | 0 => ("BowFoundry", "states", "[LBowFoundry$State;", true)
  | 1 => ("BowFoundry", "snapshot", "LBowFoundry$State;", true)
  | 2 => ("BowFoundry", "script", "LBowFoundry$Script;", true)
  | 3 => ("BowFoundry", "output", "Ljava/lang/StringBuilder;", true)
  | 4 => ("BowFoundry", "present", "I", false)
  | 5 => ("BowFoundry", "undos", "I", false)
  | 6 => ("BowFoundry", "hasSnapshot", "Z", false)
  | 7 => ("BowFoundry", "latestErrorPosition", "I", false)
  | _ => ("BowFoundry", "latestFailedCommand", "I", false)
def tyX5 : Nat → FieldType := fun k => match k with
  | 0 => .array (.object "BowFoundry$State")
  | 1 => .object "BowFoundry$State"
  | 2 => .object "BowFoundry$Script"
  | 3 => .object "java/lang/StringBuilder"
  | 4 => .int
  | 5 => .int
  | 6 => .boolean
  | 7 => .int
  | _ => .int
theorem nmX5 : ∀ a, a < 9 → ∀ b, b < 9 → a ≠ b → (TX5 a).2.1 ≠ (TX5 b).2.1 := by decide +kernel
theorem tyX5_ok : ∀ k, k < 9 → parseFieldDescriptor (TX5 k).2.2.1 = some (tyX5 k) := by decide +kernel
abbrev cX5_init : ByteArray := prog_1_method_1_code
def yX5_init : MethodName := ⟨RX5, "<init>", "()V"⟩
abbrev cX5_addAlloy : ByteArray := prog_1_method_2_code
def yX5_addAlloy : MethodName := ⟨RX5, "addAlloy", "(III)I"⟩
abbrev cX5_addMould : ByteArray := prog_1_method_3_code
def yX5_addMould : MethodName := ⟨RX5, "addMould", "(I)I"⟩
abbrev cX5_buy : ByteArray := prog_1_method_4_code
def yX5_buy : MethodName := ⟨RX5, "buy", "(II)I"⟩
abbrev cX5_cast : ByteArray := prog_1_method_5_code
def yX5_cast : MethodName := ⟨RX5, "cast", "(III)I"⟩
abbrev cX5_inspect : ByteArray := prog_1_method_6_code
def yX5_inspect : MethodName := ⟨RX5, "inspect", "(I)Z"⟩
abbrev cX5_melt : ByteArray := prog_1_method_7_code
def yX5_melt : MethodName := ⟨RX5, "melt", "(I)I"⟩
abbrev cX5_renewMould : ByteArray := prog_1_method_8_code
def yX5_renewMould : MethodName := ⟨RX5, "renewMould", "(I)I"⟩
abbrev cX5_setTolerance : ByteArray := prog_1_method_9_code
def yX5_setTolerance : MethodName := ⟨RX5, "setTolerance", "(I)I"⟩
abbrev cX5_setStep : ByteArray := prog_1_method_10_code
def yX5_setStep : MethodName := ⟨RX5, "setStep", "(I)I"⟩
abbrev cX5_alloyCount : ByteArray := prog_1_method_11_code
def yX5_alloyCount : MethodName := ⟨RX5, "alloyCount", "()I"⟩
abbrev cX5_parts : ByteArray := prog_1_method_12_code
def yX5_parts : MethodName := ⟨RX5, "parts", "(II)I"⟩
abbrev cX5_mouldCount : ByteArray := prog_1_method_13_code
def yX5_mouldCount : MethodName := ⟨RX5, "mouldCount", "()I"⟩
abbrev cX5_mouldLength : ByteArray := prog_1_method_14_code
def yX5_mouldLength : MethodName := ⟨RX5, "mouldLength", "(I)I"⟩
abbrev cX5_uses : ByteArray := prog_1_method_15_code
def yX5_uses : MethodName := ⟨RX5, "uses", "(I)I"⟩
abbrev cX5_stock : ByteArray := prog_1_method_16_code
def yX5_stock : MethodName := ⟨RX5, "stock", "(I)I"⟩
abbrev cX5_tolerance : ByteArray := prog_1_method_17_code
def yX5_tolerance : MethodName := ⟨RX5, "tolerance", "()I"⟩
abbrev cX5_step : ByteArray := prog_1_method_18_code
def yX5_step : MethodName := ⟨RX5, "step", "()I"⟩
abbrev cX5_batchCount : ByteArray := prog_1_method_19_code
def yX5_batchCount : MethodName := ⟨RX5, "batchCount", "()I"⟩
abbrev cX5_batchAt : ByteArray := prog_1_method_20_code
def yX5_batchAt : MethodName := ⟨RX5, "batchAt", "(I)I"⟩
abbrev cX5_isFailed : ByteArray := prog_1_method_21_code
def yX5_isFailed : MethodName := ⟨RX5, "isFailed", "(I)Z"⟩
abbrev cX5_batchSize : ByteArray := prog_1_method_22_code
def yX5_batchSize : MethodName := ⟨RX5, "batchSize", "(I)I"⟩
abbrev cX5_firstBow : ByteArray := prog_1_method_23_code
def yX5_firstBow : MethodName := ⟨RX5, "firstBow", "(I)I"⟩
abbrev cX5_squeak : ByteArray := prog_1_method_24_code
def yX5_squeak : MethodName := ⟨RX5, "squeak", "(I)I"⟩
abbrev cX5_batchOf : ByteArray := prog_1_method_26_code
def yX5_batchOf : MethodName := ⟨RX5, "batchOf", "(I)I"⟩
abbrev cX5_goodBows : ByteArray := prog_1_method_27_code
def yX5_goodBows : MethodName := ⟨RX5, "goodBows", "(I)I"⟩
abbrev cX5_sampleSize : ByteArray := prog_1_method_28_code
def yX5_sampleSize : MethodName := ⟨RX5, "sampleSize", "(I)I"⟩
abbrev cX5_wouldPass : ByteArray := prog_1_method_29_code
def yX5_wouldPass : MethodName := ⟨RX5, "wouldPass", "(I)Z"⟩
abbrev cX5_neededTolerance : ByteArray := prog_1_method_30_code
def yX5_neededTolerance : MethodName := ⟨RX5, "neededTolerance", "(I)I"⟩
abbrev cX5_neededToleranceByTrying : ByteArray := prog_1_method_31_code
def yX5_neededToleranceByTrying : MethodName := ⟨RX5, "neededToleranceByTrying", "(I)I"⟩
abbrev cX5_nextSqueak : ByteArray := prog_1_method_32_code
def yX5_nextSqueak : MethodName := ⟨RX5, "nextSqueak", "(II)I"⟩
abbrev cX5_possibleBows : ByteArray := prog_1_method_33_code
def yX5_possibleBows : MethodName := ⟨RX5, "possibleBows", "(I)I"⟩
abbrev cX5_metalInBatches : ByteArray := prog_1_method_34_code
def yX5_metalInBatches : MethodName := ⟨RX5, "metalInBatches", "(I)I"⟩
abbrev cX5_metalByAccounts : ByteArray := prog_1_method_35_code
def yX5_metalByAccounts : MethodName := ⟨RX5, "metalByAccounts", "(I)I"⟩
abbrev cX5_castTotal : ByteArray := prog_1_method_37_code
def yX5_castTotal : MethodName := ⟨RX5, "castTotal", "()I"⟩
abbrev cX5_soldTotal : ByteArray := prog_1_method_38_code
def yX5_soldTotal : MethodName := ⟨RX5, "soldTotal", "()I"⟩
abbrev cX5_meltedTotal : ByteArray := prog_1_method_39_code
def yX5_meltedTotal : MethodName := ⟨RX5, "meltedTotal", "()I"⟩
abbrev cX5_lostGrams : ByteArray := prog_1_method_40_code
def yX5_lostGrams : MethodName := ⟨RX5, "lostGrams", "(I)I"⟩
abbrev cX5_soldShare : ByteArray := prog_1_method_42_code
def yX5_soldShare : MethodName := ⟨RX5, "soldShare", "()F"⟩
abbrev cX5_isConsistent : ByteArray := prog_1_method_43_code
def yX5_isConsistent : MethodName := ⟨RX5, "isConsistent", "()Z"⟩
abbrev cX5_type : ByteArray := prog_1_method_47_code
def yX5_type : MethodName := ⟨RX5, "type", "(C)I"⟩
abbrev cX5_runScript : ByteArray := prog_1_method_48_code
def yX5_runScript : MethodName := ⟨RX5, "runScript", "()I"⟩
abbrev cX5_errorPosition : ByteArray := prog_1_method_49_code
def yX5_errorPosition : MethodName := ⟨RX5, "errorPosition", "()I"⟩
abbrev cX5_failedCommand : ByteArray := prog_1_method_50_code
def yX5_failedCommand : MethodName := ⟨RX5, "failedCommand", "()I"⟩
abbrev cX5_undo : ByteArray := prog_1_method_51_code
def yX5_undo : MethodName := ⟨RX5, "undo", "()I"⟩
abbrev cX5_save : ByteArray := prog_1_method_52_code
def yX5_save : MethodName := ⟨RX5, "save", "()I"⟩
abbrev cX5_restore : ByteArray := prog_1_method_53_code
def yX5_restore : MethodName := ⟨RX5, "restore", "()I"⟩
abbrev cX5_now : ByteArray := prog_1_method_54_code
def yX5_now : MethodName := ⟨RX5, "now", "()LBowFoundry$State;"⟩
abbrev cX5_following : ByteArray := prog_1_method_55_code
def yX5_following : MethodName := ⟨RX5, "following", "()I"⟩
abbrev cX5_draft : ByteArray := prog_1_method_56_code
def yX5_draft : MethodName := ⟨RX5, "draft", "()LBowFoundry$State;"⟩
abbrev cX5_kept : ByteArray := prog_1_method_57_code
def yX5_kept : MethodName := ⟨RX5, "kept", "(I)I"⟩
abbrev cX5_placeOf : ByteArray := prog_1_method_58_code
def yX5_placeOf : MethodName := ⟨RX5, "placeOf", "(I)I"⟩
abbrev cX5_answered : ByteArray := prog_1_method_59_code
def yX5_answered : MethodName := ⟨RX5, "answered", "(I)I"⟩
abbrev cX5_copyRow : ByteArray := prog_1_method_60_code
def yX5_copyRow : MethodName := ⟨RX5, "copyRow", "([I[I)V"⟩
def RX6 : String := "BowFoundryModel"
def TX6 : u_T := fun k => match k with
  | _ => ("", "", "", false)
def tyX6 : Nat → FieldType := fun k => match k with
  | _ => .int
theorem nmX6 : ∀ a, a < 0 → ∀ b, b < 0 → a ≠ b → (TX6 a).2.1 ≠ (TX6 b).2.1 := by decide +kernel
theorem tyX6_ok : ∀ k, k < 0 → parseFieldDescriptor (TX6 k).2.2.1 = some (tyX6 k) := by decide +kernel
def RJx145de : String := "java/io/Serializable"
def TJx145de : u_T := fun k => match k with
  | _ => ("", "", "", false)
def tyJx145de : Nat → FieldType := fun k => match k with
  | _ => .int
theorem nmJx145de : ∀ a, a < 0 → ∀ b, b < 0 → a ≠ b → (TJx145de a).2.1 ≠ (TJx145de b).2.1 := by decide +kernel
theorem tyJx145de_ok : ∀ k, k < 0 → parseFieldDescriptor (TJx145de k).2.2.1 = some (tyJx145de k) := by decide +kernel
def RJ5 : String := "java/lang/AbstractStringBuilder"
def TJ5 : u_T := fun k => match k with
  | _ => ("", "", "", false)
def tyJ5 : Nat → FieldType := fun k => match k with
  | _ => .int
theorem nmJ5 : ∀ a, a < 0 → ∀ b, b < 0 → a ≠ b → (TJ5 a).2.1 ≠ (TJ5 b).2.1 := by decide +kernel
theorem tyJ5_ok : ∀ k, k < 0 → parseFieldDescriptor (TJ5 k).2.2.1 = some (tyJ5 k) := by decide +kernel
abbrev cJ5_init_d00df : ByteArray := prog_10_method_2_code
def yJ5_init_d00df : MethodName := ⟨RJ5, "<init>", "(I)V"⟩
abbrev cJ5_length_8abf5 : ByteArray := prog_10_method_6_code
def yJ5_length_8abf5 : MethodName := ⟨RJ5, "length", "()I"⟩
abbrev cJ5_ensureCapacityInternal_d00df : ByteArray := prog_10_method_9_code
def yJ5_ensureCapacityInternal_d00df : MethodName := ⟨RJ5, "ensureCapacityInternal", "(I)V"⟩
abbrev cJ5_newCapacity_0f7a4 : ByteArray := prog_10_method_10_code
def yJ5_newCapacity_0f7a4 : MethodName := ⟨RJ5, "newCapacity", "(I)I"⟩
abbrev cJ5_inflate_da8c8 : ByteArray := prog_10_method_11_code
def yJ5_inflate_da8c8 : MethodName := ⟨RJ5, "inflate", "()V"⟩
abbrev cJ5_setLength_d00df : ByteArray := prog_10_method_13_code
def yJ5_setLength_d00df : MethodName := ⟨RJ5, "setLength", "(I)V"⟩
abbrev cJ5_charAt_5068e : ByteArray := prog_10_method_14_code
def yJ5_charAt_5068e : MethodName := ⟨RJ5, "charAt", "(I)C"⟩
abbrev cJ5_append_cf1ce : ByteArray := prog_10_method_22_code
def yJ5_append_cf1ce : MethodName := ⟨RJ5, "append", "(Ljava/lang/String;)Ljava/lang/AbstractStringBuilder;"⟩
abbrev cJ5_appendNull_278bc : ByteArray := prog_10_method_26_code
def yJ5_appendNull_278bc : MethodName := ⟨RJ5, "appendNull", "()Ljava/lang/AbstractStringBuilder;"⟩
abbrev cJ5_append_3fe6f : ByteArray := prog_10_method_31_code
def yJ5_append_3fe6f : MethodName := ⟨RJ5, "append", "(C)Ljava/lang/AbstractStringBuilder;"⟩
abbrev cJ5_append_c97b9 : ByteArray := prog_10_method_32_code
def yJ5_append_c97b9 : MethodName := ⟨RJ5, "append", "(I)Ljava/lang/AbstractStringBuilder;"⟩
abbrev cJ5_getValue_6d5f1 : ByteArray := prog_10_method_64_code
def yJ5_getValue_6d5f1 : MethodName := ⟨RJ5, "getValue", "()[B"⟩
abbrev cJ5_isLatin1_aae02 : ByteArray := prog_10_method_68_code
def yJ5_isLatin1_aae02 : MethodName := ⟨RJ5, "isLatin1", "()Z"⟩
abbrev cJ5_inflateIfNeededFor_a7421 : ByteArray := prog_10_method_71_code
def yJ5_inflateIfNeededFor_a7421 : MethodName := ⟨RJ5, "inflateIfNeededFor", "(Ljava/lang/String;)V"⟩
abbrev cJ5_putStringAt_47b60 : ByteArray := prog_10_method_73_code
def yJ5_putStringAt_47b60 : MethodName := ⟨RJ5, "putStringAt", "(ILjava/lang/String;)V"⟩
def RJx2cfe8 : String := "java/lang/Appendable"
def TJx2cfe8 : u_T := fun k => match k with
  | _ => ("", "", "", false)
def tyJx2cfe8 : Nat → FieldType := fun k => match k with
  | _ => .int
theorem nmJx2cfe8 : ∀ a, a < 0 → ∀ b, b < 0 → a ≠ b → (TJx2cfe8 a).2.1 ≠ (TJx2cfe8 b).2.1 := by decide +kernel
theorem tyJx2cfe8_ok : ∀ k, k < 0 → parseFieldDescriptor (TJx2cfe8 k).2.2.1 = some (tyJx2cfe8 k) := by decide +kernel
def RJx00060 : String := "java/lang/ArrayIndexOutOfBoundsException"
def TJx00060 : u_T := fun k => match k with
  | 0 => ("java/lang/Throwable", "cause", "Ljava/lang/Throwable;", false)
  | 1 => ("java/lang/Throwable", "stackTrace", "[Ljava/lang/StackTraceElement;", false)
  | 2 => ("java/lang/Throwable", "suppressedExceptions", "Ljava/util/List;", false)
  | 3 => ("java/lang/Throwable", "detailMessage", "Ljava/lang/String;", false)
  | 4 => ("java/lang/Throwable", "backtrace", "Ljava/lang/Object;", false)
  | _ => ("java/lang/Throwable", "depth", "I", false)
def tyJx00060 : Nat → FieldType := fun k => match k with
  | 0 => .object "java/lang/Throwable"
  | 1 => .array (.object "java/lang/StackTraceElement")
  | 2 => .object "java/util/List"
  | 3 => .object "java/lang/String"
  | 4 => .object "java/lang/Object"
  | _ => .int
theorem nmJx00060 : ∀ a, a < 6 → ∀ b, b < 6 → a ≠ b → (TJx00060 a).2.1 ≠ (TJx00060 b).2.1 := by decide +kernel
theorem tyJx00060_ok : ∀ k, k < 6 → parseFieldDescriptor (TJx00060 k).2.2.1 = some (tyJx00060 k) := by decide +kernel
abbrev cJx00060_init_a7421 : ByteArray := prog_13_method_2_code
def yJx00060_init_a7421 : MethodName := ⟨RJx00060, "<init>", "(Ljava/lang/String;)V"⟩
abbrev cJx00060_init_d00df : ByteArray := prog_13_method_3_code
def yJx00060_init_d00df : MethodName := ⟨RJx00060, "<init>", "(I)V"⟩
def RJx9f9b0 : String := "java/lang/CharSequence"
def TJx9f9b0 : u_T := fun k => match k with
  | _ => ("", "", "", false)
def tyJx9f9b0 : Nat → FieldType := fun k => match k with
  | _ => .int
theorem nmJx9f9b0 : ∀ a, a < 0 → ∀ b, b < 0 → a ≠ b → (TJx9f9b0 a).2.1 ≠ (TJx9f9b0 b).2.1 := by decide +kernel
theorem tyJx9f9b0_ok : ∀ k, k < 0 → parseFieldDescriptor (TJx9f9b0 k).2.2.1 = some (tyJx9f9b0 k) := by decide +kernel
def RJx8e188 : String := "java/lang/Cloneable"
def TJx8e188 : u_T := fun k => match k with
  | _ => ("", "", "", false)
def tyJx8e188 : Nat → FieldType := fun k => match k with
  | _ => .int
theorem nmJx8e188 : ∀ a, a < 0 → ∀ b, b < 0 → a ≠ b → (TJx8e188 a).2.1 ≠ (TJx8e188 b).2.1 := by decide +kernel
theorem tyJx8e188_ok : ∀ k, k < 0 → parseFieldDescriptor (TJx8e188 k).2.2.1 = some (tyJx8e188 k) := by decide +kernel
def RJxb160c : String := "java/lang/Comparable"
def TJxb160c : u_T := fun k => match k with
  | _ => ("", "", "", false)
def tyJxb160c : Nat → FieldType := fun k => match k with
  | _ => .int
theorem nmJxb160c : ∀ a, a < 0 → ∀ b, b < 0 → a ≠ b → (TJxb160c a).2.1 ≠ (TJxb160c b).2.1 := by decide +kernel
theorem tyJxb160c_ok : ∀ k, k < 0 → parseFieldDescriptor (TJxb160c k).2.2.1 = some (tyJxb160c k) := by decide +kernel
def RJx29ce0 : String := "java/lang/Enum"
def TJx29ce0 : u_T := fun k => match k with
  | _ => ("", "", "", false)
def tyJx29ce0 : Nat → FieldType := fun k => match k with
  | _ => .int
theorem nmJx29ce0 : ∀ a, a < 0 → ∀ b, b < 0 → a ≠ b → (TJx29ce0 a).2.1 ≠ (TJx29ce0 b).2.1 := by decide +kernel
theorem tyJx29ce0_ok : ∀ k, k < 0 → parseFieldDescriptor (TJx29ce0 k).2.2.1 = some (tyJx29ce0 k) := by decide +kernel
abbrev cJx29ce0_ordinal_8abf5 : ByteArray := prog_17_method_2_code
def yJx29ce0_ordinal_8abf5 : MethodName := ⟨RJx29ce0, "ordinal", "()I"⟩
def RJ6 : String := "java/lang/Integer"
def TJ6 : u_T := fun k => match k with
  | _ => ("", "", "", false)
def tyJ6 : Nat → FieldType := fun k => match k with
  | _ => .int
theorem nmJ6 : ∀ a, a < 0 → ∀ b, b < 0 → a ≠ b → (TJ6 a).2.1 ≠ (TJ6 b).2.1 := by decide +kernel
theorem tyJ6_ok : ∀ k, k < 0 → parseFieldDescriptor (TJ6 k).2.2.1 = some (tyJ6 k) := by decide +kernel
abbrev cJ6_getChars_ba4f3 : ByteArray := prog_22_method_12_code
def yJ6_getChars_ba4f3 : MethodName := ⟨RJ6, "getChars", "(II[B)I"⟩
abbrev cJ6_stringSize_0f7a4 : ByteArray := prog_22_method_13_code
def yJ6_stringSize_0f7a4 : MethodName := ⟨RJ6, "stringSize", "(I)I"⟩
def RJ9 : String := "java/lang/Math"
def TJ9 : u_T := fun k => match k with
  | _ => ("", "", "", false)
def tyJ9 : Nat → FieldType := fun k => match k with
  | _ => .int
theorem nmJ9 : ∀ a, a < 0 → ∀ b, b < 0 → a ≠ b → (TJ9 a).2.1 ≠ (TJ9 b).2.1 := by decide +kernel
theorem tyJ9_ok : ∀ k, k < 0 → parseFieldDescriptor (TJ9 k).2.2.1 = some (tyJ9 k) := by decide +kernel
abbrev cJ9_max_7cf53 : ByteArray := prog_23_method_65_code
def yJ9_max_7cf53 : MethodName := ⟨RJ9, "max", "(II)I"⟩
abbrev cJ9_min_7cf53 : ByteArray := prog_23_method_69_code
def yJ9_min_7cf53 : MethodName := ⟨RJ9, "min", "(II)I"⟩
def RJxd2413 : String := "java/lang/Number"
def TJxd2413 : u_T := fun k => match k with
  | _ => ("", "", "", false)
def tyJxd2413 : Nat → FieldType := fun k => match k with
  | _ => .int
theorem nmJxd2413 : ∀ a, a < 0 → ∀ b, b < 0 → a ≠ b → (TJxd2413 a).2.1 ≠ (TJxd2413 b).2.1 := by decide +kernel
theorem tyJxd2413_ok : ∀ k, k < 0 → parseFieldDescriptor (TJxd2413 k).2.2.1 = some (tyJxd2413 k) := by decide +kernel
def RJ0 : String := "java/lang/String"
def TJ0 : u_T := fun k => match k with
  | 0 => ("java/lang/String", "value", "[B", true)
  | 1 => ("java/lang/String", "coder", "B", true)
  | 2 => ("java/lang/String", "hash", "I", false)
  | _ => ("java/lang/String", "hashIsZero", "Z", false)
def tyJ0 : Nat → FieldType := fun k => match k with
  | 0 => .array .byte
  | 1 => .byte
  | 2 => .int
  | _ => .boolean
theorem nmJ0 : ∀ a, a < 4 → ∀ b, b < 4 → a ≠ b → (TJ0 a).2.1 ≠ (TJ0 b).2.1 := by decide +kernel
theorem tyJ0_ok : ∀ k, k < 4 → parseFieldDescriptor (TJ0 k).2.2.1 = some (tyJ0 k) := by decide +kernel
abbrev cJ0_init_81219 : ByteArray := prog_26_method_53_code
def yJ0_init_81219 : MethodName := ⟨RJ0, "<init>", "(Ljava/lang/StringBuilder;)V"⟩
abbrev cJ0_length_8abf5 : ByteArray := prog_26_method_54_code
def yJ0_length_8abf5 : MethodName := ⟨RJ0, "length", "()I"⟩
abbrev cJ0_charAt_5068e : ByteArray := prog_26_method_56_code
def yJ0_charAt_5068e : MethodName := ⟨RJ0, "charAt", "(I)C"⟩
abbrev cJ0_getBytes_840e7 : ByteArray := prog_26_method_147_code
def yJ0_getBytes_840e7 : MethodName := ⟨RJ0, "getBytes", "([BIB)V"⟩
abbrev cJ0_init_db425 : ByteArray := prog_26_method_150_code
def yJ0_init_db425 : MethodName := ⟨RJ0, "<init>", "(Ljava/lang/AbstractStringBuilder;Ljava/lang/Void;)V"⟩
abbrev cJ0_coder_7d493 : ByteArray := prog_26_method_152_code
def yJ0_coder_7d493 : MethodName := ⟨RJ0, "coder", "()B"⟩
abbrev cJ0_isLatin1_aae02 : ByteArray := prog_26_method_154_code
def yJ0_isLatin1_aae02 : MethodName := ⟨RJ0, "isLatin1", "()Z"⟩
abbrev cJ0_checkIndex_df160 : ByteArray := prog_26_method_155_code
def yJ0_checkIndex_df160 : MethodName := ⟨RJ0, "checkIndex", "(II)V"⟩
abbrev cJ0_checkBoundsOffCount_cabcc : ByteArray := prog_26_method_157_code
def yJ0_checkBoundsOffCount_cabcc : MethodName := ⟨RJ0, "checkBoundsOffCount", "(III)I"⟩
abbrev cJ0_checkBoundsBeginEnd_23922 : ByteArray := prog_26_method_158_code
def yJ0_checkBoundsBeginEnd_23922 : MethodName := ⟨RJ0, "checkBoundsBeginEnd", "(III)V"⟩
def RJ4 : String := "java/lang/StringBuilder"
def TJ4 : u_T := fun k => match k with
  | 0 => ("java/lang/AbstractStringBuilder", "value", "[B", false)
  | 1 => ("java/lang/AbstractStringBuilder", "coder", "B", false)
  | 2 => ("java/lang/AbstractStringBuilder", "maybeLatin1", "Z", false)
  | _ => ("java/lang/AbstractStringBuilder", "count", "I", false)
def tyJ4 : Nat → FieldType := fun k => match k with
  | 0 => .array .byte
  | 1 => .byte
  | 2 => .boolean
  | _ => .int
theorem nmJ4 : ∀ a, a < 4 → ∀ b, b < 4 → a ≠ b → (TJ4 a).2.1 ≠ (TJ4 b).2.1 := by decide +kernel
theorem tyJ4_ok : ∀ k, k < 4 → parseFieldDescriptor (TJ4 k).2.2.1 = some (tyJ4 k) := by decide +kernel
abbrev cJ4_init_da8c8 : ByteArray := prog_27_method_1_code
def yJ4_init_da8c8 : MethodName := ⟨RJ4, "<init>", "()V"⟩
abbrev cJ4_append_15ec4 : ByteArray := prog_27_method_7_code
def yJ4_append_15ec4 : MethodName := ⟨RJ4, "append", "(Ljava/lang/String;)Ljava/lang/StringBuilder;"⟩
abbrev cJ4_append_cf468 : ByteArray := prog_27_method_14_code
def yJ4_append_cf468 : MethodName := ⟨RJ4, "append", "(C)Ljava/lang/StringBuilder;"⟩
abbrev cJ4_append_bf812 : ByteArray := prog_27_method_15_code
def yJ4_append_bf812 : MethodName := ⟨RJ4, "append", "(I)Ljava/lang/StringBuilder;"⟩
abbrev cJ4_toString_0e30d : ByteArray := prog_27_method_42_code
def yJ4_toString_0e30d : MethodName := ⟨RJ4, "toString", "()Ljava/lang/String;"⟩
abbrev cJ4_charAt_5068e : ByteArray := prog_27_method_88_code
def yJ4_charAt_5068e : MethodName := ⟨RJ4, "charAt", "(I)C"⟩
abbrev cJ4_setLength_d00df : ByteArray := prog_27_method_89_code
def yJ4_setLength_d00df : MethodName := ⟨RJ4, "setLength", "(I)V"⟩
abbrev cJ4_length_8abf5 : ByteArray := prog_27_method_93_code
def yJ4_length_8abf5 : MethodName := ⟨RJ4, "length", "()I"⟩
def RJx7c733 : String := "java/lang/StringIndexOutOfBoundsException"
def TJx7c733 : u_T := fun k => match k with
  | 0 => ("java/lang/Throwable", "backtrace", "Ljava/lang/Object;", false)
  | 1 => ("java/lang/Throwable", "detailMessage", "Ljava/lang/String;", false)
  | 2 => ("java/lang/Throwable", "cause", "Ljava/lang/Throwable;", false)
  | 3 => ("java/lang/Throwable", "stackTrace", "[Ljava/lang/StackTraceElement;", false)
  | 4 => ("java/lang/Throwable", "depth", "I", false)
  | _ => ("java/lang/Throwable", "suppressedExceptions", "Ljava/util/List;", false)
def tyJx7c733 : Nat → FieldType := fun k => match k with
  | 0 => .object "java/lang/Object"
  | 1 => .object "java/lang/String"
  | 2 => .object "java/lang/Throwable"
  | 3 => .array (.object "java/lang/StackTraceElement")
  | 4 => .int
  | _ => .object "java/util/List"
theorem nmJx7c733 : ∀ a, a < 6 → ∀ b, b < 6 → a ≠ b → (TJx7c733 a).2.1 ≠ (TJx7c733 b).2.1 := by decide +kernel
theorem tyJx7c733_ok : ∀ k, k < 6 → parseFieldDescriptor (TJx7c733 k).2.2.1 = some (tyJx7c733 k) := by decide +kernel
abbrev cJx7c733_init_d00df : ByteArray := prog_28_method_3_code
def yJx7c733_init_d00df : MethodName := ⟨RJx7c733, "<init>", "(I)V"⟩
def RJ1 : String := "java/lang/StringLatin1"
def TJ1 : u_T := fun k => match k with
  | _ => ("", "", "", false)
def tyJ1 : Nat → FieldType := fun k => match k with
  | _ => .int
theorem nmJ1 : ∀ a, a < 0 → ∀ b, b < 0 → a ≠ b → (TJ1 a).2.1 ≠ (TJ1 b).2.1 := by decide +kernel
theorem tyJ1_ok : ∀ k, k < 0 → parseFieldDescriptor (TJ1 k).2.2.1 = some (tyJ1 k) := by decide +kernel
abbrev cJ1_charAt_3b067 : ByteArray := prog_29_method_2_code
def yJ1_charAt_3b067 : MethodName := ⟨RJ1, "charAt", "([BI)C"⟩
abbrev cJ1_canEncode_fc78d : ByteArray := prog_29_method_3_code
def yJ1_canEncode_fc78d : MethodName := ⟨RJ1, "canEncode", "(C)Z"⟩
abbrev cJ1_fillNull_b72d1 : ByteArray := prog_29_method_48_code
def yJ1_fillNull_b72d1 : MethodName := ⟨RJ1, "fillNull", "([BII)V"⟩
abbrev cJ1_inflate_0e8fd : ByteArray := prog_29_method_50_code
def yJ1_inflate_0e8fd : MethodName := ⟨RJ1, "inflate", "([BI[BII)V"⟩
def RJ2 : String := "java/lang/StringUTF16"
def TJ2 : u_T := fun k => match k with
  | _ => ("", "", "", false)
def tyJ2 : Nat → FieldType := fun k => match k with
  | _ => .int
theorem nmJ2 : ∀ a, a < 0 → ∀ b, b < 0 → a ≠ b → (TJ2 a).2.1 ≠ (TJ2 b).2.1 := by decide +kernel
theorem tyJ2_ok : ∀ k, k < 0 → parseFieldDescriptor (TJ2 k).2.2.1 = some (tyJ2 k) := by decide +kernel
abbrev cJ2_newBytesFor_77867 : ByteArray := prog_30_method_2_code
def yJ2_newBytesFor_77867 : MethodName := ⟨RJ2, "newBytesFor", "(I)[B"⟩
abbrev cJ2_newBytesLength_0f7a4 : ByteArray := prog_30_method_3_code
def yJ2_newBytesLength_0f7a4 : MethodName := ⟨RJ2, "newBytesLength", "(I)I"⟩
abbrev cJ2_putChar_b72d1 : ByteArray := prog_30_method_4_code
def yJ2_putChar_b72d1 : MethodName := ⟨RJ2, "putChar", "([BII)V"⟩
abbrev cJ2_getChar_3b067 : ByteArray := prog_30_method_5_code
def yJ2_getChar_3b067 : MethodName := ⟨RJ2, "getChar", "([BI)C"⟩
abbrev cJ2_length_9d52b : ByteArray := prog_30_method_6_code
def yJ2_length_9d52b : MethodName := ⟨RJ2, "length", "([B)I"⟩
abbrev cJ2_coderFromArrayLen_85cad : ByteArray := prog_30_method_15_code
def yJ2_coderFromArrayLen_85cad : MethodName := ⟨RJ2, "coderFromArrayLen", "([BI)B"⟩
abbrev cJ2_compress_39247 : ByteArray := prog_30_method_17_code
def yJ2_compress_39247 : MethodName := ⟨RJ2, "compress", "([BII)[B"⟩
abbrev cJ2_compress_5af95 : ByteArray := prog_30_method_22_code
def yJ2_compress_5af95 : MethodName := ⟨RJ2, "compress", "([BI[BII)I"⟩
abbrev cJ2_fillNull_b72d1 : ByteArray := prog_30_method_70_code
def yJ2_fillNull_b72d1 : MethodName := ⟨RJ2, "fillNull", "([BII)V"⟩
abbrev cJ2_putCharSB_b72d1 : ByteArray := prog_30_method_71_code
def yJ2_putCharSB_b72d1 : MethodName := ⟨RJ2, "putCharSB", "([BII)V"⟩
abbrev cJ2_getChars_46870 : ByteArray := prog_30_method_77_code
def yJ2_getChars_46870 : MethodName := ⟨RJ2, "getChars", "(III[B)I"⟩
abbrev cJ2_putCharsAt_cd4e5 : ByteArray := prog_30_method_81_code
def yJ2_putCharsAt_cd4e5 : MethodName := ⟨RJ2, "putCharsAt", "([BICCCC)I"⟩
abbrev cJ2_charAt_3b067 : ByteArray := prog_30_method_83_code
def yJ2_charAt_3b067 : MethodName := ⟨RJ2, "charAt", "([BI)C"⟩
abbrev cJ2_inflate_0e8fd : ByteArray := prog_30_method_86_code
def yJ2_inflate_0e8fd : MethodName := ⟨RJ2, "inflate", "([BI[BII)V"⟩
abbrev cJ2_getChars_ba4f3 : ByteArray := prog_30_method_89_code
def yJ2_getChars_ba4f3 : MethodName := ⟨RJ2, "getChars", "(II[B)I"⟩
abbrev cJ2_checkIndex_2214a : ByteArray := prog_30_method_91_code
def yJ2_checkIndex_2214a : MethodName := ⟨RJ2, "checkIndex", "(I[B)V"⟩
abbrev cJ2_checkBoundsBeginEnd_d044e : ByteArray := prog_30_method_93_code
def yJ2_checkBoundsBeginEnd_d044e : MethodName := ⟨RJ2, "checkBoundsBeginEnd", "(II[B)V"⟩
abbrev cJ2_checkBoundsOffCount_d044e : ByteArray := prog_30_method_94_code
def yJ2_checkBoundsOffCount_d044e : MethodName := ⟨RJ2, "checkBoundsOffCount", "(II[B)V"⟩
def RJ10 : String := "java/lang/System"
def TJ10 : u_T := fun k => match k with
  | _ => ("", "", "", false)
def tyJ10 : Nat → FieldType := fun k => match k with
  | _ => .int
theorem nmJ10 : ∀ a, a < 0 → ∀ b, b < 0 → a ≠ b → (TJ10 a).2.1 ≠ (TJ10 b).2.1 := by decide +kernel
theorem tyJ10_ok : ∀ k, k < 0 → parseFieldDescriptor (TJ10 k).2.2.1 = some (tyJ10 k) := by decide +kernel
def RJxfd54e : String := "java/lang/constant/Constable"
def TJxfd54e : u_T := fun k => match k with
  | _ => ("", "", "", false)
def tyJxfd54e : Nat → FieldType := fun k => match k with
  | _ => .int
theorem nmJxfd54e : ∀ a, a < 0 → ∀ b, b < 0 → a ≠ b → (TJxfd54e a).2.1 ≠ (TJxfd54e b).2.1 := by decide +kernel
theorem tyJxfd54e_ok : ∀ k, k < 0 → parseFieldDescriptor (TJxfd54e k).2.2.1 = some (tyJxfd54e k) := by decide +kernel
def RJx3cf43 : String := "java/lang/constant/ConstantDesc"
def TJx3cf43 : u_T := fun k => match k with
  | _ => ("", "", "", false)
def tyJx3cf43 : Nat → FieldType := fun k => match k with
  | _ => .int
theorem nmJx3cf43 : ∀ a, a < 0 → ∀ b, b < 0 → a ≠ b → (TJx3cf43 a).2.1 ≠ (TJx3cf43 b).2.1 := by decide +kernel
theorem tyJx3cf43_ok : ∀ k, k < 0 → parseFieldDescriptor (TJx3cf43 k).2.2.1 = some (tyJx3cf43 k) := by decide +kernel
def RJ7 : String := "java/util/Arrays"
def TJ7 : u_T := fun k => match k with
  | _ => ("", "", "", false)
def tyJ7 : Nat → FieldType := fun k => match k with
  | _ => .int
theorem nmJ7 : ∀ a, a < 0 → ∀ b, b < 0 → a ≠ b → (TJ7 a).2.1 ≠ (TJ7 b).2.1 := by decide +kernel
theorem tyJ7_ok : ∀ k, k < 0 → parseFieldDescriptor (TJ7 k).2.2.1 = some (tyJ7 k) := by decide +kernel
abbrev cJ7_rangeCheck_23922 : ByteArray := prog_36_method_30_code
def yJ7_rangeCheck_23922 : MethodName := ⟨RJ7, "rangeCheck", "(III)V"⟩
abbrev cJ7_fill_eb02e : ByteArray := prog_36_method_110_code
def yJ7_fill_eb02e : MethodName := ⟨RJ7, "fill", "([BIIB)V"⟩
abbrev cJ7_copyOf_9075b : ByteArray := prog_36_method_121_code
def yJ7_copyOf_9075b : MethodName := ⟨RJ7, "copyOf", "([BI)[B"⟩
abbrev cJ7_checkLength_df160 : ByteArray := prog_36_method_131_code
def yJ7_checkLength_df160 : MethodName := ⟨RJ7, "checkLength", "(II)V"⟩
abbrev cJ7_copyOfRange_39247 : ByteArray := prog_36_method_132_code
def yJ7_copyOfRange_39247 : MethodName := ⟨RJ7, "copyOfRange", "([BII)[B"⟩
abbrev cJ7_copyOfRangeByte_39247 : ByteArray := prog_36_method_133_code
def yJ7_copyOfRangeByte_39247 : MethodName := ⟨RJ7, "copyOfRangeByte", "([BII)[B"⟩
def RJ8 : String := "jdk/internal/util/ArraysSupport"
def TJ8 : u_T := fun k => match k with
  | _ => ("", "", "", false)
def tyJ8 : Nat → FieldType := fun k => match k with
  | _ => .int
theorem nmJ8 : ∀ a, a < 0 → ∀ b, b < 0 → a ≠ b → (TJ8 a).2.1 ≠ (TJ8 b).2.1 := by decide +kernel
theorem tyJ8_ok : ∀ k, k < 0 → parseFieldDescriptor (TJ8 k).2.2.1 = some (tyJ8 k) := by decide +kernel
abbrev cJ8_newLength_cabcc : ByteArray := prog_38_method_27_code
def yJ8_newLength_cabcc : MethodName := ⟨RJ8, "newLength", "(III)I"⟩
abbrev cJ8_hugeLength_7cf53 : ByteArray := prog_38_method_28_code
def yJ8_hugeLength_7cf53 : MethodName := ⟨RJ8, "hugeLength", "(II)I"⟩
def RJ3 : String := "jdk/internal/util/Preconditions"
def TJ3 : u_T := fun k => match k with
  | _ => ("", "", "", false)
def tyJ3 : Nat → FieldType := fun k => match k with
  | _ => .int
theorem nmJ3 : ∀ a, a < 0 → ∀ b, b < 0 → a ≠ b → (TJ3 a).2.1 ≠ (TJ3 b).2.1 := by decide +kernel
theorem tyJ3_ok : ∀ k, k < 0 → parseFieldDescriptor (TJ3 k).2.2.1 = some (tyJ3 k) := by decide +kernel
abbrev cJ3_checkIndex_8e157 : ByteArray := prog_39_method_11_code
def yJ3_checkIndex_8e157 : MethodName := ⟨RJ3, "checkIndex", "(IILjava/util/function/BiFunction;)I"⟩
abbrev cJ3_checkFromToIndex_8c36e : ByteArray := prog_39_method_12_code
def yJ3_checkFromToIndex_8c36e : MethodName := ⟨RJ3, "checkFromToIndex", "(IIILjava/util/function/BiFunction;)I"⟩
abbrev cJ3_checkFromIndexSize_8c36e : ByteArray := prog_39_method_13_code
def yJ3_checkFromIndexSize_8c36e : MethodName := ⟨RJ3, "checkFromIndexSize", "(IIILjava/util/function/BiFunction;)I"⟩
def RL : String := "BowFoundryLaw"
abbrev cL_at : ByteArray := method_2_code
def yL_at : MethodName := ⟨RL, "at", "([II)I"⟩
abbrev cL_put : ByteArray := method_3_code
def yL_put : MethodName := ⟨RL, "put", "(LBowFoundry;Ljava/lang/String;)V"⟩
abbrev cL_build : ByteArray := method_4_code
def yL_build : MethodName := ⟨RL, "build", "([I)LBowFoundry;"⟩
abbrev cL_act : ByteArray := method_5_code
def yL_act : MethodName := ⟨RL, "act", "(LBowFoundry;IIII)I"⟩
abbrev cL_has : ByteArray := method_6_code
def yL_has : MethodName := ⟨RL, "has", "(LBowFoundry;I)Z"⟩
abbrev cL_squeaks : ByteArray := method_7_code
def yL_squeaks : MethodName := ⟨RL, "squeaks", "(LBowFoundry;I)[I"⟩
abbrev cL_state : ByteArray := method_9_code
def yL_state : MethodName := ⟨RL, "state", "(LBowFoundry;)I"⟩
abbrev cL_law : ByteArray := code
def yL_law : MethodName := ⟨RL, "law", "([I)Z"⟩
abbrev cL_runs : ByteArray := method_13_code
def yL_runs : MethodName := ⟨RL, "runs", "(LBowFoundry;)I"⟩
abbrev cL_fails : ByteArray := method_14_code
def yL_fails : MethodName := ⟨RL, "fails", "(LBowFoundry;Ljava/lang/String;I)Z"⟩
abbrev vwCl : List vw_C := [(RJ0, TJ0, 4), (RJ4, TJ4, 4), (RJx00060, TJx00060, 6), (RJx7c733, TJx7c733, 6), (RX1, TX1, 6), (RX3, TX3, 5), (RX4, TX4, 17), (RX5, TX5, 9)]
/-- all words that a method may lean on: ONE list for every method -/
def T0 : List Cond := lw_tbl.filter goodWord
theorem T0_good : GoodIn T0 T0 := fun w h => ⟨h, good_of_word (List.mem_filter.mp h).2⟩
theorem T0_of {w : Cond} (h : w ∈ lw_tbl) (g : goodWord w = true) : w ∈ T0 := List.mem_filter.mpr ⟨h, g⟩
theorem tb_of {w : Cond} (h : w ∈ tables_1) : w ∈ lw_tbl := List.mem_append_right _ h
/-- the words that a warming keeps, but by laws of their own: nest mates' links, declared names, casts, arrays over a class -/
def nwd : Cond → Bool
  | .fieldLinkNest .. => true
  | .methodLinkNest .. => true
  | .declares _ => true
  | .privateMethod _ => true
  | .castable .. => true
  | .arrayOver (.object _) => true
  | .arrayOver (.array _) => true
  | _ => false
def N0 : List Cond := lw_tbl.filter nwd
theorem N0_of {w : Cond} (h : w ∈ lw_tbl) (g : nwd w = true) : w ∈ N0 := List.mem_filter.mpr ⟨h, g⟩
theorem tm1 {w : Cond} {j : Nat} (h : tables_1_1[j]? = some w) : w ∈ lw_tbl := tb_of (by unfold tables_1; exact List.mem_append_left _ (List.mem_of_getElem? h))
theorem m1 {w : Cond} {j : Nat} (h : tables_1_1[j]? = some w) (g : goodWord w = true) : w ∈ T0 := T0_of (tm1 h) g
theorem n1 {w : Cond} {j : Nat} (h : tables_1_1[j]? = some w) (g : nwd w = true) : w ∈ N0 := N0_of (tm1 h) g
theorem tm2 {w : Cond} {j : Nat} (h : tables_1_2[j]? = some w) : w ∈ lw_tbl := tb_of (by unfold tables_1; exact List.mem_append_right _ (List.mem_append_left _ (List.mem_of_getElem? h)))
theorem m2 {w : Cond} {j : Nat} (h : tables_1_2[j]? = some w) (g : goodWord w = true) : w ∈ T0 := T0_of (tm2 h) g
theorem n2 {w : Cond} {j : Nat} (h : tables_1_2[j]? = some w) (g : nwd w = true) : w ∈ N0 := N0_of (tm2 h) g
theorem tm3 {w : Cond} {j : Nat} (h : tables_1_3[j]? = some w) : w ∈ lw_tbl := tb_of (by unfold tables_1; exact List.mem_append_right _ (List.mem_append_right _ (List.mem_append_left _ (List.mem_of_getElem? h))))
theorem m3 {w : Cond} {j : Nat} (h : tables_1_3[j]? = some w) (g : goodWord w = true) : w ∈ T0 := T0_of (tm3 h) g
theorem n3 {w : Cond} {j : Nat} (h : tables_1_3[j]? = some w) (g : nwd w = true) : w ∈ N0 := N0_of (tm3 h) g
theorem tm4 {w : Cond} {j : Nat} (h : tables_1_4[j]? = some w) : w ∈ lw_tbl := tb_of (by unfold tables_1; exact List.mem_append_right _ (List.mem_append_right _ (List.mem_append_right _ (List.mem_append_left _ (List.mem_of_getElem? h)))))
theorem m4 {w : Cond} {j : Nat} (h : tables_1_4[j]? = some w) (g : goodWord w = true) : w ∈ T0 := T0_of (tm4 h) g
theorem n4 {w : Cond} {j : Nat} (h : tables_1_4[j]? = some w) (g : nwd w = true) : w ∈ N0 := N0_of (tm4 h) g
theorem tm5 {w : Cond} {j : Nat} (h : tables_1_5[j]? = some w) : w ∈ lw_tbl := tb_of (by unfold tables_1; exact List.mem_append_right _ (List.mem_append_right _ (List.mem_append_right _ (List.mem_append_right _ (List.mem_append_left _ (List.mem_of_getElem? h))))))
theorem m5 {w : Cond} {j : Nat} (h : tables_1_5[j]? = some w) (g : goodWord w = true) : w ∈ T0 := T0_of (tm5 h) g
theorem n5 {w : Cond} {j : Nat} (h : tables_1_5[j]? = some w) (g : nwd w = true) : w ∈ N0 := N0_of (tm5 h) g
theorem tm6 {w : Cond} {j : Nat} (h : tables_1_6[j]? = some w) : w ∈ lw_tbl := tb_of (by unfold tables_1; exact List.mem_append_right _ (List.mem_append_right _ (List.mem_append_right _ (List.mem_append_right _ (List.mem_append_right _ (List.mem_of_getElem? h))))))
theorem m6 {w : Cond} {j : Nat} (h : tables_1_6[j]? = some w) (g : goodWord w = true) : w ∈ T0 := T0_of (tm6 h) g
theorem n6 {w : Cond} {j : Nat} (h : tables_1_6[j]? = some w) (g : nwd w = true) : w ∈ N0 := N0_of (tm6 h) g
theorem mp_of {q : MethodName × Nat} (h : q ∈ lw_privs) : Cond.selects q.1.cls q.1 q.1 ∈ T0 := T0_of (List.mem_append_left _ (List.mem_map.mpr ⟨q, h, rfl⟩)) rfl
theorem mp1 {y : MethodName} {n j : Nat} (h : lw_privs_1[j]? = some (y, n)) : Cond.selects y.cls y y ∈ T0 := mp_of (q := (y, n)) (by unfold lw_privs; exact List.mem_of_getElem? h)
