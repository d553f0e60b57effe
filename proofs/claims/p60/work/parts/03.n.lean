def RX0 : String := "PastryBench$1"
def TX0 : u_T := fun k => match k with
  | _ => ("", "", "", false)
def tyX0 : Nat → FieldType := fun k => match k with
  | _ => .int
abbrev wsX00 : List Cond := u_ws RX0 TX0 0
theorem nmX0 : ∀ a, a < 0 → ∀ b, b < 0 → a ≠ b → (TX0 a).2.1 ≠ (TX0 b).2.1 := by decide +kernel
theorem tyX0_ok : ∀ k, k < 0 → parseFieldDescriptor (TX0 k).2.2.1 = some (tyX0 k) := by decide +kernel
def RX1 : String := "PastryBench$Bench"
def TX1 : u_T := fun k => match k with
  | 0 => ("PastryBench$Bench", "sheets", "[LPastryBench$Sheet;", true)
  | 1 => ("PastryBench$Bench", "count", "I", false)
  | 2 => ("PastryBench$Bench", "room", "I", false)
  | 3 => ("PastryBench$Bench", "melting", "I", false)
  | 4 => ("PastryBench$Bench", "portions", "I", false)
  | 5 => ("PastryBench$Bench", "hours", "I", false)
  | 6 => ("PastryBench$Bench", "escaped", "I", false)
  | _ => ("PastryBench$Bench", "broken", "I", false)
def tyX1 : Nat → FieldType := fun k => match k with
  | 0 => .array (.object "PastryBench$Sheet")
  | 1 => .int
  | 2 => .int
  | 3 => .int
  | 4 => .int
  | 5 => .int
  | 6 => .int
  | _ => .int
abbrev wsX10 : List Cond := u_ws RX1 TX1 8
theorem nmX1 : ∀ a, a < 8 → ∀ b, b < 8 → a ≠ b → (TX1 a).2.1 ≠ (TX1 b).2.1 := by decide +kernel
theorem tyX1_ok : ∀ k, k < 8 → parseFieldDescriptor (TX1 k).2.2.1 = some (tyX1 k) := by decide +kernel
abbrev cX1_init : ByteArray := prog_3_method_1_code
def yX1_init : MethodName := ⟨RX1, "<init>", "()V"⟩
abbrev cX1_first : ByteArray := prog_3_method_2_code
def yX1_first : MethodName := ⟨RX1, "first", "()LPastryBench$Bench;"⟩
abbrev cX1_begin : ByteArray := prog_3_method_3_code
def yX1_begin : MethodName := ⟨RX1, "begin", "(III)V"⟩
abbrev cX1_addSheet : ByteArray := prog_3_method_4_code
def yX1_addSheet : MethodName := ⟨RX1, "addSheet", "(I)V"⟩
abbrev cX1_addLayer : ByteArray := prog_3_method_5_code
def yX1_addLayer : MethodName := ⟨RX1, "addLayer", "(ZI)V"⟩
abbrev cX1_copyFrom : ByteArray := prog_3_method_6_code
def yX1_copyFrom : MethodName := ⟨RX1, "copyFrom", "(LPastryBench$Bench;)V"⟩
abbrev cX1_hasSheet : ByteArray := prog_3_method_7_code
def yX1_hasSheet : MethodName := ⟨RX1, "hasSheet", "(I)Z"⟩
abbrev cX1_findWarmest : ByteArray := prog_3_method_8_code
def yX1_findWarmest : MethodName := ⟨RX1, "findWarmest", "()I"⟩
abbrev cX1_findFinest : ByteArray := prog_3_method_9_code
def yX1_findFinest : MethodName := ⟨RX1, "findFinest", "()I"⟩
abbrev cX1_countSealed : ByteArray := prog_3_method_10_code
def yX1_countSealed : MethodName := ⟨RX1, "countSealed", "()I"⟩
abbrev cX1_countCooling : ByteArray := prog_3_method_11_code
def yX1_countCooling : MethodName := ⟨RX1, "countCooling", "()I"⟩
abbrev cX1_countUnsafe : ByteArray := prog_3_method_12_code
def yX1_countUnsafe : MethodName := ⟨RX1, "countUnsafe", "()I"⟩
abbrev cX1_stateRefusal : ByteArray := prog_3_method_13_code
def yX1_stateRefusal : MethodName := ⟨RX1, "stateRefusal", "(Z)LPastryBench$Refusal;"⟩
abbrev cX1_refusalOfFold : ByteArray := prog_3_method_14_code
def yX1_refusalOfFold : MethodName := ⟨RX1, "refusalOfFold", "(II)LPastryBench$Refusal;"⟩
abbrev cX1_applyFold : ByteArray := prog_3_method_15_code
def yX1_applyFold : MethodName := ⟨RX1, "applyFold", "(II)I"⟩
abbrev cX1_refusalOfRoll : ByteArray := prog_3_method_16_code
def yX1_refusalOfRoll : MethodName := ⟨RX1, "refusalOfRoll", "(II)LPastryBench$Refusal;"⟩
abbrev cX1_applyRoll : ByteArray := prog_3_method_17_code
def yX1_applyRoll : MethodName := ⟨RX1, "applyRoll", "(II)I"⟩
abbrev cX1_refusalOfDust : ByteArray := prog_3_method_18_code
def yX1_refusalOfDust : MethodName := ⟨RX1, "refusalOfDust", "(I)LPastryBench$Refusal;"⟩
abbrev cX1_applyDust : ByteArray := prog_3_method_19_code
def yX1_applyDust : MethodName := ⟨RX1, "applyDust", "(I)I"⟩
abbrev cX1_refusalOfSeal : ByteArray := prog_3_method_20_code
def yX1_refusalOfSeal : MethodName := ⟨RX1, "refusalOfSeal", "(I)LPastryBench$Refusal;"⟩
abbrev cX1_applySeal : ByteArray := prog_3_method_21_code
def yX1_applySeal : MethodName := ⟨RX1, "applySeal", "(I)I"⟩
abbrev cX1_refusalOfCool : ByteArray := prog_3_method_22_code
def yX1_refusalOfCool : MethodName := ⟨RX1, "refusalOfCool", "(I)LPastryBench$Refusal;"⟩
abbrev cX1_applyCool : ByteArray := prog_3_method_23_code
def yX1_applyCool : MethodName := ⟨RX1, "applyCool", "(I)I"⟩
abbrev cX1_refusalOfTakeOut : ByteArray := prog_3_method_24_code
def yX1_refusalOfTakeOut : MethodName := ⟨RX1, "refusalOfTakeOut", "(I)LPastryBench$Refusal;"⟩
abbrev cX1_applyTakeOut : ByteArray := prog_3_method_25_code
def yX1_applyTakeOut : MethodName := ⟨RX1, "applyTakeOut", "(I)I"⟩
abbrev cX1_refusalOfHours : ByteArray := prog_3_method_26_code
def yX1_refusalOfHours : MethodName := ⟨RX1, "refusalOfHours", "(I)LPastryBench$Refusal;"⟩
abbrev cX1_applyHours : ByteArray := prog_3_method_27_code
def yX1_applyHours : MethodName := ⟨RX1, "applyHours", "(I)I"⟩
abbrev cX1_refusalOfCut : ByteArray := prog_3_method_28_code
def yX1_refusalOfCut : MethodName := ⟨RX1, "refusalOfCut", "(I)LPastryBench$Refusal;"⟩
abbrev cX1_applyCut : ByteArray := prog_3_method_29_code
def yX1_applyCut : MethodName := ⟨RX1, "applyCut", "(I)I"⟩
abbrev cX1_refusalOfStack : ByteArray := prog_3_method_30_code
def yX1_refusalOfStack : MethodName := ⟨RX1, "refusalOfStack", "(II)LPastryBench$Refusal;"⟩
abbrev cX1_applyStack : ByteArray := prog_3_method_31_code
def yX1_applyStack : MethodName := ⟨RX1, "applyStack", "(II)I"⟩
abbrev cX1_removeSheet : ByteArray := prog_3_method_32_code
def yX1_removeSheet : MethodName := ⟨RX1, "removeSheet", "(I)V"⟩
abbrev cX1_refusalOfButter : ByteArray := prog_3_method_33_code
def yX1_refusalOfButter : MethodName := ⟨RX1, "refusalOfButter", "(II)LPastryBench$Refusal;"⟩
abbrev cX1_applyButter : ByteArray := prog_3_method_34_code
def yX1_applyButter : MethodName := ⟨RX1, "applyButter", "(II)I"⟩
abbrev cX1_refusalOfFlour : ByteArray := prog_3_method_35_code
def yX1_refusalOfFlour : MethodName := ⟨RX1, "refusalOfFlour", "(I)LPastryBench$Refusal;"⟩
abbrev cX1_applyFlour : ByteArray := prog_3_method_36_code
def yX1_applyFlour : MethodName := ⟨RX1, "applyFlour", "(I)I"⟩
def RX2 : String := "PastryBench$Command"
def TX2 : u_T := fun k => match k with
  | _ => ("", "", "", false)
def tyX2 : Nat → FieldType := fun k => match k with
  | _ => .int
abbrev wsX20 : List Cond := u_ws RX2 TX2 0
theorem nmX2 : ∀ a, a < 0 → ∀ b, b < 0 → a ≠ b → (TX2 a).2.1 ≠ (TX2 b).2.1 := by decide +kernel
theorem tyX2_ok : ∀ k, k < 0 → parseFieldDescriptor (TX2 k).2.2.1 = some (tyX2 k) := by decide +kernel
def RX3 : String := "PastryBench$History"
def TX3 : u_T := fun k => match k with
  | 0 => ("PastryBench$History", "benches", "[LPastryBench$Bench;", true)
  | _ => ("PastryBench$History", "count", "I", false)
def tyX3 : Nat → FieldType := fun k => match k with
  | 0 => .array (.object "PastryBench$Bench")
  | _ => .int
abbrev wsX30 : List Cond := u_ws RX3 TX3 2
theorem nmX3 : ∀ a, a < 2 → ∀ b, b < 2 → a ≠ b → (TX3 a).2.1 ≠ (TX3 b).2.1 := by decide +kernel
theorem tyX3_ok : ∀ k, k < 2 → parseFieldDescriptor (TX3 k).2.2.1 = some (tyX3 k) := by decide +kernel
abbrev cX3_init : ByteArray := prog_5_method_1_code
def yX3_init : MethodName := ⟨RX3, "<init>", "()V"⟩
abbrev cX3_forget : ByteArray := prog_5_method_2_code
def yX3_forget : MethodName := ⟨RX3, "forget", "()V"⟩
abbrev cX3_remember : ByteArray := prog_5_method_3_code
def yX3_remember : MethodName := ⟨RX3, "remember", "(LPastryBench$Bench;)V"⟩
abbrev cX3_dropOldest : ByteArray := prog_5_method_4_code
def yX3_dropOldest : MethodName := ⟨RX3, "dropOldest", "()V"⟩
abbrev cX3_takeBack : ByteArray := prog_5_method_5_code
def yX3_takeBack : MethodName := ⟨RX3, "takeBack", "(LPastryBench$Bench;)V"⟩
def RX4 : String := "PastryBench$Output"
def TX4 : u_T := fun k => match k with
  | 0 => ("PastryBench$Output", "bytes", "[I", true)
  | _ => ("PastryBench$Output", "length", "I", false)
def tyX4 : Nat → FieldType := fun k => match k with
  | 0 => .array .int
  | _ => .int
abbrev wsX40 : List Cond := u_ws RX4 TX4 2
theorem nmX4 : ∀ a, a < 2 → ∀ b, b < 2 → a ≠ b → (TX4 a).2.1 ≠ (TX4 b).2.1 := by decide +kernel
theorem tyX4_ok : ∀ k, k < 2 → parseFieldDescriptor (TX4 k).2.2.1 = some (tyX4 k) := by decide +kernel
abbrev cX4_init : ByteArray := prog_6_method_1_code
def yX4_init : MethodName := ⟨RX4, "<init>", "()V"⟩
def RX5 : String := "PastryBench$Parser"
def TX5 : u_T := fun k => match k with
  | 0 => ("PastryBench$Parser", "tokens", "LPastryBench$Tokens;", true)
  | 1 => ("PastryBench$Parser", "code", "I", false)
  | 2 => ("PastryBench$Parser", "offset", "I", false)
  | _ => ("PastryBench$Parser", "number", "I", false)
def tyX5 : Nat → FieldType := fun k => match k with
  | 0 => .object "PastryBench$Tokens"
  | 1 => .int
  | 2 => .int
  | _ => .int
abbrev wsX50 : List Cond := u_ws RX5 TX5 4
theorem nmX5 : ∀ a, a < 4 → ∀ b, b < 4 → a ≠ b → (TX5 a).2.1 ≠ (TX5 b).2.1 := by decide +kernel
theorem tyX5_ok : ∀ k, k < 4 → parseFieldDescriptor (TX5 k).2.2.1 = some (tyX5 k) := by decide +kernel
abbrev cX5_init : ByteArray := prog_7_method_1_code
def yX5_init : MethodName := ⟨RX5, "<init>", "()V"⟩
abbrev cX5_begin : ByteArray := prog_7_method_2_code
def yX5_begin : MethodName := ⟨RX5, "begin", "([II)V"⟩
abbrev cX5_fail : ByteArray := prog_7_method_3_code
def yX5_fail : MethodName := ⟨RX5, "fail", "(I)Z"⟩
abbrev cX5_takeWord : ByteArray := prog_7_method_4_code
def yX5_takeWord : MethodName := ⟨RX5, "takeWord", "(Ljava/lang/String;)Z"⟩
abbrev cX5_takeSemicolon : ByteArray := prog_7_method_5_code
def yX5_takeSemicolon : MethodName := ⟨RX5, "takeSemicolon", "()Z"⟩
abbrev cX5_takeNumber : ByteArray := prog_7_method_6_code
def yX5_takeNumber : MethodName := ⟨RX5, "takeNumber", "(II)Z"⟩
abbrev cX5_readBench : ByteArray := prog_7_method_7_code
def yX5_readBench : MethodName := ⟨RX5, "readBench", "([IILPastryBench$Bench;)Z"⟩
abbrev cX5_readHeader : ByteArray := prog_7_method_8_code
def yX5_readHeader : MethodName := ⟨RX5, "readHeader", "(LPastryBench$Bench;)Z"⟩
abbrev cX5_readSheet : ByteArray := prog_7_method_9_code
def yX5_readSheet : MethodName := ⟨RX5, "readSheet", "(LPastryBench$Bench;)Z"⟩
abbrev cX5_isLayerWord : ByteArray := prog_7_method_10_code
def yX5_isLayerWord : MethodName := ⟨RX5, "isLayerWord", "()Z"⟩
abbrev cX5_readLayer : ByteArray := prog_7_method_11_code
def yX5_readLayer : MethodName := ⟨RX5, "readLayer", "(LPastryBench$Bench;)Z"⟩
def RX6 : String := "PastryBench$Refusal"
def TX6 : u_T := fun k => match k with
  | _ => ("", "", "", false)
def tyX6 : Nat → FieldType := fun k => match k with
  | _ => .int
abbrev wsX60 : List Cond := u_ws RX6 TX6 0
theorem nmX6 : ∀ a, a < 0 → ∀ b, b < 0 → a ≠ b → (TX6 a).2.1 ≠ (TX6 b).2.1 := by decide +kernel
theorem tyX6_ok : ∀ k, k < 0 → parseFieldDescriptor (TX6 k).2.2.1 = some (tyX6 k) := by decide +kernel
def RX7 : String := "PastryBench$Script"
def TX7 : u_T := fun k => match k with
  | 0 => ("PastryBench$Script", "commands", "[LPastryBench$Command;", true)
  | 1 => ("PastryBench$Script", "firsts", "[I", true)
  | 2 => ("PastryBench$Script", "seconds", "[I", true)
  | _ => ("PastryBench$Script", "count", "I", false)
def tyX7 : Nat → FieldType := fun k => match k with
  | 0 => .array (.object "PastryBench$Command")
  | 1 => .array .int
  | 2 => .array .int
  | _ => .int
abbrev wsX70 : List Cond := u_ws RX7 TX7 4
theorem nmX7 : ∀ a, a < 4 → ∀ b, b < 4 → a ≠ b → (TX7 a).2.1 ≠ (TX7 b).2.1 := by decide +kernel
theorem tyX7_ok : ∀ k, k < 4 → parseFieldDescriptor (TX7 k).2.2.1 = some (tyX7 k) := by decide +kernel
abbrev cX7_init : ByteArray := prog_9_method_1_code
def yX7_init : MethodName := ⟨RX7, "<init>", "()V"⟩
def RX8 : String := "PastryBench$Sheet"
def TX8 : u_T := fun k => match k with
  | 0 => ("PastryBench$Sheet", "thick", "[I", true)
  | 1 => ("PastryBench$Sheet", "butter", "[Z", true)
  | 2 => ("PastryBench$Sheet", "layers", "I", false)
  | 3 => ("PastryBench$Sheet", "expected", "I", false)
  | 4 => ("PastryBench$Sheet", "folds", "I", false)
  | 5 => ("PastryBench$Sheet", "warmth", "I", false)
  | 6 => ("PastryBench$Sheet", "dusted", "Z", false)
  | 7 => ("PastryBench$Sheet", "sealed", "Z", false)
  | _ => ("PastryBench$Sheet", "cooling", "Z", false)
def tyX8 : Nat → FieldType := fun k => match k with
  | 0 => .array .int
  | 1 => .array .boolean
  | 2 => .int
  | 3 => .int
  | 4 => .int
  | 5 => .int
  | 6 => .boolean
  | 7 => .boolean
  | _ => .boolean
abbrev wsX80 : List Cond := u_ws RX8 TX8 9
theorem nmX8 : ∀ a, a < 9 → ∀ b, b < 9 → a ≠ b → (TX8 a).2.1 ≠ (TX8 b).2.1 := by decide +kernel
theorem tyX8_ok : ∀ k, k < 9 → parseFieldDescriptor (TX8 k).2.2.1 = some (tyX8 k) := by decide +kernel
abbrev cX8_init : ByteArray := prog_10_method_1_code
def yX8_init : MethodName := ⟨RX8, "<init>", "()V"⟩
abbrev cX8_begin : ByteArray := prog_10_method_2_code
def yX8_begin : MethodName := ⟨RX8, "begin", "(I)V"⟩
abbrev cX8_copyFrom : ByteArray := prog_10_method_3_code
def yX8_copyFrom : MethodName := ⟨RX8, "copyFrom", "(LPastryBench$Sheet;)V"⟩
abbrev cX8_load : ByteArray := prog_10_method_4_code
def yX8_load : MethodName := ⟨RX8, "load", "(ZI)V"⟩
abbrev cX8_putLayer : ByteArray := prog_10_method_5_code
def yX8_putLayer : MethodName := ⟨RX8, "putLayer", "(ZIZ)Z"⟩
abbrev cX8_wouldJoin : ByteArray := prog_10_method_6_code
def yX8_wouldJoin : MethodName := ⟨RX8, "wouldJoin", "(Z)Z"⟩
abbrev cX8_countButterLayers : ByteArray := prog_10_method_7_code
def yX8_countButterLayers : MethodName := ⟨RX8, "countButterLayers", "()I"⟩
abbrev cX8_totalHeight : ByteArray := prog_10_method_8_code
def yX8_totalHeight : MethodName := ⟨RX8, "totalHeight", "()I"⟩
abbrev cX8_totalButter : ByteArray := prog_10_method_9_code
def yX8_totalButter : MethodName := ⟨RX8, "totalButter", "()I"⟩
abbrev cX8_findThinnest : ByteArray := prog_10_method_10_code
def yX8_findThinnest : MethodName := ⟨RX8, "findThinnest", "()I"⟩
abbrev cX8_findThickest : ByteArray := prog_10_method_11_code
def yX8_findThickest : MethodName := ⟨RX8, "findThickest", "()I"⟩
abbrev cX8_countSeams : ByteArray := prog_10_method_12_code
def yX8_countSeams : MethodName := ⟨RX8, "countSeams", "()I"⟩
abbrev cX8_sameFromBothSides : ByteArray := prog_10_method_13_code
def yX8_sameFromBothSides : MethodName := ⟨RX8, "sameFromBothSides", "()Z"⟩
abbrev cX8_findFoldObstacle : ByteArray := prog_10_method_14_code
def yX8_findFoldObstacle : MethodName := ⟨RX8, "findFoldObstacle", "(I)I"⟩
abbrev cX8_countPossibleFolds : ByteArray := prog_10_method_15_code
def yX8_countPossibleFolds : MethodName := ⟨RX8, "countPossibleFolds", "(I)I"⟩
abbrev cX8_foldUp : ByteArray := prog_10_method_16_code
def yX8_foldUp : MethodName := ⟨RX8, "foldUp", "(I)V"⟩
abbrev cX8_lossPerLayer : ByteArray := prog_10_method_17_code
def yX8_lossPerLayer : MethodName := ⟨RX8, "lossPerLayer", "(I)I"⟩
abbrev cX8_sumEscaping : ByteArray := prog_10_method_18_code
def yX8_sumEscaping : MethodName := ⟨RX8, "sumEscaping", "(I)I"⟩
abbrev cX8_thicknessRolled : ByteArray := prog_10_method_19_code
def yX8_thicknessRolled : MethodName := ⟨RX8, "thicknessRolled", "(III)I"⟩
abbrev cX8_countBreaking : ByteArray := prog_10_method_20_code
def yX8_countBreaking : MethodName := ⟨RX8, "countBreaking", "(II)I"⟩
abbrev cX8_sumRolled : ByteArray := prog_10_method_21_code
def yX8_sumRolled : MethodName := ⟨RX8, "sumRolled", "(II)I"⟩
abbrev cX8_rollOut : ByteArray := prog_10_method_22_code
def yX8_rollOut : MethodName := ⟨RX8, "rollOut", "(II)I"⟩
abbrev cX8_warmthAfter : ByteArray := prog_10_method_23_code
def yX8_warmthAfter : MethodName := ⟨RX8, "warmthAfter", "(II)I"⟩
abbrev cX8_countHoursToSafety : ByteArray := prog_10_method_24_code
def yX8_countHoursToSafety : MethodName := ⟨RX8, "countHoursToSafety", "(I)I"⟩
abbrev cX8_joinsWith : ByteArray := prog_10_method_25_code
def yX8_joinsWith : MethodName := ⟨RX8, "joinsWith", "(LPastryBench$Sheet;)Z"⟩
abbrev cX8_layersWith : ByteArray := prog_10_method_26_code
def yX8_layersWith : MethodName := ⟨RX8, "layersWith", "(LPastryBench$Sheet;)I"⟩
abbrev cX8_carry : ByteArray := prog_10_method_27_code
def yX8_carry : MethodName := ⟨RX8, "carry", "(LPastryBench$Sheet;)V"⟩
abbrev cX8_butterTop : ByteArray := prog_10_method_28_code
def yX8_butterTop : MethodName := ⟨RX8, "butterTop", "(I)V"⟩
def RX9 : String := "PastryBench$TokenKind"
def TX9 : u_T := fun k => match k with
  | _ => ("", "", "", false)
def tyX9 : Nat → FieldType := fun k => match k with
  | _ => .int
abbrev wsX90 : List Cond := u_ws RX9 TX9 0
theorem nmX9 : ∀ a, a < 0 → ∀ b, b < 0 → a ≠ b → (TX9 a).2.1 ≠ (TX9 b).2.1 := by decide +kernel
theorem tyX9_ok : ∀ k, k < 0 → parseFieldDescriptor (TX9 k).2.2.1 = some (tyX9 k) := by decide +kernel
def RX10 : String := "PastryBench$Tokens"
def TX10 : u_T := fun k => match k with
  | 0 => ("PastryBench$Tokens", "text", "[I", false)
  | 1 => ("PastryBench$Tokens", "length", "I", false)
  | 2 => ("PastryBench$Tokens", "next", "I", false)
  | 3 => ("PastryBench$Tokens", "kind", "LPastryBench$TokenKind;", false)
  | 4 => ("PastryBench$Tokens", "start", "I", false)
  | _ => ("PastryBench$Tokens", "value", "I", false)
def tyX10 : Nat → FieldType := fun k => match k with
  | 0 => .array .int
  | 1 => .int
  | 2 => .int
  | 3 => .object "PastryBench$TokenKind"
  | 4 => .int
  | _ => .int
abbrev wsX100 : List Cond := u_ws RX10 TX10 6
theorem nmX10 : ∀ a, a < 6 → ∀ b, b < 6 → a ≠ b → (TX10 a).2.1 ≠ (TX10 b).2.1 := by decide +kernel
theorem tyX10_ok : ∀ k, k < 6 → parseFieldDescriptor (TX10 k).2.2.1 = some (tyX10 k) := by decide +kernel
abbrev cX10_init : ByteArray := prog_12_method_1_code
def yX10_init : MethodName := ⟨RX10, "<init>", "()V"⟩
abbrev cX10_begin : ByteArray := prog_12_method_2_code
def yX10_begin : MethodName := ⟨RX10, "begin", "([II)V"⟩
abbrev cX10_advance : ByteArray := prog_12_method_3_code
def yX10_advance : MethodName := ⟨RX10, "advance", "()V"⟩
abbrev cX10_isWord : ByteArray := prog_12_method_4_code
def yX10_isWord : MethodName := ⟨RX10, "isWord", "(Ljava/lang/String;)Z"⟩
abbrev cX10_isSeparator : ByteArray := prog_12_method_5_code
def yX10_isSeparator : MethodName := ⟨RX10, "isSeparator", "(I)Z"⟩
abbrev cX10_isLetter : ByteArray := prog_12_method_6_code
def yX10_isLetter : MethodName := ⟨RX10, "isLetter", "(I)Z"⟩
abbrev cX10_isDigit : ByteArray := prog_12_method_7_code
def yX10_isDigit : MethodName := ⟨RX10, "isDigit", "(I)Z"⟩
def RX11 : String := "PastryBench"
def TX11 : u_T := fun k => match k with
  | 0 => ("PastryBench", "input", "[I", true)
  | 1 => ("PastryBench", "inputLength", "I", false)
  | 2 => ("PastryBench", "parser", "LPastryBench$Parser;", true)
  | 3 => ("PastryBench", "script", "LPastryBench$Script;", true)
  | 4 => ("PastryBench", "bench", "LPastryBench$Bench;", true)
  | 5 => ("PastryBench", "draft", "LPastryBench$Bench;", true)
  | 6 => ("PastryBench", "snapshot", "LPastryBench$Bench;", true)
  | 7 => ("PastryBench", "snapshotSaved", "Z", false)
  | 8 => ("PastryBench", "history", "LPastryBench$History;", true)
  | _ => ("PastryBench", "output", "LPastryBench$Output;", true)
def tyX11 : Nat → FieldType := fun k => match k with
  | 0 => .array .int
  | 1 => .int
  | 2 => .object "PastryBench$Parser"
  | 3 => .object "PastryBench$Script"
  | 4 => .object "PastryBench$Bench"
  | 5 => .object "PastryBench$Bench"
  | 6 => .object "PastryBench$Bench"
  | 7 => .boolean
  | 8 => .object "PastryBench$History"
  | _ => .object "PastryBench$Output"
abbrev wsX110 : List Cond := u_ws RX11 TX11 10
theorem nmX11 : ∀ a, a < 10 → ∀ b, b < 10 → a ≠ b → (TX11 a).2.1 ≠ (TX11 b).2.1 := by decide +kernel
theorem tyX11_ok : ∀ k, k < 10 → parseFieldDescriptor (TX11 k).2.2.1 = some (tyX11 k) := by decide +kernel
abbrev cX11_init : ByteArray := prog_1_method_1_code
def yX11_init : MethodName := ⟨RX11, "<init>", "()V"⟩
abbrev cX11_appendText : ByteArray := prog_1_method_2_code
def yX11_appendText : MethodName := ⟨RX11, "appendText", "(IIIII)I"⟩
abbrev cX11_loadBench : ByteArray := prog_1_method_3_code
def yX11_loadBench : MethodName := ⟨RX11, "loadBench", "(I)I"⟩
abbrev cX11_sheetCount : ByteArray := prog_1_method_6_code
def yX11_sheetCount : MethodName := ⟨RX11, "sheetCount", "()I"⟩
abbrev cX11_meltingPoint : ByteArray := prog_1_method_8_code
def yX11_meltingPoint : MethodName := ⟨RX11, "meltingPoint", "()I"⟩
abbrev cX11_flour : ByteArray := prog_1_method_9_code
def yX11_flour : MethodName := ⟨RX11, "flour", "()I"⟩
abbrev cX11_hoursPassed : ByteArray := prog_1_method_10_code
def yX11_hoursPassed : MethodName := ⟨RX11, "hoursPassed", "()I"⟩
abbrev cX11_escapedButter : ByteArray := prog_1_method_11_code
def yX11_escapedButter : MethodName := ⟨RX11, "escapedButter", "()I"⟩
abbrev cX11_brokenLayers : ByteArray := prog_1_method_12_code
def yX11_brokenLayers : MethodName := ⟨RX11, "brokenLayers", "()I"⟩
abbrev cX11_warmestSheet : ByteArray := prog_1_method_13_code
def yX11_warmestSheet : MethodName := ⟨RX11, "warmestSheet", "()I"⟩
abbrev cX11_finestSheet : ByteArray := prog_1_method_14_code
def yX11_finestSheet : MethodName := ⟨RX11, "finestSheet", "()I"⟩
abbrev cX11_layerCount : ByteArray := prog_1_method_15_code
def yX11_layerCount : MethodName := ⟨RX11, "layerCount", "(I)I"⟩
abbrev cX11_butterLayerCount : ByteArray := prog_1_method_16_code
def yX11_butterLayerCount : MethodName := ⟨RX11, "butterLayerCount", "(I)I"⟩
abbrev cX11_isButter : ByteArray := prog_1_method_17_code
def yX11_isButter : MethodName := ⟨RX11, "isButter", "(II)Z"⟩
abbrev cX11_thickness : ByteArray := prog_1_method_18_code
def yX11_thickness : MethodName := ⟨RX11, "thickness", "(II)I"⟩
abbrev cX11_height : ByteArray := prog_1_method_19_code
def yX11_height : MethodName := ⟨RX11, "height", "(I)I"⟩
abbrev cX11_butterHeight : ByteArray := prog_1_method_20_code
def yX11_butterHeight : MethodName := ⟨RX11, "butterHeight", "(I)I"⟩
abbrev cX11_thinnestLayer : ByteArray := prog_1_method_21_code
def yX11_thinnestLayer : MethodName := ⟨RX11, "thinnestLayer", "(I)I"⟩
abbrev cX11_thickestLayer : ByteArray := prog_1_method_22_code
def yX11_thickestLayer : MethodName := ⟨RX11, "thickestLayer", "(I)I"⟩
abbrev cX11_seamCount : ByteArray := prog_1_method_23_code
def yX11_seamCount : MethodName := ⟨RX11, "seamCount", "(I)I"⟩
abbrev cX11_isSymmetric : ByteArray := prog_1_method_24_code
def yX11_isSymmetric : MethodName := ⟨RX11, "isSymmetric", "(I)Z"⟩
abbrev cX11_temperature : ByteArray := prog_1_method_25_code
def yX11_temperature : MethodName := ⟨RX11, "temperature", "(I)I"⟩
abbrev cX11_isDusted : ByteArray := prog_1_method_26_code
def yX11_isDusted : MethodName := ⟨RX11, "isDusted", "(I)Z"⟩
abbrev cX11_isSealed : ByteArray := prog_1_method_27_code
def yX11_isSealed : MethodName := ⟨RX11, "isSealed", "(I)Z"⟩
abbrev cX11_isCooling : ByteArray := prog_1_method_28_code
def yX11_isCooling : MethodName := ⟨RX11, "isCooling", "(I)Z"⟩
abbrev cX11_foldCount : ByteArray := prog_1_method_29_code
def yX11_foldCount : MethodName := ⟨RX11, "foldCount", "(I)I"⟩
abbrev cX11_expectedLayers : ByteArray := prog_1_method_30_code
def yX11_expectedLayers : MethodName := ⟨RX11, "expectedLayers", "(I)I"⟩
abbrev cX11_butterShare : ByteArray := prog_1_method_31_code
def yX11_butterShare : MethodName := ⟨RX11, "butterShare", "(I)F"⟩
abbrev cX11_foldObstacle : ByteArray := prog_1_method_33_code
def yX11_foldObstacle : MethodName := ⟨RX11, "foldObstacle", "(II)I"⟩
abbrev cX11_layersAfterFold : ByteArray := prog_1_method_34_code
def yX11_layersAfterFold : MethodName := ⟨RX11, "layersAfterFold", "(II)I"⟩
abbrev cX11_foldsPossible : ByteArray := prog_1_method_35_code
def yX11_foldsPossible : MethodName := ⟨RX11, "foldsPossible", "(II)I"⟩
abbrev cX11_butterAtRisk : ByteArray := prog_1_method_36_code
def yX11_butterAtRisk : MethodName := ⟨RX11, "butterAtRisk", "(I)I"⟩
abbrev cX11_layersAtRisk : ByteArray := prog_1_method_37_code
def yX11_layersAtRisk : MethodName := ⟨RX11, "layersAtRisk", "(II)I"⟩
abbrev cX11_heightAfterRoll : ByteArray := prog_1_method_38_code
def yX11_heightAfterRoll : MethodName := ⟨RX11, "heightAfterRoll", "(II)I"⟩
abbrev cX11_temperatureAfter : ByteArray := prog_1_method_39_code
def yX11_temperatureAfter : MethodName := ⟨RX11, "temperatureAfter", "(II)I"⟩
abbrev cX11_hoursToSafety : ByteArray := prog_1_method_40_code
def yX11_hoursToSafety : MethodName := ⟨RX11, "hoursToSafety", "(I)I"⟩
abbrev cX11_fold : ByteArray := prog_1_method_41_code
def yX11_fold : MethodName := ⟨RX11, "fold", "(II)I"⟩
abbrev cX11_roll : ByteArray := prog_1_method_42_code
def yX11_roll : MethodName := ⟨RX11, "roll", "(II)I"⟩
abbrev cX11_dust : ByteArray := prog_1_method_43_code
def yX11_dust : MethodName := ⟨RX11, "dust", "(I)I"⟩
abbrev cX11_seal : ByteArray := prog_1_method_44_code
def yX11_seal : MethodName := ⟨RX11, "seal", "(I)I"⟩
abbrev cX11_cool : ByteArray := prog_1_method_45_code
def yX11_cool : MethodName := ⟨RX11, "cool", "(I)I"⟩
abbrev cX11_takeOut : ByteArray := prog_1_method_46_code
def yX11_takeOut : MethodName := ⟨RX11, "takeOut", "(I)I"⟩
abbrev cX11_passHours : ByteArray := prog_1_method_47_code
def yX11_passHours : MethodName := ⟨RX11, "passHours", "(I)I"⟩
abbrev cX11_cut : ByteArray := prog_1_method_48_code
def yX11_cut : MethodName := ⟨RX11, "cut", "(I)I"⟩
abbrev cX11_stack : ByteArray := prog_1_method_49_code
def yX11_stack : MethodName := ⟨RX11, "stack", "(II)I"⟩
abbrev cX11_addButter : ByteArray := prog_1_method_50_code
def yX11_addButter : MethodName := ⟨RX11, "addButter", "(II)I"⟩
abbrev cX11_buyFlour : ByteArray := prog_1_method_51_code
def yX11_buyFlour : MethodName := ⟨RX11, "buyFlour", "(I)I"⟩
abbrev cX11_undoableCount : ByteArray := prog_1_method_55_code
def yX11_undoableCount : MethodName := ⟨RX11, "undoableCount", "()I"⟩
abbrev cX11_undo : ByteArray := prog_1_method_56_code
def yX11_undo : MethodName := ⟨RX11, "undo", "()I"⟩
abbrev cX11_saveSnapshot : ByteArray := prog_1_method_57_code
def yX11_saveSnapshot : MethodName := ⟨RX11, "saveSnapshot", "()V"⟩
abbrev cX11_restoreSnapshot : ByteArray := prog_1_method_58_code
def yX11_restoreSnapshot : MethodName := ⟨RX11, "restoreSnapshot", "()I"⟩
abbrev cX11_appendWord : ByteArray := prog_1_method_59_code
def yX11_appendWord : MethodName := ⟨RX11, "appendWord", "(I)V"⟩
abbrev cX11_requireLength : ByteArray := prog_1_method_60_code
def yX11_requireLength : MethodName := ⟨RX11, "requireLength", "(I)V"⟩
abbrev cX11_sheetAt : ByteArray := prog_1_method_61_code
def yX11_sheetAt : MethodName := ⟨RX11, "sheetAt", "(I)LPastryBench$Sheet;"⟩
abbrev cX11_requireLayer : ByteArray := prog_1_method_62_code
def yX11_requireLayer : MethodName := ⟨RX11, "requireLayer", "(LPastryBench$Sheet;I)V"⟩
abbrev cX11_requireFactor : ByteArray := prog_1_method_63_code
def yX11_requireFactor : MethodName := ⟨RX11, "requireFactor", "(I)V"⟩
abbrev cX11_throwIfRefused : ByteArray := prog_1_method_64_code
def yX11_throwIfRefused : MethodName := ⟨RX11, "throwIfRefused", "(LPastryBench$Refusal;)V"⟩
abbrev cX11_isFactor : ByteArray := prog_1_method_65_code
def yX11_isFactor : MethodName := ⟨RX11, "isFactor", "(I)Z"⟩
abbrev cX11_layersFolded : ByteArray := prog_1_method_66_code
def yX11_layersFolded : MethodName := ⟨RX11, "layersFolded", "(IIZ)I"⟩
abbrev cX11_warmedByWork : ByteArray := prog_1_method_67_code
def yX11_warmedByWork : MethodName := ⟨RX11, "warmedByWork", "(I)I"⟩
abbrev cX11_cooledByFridge : ByteArray := prog_1_method_68_code
def yX11_cooledByFridge : MethodName := ⟨RX11, "cooledByFridge", "(I)I"⟩
abbrev cX11_drawnToRoom : ByteArray := prog_1_method_69_code
def yX11_drawnToRoom : MethodName := ⟨RX11, "drawnToRoom", "(II)I"⟩
def RX12 : String := "PastryBenchModel"
def TX12 : u_T := fun k => match k with
  | _ => ("", "", "", false)
def tyX12 : Nat → FieldType := fun k => match k with
  | _ => .int
abbrev wsX120 : List Cond := u_ws RX12 TX12 0
theorem nmX12 : ∀ a, a < 0 → ∀ b, b < 0 → a ≠ b → (TX12 a).2.1 ≠ (TX12 b).2.1 := by decide +kernel
theorem tyX12_ok : ∀ k, k < 0 → parseFieldDescriptor (TX12 k).2.2.1 = some (tyX12 k) := by decide +kernel
def RJ5 : String := "java/lang/AbstractStringBuilder"
def TJ5 : u_T := fun k => match k with
  | _ => ("", "", "", false)
def tyJ5 : Nat → FieldType := fun k => match k with
  | _ => .int
abbrev wsJ50 : List Cond := u_ws RJ5 TJ5 0
theorem nmJ5 : ∀ a, a < 0 → ∀ b, b < 0 → a ≠ b → (TJ5 a).2.1 ≠ (TJ5 b).2.1 := by decide +kernel
theorem tyJ5_ok : ∀ k, k < 0 → parseFieldDescriptor (TJ5 k).2.2.1 = some (tyJ5 k) := by decide +kernel
abbrev cJ5_init_a7421 : ByteArray := prog_15_method_3_code
def yJ5_init_a7421 : MethodName := ⟨RJ5, "<init>", "(Ljava/lang/String;)V"⟩
abbrev cJ5_length_8abf5 : ByteArray := prog_15_method_6_code
def yJ5_length_8abf5 : MethodName := ⟨RJ5, "length", "()I"⟩
abbrev cJ5_ensureCapacityInternal_d00df : ByteArray := prog_15_method_9_code
def yJ5_ensureCapacityInternal_d00df : MethodName := ⟨RJ5, "ensureCapacityInternal", "(I)V"⟩
abbrev cJ5_newCapacity_0f7a4 : ByteArray := prog_15_method_10_code
def yJ5_newCapacity_0f7a4 : MethodName := ⟨RJ5, "newCapacity", "(I)I"⟩
abbrev cJ5_inflate_da8c8 : ByteArray := prog_15_method_11_code
def yJ5_inflate_da8c8 : MethodName := ⟨RJ5, "inflate", "()V"⟩
abbrev cJ5_append_cf1ce : ByteArray := prog_15_method_22_code
def yJ5_append_cf1ce : MethodName := ⟨RJ5, "append", "(Ljava/lang/String;)Ljava/lang/AbstractStringBuilder;"⟩
abbrev cJ5_appendNull_278bc : ByteArray := prog_15_method_26_code
def yJ5_appendNull_278bc : MethodName := ⟨RJ5, "appendNull", "()Ljava/lang/AbstractStringBuilder;"⟩
abbrev cJ5_append_3fe6f : ByteArray := prog_15_method_31_code
def yJ5_append_3fe6f : MethodName := ⟨RJ5, "append", "(C)Ljava/lang/AbstractStringBuilder;"⟩
abbrev cJ5_append_c97b9 : ByteArray := prog_15_method_32_code
def yJ5_append_c97b9 : MethodName := ⟨RJ5, "append", "(I)Ljava/lang/AbstractStringBuilder;"⟩
abbrev cJ5_getValue_6d5f1 : ByteArray := prog_15_method_64_code
def yJ5_getValue_6d5f1 : MethodName := ⟨RJ5, "getValue", "()[B"⟩
abbrev cJ5_isLatin1_aae02 : ByteArray := prog_15_method_68_code
def yJ5_isLatin1_aae02 : MethodName := ⟨RJ5, "isLatin1", "()Z"⟩
abbrev cJ5_inflateIfNeededFor_a7421 : ByteArray := prog_15_method_71_code
def yJ5_inflateIfNeededFor_a7421 : MethodName := ⟨RJ5, "inflateIfNeededFor", "(Ljava/lang/String;)V"⟩
abbrev cJ5_putStringAt_47b60 : ByteArray := prog_15_method_73_code
def yJ5_putStringAt_47b60 : MethodName := ⟨RJ5, "putStringAt", "(ILjava/lang/String;)V"⟩
def RJx8e188 : String := "java/lang/Cloneable"
def TJx8e188 : u_T := fun k => match k with
  | _ => ("", "", "", false)
def tyJx8e188 : Nat → FieldType := fun k => match k with
  | _ => .int
abbrev wsJx8e1880 : List Cond := u_ws RJx8e188 TJx8e188 0
theorem nmJx8e188 : ∀ a, a < 0 → ∀ b, b < 0 → a ≠ b → (TJx8e188 a).2.1 ≠ (TJx8e188 b).2.1 := by decide +kernel
theorem tyJx8e188_ok : ∀ k, k < 0 → parseFieldDescriptor (TJx8e188 k).2.2.1 = some (tyJx8e188 k) := by decide +kernel
def RJx29ce0 : String := "java/lang/Enum"
def TJx29ce0 : u_T := fun k => match k with
  | _ => ("", "", "", false)
def tyJx29ce0 : Nat → FieldType := fun k => match k with
  | _ => .int
abbrev wsJx29ce00 : List Cond := u_ws RJx29ce0 TJx29ce0 0
theorem nmJx29ce0 : ∀ a, a < 0 → ∀ b, b < 0 → a ≠ b → (TJx29ce0 a).2.1 ≠ (TJx29ce0 b).2.1 := by decide +kernel
theorem tyJx29ce0_ok : ∀ k, k < 0 → parseFieldDescriptor (TJx29ce0 k).2.2.1 = some (tyJx29ce0 k) := by decide +kernel
def RJ6 : String := "java/lang/Integer"
def TJ6 : u_T := fun k => match k with
  | _ => ("", "", "", false)
def tyJ6 : Nat → FieldType := fun k => match k with
  | _ => .int
abbrev wsJ60 : List Cond := u_ws RJ6 TJ6 0
theorem nmJ6 : ∀ a, a < 0 → ∀ b, b < 0 → a ≠ b → (TJ6 a).2.1 ≠ (TJ6 b).2.1 := by decide +kernel
theorem tyJ6_ok : ∀ k, k < 0 → parseFieldDescriptor (TJ6 k).2.2.1 = some (tyJ6 k) := by decide +kernel
abbrev cJ6_getChars_ba4f3 : ByteArray := prog_22_method_12_code
def yJ6_getChars_ba4f3 : MethodName := ⟨RJ6, "getChars", "(II[B)I"⟩
abbrev cJ6_stringSize_0f7a4 : ByteArray := prog_22_method_13_code
def yJ6_stringSize_0f7a4 : MethodName := ⟨RJ6, "stringSize", "(I)I"⟩
def RJ9 : String := "java/lang/Math"
def TJ9 : u_T := fun k => match k with
  | _ => ("", "", "", false)
def tyJ9 : Nat → FieldType := fun k => match k with
  | _ => .int
abbrev wsJ90 : List Cond := u_ws RJ9 TJ9 0
theorem nmJ9 : ∀ a, a < 0 → ∀ b, b < 0 → a ≠ b → (TJ9 a).2.1 ≠ (TJ9 b).2.1 := by decide +kernel
theorem tyJ9_ok : ∀ k, k < 0 → parseFieldDescriptor (TJ9 k).2.2.1 = some (tyJ9 k) := by decide +kernel
abbrev cJ9_max_7cf53 : ByteArray := prog_23_method_65_code
def yJ9_max_7cf53 : MethodName := ⟨RJ9, "max", "(II)I"⟩
abbrev cJ9_min_7cf53 : ByteArray := prog_23_method_69_code
def yJ9_min_7cf53 : MethodName := ⟨RJ9, "min", "(II)I"⟩
def RJ0 : String := "java/lang/String"
def TJ0 : u_T := fun k => match k with
  | 0 => ("java/lang/String", "value", "[B", true)
  | 1 => ("java/lang/String", "coder", "B", true)
  | 2 => ("java/lang/String", "hash", "I", false)
  | _ => ("java/lang/String", "hashIsZero", "Z", false)
def tyJ0 : Nat → FieldType := fun k => match k with
  | 0 => .array .byte
  | 1 => .byte
  | 2 => .int
  | _ => .boolean
abbrev wsJ00 : List Cond := u_ws RJ0 TJ0 4
theorem nmJ0 : ∀ a, a < 4 → ∀ b, b < 4 → a ≠ b → (TJ0 a).2.1 ≠ (TJ0 b).2.1 := by decide +kernel
theorem tyJ0_ok : ∀ k, k < 4 → parseFieldDescriptor (TJ0 k).2.2.1 = some (tyJ0 k) := by decide +kernel
abbrev cJ0_init_81219 : ByteArray := prog_25_method_53_code
def yJ0_init_81219 : MethodName := ⟨RJ0, "<init>", "(Ljava/lang/StringBuilder;)V"⟩
abbrev cJ0_length_8abf5 : ByteArray := prog_25_method_54_code
def yJ0_length_8abf5 : MethodName := ⟨RJ0, "length", "()I"⟩
abbrev cJ0_charAt_5068e : ByteArray := prog_25_method_56_code
def yJ0_charAt_5068e : MethodName := ⟨RJ0, "charAt", "(I)C"⟩
abbrev cJ0_getBytes_840e7 : ByteArray := prog_25_method_147_code
def yJ0_getBytes_840e7 : MethodName := ⟨RJ0, "getBytes", "([BIB)V"⟩
abbrev cJ0_init_db425 : ByteArray := prog_25_method_150_code
def yJ0_init_db425 : MethodName := ⟨RJ0, "<init>", "(Ljava/lang/AbstractStringBuilder;Ljava/lang/Void;)V"⟩
abbrev cJ0_coder_7d493 : ByteArray := prog_25_method_152_code
def yJ0_coder_7d493 : MethodName := ⟨RJ0, "coder", "()B"⟩
abbrev cJ0_isLatin1_aae02 : ByteArray := prog_25_method_154_code
def yJ0_isLatin1_aae02 : MethodName := ⟨RJ0, "isLatin1", "()Z"⟩
abbrev cJ0_checkIndex_df160 : ByteArray := prog_25_method_155_code
def yJ0_checkIndex_df160 : MethodName := ⟨RJ0, "checkIndex", "(II)V"⟩
abbrev cJ0_checkBoundsOffCount_cabcc : ByteArray := prog_25_method_157_code
def yJ0_checkBoundsOffCount_cabcc : MethodName := ⟨RJ0, "checkBoundsOffCount", "(III)I"⟩
abbrev cJ0_checkBoundsBeginEnd_23922 : ByteArray := prog_25_method_158_code
def yJ0_checkBoundsBeginEnd_23922 : MethodName := ⟨RJ0, "checkBoundsBeginEnd", "(III)V"⟩
def RJ4 : String := "java/lang/StringBuilder"
def TJ4 : u_T := fun k => match k with
  | 0 => ("java/lang/AbstractStringBuilder", "value", "[B", false)
  | 1 => ("java/lang/AbstractStringBuilder", "coder", "B", false)
  | 2 => ("java/lang/AbstractStringBuilder", "maybeLatin1", "Z", false)
  | _ => ("java/lang/AbstractStringBuilder", "count", "I", false)
def tyJ4 : Nat → FieldType := fun k => match k with
  | 0 => .array .byte
  | 1 => .byte
  | 2 => .boolean
  | _ => .int
abbrev wsJ40 : List Cond := u_ws RJ4 TJ4 4
theorem nmJ4 : ∀ a, a < 4 → ∀ b, b < 4 → a ≠ b → (TJ4 a).2.1 ≠ (TJ4 b).2.1 := by decide +kernel
theorem tyJ4_ok : ∀ k, k < 4 → parseFieldDescriptor (TJ4 k).2.2.1 = some (tyJ4 k) := by decide +kernel
abbrev cJ4_init_a7421 : ByteArray := prog_26_method_3_code
def yJ4_init_a7421 : MethodName := ⟨RJ4, "<init>", "(Ljava/lang/String;)V"⟩
abbrev cJ4_append_15ec4 : ByteArray := prog_26_method_7_code
def yJ4_append_15ec4 : MethodName := ⟨RJ4, "append", "(Ljava/lang/String;)Ljava/lang/StringBuilder;"⟩
abbrev cJ4_append_cf468 : ByteArray := prog_26_method_14_code
def yJ4_append_cf468 : MethodName := ⟨RJ4, "append", "(C)Ljava/lang/StringBuilder;"⟩
abbrev cJ4_append_bf812 : ByteArray := prog_26_method_15_code
def yJ4_append_bf812 : MethodName := ⟨RJ4, "append", "(I)Ljava/lang/StringBuilder;"⟩
abbrev cJ4_toString_0e30d : ByteArray := prog_26_method_42_code
def yJ4_toString_0e30d : MethodName := ⟨RJ4, "toString", "()Ljava/lang/String;"⟩
abbrev cJ4_append_cf1ce : ByteArray := prog_26_method_80_code
def yJ4_append_cf1ce : MethodName := ⟨RJ4, "append", "(Ljava/lang/String;)Ljava/lang/AbstractStringBuilder;"⟩
abbrev cJ4_length_8abf5 : ByteArray := prog_26_method_93_code
def yJ4_length_8abf5 : MethodName := ⟨RJ4, "length", "()I"⟩
def RJ1 : String := "java/lang/StringLatin1"
def TJ1 : u_T := fun k => match k with
  | _ => ("", "", "", false)
def tyJ1 : Nat → FieldType := fun k => match k with
  | _ => .int
abbrev wsJ10 : List Cond := u_ws RJ1 TJ1 0
theorem nmJ1 : ∀ a, a < 0 → ∀ b, b < 0 → a ≠ b → (TJ1 a).2.1 ≠ (TJ1 b).2.1 := by decide +kernel
theorem tyJ1_ok : ∀ k, k < 0 → parseFieldDescriptor (TJ1 k).2.2.1 = some (tyJ1 k) := by decide +kernel
abbrev cJ1_charAt_3b067 : ByteArray := prog_27_method_2_code
def yJ1_charAt_3b067 : MethodName := ⟨RJ1, "charAt", "([BI)C"⟩
abbrev cJ1_canEncode_fc78d : ByteArray := prog_27_method_3_code
def yJ1_canEncode_fc78d : MethodName := ⟨RJ1, "canEncode", "(C)Z"⟩
abbrev cJ1_inflate_0e8fd : ByteArray := prog_27_method_50_code
def yJ1_inflate_0e8fd : MethodName := ⟨RJ1, "inflate", "([BI[BII)V"⟩
def RJ2 : String := "java/lang/StringUTF16"
def TJ2 : u_T := fun k => match k with
  | _ => ("", "", "", false)
def tyJ2 : Nat → FieldType := fun k => match k with
  | _ => .int
abbrev wsJ20 : List Cond := u_ws RJ2 TJ2 0
theorem nmJ2 : ∀ a, a < 0 → ∀ b, b < 0 → a ≠ b → (TJ2 a).2.1 ≠ (TJ2 b).2.1 := by decide +kernel
theorem tyJ2_ok : ∀ k, k < 0 → parseFieldDescriptor (TJ2 k).2.2.1 = some (tyJ2 k) := by decide +kernel
abbrev cJ2_newBytesFor_77867 : ByteArray := prog_28_method_2_code
def yJ2_newBytesFor_77867 : MethodName := ⟨RJ2, "newBytesFor", "(I)[B"⟩
abbrev cJ2_newBytesLength_0f7a4 : ByteArray := prog_28_method_3_code
def yJ2_newBytesLength_0f7a4 : MethodName := ⟨RJ2, "newBytesLength", "(I)I"⟩
abbrev cJ2_putChar_b72d1 : ByteArray := prog_28_method_4_code
def yJ2_putChar_b72d1 : MethodName := ⟨RJ2, "putChar", "([BII)V"⟩
abbrev cJ2_getChar_3b067 : ByteArray := prog_28_method_5_code
def yJ2_getChar_3b067 : MethodName := ⟨RJ2, "getChar", "([BI)C"⟩
abbrev cJ2_length_9d52b : ByteArray := prog_28_method_6_code
def yJ2_length_9d52b : MethodName := ⟨RJ2, "length", "([B)I"⟩
abbrev cJ2_coderFromArrayLen_85cad : ByteArray := prog_28_method_15_code
def yJ2_coderFromArrayLen_85cad : MethodName := ⟨RJ2, "coderFromArrayLen", "([BI)B"⟩
abbrev cJ2_compress_39247 : ByteArray := prog_28_method_17_code
def yJ2_compress_39247 : MethodName := ⟨RJ2, "compress", "([BII)[B"⟩
abbrev cJ2_compress_5af95 : ByteArray := prog_28_method_22_code
def yJ2_compress_5af95 : MethodName := ⟨RJ2, "compress", "([BI[BII)I"⟩
abbrev cJ2_putCharSB_b72d1 : ByteArray := prog_28_method_71_code
def yJ2_putCharSB_b72d1 : MethodName := ⟨RJ2, "putCharSB", "([BII)V"⟩
abbrev cJ2_getChars_46870 : ByteArray := prog_28_method_77_code
def yJ2_getChars_46870 : MethodName := ⟨RJ2, "getChars", "(III[B)I"⟩
abbrev cJ2_putCharsAt_cd4e5 : ByteArray := prog_28_method_81_code
def yJ2_putCharsAt_cd4e5 : MethodName := ⟨RJ2, "putCharsAt", "([BICCCC)I"⟩
abbrev cJ2_charAt_3b067 : ByteArray := prog_28_method_83_code
def yJ2_charAt_3b067 : MethodName := ⟨RJ2, "charAt", "([BI)C"⟩
abbrev cJ2_inflate_0e8fd : ByteArray := prog_28_method_86_code
def yJ2_inflate_0e8fd : MethodName := ⟨RJ2, "inflate", "([BI[BII)V"⟩
abbrev cJ2_getChars_ba4f3 : ByteArray := prog_28_method_89_code
def yJ2_getChars_ba4f3 : MethodName := ⟨RJ2, "getChars", "(II[B)I"⟩
abbrev cJ2_checkIndex_2214a : ByteArray := prog_28_method_91_code
def yJ2_checkIndex_2214a : MethodName := ⟨RJ2, "checkIndex", "(I[B)V"⟩
abbrev cJ2_checkBoundsBeginEnd_d044e : ByteArray := prog_28_method_93_code
def yJ2_checkBoundsBeginEnd_d044e : MethodName := ⟨RJ2, "checkBoundsBeginEnd", "(II[B)V"⟩
abbrev cJ2_checkBoundsOffCount_d044e : ByteArray := prog_28_method_94_code
def yJ2_checkBoundsOffCount_d044e : MethodName := ⟨RJ2, "checkBoundsOffCount", "(II[B)V"⟩
def RJ10 : String := "java/lang/System"
def TJ10 : u_T := fun k => match k with
  | _ => ("", "", "", false)
def tyJ10 : Nat → FieldType := fun k => match k with
  | _ => .int
abbrev wsJ100 : List Cond := u_ws RJ10 TJ10 0
theorem nmJ10 : ∀ a, a < 0 → ∀ b, b < 0 → a ≠ b → (TJ10 a).2.1 ≠ (TJ10 b).2.1 := by decide +kernel
theorem tyJ10_ok : ∀ k, k < 0 → parseFieldDescriptor (TJ10 k).2.2.1 = some (tyJ10 k) := by decide +kernel
def RJ7 : String := "java/util/Arrays"
def TJ7 : u_T := fun k => match k with
  | _ => ("", "", "", false)
def tyJ7 : Nat → FieldType := fun k => match k with
  | _ => .int
abbrev wsJ70 : List Cond := u_ws RJ7 TJ7 0
theorem nmJ7 : ∀ a, a < 0 → ∀ b, b < 0 → a ≠ b → (TJ7 a).2.1 ≠ (TJ7 b).2.1 := by decide +kernel
theorem tyJ7_ok : ∀ k, k < 0 → parseFieldDescriptor (TJ7 k).2.2.1 = some (tyJ7 k) := by decide +kernel
abbrev cJ7_copyOf_9075b : ByteArray := prog_31_method_121_code
def yJ7_copyOf_9075b : MethodName := ⟨RJ7, "copyOf", "([BI)[B"⟩
abbrev cJ7_checkLength_df160 : ByteArray := prog_31_method_131_code
def yJ7_checkLength_df160 : MethodName := ⟨RJ7, "checkLength", "(II)V"⟩
abbrev cJ7_copyOfRange_39247 : ByteArray := prog_31_method_132_code
def yJ7_copyOfRange_39247 : MethodName := ⟨RJ7, "copyOfRange", "([BII)[B"⟩
abbrev cJ7_copyOfRangeByte_39247 : ByteArray := prog_31_method_133_code
def yJ7_copyOfRangeByte_39247 : MethodName := ⟨RJ7, "copyOfRangeByte", "([BII)[B"⟩
def RJ8 : String := "jdk/internal/util/ArraysSupport"
def TJ8 : u_T := fun k => match k with
  | _ => ("", "", "", false)
def tyJ8 : Nat → FieldType := fun k => match k with
  | _ => .int
abbrev wsJ80 : List Cond := u_ws RJ8 TJ8 0
theorem nmJ8 : ∀ a, a < 0 → ∀ b, b < 0 → a ≠ b → (TJ8 a).2.1 ≠ (TJ8 b).2.1 := by decide +kernel
theorem tyJ8_ok : ∀ k, k < 0 → parseFieldDescriptor (TJ8 k).2.2.1 = some (tyJ8 k) := by decide +kernel
abbrev cJ8_newLength_cabcc : ByteArray := prog_32_method_27_code
def yJ8_newLength_cabcc : MethodName := ⟨RJ8, "newLength", "(III)I"⟩
abbrev cJ8_hugeLength_7cf53 : ByteArray := prog_32_method_28_code
def yJ8_hugeLength_7cf53 : MethodName := ⟨RJ8, "hugeLength", "(II)I"⟩
def RJ3 : String := "jdk/internal/util/Preconditions"
def TJ3 : u_T := fun k => match k with
  | _ => ("", "", "", false)
def tyJ3 : Nat → FieldType := fun k => match k with
  | _ => .int
abbrev wsJ30 : List Cond := u_ws RJ3 TJ3 0
theorem nmJ3 : ∀ a, a < 0 → ∀ b, b < 0 → a ≠ b → (TJ3 a).2.1 ≠ (TJ3 b).2.1 := by decide +kernel
theorem tyJ3_ok : ∀ k, k < 0 → parseFieldDescriptor (TJ3 k).2.2.1 = some (tyJ3 k) := by decide +kernel
abbrev cJ3_checkIndex_8e157 : ByteArray := prog_33_method_11_code
def yJ3_checkIndex_8e157 : MethodName := ⟨RJ3, "checkIndex", "(IILjava/util/function/BiFunction;)I"⟩
abbrev cJ3_checkFromToIndex_8c36e : ByteArray := prog_33_method_12_code
def yJ3_checkFromToIndex_8c36e : MethodName := ⟨RJ3, "checkFromToIndex", "(IIILjava/util/function/BiFunction;)I"⟩
abbrev cJ3_checkFromIndexSize_8c36e : ByteArray := prog_33_method_13_code
def yJ3_checkFromIndexSize_8c36e : MethodName := ⟨RJ3, "checkFromIndexSize", "(IIILjava/util/function/BiFunction;)I"⟩
def RL : String := "PastryBenchLaw"
abbrev cL_most : ByteArray := method_2_code
def yL_most : MethodName := ⟨RL, "most", "(II)I"⟩
abbrev cL_cell : ByteArray := method_3_code
def yL_cell : MethodName := ⟨RL, "cell", "([II)I"⟩
abbrev cL_add : ByteArray := method_4_code
def yL_add : MethodName := ⟨RL, "add", "(LPastryBench;[II)V"⟩
abbrev cL_say : ByteArray := method_5_code
def yL_say : MethodName := ⟨RL, "say", "(LPastryBench;[ILjava/lang/String;)V"⟩
abbrev cL_end : ByteArray := method_6_code
def yL_end : MethodName := ⟨RL, "end", "(LPastryBench;[I)I"⟩
abbrev cL_all : ByteArray := method_7_code
def yL_all : MethodName := ⟨RL, "all", "(LPastryBench;)[I"⟩
abbrev cL_alike : ByteArray := method_8_code
def yL_alike : MethodName := ⟨RL, "alike", "([I[I)Z"⟩
abbrev cL_isBench : ByteArray := method_9_code
def yL_isBench : MethodName := ⟨RL, "isBench", "(LPastryBench;)Z"⟩
abbrev cL_act : ByteArray := method_10_code
def yL_act : MethodName := ⟨RL, "act", "(LPastryBench;I)Z"⟩
abbrev cL_law : ByteArray := code
def yL_law : MethodName := ⟨RL, "law", "([I)Z"⟩
abbrev vwCl : List vw_C := [(RX1, TX1, 8), (RX3, TX3, 2), (RX4, TX4, 2), (RX5, TX5, 4), (RX7, TX7, 4), (RX8, TX8, 9), (RX10, TX10, 6), (RX11, TX11, 10), (RJ0, TJ0, 4), (RJ4, TJ4, 4)]
