/-! ===== BEGIN printed: names, fields, word lists, decode rows ===== -/
def RX0 : String := "SpiceScale$Caravan"
def TX0 : u_T := fun k => match k with
  | 0 => ("SpiceScale$Caravan", "day", "I", false)
  | 1 => ("SpiceScale$Caravan", "market", "I", false)
  | 2 => ("SpiceScale$Caravan", "coins", "I", false)
  | 3 => ("SpiceScale$Caravan", "thumb", "I", false)
  | 4 => ("SpiceScale$Caravan", "jars", "I", false)
  | 5 => ("SpiceScale$Caravan", "jarSpice", "[I", true)
  | 6 => ("SpiceScale$Caravan", "jarGrains", "[I", true)
  | 7 => ("SpiceScale$Caravan", "bags", "I", false)
  | 8 => ("SpiceScale$Caravan", "bagTare", "[I", true)
  | 9 => ("SpiceScale$Caravan", "bagDust", "[I", true)
  | 10 => ("SpiceScale$Caravan", "bagSpice", "[I", true)
  | 11 => ("SpiceScale$Caravan", "bagGrains", "[I", true)
  | 12 => ("SpiceScale$Caravan", "bagWeighings", "[I", true)
  | 13 => ("SpiceScale$Caravan", "uses", "[I", true)
  | 14 => ("SpiceScale$Caravan", "lastOathDay", "[I", true)
  | 15 => ("SpiceScale$Caravan", "soldBags", "I", false)
  | 16 => ("SpiceScale$Caravan", "soldGrains", "I", false)
  | 17 => ("SpiceScale$Caravan", "soldNet", "I", false)
  | _ => ("SpiceScale$Caravan", "coinsGot", "I", false)
def tyX0 : Nat → FieldType := fun k => match k with
  | 0 => .int
  | 1 => .int
  | 2 => .int
  | 3 => .int
  | 4 => .int
  | 5 => .array .int
  | 6 => .array .int
  | 7 => .int
  | 8 => .array .int
  | 9 => .array .int
  | 10 => .array .int
  | 11 => .array .int
  | 12 => .array .int
  | 13 => .array .int
  | 14 => .array .int
  | 15 => .int
  | 16 => .int
  | 17 => .int
  | _ => .int
theorem nmX0 : ∀ a, a < 19 → ∀ b, b < 19 → a ≠ b → (TX0 a).2.1 ≠ (TX0 b).2.1 := by decide +kernel
theorem tyX0_ok : ∀ k, k < 19 → parseFieldDescriptor (TX0 k).2.2.1 = some (tyX0 k) := by decide +kernel
abbrev cX0_init : ByteArray := prog_2_method_1_code
def yX0_init : MethodName := ⟨RX0, "<init>", "()V"⟩
abbrev cX0_copyFrom : ByteArray := prog_2_method_2_code
def yX0_copyFrom : MethodName := ⟨RX0, "copyFrom", "(LSpiceScale$Caravan;)V"⟩
abbrev cX0_carryOut : ByteArray := prog_2_method_3_code
def yX0_carryOut : MethodName := ⟨RX0, "carryOut", "(IIII)I"⟩
abbrev cX0_addJar : ByteArray := prog_2_method_4_code
def yX0_addJar : MethodName := ⟨RX0, "addJar", "(II)I"⟩
abbrev cX0_addBag : ByteArray := prog_2_method_5_code
def yX0_addBag : MethodName := ⟨RX0, "addBag", "(I)I"⟩
abbrev cX0_fillBag : ByteArray := prog_2_method_6_code
def yX0_fillBag : MethodName := ⟨RX0, "fillBag", "(III)I"⟩
abbrev cX0_emptyBag : ByteArray := prog_2_method_7_code
def yX0_emptyBag : MethodName := ⟨RX0, "emptyBag", "(II)I"⟩
abbrev cX0_clearBag : ByteArray := prog_2_method_8_code
def yX0_clearBag : MethodName := ⟨RX0, "clearBag", "(I)V"⟩
abbrev cX0_beatBag : ByteArray := prog_2_method_9_code
def yX0_beatBag : MethodName := ⟨RX0, "beatBag", "(I)I"⟩
abbrev cX0_setThumb : ByteArray := prog_2_method_10_code
def yX0_setThumb : MethodName := ⟨RX0, "setThumb", "(I)I"⟩
abbrev cX0_weighBag : ByteArray := prog_2_method_11_code
def yX0_weighBag : MethodName := ⟨RX0, "weighBag", "(I)I"⟩
abbrev cX0_sellBag : ByteArray := prog_2_method_12_code
def yX0_sellBag : MethodName := ⟨RX0, "sellBag", "(I)I"⟩
abbrev cX0_swearOath : ByteArray := prog_2_method_13_code
def yX0_swearOath : MethodName := ⟨RX0, "swearOath", "()I"⟩
abbrev cX0_travelTo : ByteArray := prog_2_method_14_code
def yX0_travelTo : MethodName := ⟨RX0, "travelTo", "(I)I"⟩
abbrev cX0_sealWeight : ByteArray := prog_2_method_15_code
def yX0_sealWeight : MethodName := ⟨RX0, "sealWeight", "(I)I"⟩
abbrev cX0_letDaysGo : ByteArray := prog_2_method_16_code
def yX0_letDaysGo : MethodName := ⟨RX0, "letDaysGo", "(I)I"⟩
abbrev cX0_hasJar : ByteArray := prog_2_method_17_code
def yX0_hasJar : MethodName := ⟨RX0, "hasJar", "(I)Z"⟩
abbrev cX0_hasBag : ByteArray := prog_2_method_18_code
def yX0_hasBag : MethodName := ⟨RX0, "hasBag", "(I)Z"⟩
abbrev cX0_loadOf : ByteArray := prog_2_method_19_code
def yX0_loadOf : MethodName := ⟨RX0, "loadOf", "(I)I"⟩
abbrev cX0_dustTogether : ByteArray := prog_2_method_20_code
def yX0_dustTogether : MethodName := ⟨RX0, "dustTogether", "()I"⟩
abbrev cX0_distanceTo : ByteArray := prog_2_method_21_code
def yX0_distanceTo : MethodName := ⟨RX0, "distanceTo", "(I)I"⟩
abbrev cX0_isOathInForce : ByteArray := prog_2_method_22_code
def yX0_isOathInForce : MethodName := ⟨RX0, "isOathInForce", "(I)Z"⟩
abbrev cX0_oathDaysLeft : ByteArray := prog_2_method_23_code
def yX0_oathDaysLeft : MethodName := ⟨RX0, "oathDaysLeft", "()I"⟩
abbrev cX0_oathsInForce : ByteArray := prog_2_method_24_code
def yX0_oathsInForce : MethodName := ⟨RX0, "oathsInForce", "()I"⟩
abbrev cX0_shortnessOf : ByteArray := prog_2_method_25_code
def yX0_shortnessOf : MethodName := ⟨RX0, "shortnessOf", "(I)I"⟩
abbrev cX0_usesToBeShorter : ByteArray := prog_2_method_26_code
def yX0_usesToBeShorter : MethodName := ⟨RX0, "usesToBeShorter", "(I)I"⟩
abbrev cX0_shortnessTogether : ByteArray := prog_2_method_27_code
def yX0_shortnessTogether : MethodName := ⟨RX0, "shortnessTogether", "(I)I"⟩
abbrev cX0_weightsFor : ByteArray := prog_2_method_28_code
def yX0_weightsFor : MethodName := ⟨RX0, "weightsFor", "(I)I"⟩
abbrev cX0_restOf : ByteArray := prog_2_method_29_code
def yX0_restOf : MethodName := ⟨RX0, "restOf", "(I)I"⟩
abbrev cX0_netOf : ByteArray := prog_2_method_30_code
def yX0_netOf : MethodName := ⟨RX0, "netOf", "(I)I"⟩
abbrev cX0_coinsFor : ByteArray := prog_2_method_31_code
def yX0_coinsFor : MethodName := ⟨RX0, "coinsFor", "(III)I"⟩
abbrev cX0_marketThatGivesMost : ByteArray := prog_2_method_32_code
def yX0_marketThatGivesMost : MethodName := ⟨RX0, "marketThatGivesMost", "(I)I"⟩
abbrev cX0_bagOfRank : ByteArray := prog_2_method_33_code
def yX0_bagOfRank : MethodName := ⟨RX0, "bagOfRank", "(I)I"⟩
abbrev cX0_isBefore : ByteArray := prog_2_method_34_code
def yX0_isBefore : MethodName := ⟨RX0, "isBefore", "(II)Z"⟩
def RX1 : String := "SpiceScale$CommandText"
def TX1 : u_T := fun k => match k with
  | 0 => ("SpiceScale$CommandText", "characters", "[C", true)
  | 1 => ("SpiceScale$CommandText", "length", "I", false)
  | 2 => ("SpiceScale$CommandText", "position", "I", false)
  | 3 => ("SpiceScale$CommandText", "action", "I", false)
  | _ => ("SpiceScale$CommandText", "numbers", "[I", true)
def tyX1 : Nat → FieldType := fun k => match k with
  | 0 => .array .char
  | 1 => .int
  | 2 => .int
  | 3 => .int
  | _ => .array .int
theorem nmX1 : ∀ a, a < 5 → ∀ b, b < 5 → a ≠ b → (TX1 a).2.1 ≠ (TX1 b).2.1 := by decide +kernel
theorem tyX1_ok : ∀ k, k < 5 → parseFieldDescriptor (TX1 k).2.2.1 = some (tyX1 k) := by decide +kernel
abbrev cX1_init : ByteArray := prog_3_method_1_code
def yX1_init : MethodName := ⟨RX1, "<init>", "()V"⟩
abbrev cX1_countCommands : ByteArray := prog_3_method_2_code
def yX1_countCommands : MethodName := ⟨RX1, "countCommands", "()I"⟩
abbrev cX1_readCommand : ByteArray := prog_3_method_3_code
def yX1_readCommand : MethodName := ⟨RX1, "readCommand", "()Z"⟩
abbrev cX1_formBehind : ByteArray := prog_3_method_4_code
def yX1_formBehind : MethodName := ⟨RX1, "formBehind", "(I)Ljava/lang/String;"⟩
abbrev cX1_readForm : ByteArray := prog_3_method_5_code
def yX1_readForm : MethodName := ⟨RX1, "readForm", "(Ljava/lang/String;)Z"⟩
abbrev cX1_readCharacter : ByteArray := prog_3_method_6_code
def yX1_readCharacter : MethodName := ⟨RX1, "readCharacter", "(C)Z"⟩
abbrev cX1_readNumber : ByteArray := prog_3_method_7_code
def yX1_readNumber : MethodName := ⟨RX1, "readNumber", "(II)Z"⟩
abbrev cX1_isDigit : ByteArray := prog_3_method_8_code
def yX1_isDigit : MethodName := ⟨RX1, "isDigit", "(C)Z"⟩
def RX2 : String := "SpiceScale$History"
def TX2 : u_T := fun k => match k with
  | 0 => ("SpiceScale$History", "slots", "[LSpiceScale$Caravan;", true)
  | 1 => ("SpiceScale$History", "held", "I", false)
  | _ => ("SpiceScale$History", "kept", "I", false)
def tyX2 : Nat → FieldType := fun k => match k with
  | 0 => .array (.object "SpiceScale$Caravan")
  | 1 => .int
  | _ => .int
theorem nmX2 : ∀ a, a < 3 → ∀ b, b < 3 → a ≠ b → (TX2 a).2.1 ≠ (TX2 b).2.1 := by decide +kernel
theorem tyX2_ok : ∀ k, k < 3 → parseFieldDescriptor (TX2 k).2.2.1 = some (tyX2 k) := by decide +kernel
abbrev cX2_init : ByteArray := prog_4_method_1_code
def yX2_init : MethodName := ⟨RX2, "<init>", "()V"⟩
abbrev cX2_hold : ByteArray := prog_4_method_2_code
def yX2_hold : MethodName := ⟨RX2, "hold", "(LSpiceScale$Caravan;)V"⟩
abbrev cX2_bringBackHeld : ByteArray := prog_4_method_3_code
def yX2_bringBackHeld : MethodName := ⟨RX2, "bringBackHeld", "(LSpiceScale$Caravan;)V"⟩
abbrev cX2_keepHeld : ByteArray := prog_4_method_4_code
def yX2_keepHeld : MethodName := ⟨RX2, "keepHeld", "()V"⟩
abbrev cX2_takeBack : ByteArray := prog_4_method_5_code
def yX2_takeBack : MethodName := ⟨RX2, "takeBack", "(LSpiceScale$Caravan;)V"⟩
def RX3 : String := "SpiceScale$Refusal"
def TX3 : u_T := fun k => match k with
  | 0 => ("SpiceScale$Refusal", "reason", "I", false)
  | 1 => ("SpiceScale$Refusal", "detail", "I", false)
  | _ => ("SpiceScale$Refusal", "command", "I", false)
def tyX3 : Nat → FieldType := fun k => match k with
  | 0 => .int
  | 1 => .int
  | _ => .int
theorem nmX3 : ∀ a, a < 3 → ∀ b, b < 3 → a ≠ b → (TX3 a).2.1 ≠ (TX3 b).2.1 := by decide +kernel
theorem tyX3_ok : ∀ k, k < 3 → parseFieldDescriptor (TX3 k).2.2.1 = some (tyX3 k) := by decide +kernel
abbrev cX3_init : ByteArray := prog_5_method_1_code
def yX3_init : MethodName := ⟨RX3, "<init>", "()V"⟩
abbrev cX3_applies : ByteArray := prog_5_method_2_code
def yX3_applies : MethodName := ⟨RX3, "applies", "(LSpiceScale$Caravan;IIII)Z"⟩
abbrev cX3_ofJar : ByteArray := prog_5_method_3_code
def yX3_ofJar : MethodName := ⟨RX3, "ofJar", "(LSpiceScale$Caravan;II)Z"⟩
abbrev cX3_ofBag : ByteArray := prog_5_method_4_code
def yX3_ofBag : MethodName := ⟨RX3, "ofBag", "(LSpiceScale$Caravan;I)Z"⟩
abbrev cX3_ofFilling : ByteArray := prog_5_method_5_code
def yX3_ofFilling : MethodName := ⟨RX3, "ofFilling", "(LSpiceScale$Caravan;III)Z"⟩
abbrev cX3_ofEmptying : ByteArray := prog_5_method_6_code
def yX3_ofEmptying : MethodName := ⟨RX3, "ofEmptying", "(LSpiceScale$Caravan;II)Z"⟩
abbrev cX3_ofOtherSpice : ByteArray := prog_5_method_7_code
def yX3_ofOtherSpice : MethodName := ⟨RX3, "ofOtherSpice", "(LSpiceScale$Caravan;II)Z"⟩
abbrev cX3_ofThumb : ByteArray := prog_5_method_8_code
def yX3_ofThumb : MethodName := ⟨RX3, "ofThumb", "(LSpiceScale$Caravan;I)Z"⟩
abbrev cX3_ofSelling : ByteArray := prog_5_method_9_code
def yX3_ofSelling : MethodName := ⟨RX3, "ofSelling", "(LSpiceScale$Caravan;I)Z"⟩
abbrev cX3_ofOath : ByteArray := prog_5_method_10_code
def yX3_ofOath : MethodName := ⟨RX3, "ofOath", "(LSpiceScale$Caravan;)Z"⟩
abbrev cX3_ofOathHere : ByteArray := prog_5_method_11_code
def yX3_ofOathHere : MethodName := ⟨RX3, "ofOathHere", "(LSpiceScale$Caravan;)Z"⟩
abbrev cX3_ofGoing : ByteArray := prog_5_method_12_code
def yX3_ofGoing : MethodName := ⟨RX3, "ofGoing", "(LSpiceScale$Caravan;I)Z"⟩
abbrev cX3_ofSealing : ByteArray := prog_5_method_13_code
def yX3_ofSealing : MethodName := ⟨RX3, "ofSealing", "(LSpiceScale$Caravan;I)Z"⟩
abbrev cX3_ofMissing : ByteArray := prog_5_method_14_code
def yX3_ofMissing : MethodName := ⟨RX3, "ofMissing", "(ZI)Z"⟩
abbrev cX3_keepIf : ByteArray := prog_5_method_15_code
def yX3_keepIf : MethodName := ⟨RX3, "keepIf", "(ZII)Z"⟩
def RX4 : String := "SpiceScale"
def TX4 : u_T := fun k => match k with
  | 0 => ("SpiceScale", "now", "LSpiceScale$Caravan;", true)
  | 1 => ("SpiceScale", "snapshot", "LSpiceScale$Caravan;", true)
  | 2 => ("SpiceScale", "hasSnapshot", "Z", false)
  | 3 => ("SpiceScale", "history", "LSpiceScale$History;", true)
  | 4 => ("SpiceScale", "refusal", "LSpiceScale$Refusal;", true)
  | 5 => ("SpiceScale", "text", "LSpiceScale$CommandText;", true)
  | 6 => ("SpiceScale", "fault", "I", false)
  | _ => ("SpiceScale", "lineText", "Ljava/lang/StringBuilder;", true)
def tyX4 : Nat → FieldType := fun k => match k with
  | 0 => .object "SpiceScale$Caravan"
  | 1 => .object "SpiceScale$Caravan"
  | 2 => .boolean
  | 3 => .object "SpiceScale$History"
  | 4 => .object "SpiceScale$Refusal"
  | 5 => .object "SpiceScale$CommandText"
  | 6 => .int
  | _ => .object "java/lang/StringBuilder"
theorem nmX4 : ∀ a, a < 8 → ∀ b, b < 8 → a ≠ b → (TX4 a).2.1 ≠ (TX4 b).2.1 := by decide +kernel
theorem tyX4_ok : ∀ k, k < 8 → parseFieldDescriptor (TX4 k).2.2.1 = some (tyX4 k) := by decide +kernel
abbrev cX4_init : ByteArray := prog_1_method_1_code
def yX4_init : MethodName := ⟨RX4, "<init>", "()V"⟩
abbrev cX4_jar : ByteArray := prog_1_method_2_code
def yX4_jar : MethodName := ⟨RX4, "jar", "(II)I"⟩
abbrev cX4_bag : ByteArray := prog_1_method_3_code
def yX4_bag : MethodName := ⟨RX4, "bag", "(I)I"⟩
abbrev cX4_fill : ByteArray := prog_1_method_4_code
def yX4_fill : MethodName := ⟨RX4, "fill", "(III)I"⟩
abbrev cX4_empty : ByteArray := prog_1_method_5_code
def yX4_empty : MethodName := ⟨RX4, "empty", "(II)I"⟩
abbrev cX4_beat : ByteArray := prog_1_method_6_code
def yX4_beat : MethodName := ⟨RX4, "beat", "(I)I"⟩
abbrev cX4_thumb : ByteArray := prog_1_method_7_code
def yX4_thumb : MethodName := ⟨RX4, "thumb", "(I)I"⟩
abbrev cX4_weigh : ByteArray := prog_1_method_8_code
def yX4_weigh : MethodName := ⟨RX4, "weigh", "(I)I"⟩
abbrev cX4_sell : ByteArray := prog_1_method_9_code
def yX4_sell : MethodName := ⟨RX4, "sell", "(I)I"⟩
abbrev cX4_oath : ByteArray := prog_1_method_10_code
def yX4_oath : MethodName := ⟨RX4, "oath", "()I"⟩
abbrev cX4_go : ByteArray := prog_1_method_11_code
def yX4_go : MethodName := ⟨RX4, "go", "(I)I"⟩
abbrev cX4_seal : ByteArray := prog_1_method_12_code
def yX4_seal : MethodName := ⟨RX4, "seal", "(I)I"⟩
abbrev cX4_days : ByteArray := prog_1_method_13_code
def yX4_days : MethodName := ⟨RX4, "days", "(I)I"⟩
abbrev cX4_jarOf : ByteArray := prog_1_method_14_code
def yX4_jarOf : MethodName := ⟨RX4, "jarOf", "(IZ)I"⟩
abbrev cX4_bagOf : ByteArray := prog_1_method_15_code
def yX4_bagOf : MethodName := ⟨RX4, "bagOf", "(II)I"⟩
abbrev cX4_weightOf : ByteArray := prog_1_method_16_code
def yX4_weightOf : MethodName := ⟨RX4, "weightOf", "(II)I"⟩
abbrev cX4_told : ByteArray := prog_1_method_17_code
def yX4_told : MethodName := ⟨RX4, "told", "(I)I"⟩
abbrev cX4_toldAgain : ByteArray := prog_1_method_18_code
def yX4_toldAgain : MethodName := ⟨RX4, "toldAgain", "(I)I"⟩
abbrev cX4_onPan : ByteArray := prog_1_method_19_code
def yX4_onPan : MethodName := ⟨RX4, "onPan", "(I)I"⟩
abbrev cX4_rest : ByteArray := prog_1_method_20_code
def yX4_rest : MethodName := ⟨RX4, "rest", "(I)I"⟩
abbrev cX4_honest : ByteArray := prog_1_method_21_code
def yX4_honest : MethodName := ⟨RX4, "honest", "(I)I"⟩
abbrev cX4_pays : ByteArray := prog_1_method_22_code
def yX4_pays : MethodName := ⟨RX4, "pays", "(II)I"⟩
abbrev cX4_wouldGet : ByteArray := prog_1_method_23_code
def yX4_wouldGet : MethodName := ⟨RX4, "wouldGet", "(II)I"⟩
abbrev cX4_bestMarket : ByteArray := prog_1_method_24_code
def yX4_bestMarket : MethodName := ⟨RX4, "bestMarket", "(I)I"⟩
abbrev cX4_oathUntil : ByteArray := prog_1_method_25_code
def yX4_oathUntil : MethodName := ⟨RX4, "oathUntil", "(I)I"⟩
abbrev cX4_isNoticed : ByteArray := prog_1_method_26_code
def yX4_isNoticed : MethodName := ⟨RX4, "isNoticed", "(I)Z"⟩
abbrev cX4_ranked : ByteArray := prog_1_method_27_code
def yX4_ranked : MethodName := ⟨RX4, "ranked", "(I)I"⟩
abbrev cX4_append : ByteArray := prog_1_method_28_code
def yX4_append : MethodName := ⟨RX4, "append", "(C)I"⟩
abbrev cX4_commands : ByteArray := prog_1_method_29_code
def yX4_commands : MethodName := ⟨RX4, "commands", "()I"⟩
abbrev cX4_faultPosition : ByteArray := prog_1_method_30_code
def yX4_faultPosition : MethodName := ⟨RX4, "faultPosition", "()I"⟩
abbrev cX4_reason : ByteArray := prog_1_method_31_code
def yX4_reason : MethodName := ⟨RX4, "reason", "(I)I"⟩
abbrev cX4_line : ByteArray := prog_1_method_32_code
def yX4_line : MethodName := ⟨RX4, "line", "(I)I"⟩
abbrev cX4_character : ByteArray := prog_1_method_33_code
def yX4_character : MethodName := ⟨RX4, "character", "(I)C"⟩
abbrev cX4_meanDust : ByteArray := prog_1_method_34_code
def yX4_meanDust : MethodName := ⟨RX4, "meanDust", "()F"⟩
abbrev cX4_honestShare : ByteArray := prog_1_method_35_code
def yX4_honestShare : MethodName := ⟨RX4, "honestShare", "()D"⟩
abbrev cX4_account : ByteArray := prog_1_method_36_code
def yX4_account : MethodName := ⟨RX4, "account", "(I)I"⟩
abbrev cX4_undo : ByteArray := prog_1_method_37_code
def yX4_undo : MethodName := ⟨RX4, "undo", "()I"⟩
abbrev cX4_save : ByteArray := prog_1_method_38_code
def yX4_save : MethodName := ⟨RX4, "save", "()I"⟩
abbrev cX4_restore : ByteArray := prog_1_method_39_code
def yX4_restore : MethodName := ⟨RX4, "restore", "()I"⟩
abbrev cX4_checkBag : ByteArray := prog_1_method_40_code
def yX4_checkBag : MethodName := ⟨RX4, "checkBag", "(I)V"⟩
abbrev cX4_checkMarket : ByteArray := prog_1_method_41_code
def yX4_checkMarket : MethodName := ⟨RX4, "checkMarket", "(I)V"⟩
abbrev cX4_checkFilled : ByteArray := prog_1_method_42_code
def yX4_checkFilled : MethodName := ⟨RX4, "checkFilled", "(I)V"⟩
abbrev cX4_change : ByteArray := prog_1_method_43_code
def yX4_change : MethodName := ⟨RX4, "change", "(IIII)I"⟩
abbrev cX4_carryOutCommands : ByteArray := prog_1_method_44_code
def yX4_carryOutCommands : MethodName := ⟨RX4, "carryOutCommands", "(I)Z"⟩
abbrev cX4_writeLine : ByteArray := prog_1_method_45_code
def yX4_writeLine : MethodName := ⟨RX4, "writeLine", "(I)V"⟩
abbrev cX4_isMarket : ByteArray := prog_1_method_46_code
def yX4_isMarket : MethodName := ⟨RX4, "isMarket", "(I)Z"⟩
abbrev cX4_isSpice : ByteArray := prog_1_method_47_code
def yX4_isSpice : MethodName := ⟨RX4, "isSpice", "(I)Z"⟩
abbrev cX4_isWeight : ByteArray := prog_1_method_48_code
def yX4_isWeight : MethodName := ⟨RX4, "isWeight", "(I)Z"⟩
abbrev cX4_isAmong : ByteArray := prog_1_method_49_code
def yX4_isAmong : MethodName := ⟨RX4, "isAmong", "(II)Z"⟩
abbrev cX4_priceOf : ByteArray := prog_1_method_50_code
def yX4_priceOf : MethodName := ⟨RX4, "priceOf", "(II)I"⟩
abbrev cX4_toldBy : ByteArray := prog_1_method_51_code
def yX4_toldBy : MethodName := ⟨RX4, "toldBy", "(I)I"⟩
abbrev cX4_sumOf : ByteArray := prog_1_method_52_code
def yX4_sumOf : MethodName := ⟨RX4, "sumOf", "([II)I"⟩
def RX5 : String := "SpiceScaleModel"
def TX5 : u_T := fun k => match k with
  | _ => ("", "", "", false)
def tyX5 : Nat → FieldType := fun k => match k with
  | _ => .int
theorem nmX5 : ∀ a, a < 0 → ∀ b, b < 0 → a ≠ b → (TX5 a).2.1 ≠ (TX5 b).2.1 := by decide +kernel
theorem tyX5_ok : ∀ k, k < 0 → parseFieldDescriptor (TX5 k).2.2.1 = some (tyX5 k) := by decide +kernel
def RJx145de : String := "java/io/Serializable"
def TJx145de : u_T := fun k => match k with
  | _ => ("", "", "", false)
def tyJx145de : Nat → FieldType := fun k => match k with
  | _ => .int
theorem nmJx145de : ∀ a, a < 0 → ∀ b, b < 0 → a ≠ b → (TJx145de a).2.1 ≠ (TJx145de b).2.1 := by decide +kernel
theorem tyJx145de_ok : ∀ k, k < 0 → parseFieldDescriptor (TJx145de k).2.2.1 = some (tyJx145de k) := by decide +kernel
def RJ5 : String := "java/lang/AbstractStringBuilder"
def TJ5 : u_T := fun k => match k with
  | _ => ("", "", "", false)
def tyJ5 : Nat → FieldType := fun k => match k with
  | _ => .int
theorem nmJ5 : ∀ a, a < 0 → ∀ b, b < 0 → a ≠ b → (TJ5 a).2.1 ≠ (TJ5 b).2.1 := by decide +kernel
theorem tyJ5_ok : ∀ k, k < 0 → parseFieldDescriptor (TJ5 k).2.2.1 = some (tyJ5 k) := by decide +kernel
abbrev cJ5_init_d00df : ByteArray := prog_9_method_2_code
def yJ5_init_d00df : MethodName := ⟨RJ5, "<init>", "(I)V"⟩
abbrev cJ5_length_8abf5 : ByteArray := prog_9_method_6_code
def yJ5_length_8abf5 : MethodName := ⟨RJ5, "length", "()I"⟩
abbrev cJ5_ensureCapacityInternal_d00df : ByteArray := prog_9_method_9_code
def yJ5_ensureCapacityInternal_d00df : MethodName := ⟨RJ5, "ensureCapacityInternal", "(I)V"⟩
abbrev cJ5_newCapacity_0f7a4 : ByteArray := prog_9_method_10_code
def yJ5_newCapacity_0f7a4 : MethodName := ⟨RJ5, "newCapacity", "(I)I"⟩
abbrev cJ5_inflate_da8c8 : ByteArray := prog_9_method_11_code
def yJ5_inflate_da8c8 : MethodName := ⟨RJ5, "inflate", "()V"⟩
abbrev cJ5_setLength_d00df : ByteArray := prog_9_method_13_code
def yJ5_setLength_d00df : MethodName := ⟨RJ5, "setLength", "(I)V"⟩
abbrev cJ5_charAt_5068e : ByteArray := prog_9_method_14_code
def yJ5_charAt_5068e : MethodName := ⟨RJ5, "charAt", "(I)C"⟩
abbrev cJ5_append_cf1ce : ByteArray := prog_9_method_22_code
def yJ5_append_cf1ce : MethodName := ⟨RJ5, "append", "(Ljava/lang/String;)Ljava/lang/AbstractStringBuilder;"⟩
abbrev cJ5_appendNull_278bc : ByteArray := prog_9_method_26_code
def yJ5_appendNull_278bc : MethodName := ⟨RJ5, "appendNull", "()Ljava/lang/AbstractStringBuilder;"⟩
abbrev cJ5_append_3fe6f : ByteArray := prog_9_method_31_code
def yJ5_append_3fe6f : MethodName := ⟨RJ5, "append", "(C)Ljava/lang/AbstractStringBuilder;"⟩
abbrev cJ5_append_c97b9 : ByteArray := prog_9_method_32_code
def yJ5_append_c97b9 : MethodName := ⟨RJ5, "append", "(I)Ljava/lang/AbstractStringBuilder;"⟩
abbrev cJ5_getValue_6d5f1 : ByteArray := prog_9_method_64_code
def yJ5_getValue_6d5f1 : MethodName := ⟨RJ5, "getValue", "()[B"⟩
abbrev cJ5_isLatin1_aae02 : ByteArray := prog_9_method_68_code
def yJ5_isLatin1_aae02 : MethodName := ⟨RJ5, "isLatin1", "()Z"⟩
abbrev cJ5_inflateIfNeededFor_a7421 : ByteArray := prog_9_method_71_code
def yJ5_inflateIfNeededFor_a7421 : MethodName := ⟨RJ5, "inflateIfNeededFor", "(Ljava/lang/String;)V"⟩
abbrev cJ5_putStringAt_47b60 : ByteArray := prog_9_method_73_code
def yJ5_putStringAt_47b60 : MethodName := ⟨RJ5, "putStringAt", "(ILjava/lang/String;)V"⟩
def RJx2cfe8 : String := "java/lang/Appendable"
def TJx2cfe8 : u_T := fun k => match k with
  | _ => ("", "", "", false)
def tyJx2cfe8 : Nat → FieldType := fun k => match k with
  | _ => .int
theorem nmJx2cfe8 : ∀ a, a < 0 → ∀ b, b < 0 → a ≠ b → (TJx2cfe8 a).2.1 ≠ (TJx2cfe8 b).2.1 := by decide +kernel
theorem tyJx2cfe8_ok : ∀ k, k < 0 → parseFieldDescriptor (TJx2cfe8 k).2.2.1 = some (tyJx2cfe8 k) := by decide +kernel
def RJx00060 : String := "java/lang/ArrayIndexOutOfBoundsException"
def TJx00060 : u_T := fun k => match k with
  | 0 => ("java/lang/Throwable", "backtrace", "Ljava/lang/Object;", false)
  | 1 => ("java/lang/Throwable", "detailMessage", "Ljava/lang/String;", false)
  | 2 => ("java/lang/Throwable", "cause", "Ljava/lang/Throwable;", false)
  | 3 => ("java/lang/Throwable", "stackTrace", "[Ljava/lang/StackTraceElement;", false)
  | 4 => ("java/lang/Throwable", "depth", "I", false)
  | _ => ("java/lang/Throwable", "suppressedExceptions", "Ljava/util/List;", false)
def tyJx00060 : Nat → FieldType := fun k => match k with
  | 0 => .object "java/lang/Object"
  | 1 => .object "java/lang/String"
  | 2 => .object "java/lang/Throwable"
  | 3 => .array (.object "java/lang/StackTraceElement")
  | 4 => .int
  | _ => .object "java/util/List"
theorem nmJx00060 : ∀ a, a < 6 → ∀ b, b < 6 → a ≠ b → (TJx00060 a).2.1 ≠ (TJx00060 b).2.1 := by decide +kernel
theorem tyJx00060_ok : ∀ k, k < 6 → parseFieldDescriptor (TJx00060 k).2.2.1 = some (tyJx00060 k) := by decide +kernel
abbrev cJx00060_init_a7421 : ByteArray := prog_12_method_2_code
def yJx00060_init_a7421 : MethodName := ⟨RJx00060, "<init>", "(Ljava/lang/String;)V"⟩
abbrev cJx00060_init_d00df : ByteArray := prog_12_method_3_code
def yJx00060_init_d00df : MethodName := ⟨RJx00060, "<init>", "(I)V"⟩
def RJx9f9b0 : String := "java/lang/CharSequence"
def TJx9f9b0 : u_T := fun k => match k with
  | _ => ("", "", "", false)
def tyJx9f9b0 : Nat → FieldType := fun k => match k with
  | _ => .int
theorem nmJx9f9b0 : ∀ a, a < 0 → ∀ b, b < 0 → a ≠ b → (TJx9f9b0 a).2.1 ≠ (TJx9f9b0 b).2.1 := by decide +kernel
theorem tyJx9f9b0_ok : ∀ k, k < 0 → parseFieldDescriptor (TJx9f9b0 k).2.2.1 = some (tyJx9f9b0 k) := by decide +kernel
def RJx8e188 : String := "java/lang/Cloneable"
def TJx8e188 : u_T := fun k => match k with
  | _ => ("", "", "", false)
def tyJx8e188 : Nat → FieldType := fun k => match k with
  | _ => .int
theorem nmJx8e188 : ∀ a, a < 0 → ∀ b, b < 0 → a ≠ b → (TJx8e188 a).2.1 ≠ (TJx8e188 b).2.1 := by decide +kernel
theorem tyJx8e188_ok : ∀ k, k < 0 → parseFieldDescriptor (TJx8e188 k).2.2.1 = some (tyJx8e188 k) := by decide +kernel
def RJxb160c : String := "java/lang/Comparable"
def TJxb160c : u_T := fun k => match k with
  | _ => ("", "", "", false)
def tyJxb160c : Nat → FieldType := fun k => match k with
  | _ => .int
theorem nmJxb160c : ∀ a, a < 0 → ∀ b, b < 0 → a ≠ b → (TJxb160c a).2.1 ≠ (TJxb160c b).2.1 := by decide +kernel
theorem tyJxb160c_ok : ∀ k, k < 0 → parseFieldDescriptor (TJxb160c k).2.2.1 = some (tyJxb160c k) := by decide +kernel
def RJxe99ae : String := "java/lang/Double"
def TJxe99ae : u_T := fun k => match k with
  | _ => ("", "", "", false)
def tyJxe99ae : Nat → FieldType := fun k => match k with
  | _ => .int
theorem nmJxe99ae : ∀ a, a < 0 → ∀ b, b < 0 → a ≠ b → (TJxe99ae a).2.1 ≠ (TJxe99ae b).2.1 := by decide +kernel
theorem tyJxe99ae_ok : ∀ k, k < 0 → parseFieldDescriptor (TJxe99ae k).2.2.1 = some (tyJxe99ae k) := by decide +kernel
abbrev cJxe99ae_isNaN_b9ae7 : ByteArray := prog_16_method_6_code
def yJxe99ae_isNaN_b9ae7 : MethodName := ⟨RJxe99ae, "isNaN", "(D)Z"⟩
abbrev cJxe99ae_doubleToLongBits_ccdee : ByteArray := prog_16_method_23_code
def yJxe99ae_doubleToLongBits_ccdee : MethodName := ⟨RJxe99ae, "doubleToLongBits", "(D)J"⟩
def RJxf58ca : String := "java/lang/Float"
def TJxf58ca : u_T := fun k => match k with
  | _ => ("", "", "", false)
def tyJxf58ca : Nat → FieldType := fun k => match k with
  | _ => .int
theorem nmJxf58ca : ∀ a, a < 0 → ∀ b, b < 0 → a ≠ b → (TJxf58ca a).2.1 ≠ (TJxf58ca b).2.1 := by decide +kernel
theorem tyJxf58ca_ok : ∀ k, k < 0 → parseFieldDescriptor (TJxf58ca k).2.2.1 = some (tyJxf58ca k) := by decide +kernel
abbrev cJxf58ca_isNaN_12338 : ByteArray := prog_18_method_6_code
def yJxf58ca_isNaN_12338 : MethodName := ⟨RJxf58ca, "isNaN", "(F)Z"⟩
abbrev cJxf58ca_floatToIntBits_5c35a : ByteArray := prog_18_method_24_code
def yJxf58ca_floatToIntBits_5c35a : MethodName := ⟨RJxf58ca, "floatToIntBits", "(F)I"⟩
def RJ6 : String := "java/lang/Integer"
def TJ6 : u_T := fun k => match k with
  | _ => ("", "", "", false)
def tyJ6 : Nat → FieldType := fun k => match k with
  | _ => .int
theorem nmJ6 : ∀ a, a < 0 → ∀ b, b < 0 → a ≠ b → (TJ6 a).2.1 ≠ (TJ6 b).2.1 := by decide +kernel
theorem tyJ6_ok : ∀ k, k < 0 → parseFieldDescriptor (TJ6 k).2.2.1 = some (tyJ6 k) := by decide +kernel
abbrev cJ6_getChars_ba4f3 : ByteArray := prog_22_method_12_code
def yJ6_getChars_ba4f3 : MethodName := ⟨RJ6, "getChars", "(II[B)I"⟩
abbrev cJ6_stringSize_0f7a4 : ByteArray := prog_22_method_13_code
def yJ6_stringSize_0f7a4 : MethodName := ⟨RJ6, "stringSize", "(I)I"⟩
def RJ9 : String := "java/lang/Math"
def TJ9 : u_T := fun k => match k with
  | _ => ("", "", "", false)
def tyJ9 : Nat → FieldType := fun k => match k with
  | _ => .int
theorem nmJ9 : ∀ a, a < 0 → ∀ b, b < 0 → a ≠ b → (TJ9 a).2.1 ≠ (TJ9 b).2.1 := by decide +kernel
theorem tyJ9_ok : ∀ k, k < 0 → parseFieldDescriptor (TJ9 k).2.2.1 = some (tyJ9 k) := by decide +kernel
abbrev cJ9_abs_0f7a4 : ByteArray := prog_23_method_59_code
def yJ9_abs_0f7a4 : MethodName := ⟨RJ9, "abs", "(I)I"⟩
abbrev cJ9_max_7cf53 : ByteArray := prog_23_method_65_code
def yJ9_max_7cf53 : MethodName := ⟨RJ9, "max", "(II)I"⟩
abbrev cJ9_min_7cf53 : ByteArray := prog_23_method_69_code
def yJ9_min_7cf53 : MethodName := ⟨RJ9, "min", "(II)I"⟩
def RJxd2413 : String := "java/lang/Number"
def TJxd2413 : u_T := fun k => match k with
  | _ => ("", "", "", false)
def tyJxd2413 : Nat → FieldType := fun k => match k with
  | _ => .int
theorem nmJxd2413 : ∀ a, a < 0 → ∀ b, b < 0 → a ≠ b → (TJxd2413 a).2.1 ≠ (TJxd2413 b).2.1 := by decide +kernel
theorem tyJxd2413_ok : ∀ k, k < 0 → parseFieldDescriptor (TJxd2413 k).2.2.1 = some (tyJxd2413 k) := by decide +kernel
def RJ0 : String := "java/lang/String"
def TJ0 : u_T := fun k => match k with
  | 0 => ("java/lang/String", "value", "[B", true)
  | 1 => ("java/lang/String", "coder", "B", true)
  | 2 => ("java/lang/String", "hash", "I", false)
  | _ => ("java/lang/String", "hashIsZero", "Z", false)
def tyJ0 : Nat → FieldType := fun k => match k with
  | 0 => .array .byte
  | 1 => .byte
  | 2 => .int
  | _ => .boolean
theorem nmJ0 : ∀ a, a < 4 → ∀ b, b < 4 → a ≠ b → (TJ0 a).2.1 ≠ (TJ0 b).2.1 := by decide +kernel
theorem tyJ0_ok : ∀ k, k < 4 → parseFieldDescriptor (TJ0 k).2.2.1 = some (tyJ0 k) := by decide +kernel
abbrev cJ0_init_81219 : ByteArray := prog_26_method_53_code
def yJ0_init_81219 : MethodName := ⟨RJ0, "<init>", "(Ljava/lang/StringBuilder;)V"⟩
abbrev cJ0_length_8abf5 : ByteArray := prog_26_method_54_code
def yJ0_length_8abf5 : MethodName := ⟨RJ0, "length", "()I"⟩
abbrev cJ0_charAt_5068e : ByteArray := prog_26_method_56_code
def yJ0_charAt_5068e : MethodName := ⟨RJ0, "charAt", "(I)C"⟩
abbrev cJ0_getBytes_840e7 : ByteArray := prog_26_method_147_code
def yJ0_getBytes_840e7 : MethodName := ⟨RJ0, "getBytes", "([BIB)V"⟩
abbrev cJ0_init_db425 : ByteArray := prog_26_method_150_code
def yJ0_init_db425 : MethodName := ⟨RJ0, "<init>", "(Ljava/lang/AbstractStringBuilder;Ljava/lang/Void;)V"⟩
abbrev cJ0_coder_7d493 : ByteArray := prog_26_method_152_code
def yJ0_coder_7d493 : MethodName := ⟨RJ0, "coder", "()B"⟩
abbrev cJ0_isLatin1_aae02 : ByteArray := prog_26_method_154_code
def yJ0_isLatin1_aae02 : MethodName := ⟨RJ0, "isLatin1", "()Z"⟩
abbrev cJ0_checkIndex_df160 : ByteArray := prog_26_method_155_code
def yJ0_checkIndex_df160 : MethodName := ⟨RJ0, "checkIndex", "(II)V"⟩
abbrev cJ0_checkBoundsOffCount_cabcc : ByteArray := prog_26_method_157_code
def yJ0_checkBoundsOffCount_cabcc : MethodName := ⟨RJ0, "checkBoundsOffCount", "(III)I"⟩
abbrev cJ0_checkBoundsBeginEnd_23922 : ByteArray := prog_26_method_158_code
def yJ0_checkBoundsBeginEnd_23922 : MethodName := ⟨RJ0, "checkBoundsBeginEnd", "(III)V"⟩
def RJ4 : String := "java/lang/StringBuilder"
def TJ4 : u_T := fun k => match k with
  | 0 => ("java/lang/AbstractStringBuilder", "value", "[B", false)
  | 1 => ("java/lang/AbstractStringBuilder", "coder", "B", false)
  | 2 => ("java/lang/AbstractStringBuilder", "maybeLatin1", "Z", false)
  | _ => ("java/lang/AbstractStringBuilder", "count", "I", false)
def tyJ4 : Nat → FieldType := fun k => match k with
  | 0 => .array .byte
  | 1 => .byte
  | 2 => .boolean
  | _ => .int
theorem nmJ4 : ∀ a, a < 4 → ∀ b, b < 4 → a ≠ b → (TJ4 a).2.1 ≠ (TJ4 b).2.1 := by decide +kernel
theorem tyJ4_ok : ∀ k, k < 4 → parseFieldDescriptor (TJ4 k).2.2.1 = some (tyJ4 k) := by decide +kernel
abbrev cJ4_init_da8c8 : ByteArray := prog_27_method_1_code
def yJ4_init_da8c8 : MethodName := ⟨RJ4, "<init>", "()V"⟩
abbrev cJ4_append_15ec4 : ByteArray := prog_27_method_7_code
def yJ4_append_15ec4 : MethodName := ⟨RJ4, "append", "(Ljava/lang/String;)Ljava/lang/StringBuilder;"⟩
abbrev cJ4_append_cf468 : ByteArray := prog_27_method_14_code
def yJ4_append_cf468 : MethodName := ⟨RJ4, "append", "(C)Ljava/lang/StringBuilder;"⟩
abbrev cJ4_append_bf812 : ByteArray := prog_27_method_15_code
def yJ4_append_bf812 : MethodName := ⟨RJ4, "append", "(I)Ljava/lang/StringBuilder;"⟩
abbrev cJ4_toString_0e30d : ByteArray := prog_27_method_42_code
def yJ4_toString_0e30d : MethodName := ⟨RJ4, "toString", "()Ljava/lang/String;"⟩
abbrev cJ4_charAt_5068e : ByteArray := prog_27_method_88_code
def yJ4_charAt_5068e : MethodName := ⟨RJ4, "charAt", "(I)C"⟩
abbrev cJ4_setLength_d00df : ByteArray := prog_27_method_89_code
def yJ4_setLength_d00df : MethodName := ⟨RJ4, "setLength", "(I)V"⟩
abbrev cJ4_length_8abf5 : ByteArray := prog_27_method_93_code
def yJ4_length_8abf5 : MethodName := ⟨RJ4, "length", "()I"⟩
def RJx7c733 : String := "java/lang/StringIndexOutOfBoundsException"
def TJx7c733 : u_T := fun k => match k with
  | 0 => ("java/lang/Throwable", "backtrace", "Ljava/lang/Object;", false)
  | 1 => ("java/lang/Throwable", "detailMessage", "Ljava/lang/String;", false)
  | 2 => ("java/lang/Throwable", "cause", "Ljava/lang/Throwable;", false)
  | 3 => ("java/lang/Throwable", "stackTrace", "[Ljava/lang/StackTraceElement;", false)
  | 4 => ("java/lang/Throwable", "depth", "I", false)
  | _ => ("java/lang/Throwable", "suppressedExceptions", "Ljava/util/List;", false)
def tyJx7c733 : Nat → FieldType := fun k => match k with
  | 0 => .object "java/lang/Object"
  | 1 => .object "java/lang/String"
  | 2 => .object "java/lang/Throwable"
  | 3 => .array (.object "java/lang/StackTraceElement")
  | 4 => .int
  | _ => .object "java/util/List"
theorem nmJx7c733 : ∀ a, a < 6 → ∀ b, b < 6 → a ≠ b → (TJx7c733 a).2.1 ≠ (TJx7c733 b).2.1 := by decide +kernel
theorem tyJx7c733_ok : ∀ k, k < 6 → parseFieldDescriptor (TJx7c733 k).2.2.1 = some (tyJx7c733 k) := by decide +kernel
abbrev cJx7c733_init_d00df : ByteArray := prog_28_method_3_code
def yJx7c733_init_d00df : MethodName := ⟨RJx7c733, "<init>", "(I)V"⟩
def RJ1 : String := "java/lang/StringLatin1"
def TJ1 : u_T := fun k => match k with
  | _ => ("", "", "", false)
def tyJ1 : Nat → FieldType := fun k => match k with
  | _ => .int
theorem nmJ1 : ∀ a, a < 0 → ∀ b, b < 0 → a ≠ b → (TJ1 a).2.1 ≠ (TJ1 b).2.1 := by decide +kernel
theorem tyJ1_ok : ∀ k, k < 0 → parseFieldDescriptor (TJ1 k).2.2.1 = some (tyJ1 k) := by decide +kernel
abbrev cJ1_charAt_3b067 : ByteArray := prog_29_method_2_code
def yJ1_charAt_3b067 : MethodName := ⟨RJ1, "charAt", "([BI)C"⟩
abbrev cJ1_canEncode_fc78d : ByteArray := prog_29_method_3_code
def yJ1_canEncode_fc78d : MethodName := ⟨RJ1, "canEncode", "(C)Z"⟩
abbrev cJ1_fillNull_b72d1 : ByteArray := prog_29_method_48_code
def yJ1_fillNull_b72d1 : MethodName := ⟨RJ1, "fillNull", "([BII)V"⟩
abbrev cJ1_inflate_0e8fd : ByteArray := prog_29_method_50_code
def yJ1_inflate_0e8fd : MethodName := ⟨RJ1, "inflate", "([BI[BII)V"⟩
def RJ2 : String := "java/lang/StringUTF16"
def TJ2 : u_T := fun k => match k with
  | _ => ("", "", "", false)
def tyJ2 : Nat → FieldType := fun k => match k with
  | _ => .int
theorem nmJ2 : ∀ a, a < 0 → ∀ b, b < 0 → a ≠ b → (TJ2 a).2.1 ≠ (TJ2 b).2.1 := by decide +kernel
theorem tyJ2_ok : ∀ k, k < 0 → parseFieldDescriptor (TJ2 k).2.2.1 = some (tyJ2 k) := by decide +kernel
abbrev cJ2_newBytesFor_77867 : ByteArray := prog_30_method_2_code
def yJ2_newBytesFor_77867 : MethodName := ⟨RJ2, "newBytesFor", "(I)[B"⟩
abbrev cJ2_newBytesLength_0f7a4 : ByteArray := prog_30_method_3_code
def yJ2_newBytesLength_0f7a4 : MethodName := ⟨RJ2, "newBytesLength", "(I)I"⟩
abbrev cJ2_putChar_b72d1 : ByteArray := prog_30_method_4_code
def yJ2_putChar_b72d1 : MethodName := ⟨RJ2, "putChar", "([BII)V"⟩
abbrev cJ2_getChar_3b067 : ByteArray := prog_30_method_5_code
def yJ2_getChar_3b067 : MethodName := ⟨RJ2, "getChar", "([BI)C"⟩
abbrev cJ2_length_9d52b : ByteArray := prog_30_method_6_code
def yJ2_length_9d52b : MethodName := ⟨RJ2, "length", "([B)I"⟩
abbrev cJ2_coderFromArrayLen_85cad : ByteArray := prog_30_method_15_code
def yJ2_coderFromArrayLen_85cad : MethodName := ⟨RJ2, "coderFromArrayLen", "([BI)B"⟩
abbrev cJ2_compress_39247 : ByteArray := prog_30_method_17_code
def yJ2_compress_39247 : MethodName := ⟨RJ2, "compress", "([BII)[B"⟩
abbrev cJ2_compress_5af95 : ByteArray := prog_30_method_22_code
def yJ2_compress_5af95 : MethodName := ⟨RJ2, "compress", "([BI[BII)I"⟩
abbrev cJ2_fillNull_b72d1 : ByteArray := prog_30_method_70_code
def yJ2_fillNull_b72d1 : MethodName := ⟨RJ2, "fillNull", "([BII)V"⟩
abbrev cJ2_putCharSB_b72d1 : ByteArray := prog_30_method_71_code
def yJ2_putCharSB_b72d1 : MethodName := ⟨RJ2, "putCharSB", "([BII)V"⟩
abbrev cJ2_getChars_46870 : ByteArray := prog_30_method_77_code
def yJ2_getChars_46870 : MethodName := ⟨RJ2, "getChars", "(III[B)I"⟩
abbrev cJ2_putCharsAt_cd4e5 : ByteArray := prog_30_method_81_code
def yJ2_putCharsAt_cd4e5 : MethodName := ⟨RJ2, "putCharsAt", "([BICCCC)I"⟩
abbrev cJ2_charAt_3b067 : ByteArray := prog_30_method_83_code
def yJ2_charAt_3b067 : MethodName := ⟨RJ2, "charAt", "([BI)C"⟩
abbrev cJ2_inflate_0e8fd : ByteArray := prog_30_method_86_code
def yJ2_inflate_0e8fd : MethodName := ⟨RJ2, "inflate", "([BI[BII)V"⟩
abbrev cJ2_getChars_ba4f3 : ByteArray := prog_30_method_89_code
def yJ2_getChars_ba4f3 : MethodName := ⟨RJ2, "getChars", "(II[B)I"⟩
abbrev cJ2_checkIndex_2214a : ByteArray := prog_30_method_91_code
def yJ2_checkIndex_2214a : MethodName := ⟨RJ2, "checkIndex", "(I[B)V"⟩
abbrev cJ2_checkBoundsBeginEnd_d044e : ByteArray := prog_30_method_93_code
def yJ2_checkBoundsBeginEnd_d044e : MethodName := ⟨RJ2, "checkBoundsBeginEnd", "(II[B)V"⟩
abbrev cJ2_checkBoundsOffCount_d044e : ByteArray := prog_30_method_94_code
def yJ2_checkBoundsOffCount_d044e : MethodName := ⟨RJ2, "checkBoundsOffCount", "(II[B)V"⟩
def RJ10 : String := "java/lang/System"
def TJ10 : u_T := fun k => match k with
  | _ => ("", "", "", false)
def tyJ10 : Nat → FieldType := fun k => match k with
  | _ => .int
theorem nmJ10 : ∀ a, a < 0 → ∀ b, b < 0 → a ≠ b → (TJ10 a).2.1 ≠ (TJ10 b).2.1 := by decide +kernel
theorem tyJ10_ok : ∀ k, k < 0 → parseFieldDescriptor (TJ10 k).2.2.1 = some (tyJ10 k) := by decide +kernel
def RJxfd54e : String := "java/lang/constant/Constable"
def TJxfd54e : u_T := fun k => match k with
  | _ => ("", "", "", false)
def tyJxfd54e : Nat → FieldType := fun k => match k with
  | _ => .int
theorem nmJxfd54e : ∀ a, a < 0 → ∀ b, b < 0 → a ≠ b → (TJxfd54e a).2.1 ≠ (TJxfd54e b).2.1 := by decide +kernel
theorem tyJxfd54e_ok : ∀ k, k < 0 → parseFieldDescriptor (TJxfd54e k).2.2.1 = some (tyJxfd54e k) := by decide +kernel
def RJx3cf43 : String := "java/lang/constant/ConstantDesc"
def TJx3cf43 : u_T := fun k => match k with
  | _ => ("", "", "", false)
def tyJx3cf43 : Nat → FieldType := fun k => match k with
  | _ => .int
theorem nmJx3cf43 : ∀ a, a < 0 → ∀ b, b < 0 → a ≠ b → (TJx3cf43 a).2.1 ≠ (TJx3cf43 b).2.1 := by decide +kernel
theorem tyJx3cf43_ok : ∀ k, k < 0 → parseFieldDescriptor (TJx3cf43 k).2.2.1 = some (tyJx3cf43 k) := by decide +kernel
def RJ7 : String := "java/util/Arrays"
def TJ7 : u_T := fun k => match k with
  | _ => ("", "", "", false)
def tyJ7 : Nat → FieldType := fun k => match k with
  | _ => .int
theorem nmJ7 : ∀ a, a < 0 → ∀ b, b < 0 → a ≠ b → (TJ7 a).2.1 ≠ (TJ7 b).2.1 := by decide +kernel
theorem tyJ7_ok : ∀ k, k < 0 → parseFieldDescriptor (TJ7 k).2.2.1 = some (tyJ7 k) := by decide +kernel
abbrev cJ7_rangeCheck_23922 : ByteArray := prog_36_method_30_code
def yJ7_rangeCheck_23922 : MethodName := ⟨RJ7, "rangeCheck", "(III)V"⟩
abbrev cJ7_fill_eb02e : ByteArray := prog_36_method_110_code
def yJ7_fill_eb02e : MethodName := ⟨RJ7, "fill", "([BIIB)V"⟩
abbrev cJ7_copyOf_9075b : ByteArray := prog_36_method_121_code
def yJ7_copyOf_9075b : MethodName := ⟨RJ7, "copyOf", "([BI)[B"⟩
abbrev cJ7_checkLength_df160 : ByteArray := prog_36_method_131_code
def yJ7_checkLength_df160 : MethodName := ⟨RJ7, "checkLength", "(II)V"⟩
abbrev cJ7_copyOfRange_39247 : ByteArray := prog_36_method_132_code
def yJ7_copyOfRange_39247 : MethodName := ⟨RJ7, "copyOfRange", "([BII)[B"⟩
abbrev cJ7_copyOfRangeByte_39247 : ByteArray := prog_36_method_133_code
def yJ7_copyOfRangeByte_39247 : MethodName := ⟨RJ7, "copyOfRangeByte", "([BII)[B"⟩
def RJ8 : String := "jdk/internal/util/ArraysSupport"
def TJ8 : u_T := fun k => match k with
  | _ => ("", "", "", false)
def tyJ8 : Nat → FieldType := fun k => match k with
  | _ => .int
theorem nmJ8 : ∀ a, a < 0 → ∀ b, b < 0 → a ≠ b → (TJ8 a).2.1 ≠ (TJ8 b).2.1 := by decide +kernel
theorem tyJ8_ok : ∀ k, k < 0 → parseFieldDescriptor (TJ8 k).2.2.1 = some (tyJ8 k) := by decide +kernel
abbrev cJ8_newLength_cabcc : ByteArray := prog_38_method_27_code
def yJ8_newLength_cabcc : MethodName := ⟨RJ8, "newLength", "(III)I"⟩
abbrev cJ8_hugeLength_7cf53 : ByteArray := prog_38_method_28_code
def yJ8_hugeLength_7cf53 : MethodName := ⟨RJ8, "hugeLength", "(II)I"⟩
def RJ3 : String := "jdk/internal/util/Preconditions"
def TJ3 : u_T := fun k => match k with
  | _ => ("", "", "", false)
def tyJ3 : Nat → FieldType := fun k => match k with
  | _ => .int
theorem nmJ3 : ∀ a, a < 0 → ∀ b, b < 0 → a ≠ b → (TJ3 a).2.1 ≠ (TJ3 b).2.1 := by decide +kernel
theorem tyJ3_ok : ∀ k, k < 0 → parseFieldDescriptor (TJ3 k).2.2.1 = some (tyJ3 k) := by decide +kernel
abbrev cJ3_checkIndex_8e157 : ByteArray := prog_39_method_11_code
def yJ3_checkIndex_8e157 : MethodName := ⟨RJ3, "checkIndex", "(IILjava/util/function/BiFunction;)I"⟩
abbrev cJ3_checkFromToIndex_8c36e : ByteArray := prog_39_method_12_code
def yJ3_checkFromToIndex_8c36e : MethodName := ⟨RJ3, "checkFromToIndex", "(IIILjava/util/function/BiFunction;)I"⟩
abbrev cJ3_checkFromIndexSize_8c36e : ByteArray := prog_39_method_13_code
def yJ3_checkFromIndexSize_8c36e : MethodName := ⟨RJ3, "checkFromIndexSize", "(IIILjava/util/function/BiFunction;)I"⟩
def RL : String := "SpiceScaleLaw"
abbrev cL_at : ByteArray := method_2_code
def yL_at : MethodName := ⟨RL, "at", "([II)I"⟩
abbrev cL_some : ByteArray := method_3_code
def yL_some : MethodName := ⟨RL, "some", "(II)I"⟩
abbrev cL_jar : ByteArray := method_4_code
def yL_jar : MethodName := ⟨RL, "jar", "(LSpiceScale;II)I"⟩
abbrev cL_bag : ByteArray := method_5_code
def yL_bag : MethodName := ⟨RL, "bag", "(LSpiceScale;I)I"⟩
abbrev cL_fill : ByteArray := method_6_code
def yL_fill : MethodName := ⟨RL, "fill", "(LSpiceScale;III)I"⟩
abbrev cL_empty : ByteArray := method_7_code
def yL_empty : MethodName := ⟨RL, "empty", "(LSpiceScale;II)I"⟩
abbrev cL_beat : ByteArray := method_8_code
def yL_beat : MethodName := ⟨RL, "beat", "(LSpiceScale;I)I"⟩
abbrev cL_thumb : ByteArray := method_9_code
def yL_thumb : MethodName := ⟨RL, "thumb", "(LSpiceScale;I)I"⟩
abbrev cL_weigh : ByteArray := method_10_code
def yL_weigh : MethodName := ⟨RL, "weigh", "(LSpiceScale;I)I"⟩
abbrev cL_sell : ByteArray := method_11_code
def yL_sell : MethodName := ⟨RL, "sell", "(LSpiceScale;I)I"⟩
abbrev cL_oath : ByteArray := method_12_code
def yL_oath : MethodName := ⟨RL, "oath", "(LSpiceScale;)I"⟩
abbrev cL_go : ByteArray := method_13_code
def yL_go : MethodName := ⟨RL, "go", "(LSpiceScale;I)I"⟩
abbrev cL_seal : ByteArray := method_14_code
def yL_seal : MethodName := ⟨RL, "seal", "(LSpiceScale;I)I"⟩
abbrev cL_days : ByteArray := method_15_code
def yL_days : MethodName := ⟨RL, "days", "(LSpiceScale;I)I"⟩
abbrev cL_jarOf : ByteArray := method_16_code
def yL_jarOf : MethodName := ⟨RL, "jarOf", "(LSpiceScale;IZ)I"⟩
abbrev cL_bagOf : ByteArray := method_17_code
def yL_bagOf : MethodName := ⟨RL, "bagOf", "(LSpiceScale;II)I"⟩
abbrev cL_weightOf : ByteArray := method_18_code
def yL_weightOf : MethodName := ⟨RL, "weightOf", "(LSpiceScale;II)I"⟩
abbrev cL_told : ByteArray := method_19_code
def yL_told : MethodName := ⟨RL, "told", "(LSpiceScale;I)I"⟩
abbrev cL_toldAgain : ByteArray := method_20_code
def yL_toldAgain : MethodName := ⟨RL, "toldAgain", "(LSpiceScale;I)I"⟩
abbrev cL_onPan : ByteArray := method_21_code
def yL_onPan : MethodName := ⟨RL, "onPan", "(LSpiceScale;I)I"⟩
abbrev cL_rest : ByteArray := method_22_code
def yL_rest : MethodName := ⟨RL, "rest", "(LSpiceScale;I)I"⟩
abbrev cL_honest : ByteArray := method_23_code
def yL_honest : MethodName := ⟨RL, "honest", "(LSpiceScale;I)I"⟩
abbrev cL_pays : ByteArray := method_24_code
def yL_pays : MethodName := ⟨RL, "pays", "(LSpiceScale;II)I"⟩
abbrev cL_wouldGet : ByteArray := method_25_code
def yL_wouldGet : MethodName := ⟨RL, "wouldGet", "(LSpiceScale;II)I"⟩
abbrev cL_bestMarket : ByteArray := method_26_code
def yL_bestMarket : MethodName := ⟨RL, "bestMarket", "(LSpiceScale;I)I"⟩
abbrev cL_oathUntil : ByteArray := method_27_code
def yL_oathUntil : MethodName := ⟨RL, "oathUntil", "(LSpiceScale;I)I"⟩
abbrev cL_isNoticed : ByteArray := method_28_code
def yL_isNoticed : MethodName := ⟨RL, "isNoticed", "(LSpiceScale;I)I"⟩
abbrev cL_ranked : ByteArray := method_29_code
def yL_ranked : MethodName := ⟨RL, "ranked", "(LSpiceScale;I)I"⟩
abbrev cL_append : ByteArray := method_30_code
def yL_append : MethodName := ⟨RL, "append", "(LSpiceScale;C)I"⟩
abbrev cL_commands : ByteArray := method_31_code
def yL_commands : MethodName := ⟨RL, "commands", "(LSpiceScale;)I"⟩
abbrev cL_reason : ByteArray := method_32_code
def yL_reason : MethodName := ⟨RL, "reason", "(LSpiceScale;I)I"⟩
abbrev cL_line : ByteArray := method_33_code
def yL_line : MethodName := ⟨RL, "line", "(LSpiceScale;I)I"⟩
abbrev cL_character : ByteArray := method_34_code
def yL_character : MethodName := ⟨RL, "character", "(LSpiceScale;I)I"⟩
abbrev cL_meanDust : ByteArray := method_35_code
def yL_meanDust : MethodName := ⟨RL, "meanDust", "(LSpiceScale;)F"⟩
abbrev cL_honestShare : ByteArray := method_36_code
def yL_honestShare : MethodName := ⟨RL, "honestShare", "(LSpiceScale;)D"⟩
abbrev cL_account : ByteArray := method_37_code
def yL_account : MethodName := ⟨RL, "account", "(LSpiceScale;I)I"⟩
abbrev cL_undo : ByteArray := method_38_code
def yL_undo : MethodName := ⟨RL, "undo", "(LSpiceScale;)I"⟩
abbrev cL_restore : ByteArray := method_39_code
def yL_restore : MethodName := ⟨RL, "restore", "(LSpiceScale;)I"⟩
abbrev cL_reads : ByteArray := method_40_code
def yL_reads : MethodName := ⟨RL, "reads", "(LSpiceScale;Ljava/lang/String;)I"⟩
abbrev cL_is : ByteArray := method_41_code
def yL_is : MethodName := ⟨RL, "is", "(LSpiceScale;III)Z"⟩
abbrev cL_isLine : ByteArray := method_42_code
def yL_isLine : MethodName := ⟨RL, "isLine", "(LSpiceScale;ILjava/lang/String;)Z"⟩
abbrev cL_makes : ByteArray := method_43_code
def yL_makes : MethodName := ⟨RL, "makes", "(LSpiceScale;[I)Z"⟩
abbrev cL_asks : ByteArray := method_44_code
def yL_asks : MethodName := ⟨RL, "asks", "(LSpiceScale;)J"⟩
abbrev cL_changes : ByteArray := method_45_code
def yL_changes : MethodName := ⟨RL, "changes", "(LSpiceScale;I)Z"⟩
abbrev cL_refused : ByteArray := method_46_code
def yL_refused : MethodName := ⟨RL, "refused", "(LSpiceScale;)Z"⟩
abbrev cL_law : ByteArray := code
def yL_law : MethodName := ⟨RL, "law", "([I)Z"⟩
abbrev vwCl : List vw_C := [(RJ0, TJ0, 4), (RJ4, TJ4, 4), (RJx00060, TJx00060, 6), (RJx7c733, TJx7c733, 6), (RX0, TX0, 19), (RX1, TX1, 5), (RX2, TX2, 3), (RX3, TX3, 3), (RX4, TX4, 8)]
