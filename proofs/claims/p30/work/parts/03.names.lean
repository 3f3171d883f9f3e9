def RX0 : String := "EmbossPress$CrackFinder"
def TX0 : u_T := fun k => match k with
  | 0 => ("EmbossPress$CrackFinder", "strains", "[I", true)
  | 1 => ("EmbossPress$CrackFinder", "beside", "[I", true)
  | 2 => ("EmbossPress$CrackFinder", "breaking", "[I", true)
  | _ => ("EmbossPress$CrackFinder", "breakingCount", "I", false)
def tyX0 : Nat → FieldType := fun k => match k with
  | 0 => .array .int
  | 1 => .array .int
  | 2 => .array .int
  | _ => .int
theorem nmX0 : ∀ a, a < 4 → ∀ b, b < 4 → a ≠ b → (TX0 a).2.1 ≠ (TX0 b).2.1 := by decide +kernel
theorem tyX0_ok : ∀ k, k < 4 → parseFieldDescriptor (TX0 k).2.2.1 = some (tyX0 k) := by decide +kernel
abbrev cX0_init : ByteArray := prog_2_method_1_code
def yX0_init : MethodName := ⟨RX0, "<init>", "()V"⟩
abbrev cX0_crackAll : ByteArray := prog_2_method_2_code
def yX0_crackAll : MethodName := ⟨RX0, "crackAll", "(LEmbossPress$Sheet;II)I"⟩
abbrev cX0_crackAtFold : ByteArray := prog_2_method_3_code
def yX0_crackAtFold : MethodName := ⟨RX0, "crackAtFold", "(LEmbossPress$Sheet;III)I"⟩
abbrev cX0_findOverstrained : ByteArray := prog_2_method_4_code
def yX0_findOverstrained : MethodName := ⟨RX0, "findOverstrained", "(LEmbossPress$Sheet;II)V"⟩
abbrev cX0_noteIfWhole : ByteArray := prog_2_method_5_code
def yX0_noteIfWhole : MethodName := ⟨RX0, "noteIfWhole", "(LEmbossPress$Sheet;I)V"⟩
abbrev cX0_crackFound : ByteArray := prog_2_method_6_code
def yX0_crackFound : MethodName := ⟨RX0, "crackFound", "(LEmbossPress$Sheet;)I"⟩
abbrev cX0_weakenBeside : ByteArray := prog_2_method_7_code
def yX0_weakenBeside : MethodName := ⟨RX0, "weakenBeside", "(I)V"⟩
def RX1 : String := "EmbossPress$DieText"
def TX1 : u_T := fun k => match k with
  | 0 => ("EmbossPress$DieText", "codes", "[I", true)
  | _ => ("EmbossPress$DieText", "length", "I", false)
def tyX1 : Nat → FieldType := fun k => match k with
  | 0 => .array .int
  | _ => .int
theorem nmX1 : ∀ a, a < 2 → ∀ b, b < 2 → a ≠ b → (TX1 a).2.1 ≠ (TX1 b).2.1 := by decide +kernel
theorem tyX1_ok : ∀ k, k < 2 → parseFieldDescriptor (TX1 k).2.2.1 = some (tyX1 k) := by decide +kernel
abbrev cX1_init : ByteArray := prog_3_method_1_code
def yX1_init : MethodName := ⟨RX1, "<init>", "()V"⟩
def RX2 : String := "EmbossPress$Sheet"
def TX2 : u_T := fun k => match k with
  | 0 => ("EmbossPress$Sheet", "depths", "[I", true)
  | 1 => ("EmbossPress$Sheet", "foils", "[I", true)
  | 2 => ("EmbossPress$Sheet", "cracks", "[I", true)
  | _ => ("EmbossPress$Sheet", "pressings", "[I", true)
def tyX2 : Nat → FieldType := fun k => match k with
  | 0 => .array .int
  | 1 => .array .int
  | 2 => .array .int
  | _ => .array .int
theorem nmX2 : ∀ a, a < 4 → ∀ b, b < 4 → a ≠ b → (TX2 a).2.1 ≠ (TX2 b).2.1 := by decide +kernel
theorem tyX2_ok : ∀ k, k < 4 → parseFieldDescriptor (TX2 k).2.2.1 = some (tyX2 k) := by decide +kernel
abbrev cX2_init : ByteArray := prog_4_method_1_code
def yX2_init : MethodName := ⟨RX2, "<init>", "()V"⟩
abbrev cX2_makeNew : ByteArray := prog_4_method_2_code
def yX2_makeNew : MethodName := ⟨RX2, "makeNew", "()V"⟩
abbrev cX2_copyFrom : ByteArray := prog_4_method_3_code
def yX2_copyFrom : MethodName := ⟨RX2, "copyFrom", "(LEmbossPress$Sheet;)V"⟩
abbrev cX2_copyStrength : ByteArray := prog_4_method_4_code
def yX2_copyStrength : MethodName := ⟨RX2, "copyStrength", "(LEmbossPress$Sheet;)V"⟩
abbrev cX2_depthAt : ByteArray := prog_4_method_5_code
def yX2_depthAt : MethodName := ⟨RX2, "depthAt", "(II)I"⟩
abbrev cX2_emboss : ByteArray := prog_4_method_6_code
def yX2_emboss : MethodName := ⟨RX2, "emboss", "([IJJ)V"⟩
abbrev cX2_strainOf : ByteArray := prog_4_method_7_code
def yX2_strainOf : MethodName := ⟨RX2, "strainOf", "(I)I"⟩
abbrev cX2_difference : ByteArray := prog_4_method_8_code
def yX2_difference : MethodName := ⟨RX2, "difference", "(II)I"⟩
abbrev cX2_crackedBeside : ByteArray := prog_4_method_9_code
def yX2_crackedBeside : MethodName := ⟨RX2, "crackedBeside", "(I)I"⟩
abbrev cX2_bearingOf : ByteArray := prog_4_method_10_code
def yX2_bearingOf : MethodName := ⟨RX2, "bearingOf", "(III)I"⟩
abbrev cX2_cracked : ByteArray := prog_4_method_12_code
def yX2_cracked : MethodName := ⟨RX2, "cracked", "()I"⟩
abbrev cX2_foiled : ByteArray := prog_4_method_13_code
def yX2_foiled : MethodName := ⟨RX2, "foiled", "()I"⟩
abbrev cX2_greatestDepth : ByteArray := prog_4_method_14_code
def yX2_greatestDepth : MethodName := ⟨RX2, "greatestDepth", "()I"⟩
abbrev cX2_strainByPlaces : ByteArray := prog_4_method_15_code
def yX2_strainByPlaces : MethodName := ⟨RX2, "strainByPlaces", "()I"⟩
abbrev cX2_strainByPairs : ByteArray := prog_4_method_16_code
def yX2_strainByPairs : MethodName := ⟨RX2, "strainByPairs", "()I"⟩
def RX3 : String := "EmbossPress$State"
def TX3 : u_T := fun k => match k with
  | 0 => ("EmbossPress$State", "points", "[I", true)
  | 1 => ("EmbossPress$State", "settings", "[I", true)
  | 2 => ("EmbossPress$State", "paper", "LEmbossPress$Sheet;", true)
  | 3 => ("EmbossPress$State", "slip", "I", false)
  | 4 => ("EmbossPress$State", "presses", "I", false)
  | 5 => ("EmbossPress$State", "pressesSincePin", "I", false)
  | 6 => ("EmbossPress$State", "refusals", "I", false)
  | 7 => ("EmbossPress$State", "cracksSoFar", "I", false)
  | 8 => ("EmbossPress$State", "sheets", "I", false)
  | 9 => ("EmbossPress$State", "folds", "I", false)
  | 10 => ("EmbossPress$State", "readyFoil", "I", false)
  | 11 => ("EmbossPress$State", "readyLeft", "I", false)
  | 12 => ("EmbossPress$State", "readyTop", "I", false)
  | 13 => ("EmbossPress$State", "readyRight", "I", false)
  | _ => ("EmbossPress$State", "readyBottom", "I", false)
def tyX3 : Nat → FieldType := fun k => match k with
  | 0 => .array .int
  | 1 => .array .int
  | 2 => .object "EmbossPress$Sheet"
  | 3 => .int
  | 4 => .int
  | 5 => .int
  | 6 => .int
  | 7 => .int
  | 8 => .int
  | 9 => .int
  | 10 => .int
  | 11 => .int
  | 12 => .int
  | 13 => .int
  | _ => .int
theorem nmX3 : ∀ a, a < 15 → ∀ b, b < 15 → a ≠ b → (TX3 a).2.1 ≠ (TX3 b).2.1 := by decide +kernel
theorem tyX3_ok : ∀ k, k < 15 → parseFieldDescriptor (TX3 k).2.2.1 = some (tyX3 k) := by decide +kernel
abbrev cX3_init : ByteArray := prog_5_method_1_code
def yX3_init : MethodName := ⟨RX3, "<init>", "()V"⟩
abbrev cX3_copyFrom : ByteArray := prog_5_method_2_code
def yX3_copyFrom : MethodName := ⟨RX3, "copyFrom", "(LEmbossPress$State;)V"⟩
abbrev cX3_turnedPoint : ByteArray := prog_5_method_3_code
def yX3_turnedPoint : MethodName := ⟨RX3, "turnedPoint", "(IIII)I"⟩
abbrev cX3_turnDie : ByteArray := prog_5_method_4_code
def yX3_turnDie : MethodName := ⟨RX3, "turnDie", "(II[I)V"⟩
abbrev cX3_raisedPoints : ByteArray := prog_5_method_5_code
def yX3_raisedPoints : MethodName := ⟨RX3, "raisedPoints", "(I)I"⟩
abbrev cX3_isFoilReadyOver : ByteArray := prog_5_method_6_code
def yX3_isFoilReadyOver : MethodName := ⟨RX3, "isFoilReadyOver", "(I)Z"⟩
abbrev cX3_stickFoil : ByteArray := prog_5_method_7_code
def yX3_stickFoil : MethodName := ⟨RX3, "stickFoil", "([IJJ)V"⟩
abbrev cX3_slipIfDue : ByteArray := prog_5_method_8_code
def yX3_slipIfDue : MethodName := ⟨RX3, "slipIfDue", "()V"⟩
abbrev cX3_unslip : ByteArray := prog_5_method_9_code
def yX3_unslip : MethodName := ⟨RX3, "unslip", "()V"⟩
def RX4 : String := "EmbossPress"
def TX4 : u_T := fun k => match k with
  | 0 => ("EmbossPress", "now", "LEmbossPress$State;", true)
  | 1 => ("EmbossPress", "slots", "[LEmbossPress$State;", true)
  | 2 => ("EmbossPress", "slotTaken", "[Z", true)
  | 3 => ("EmbossPress", "saved", "[LEmbossPress$State;", true)
  | 4 => ("EmbossPress", "oldestSaved", "I", false)
  | 5 => ("EmbossPress", "savedCount", "I", false)
  | 6 => ("EmbossPress", "buffer", "LEmbossPress$DieText;", true)
  | 7 => ("EmbossPress", "relief", "[I", true)
  | 8 => ("EmbossPress", "trial", "LEmbossPress$Sheet;", true)
  | _ => ("EmbossPress", "finder", "LEmbossPress$CrackFinder;", true)
def tyX4 : Nat → FieldType := fun k => match k with
  | 0 => .object "EmbossPress$State"
  | 1 => .array (.object "EmbossPress$State")
  | 2 => .array .boolean
  | 3 => .array (.object "EmbossPress$State")
  | 4 => .int
  | 5 => .int
  | 6 => .object "EmbossPress$DieText"
  | 7 => .array .int
  | 8 => .object "EmbossPress$Sheet"
  | _ => .object "EmbossPress$CrackFinder"
theorem nmX4 : ∀ a, a < 10 → ∀ b, b < 10 → a ≠ b → (TX4 a).2.1 ≠ (TX4 b).2.1 := by decide +kernel
theorem tyX4_ok : ∀ k, k < 10 → parseFieldDescriptor (TX4 k).2.2.1 = some (tyX4 k) := by decide +kernel
abbrev cX4_init : ByteArray := prog_1_method_1_code
def yX4_init : MethodName := ⟨RX4, "<init>", "()V"⟩
abbrev cX4_point : ByteArray := prog_1_method_2_code
def yX4_point : MethodName := ⟨RX4, "point", "(IIII)I"⟩
abbrev cX4_cast : ByteArray := prog_1_method_3_code
def yX4_cast : MethodName := ⟨RX4, "cast", "(III)I"⟩
abbrev cX4_sheet : ByteArray := prog_1_method_4_code
def yX4_sheet : MethodName := ⟨RX4, "sheet", "()I"⟩
abbrev cX4_pin : ByteArray := prog_1_method_5_code
def yX4_pin : MethodName := ⟨RX4, "pin", "()I"⟩
abbrev cX4_foil : ByteArray := prog_1_method_6_code
def yX4_foil : MethodName := ⟨RX4, "foil", "(IIIII)I"⟩
abbrev cX4_press : ByteArray := prog_1_method_7_code
def yX4_press : MethodName := ⟨RX4, "press", "(IIII)I"⟩
abbrev cX4_fold : ByteArray := prog_1_method_8_code
def yX4_fold : MethodName := ⟨RX4, "fold", "(I)I"⟩
abbrev cX4_set : ByteArray := prog_1_method_9_code
def yX4_set : MethodName := ⟨RX4, "set", "(II)I"⟩
abbrev cX4_undo : ByteArray := prog_1_method_16_code
def yX4_undo : MethodName := ⟨RX4, "undo", "()I"⟩
abbrev cX4_dieOf : ByteArray := prog_1_method_17_code
def yX4_dieOf : MethodName := ⟨RX4, "dieOf", "(IIII)I"⟩
abbrev cX4_place : ByteArray := prog_1_method_18_code
def yX4_place : MethodName := ⟨RX4, "place", "(III)I"⟩
abbrev cX4_count : ByteArray := prog_1_method_19_code
def yX4_count : MethodName := ⟨RX4, "count", "(I)I"⟩
abbrev cX4_setting : ByteArray := prog_1_method_20_code
def yX4_setting : MethodName := ⟨RX4, "setting", "(I)I"⟩
abbrev cX4_wholeShare : ByteArray := prog_1_method_27_code
def yX4_wholeShare : MethodName := ⟨RX4, "wholeShare", "()D"⟩
abbrev cX4_isDie : ByteArray := prog_1_method_29_code
def yX4_isDie : MethodName := ⟨RX4, "isDie", "(I)Z"⟩
abbrev cX4_isPoint : ByteArray := prog_1_method_30_code
def yX4_isPoint : MethodName := ⟨RX4, "isPoint", "(II)Z"⟩
abbrev cX4_isTurn : ByteArray := prog_1_method_31_code
def yX4_isTurn : MethodName := ⟨RX4, "isTurn", "(I)Z"⟩
abbrev cX4_isFoldRow : ByteArray := prog_1_method_32_code
def yX4_isFoldRow : MethodName := ⟨RX4, "isFoldRow", "(I)Z"⟩
abbrev cX4_isSetting : ByteArray := prog_1_method_33_code
def yX4_isSetting : MethodName := ⟨RX4, "isSetting", "(I)Z"⟩
abbrev cX4_pointIndex : ByteArray := prog_1_method_35_code
def yX4_pointIndex : MethodName := ⟨RX4, "pointIndex", "(III)I"⟩
abbrev cX4_placeIndex : ByteArray := prog_1_method_36_code
def yX4_placeIndex : MethodName := ⟨RX4, "placeIndex", "(JJ)I"⟩
abbrev cX4_saveState : ByteArray := prog_1_method_37_code
def yX4_saveState : MethodName := ⟨RX4, "saveState", "()V"⟩
abbrev cX4_refusal : ByteArray := prog_1_method_38_code
def yX4_refusal : MethodName := ⟨RX4, "refusal", "(II)I"⟩
abbrev cX4_placeUnder : ByteArray := prog_1_method_39_code
def yX4_placeUnder : MethodName := ⟨RX4, "placeUnder", "(IJJ)I"⟩
abbrev cX4_pressRelief : ByteArray := prog_1_method_40_code
def yX4_pressRelief : MethodName := ⟨RX4, "pressRelief", "(II)I"⟩
abbrev cX4_propertyOf : ByteArray := prog_1_method_48_code
def yX4_propertyOf : MethodName := ⟨RX4, "propertyOf", "(II)I"⟩
abbrev cX4_numberOf : ByteArray := prog_1_method_49_code
def yX4_numberOf : MethodName := ⟨RX4, "numberOf", "(I)I"⟩
def RX5 : String := "EmbossPressModel"
def TX5 : u_T := fun k => match k with
  | _ => ("", "", "", false)
def tyX5 : Nat → FieldType := fun k => match k with
  | _ => .int
theorem nmX5 : ∀ a, a < 0 → ∀ b, b < 0 → a ≠ b → (TX5 a).2.1 ≠ (TX5 b).2.1 := by decide +kernel
theorem tyX5_ok : ∀ k, k < 0 → parseFieldDescriptor (TX5 k).2.2.1 = some (tyX5 k) := by decide +kernel
def RJ9 : String := "java/lang/Math"
def TJ9 : u_T := fun k => match k with
  | _ => ("", "", "", false)
def tyJ9 : Nat → FieldType := fun k => match k with
  | _ => .int
theorem nmJ9 : ∀ a, a < 0 → ∀ b, b < 0 → a ≠ b → (TJ9 a).2.1 ≠ (TJ9 b).2.1 := by decide +kernel
theorem tyJ9_ok : ∀ k, k < 0 → parseFieldDescriptor (TJ9 k).2.2.1 = some (tyJ9 k) := by decide +kernel
abbrev cJ9_max_7cf53 : ByteArray := prog_13_method_65_code
def yJ9_max_7cf53 : MethodName := ⟨RJ9, "max", "(II)I"⟩
abbrev cJ9_min_7cf53 : ByteArray := prog_13_method_69_code
def yJ9_min_7cf53 : MethodName := ⟨RJ9, "min", "(II)I"⟩
def RJ10 : String := "java/lang/System"
def TJ10 : u_T := fun k => match k with
  | _ => ("", "", "", false)
def tyJ10 : Nat → FieldType := fun k => match k with
  | _ => .int
theorem nmJ10 : ∀ a, a < 0 → ∀ b, b < 0 → a ≠ b → (TJ10 a).2.1 ≠ (TJ10 b).2.1 := by decide +kernel
theorem tyJ10_ok : ∀ k, k < 0 → parseFieldDescriptor (TJ10 k).2.2.1 = some (tyJ10 k) := by decide +kernel
def RJ7 : String := "java/util/Arrays"
def TJ7 : u_T := fun k => match k with
  | _ => ("", "", "", false)
def tyJ7 : Nat → FieldType := fun k => match k with
  | _ => .int
theorem nmJ7 : ∀ a, a < 0 → ∀ b, b < 0 → a ≠ b → (TJ7 a).2.1 ≠ (TJ7 b).2.1 := by decide +kernel
theorem tyJ7_ok : ∀ k, k < 0 → parseFieldDescriptor (TJ7 k).2.2.1 = some (tyJ7 k) := by decide +kernel
abbrev cJ7_fill_53178 : ByteArray := prog_18_method_103_code
def yJ7_fill_53178 : MethodName := ⟨RJ7, "fill", "([II)V"⟩
def RL : String := "EmbossPressLaw"
abbrev cL_cell : ByteArray := method_2_code
def yL_cell : MethodName := ⟨RL, "cell", "([II)I"⟩
abbrev cL_low : ByteArray := method_3_code
def yL_low : MethodName := ⟨RL, "low", "(II)I"⟩
abbrev cL_told : ByteArray := method_4_code
def yL_told : MethodName := ⟨RL, "told", "(LEmbossPress;)J"⟩
abbrev cL_act : ByteArray := method_5_code
def yL_act : MethodName := ⟨RL, "act", "(LEmbossPress;II)I"⟩
abbrev cL_holds : ByteArray := method_6_code
def yL_holds : MethodName := ⟨RL, "holds", "(LEmbossPress;)Z"⟩
abbrev cL_isSettled : ByteArray := method_7_code
def yL_isSettled : MethodName := ⟨RL, "isSettled", "(LEmbossPress;)Z"⟩
abbrev cL_law : ByteArray := code
def yL_law : MethodName := ⟨RL, "law", "([I)Z"⟩
abbrev vwCl : List vw_C := [(RX0, TX0, 4), (RX0, TX0, 4), (RX0, TX0, 4), (RX0, TX0, 4), (RX1, TX1, 2), (RX2, TX2, 4), (RX3, TX3, 15), (RX4, TX4, 10)]
