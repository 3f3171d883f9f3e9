section
-- ===== PART A: goes FIRST, ahead of the names: the tables' words, and 'selects' of the private methods out of them =====
/-- a private method of a class that the tables say can be made, by its rows of tables_1 -/
def lw_okq (q : MethodName × Nat) : Prop := (q.1.cls ≠ "java/lang/invoke/MethodHandle" ∧ q.1.cls ≠ "java/lang/invoke/VarHandle") ∧ Cond.instantiable q.1.cls q.2 ∈ tables_1 ∧ Cond.privateMethod q.1 ∈ tables_1 ∧ Cond.instanceMethod q.1 ∈ tables_1
theorem lw_p0 : lw_okq (⟨"java/lang/Throwable", "fillInStackTrace", "(I)Ljava/lang/Throwable;"⟩, 6) := ⟨⟨by decide +kernel, by decide +kernel⟩, List.mem_of_getElem? (i := 234) (by decide +kernel), List.mem_of_getElem? (i := 232) (by decide +kernel), List.mem_of_getElem? (i := 233) (by decide +kernel)⟩
theorem lw_p1 : lw_okq (⟨"EmbossPress", "numberOf", "(I)I"⟩, 10) := ⟨⟨by decide +kernel, by decide +kernel⟩, List.mem_of_getElem? (i := 16) (by decide +kernel), List.mem_of_getElem? (i := 300) (by decide +kernel), List.mem_of_getElem? (i := 301) (by decide +kernel)⟩
theorem lw_p2 : lw_okq (⟨"EmbossPress", "propertyOf", "(II)I"⟩, 10) := ⟨⟨by decide +kernel, by decide +kernel⟩, List.mem_of_getElem? (i := 16) (by decide +kernel), List.mem_of_getElem? (i := 390) (by decide +kernel), List.mem_of_getElem? (i := 391) (by decide +kernel)⟩
theorem lw_p3 : lw_okq (⟨"EmbossPress", "saveState", "()V"⟩, 10) := ⟨⟨by decide +kernel, by decide +kernel⟩, List.mem_of_getElem? (i := 16) (by decide +kernel), List.mem_of_getElem? (i := 418) (by decide +kernel), List.mem_of_getElem? (i := 419) (by decide +kernel)⟩
theorem lw_p4 : lw_okq (⟨"EmbossPress$CrackFinder", "noteIfWhole", "(LEmbossPress$Sheet;I)V"⟩, 4) := ⟨⟨by decide +kernel, by decide +kernel⟩, List.mem_of_getElem? (i := 142) (by decide +kernel), List.mem_of_getElem? (i := 457) (by decide +kernel), List.mem_of_getElem? (i := 458) (by decide +kernel)⟩
theorem lw_p5 : lw_okq (⟨"EmbossPress$CrackFinder", "crackFound", "(LEmbossPress$Sheet;)I"⟩, 4) := ⟨⟨by decide +kernel, by decide +kernel⟩, List.mem_of_getElem? (i := 142) (by decide +kernel), List.mem_of_getElem? (i := 461) (by decide +kernel), List.mem_of_getElem? (i := 462) (by decide +kernel)⟩
theorem lw_p6 : lw_okq (⟨"EmbossPress$CrackFinder", "weakenBeside", "(I)V"⟩, 4) := ⟨⟨by decide +kernel, by decide +kernel⟩, List.mem_of_getElem? (i := 142) (by decide +kernel), List.mem_of_getElem? (i := 465) (by decide +kernel), List.mem_of_getElem? (i := 466) (by decide +kernel)⟩
theorem lw_p7 : lw_okq (⟨"EmbossPress$CrackFinder", "findOverstrained", "(LEmbossPress$Sheet;II)V"⟩, 4) := ⟨⟨by decide +kernel, by decide +kernel⟩, List.mem_of_getElem? (i := 142) (by decide +kernel), List.mem_of_getElem? (i := 475) (by decide +kernel), List.mem_of_getElem? (i := 476) (by decide +kernel)⟩
theorem lw_p8 : lw_okq (⟨"EmbossPress", "refusal", "(II)I"⟩, 10) := ⟨⟨by decide +kernel, by decide +kernel⟩, List.mem_of_getElem? (i := 16) (by decide +kernel), List.mem_of_getElem? (i := 520) (by decide +kernel), List.mem_of_getElem? (i := 521) (by decide +kernel)⟩
theorem lw_p9 : lw_okq (⟨"EmbossPress", "pressRelief", "(II)I"⟩, 10) := ⟨⟨by decide +kernel, by decide +kernel⟩, List.mem_of_getElem? (i := 16) (by decide +kernel), List.mem_of_getElem? (i := 528) (by decide +kernel), List.mem_of_getElem? (i := 529) (by decide +kernel)⟩
def lw_privs_1 : List (MethodName × Nat) := [(⟨"java/lang/Throwable", "fillInStackTrace", "(I)Ljava/lang/Throwable;"⟩, 6), (⟨"EmbossPress", "numberOf", "(I)I"⟩, 10), (⟨"EmbossPress", "propertyOf", "(II)I"⟩, 10), (⟨"EmbossPress", "saveState", "()V"⟩, 10), (⟨"EmbossPress$CrackFinder", "noteIfWhole", "(LEmbossPress$Sheet;I)V"⟩, 4), (⟨"EmbossPress$CrackFinder", "crackFound", "(LEmbossPress$Sheet;)I"⟩, 4), (⟨"EmbossPress$CrackFinder", "weakenBeside", "(I)V"⟩, 4), (⟨"EmbossPress$CrackFinder", "findOverstrained", "(LEmbossPress$Sheet;II)V"⟩, 4), (⟨"EmbossPress", "refusal", "(II)I"⟩, 10), (⟨"EmbossPress", "pressRelief", "(II)I"⟩, 10)]
theorem lw_r1 : ∀ q ∈ lw_privs_1, lw_okq q := List.forall_mem_cons.mpr ⟨lw_p0, List.forall_mem_cons.mpr ⟨lw_p1, List.forall_mem_cons.mpr ⟨lw_p2, List.forall_mem_cons.mpr ⟨lw_p3, List.forall_mem_cons.mpr ⟨lw_p4, List.forall_mem_cons.mpr ⟨lw_p5, List.forall_mem_cons.mpr ⟨lw_p6, List.forall_mem_cons.mpr ⟨lw_p7, List.forall_mem_cons.mpr ⟨lw_p8, List.forall_mem_cons.mpr ⟨lw_p9, fun _ h => absurd h List.not_mem_nil⟩⟩⟩⟩⟩⟩⟩⟩⟩⟩
def lw_privs : List (MethodName × Nat) := lw_privs_1
def lw_tbl : List Cond := k2_sels lw_privs ++ tables_1
theorem lw_privs_ok : ∀ q ∈ lw_privs, lw_okq q := lw_r1
/-- the streams that the claim lets the run draw from -/
abbrev lw_cs : List Choice := [Jvm.Choice.named "NaN.bits"]
theorem lw_bits : nanBits ∈ lw_cs := by first | decide | exact List.mem_cons_self | simp [lw_cs, nanBits]
-- ===== end of PART A; then your names; then what follows =====
end
section
def RX0 : String := "EmbossPress$CrackFinder"
def TX0 : u_T := fun k => match k with
  | 0 => ("EmbossPress$CrackFinder", "strains", "[I", true)
  | 1 => ("EmbossPress$CrackFinder", "beside", "[I", true)
  | 2 => ("EmbossPress$CrackFinder", "breaking", "[I", true)
  | _ => ("EmbossPress$CrackFinder", "breakingCount", "I", false)
def tyX0 : Nat → FieldType := fun k => match k with
  | 0 => .array .int
  | 1 => .array .int
  | 2 => .array .int
  | _ => .int
theorem nmX0 : ∀ a, a < 4 → ∀ b, b < 4 → a ≠ b → (TX0 a).2.1 ≠ (TX0 b).2.1 := by decide +kernel
theorem tyX0_ok : ∀ k, k < 4 → parseFieldDescriptor (TX0 k).2.2.1 = some (tyX0 k) := by decide +kernel
abbrev cX0_init : ByteArray := prog_2_method_1_code
def yX0_init : MethodName := ⟨RX0, "<init>", "()V"⟩
abbrev cX0_crackAll : ByteArray := prog_2_method_2_code
def yX0_crackAll : MethodName := ⟨RX0, "crackAll", "(LEmbossPress$Sheet;II)I"⟩
abbrev cX0_crackAtFold : ByteArray := prog_2_method_3_code
def yX0_crackAtFold : MethodName := ⟨RX0, "crackAtFold", "(LEmbossPress$Sheet;III)I"⟩
abbrev cX0_findOverstrained : ByteArray := prog_2_method_4_code
def yX0_findOverstrained : MethodName := ⟨RX0, "findOverstrained", "(LEmbossPress$Sheet;II)V"⟩
abbrev cX0_noteIfWhole : ByteArray := prog_2_method_5_code
def yX0_noteIfWhole : MethodName := ⟨RX0, "noteIfWhole", "(LEmbossPress$Sheet;I)V"⟩
abbrev cX0_crackFound : ByteArray := prog_2_method_6_code
def yX0_crackFound : MethodName := ⟨RX0, "crackFound", "(LEmbossPress$Sheet;)I"⟩
abbrev cX0_weakenBeside : ByteArray := prog_2_method_7_code
def yX0_weakenBeside : MethodName := ⟨RX0, "weakenBeside", "(I)V"⟩
def RX1 : String := "EmbossPress$DieText"
def TX1 : u_T := fun k => match k with
  | 0 => ("EmbossPress$DieText", "codes", "[I", true)
  | _ => ("EmbossPress$DieText", "length", "I", false)
def tyX1 : Nat → FieldType := fun k => match k with
  | 0 => .array .int
  | _ => .int
theorem nmX1 : ∀ a, a < 2 → ∀ b, b < 2 → a ≠ b → (TX1 a).2.1 ≠ (TX1 b).2.1 := by decide +kernel
theorem tyX1_ok : ∀ k, k < 2 → parseFieldDescriptor (TX1 k).2.2.1 = some (tyX1 k) := by decide +kernel
abbrev cX1_init : ByteArray := prog_3_method_1_code
def yX1_init : MethodName := ⟨RX1, "<init>", "()V"⟩
def RX2 : String := "EmbossPress$Sheet"
def TX2 : u_T := fun k => match k with
  | 0 => ("EmbossPress$Sheet", "depths", "[I", true)
  | 1 => ("EmbossPress$Sheet", "foils", "[I", true)
  | 2 => ("EmbossPress$Sheet", "cracks", "[I", true)
  | _ => ("EmbossPress$Sheet", "pressings", "[I", true)
def tyX2 : Nat → FieldType := fun k => match k with
  | 0 => .array .int
  | 1 => .array .int
  | 2 => .array .int
  | _ => .array .int
theorem nmX2 : ∀ a, a < 4 → ∀ b, b < 4 → a ≠ b → (TX2 a).2.1 ≠ (TX2 b).2.1 := by decide +kernel
theorem tyX2_ok : ∀ k, k < 4 → parseFieldDescriptor (TX2 k).2.2.1 = some (tyX2 k) := by decide +kernel
abbrev cX2_init : ByteArray := prog_4_method_1_code
def yX2_init : MethodName := ⟨RX2, "<init>", "()V"⟩
abbrev cX2_makeNew : ByteArray := prog_4_method_2_code
def yX2_makeNew : MethodName := ⟨RX2, "makeNew", "()V"⟩
abbrev cX2_copyFrom : ByteArray := prog_4_method_3_code
def yX2_copyFrom : MethodName := ⟨RX2, "copyFrom", "(LEmbossPress$Sheet;)V"⟩
abbrev cX2_copyStrength : ByteArray := prog_4_method_4_code
def yX2_copyStrength : MethodName := ⟨RX2, "copyStrength", "(LEmbossPress$Sheet;)V"⟩
abbrev cX2_depthAt : ByteArray := prog_4_method_5_code
def yX2_depthAt : MethodName := ⟨RX2, "depthAt", "(II)I"⟩
abbrev cX2_emboss : ByteArray := prog_4_method_6_code
def yX2_emboss : MethodName := ⟨RX2, "emboss", "([IJJ)V"⟩
abbrev cX2_strainOf : ByteArray := prog_4_method_7_code
def yX2_strainOf : MethodName := ⟨RX2, "strainOf", "(I)I"⟩
abbrev cX2_difference : ByteArray := prog_4_method_8_code
def yX2_difference : MethodName := ⟨RX2, "difference", "(II)I"⟩
abbrev cX2_crackedBeside : ByteArray := prog_4_method_9_code
def yX2_crackedBeside : MethodName := ⟨RX2, "crackedBeside", "(I)I"⟩
abbrev cX2_bearingOf : ByteArray := prog_4_method_10_code
def yX2_bearingOf : MethodName := ⟨RX2, "bearingOf", "(III)I"⟩
abbrev cX2_cracked : ByteArray := prog_4_method_12_code
def yX2_cracked : MethodName := ⟨RX2, "cracked", "()I"⟩
abbrev cX2_foiled : ByteArray := prog_4_method_13_code
def yX2_foiled : MethodName := ⟨RX2, "foiled", "()I"⟩
abbrev cX2_greatestDepth : ByteArray := prog_4_method_14_code
def yX2_greatestDepth : MethodName := ⟨RX2, "greatestDepth", "()I"⟩
abbrev cX2_strainByPlaces : ByteArray := prog_4_method_15_code
def yX2_strainByPlaces : MethodName := ⟨RX2, "strainByPlaces", "()I"⟩
abbrev cX2_strainByPairs : ByteArray := prog_4_method_16_code
def yX2_strainByPairs : MethodName := ⟨RX2, "strainByPairs", "()I"⟩
def RX3 : String := "EmbossPress$State"
def TX3 : u_T := fun k => match k with
  | 0 => ("EmbossPress$State", "points", "[I", true)
  | 1 => ("EmbossPress$State", "settings", "[I", true)
  | 2 => ("EmbossPress$State", "paper", "LEmbossPress$Sheet;", true)
  | 3 => ("EmbossPress$State", "slip", "I", false)
  | 4 => ("EmbossPress$State", "presses", "I", false)
  | 5 => ("EmbossPress$State", "pressesSincePin", "I", false)
  | 6 => ("EmbossPress$State", "refusals", "I", false)
  | 7 => ("EmbossPress$State", "cracksSoFar", "I", false)
  | 8 => ("EmbossPress$State", "sheets", "I", false)
  | 9 => ("EmbossPress$State", "folds", "I", false)
  | 10 => ("EmbossPress$State", "readyFoil", "I", false)
  | 11 => ("EmbossPress$State", "readyLeft", "I", false)
  | 12 => ("EmbossPress$State", "readyTop", "I", false)
  | 13 => ("EmbossPress$State", "readyRight", "I", false)
  | _ => ("EmbossPress$State", "readyBottom", "I", false)
def tyX3 : Nat → FieldType := fun k => match k with
  | 0 => .array .int
  | 1 => .array .int
  | 2 => .object "EmbossPress$Sheet"
  | 3 => .int
  | 4 => .int
  | 5 => .int
  | 6 => .int
  | 7 => .int
  | 8 => .int
  | 9 => .int
  | 10 => .int
  | 11 => .int
  | 12 => .int
  | 13 => .int
  | _ => .int
theorem nmX3 : ∀ a, a < 15 → ∀ b, b < 15 → a ≠ b → (TX3 a).2.1 ≠ (TX3 b).2.1 := by decide +kernel
theorem tyX3_ok : ∀ k, k < 15 → parseFieldDescriptor (TX3 k).2.2.1 = some (tyX3 k) := by decide +kernel
abbrev cX3_init : ByteArray := prog_5_method_1_code
def yX3_init : MethodName := ⟨RX3, "<init>", "()V"⟩
abbrev cX3_copyFrom : ByteArray := prog_5_method_2_code
def yX3_copyFrom : MethodName := ⟨RX3, "copyFrom", "(LEmbossPress$State;)V"⟩
abbrev cX3_turnedPoint : ByteArray := prog_5_method_3_code
def yX3_turnedPoint : MethodName := ⟨RX3, "turnedPoint", "(IIII)I"⟩
abbrev cX3_turnDie : ByteArray := prog_5_method_4_code
def yX3_turnDie : MethodName := ⟨RX3, "turnDie", "(II[I)V"⟩
abbrev cX3_raisedPoints : ByteArray := prog_5_method_5_code
def yX3_raisedPoints : MethodName := ⟨RX3, "raisedPoints", "(I)I"⟩
abbrev cX3_isFoilReadyOver : ByteArray := prog_5_method_6_code
def yX3_isFoilReadyOver : MethodName := ⟨RX3, "isFoilReadyOver", "(I)Z"⟩
abbrev cX3_stickFoil : ByteArray := prog_5_method_7_code
def yX3_stickFoil : MethodName := ⟨RX3, "stickFoil", "([IJJ)V"⟩
abbrev cX3_slipIfDue : ByteArray := prog_5_method_8_code
def yX3_slipIfDue : MethodName := ⟨RX3, "slipIfDue", "()V"⟩
abbrev cX3_unslip : ByteArray := prog_5_method_9_code
def yX3_unslip : MethodName := ⟨RX3, "unslip", "()V"⟩
def RX4 : String := "EmbossPress"
def TX4 : u_T := fun k => match k with
  | 0 => ("EmbossPress", "now", "LEmbossPress$State;", true)
  | 1 => ("EmbossPress", "slots", "[LEmbossPress$State;", true)
  | 2 => ("EmbossPress", "slotTaken", "[Z", true)
  | 3 => ("EmbossPress", "saved", "[LEmbossPress$State;", true)
  | 4 => ("EmbossPress", "oldestSaved", "I", false)
  | 5 => ("EmbossPress", "savedCount", "I", false)
  | 6 => ("EmbossPress", "buffer", "LEmbossPress$DieText;", true)
  | 7 => ("EmbossPress", "relief", "[I", true)
  | 8 => ("EmbossPress", "trial", "LEmbossPress$Sheet;", true)
  | _ => ("EmbossPress", "finder", "LEmbossPress$CrackFinder;", true)
def tyX4 : Nat → FieldType := fun k => match k with
  | 0 => .object "EmbossPress$State"
  | 1 => .array (.object "EmbossPress$State")
  | 2 => .array .boolean
  | 3 => .array (.object "EmbossPress$State")
  | 4 => .int
  | 5 => .int
  | 6 => .object "EmbossPress$DieText"
  | 7 => .array .int
  | 8 => .object "EmbossPress$Sheet"
  | _ => .object "EmbossPress$CrackFinder"
theorem nmX4 : ∀ a, a < 10 → ∀ b, b < 10 → a ≠ b → (TX4 a).2.1 ≠ (TX4 b).2.1 := by decide +kernel
theorem tyX4_ok : ∀ k, k < 10 → parseFieldDescriptor (TX4 k).2.2.1 = some (tyX4 k) := by decide +kernel
abbrev cX4_init : ByteArray := prog_1_method_1_code
def yX4_init : MethodName := ⟨RX4, "<init>", "()V"⟩
abbrev cX4_point : ByteArray := prog_1_method_2_code
def yX4_point : MethodName := ⟨RX4, "point", "(IIII)I"⟩
abbrev cX4_cast : ByteArray := prog_1_method_3_code
def yX4_cast : MethodName := ⟨RX4, "cast", "(III)I"⟩
abbrev cX4_sheet : ByteArray := prog_1_method_4_code
def yX4_sheet : MethodName := ⟨RX4, "sheet", "()I"⟩
abbrev cX4_pin : ByteArray := prog_1_method_5_code
def yX4_pin : MethodName := ⟨RX4, "pin", "()I"⟩
abbrev cX4_foil : ByteArray := prog_1_method_6_code
def yX4_foil : MethodName := ⟨RX4, "foil", "(IIIII)I"⟩
abbrev cX4_press : ByteArray := prog_1_method_7_code
def yX4_press : MethodName := ⟨RX4, "press", "(IIII)I"⟩
abbrev cX4_fold : ByteArray := prog_1_method_8_code
def yX4_fold : MethodName := ⟨RX4, "fold", "(I)I"⟩
abbrev cX4_set : ByteArray := prog_1_method_9_code
def yX4_set : MethodName := ⟨RX4, "set", "(II)I"⟩
abbrev cX4_undo : ByteArray := prog_1_method_16_code
def yX4_undo : MethodName := ⟨RX4, "undo", "()I"⟩
abbrev cX4_dieOf : ByteArray := prog_1_method_17_code
def yX4_dieOf : MethodName := ⟨RX4, "dieOf", "(IIII)I"⟩
abbrev cX4_place : ByteArray := prog_1_method_18_code
def yX4_place : MethodName := ⟨RX4, "place", "(III)I"⟩
abbrev cX4_count : ByteArray := prog_1_method_19_code
def yX4_count : MethodName := ⟨RX4, "count", "(I)I"⟩
abbrev cX4_setting : ByteArray := prog_1_method_20_code
def yX4_setting : MethodName := ⟨RX4, "setting", "(I)I"⟩
abbrev cX4_wholeShare : ByteArray := prog_1_method_27_code
def yX4_wholeShare : MethodName := ⟨RX4, "wholeShare", "()D"⟩
abbrev cX4_isDie : ByteArray := prog_1_method_29_code
def yX4_isDie : MethodName := ⟨RX4, "isDie", "(I)Z"⟩
abbrev cX4_isPoint : ByteArray := prog_1_method_30_code
def yX4_isPoint : MethodName := ⟨RX4, "isPoint", "(II)Z"⟩
abbrev cX4_isTurn : ByteArray := prog_1_method_31_code
def yX4_isTurn : MethodName := ⟨RX4, "isTurn", "(I)Z"⟩
abbrev cX4_isFoldRow : ByteArray := prog_1_method_32_code
def yX4_isFoldRow : MethodName := ⟨RX4, "isFoldRow", "(I)Z"⟩
abbrev cX4_isSetting : ByteArray := prog_1_method_33_code
def yX4_isSetting : MethodName := ⟨RX4, "isSetting", "(I)Z"⟩
abbrev cX4_pointIndex : ByteArray := prog_1_method_35_code
def yX4_pointIndex : MethodName := ⟨RX4, "pointIndex", "(III)I"⟩
abbrev cX4_placeIndex : ByteArray := prog_1_method_36_code
def yX4_placeIndex : MethodName := ⟨RX4, "placeIndex", "(JJ)I"⟩
abbrev cX4_saveState : ByteArray := prog_1_method_37_code
def yX4_saveState : MethodName := ⟨RX4, "saveState", "()V"⟩
abbrev cX4_refusal : ByteArray := prog_1_method_38_code
def yX4_refusal : MethodName := ⟨RX4, "refusal", "(II)I"⟩
abbrev cX4_placeUnder : ByteArray := prog_1_method_39_code
def yX4_placeUnder : MethodName := ⟨RX4, "placeUnder", "(IJJ)I"⟩
abbrev cX4_pressRelief : ByteArray := prog_1_method_40_code
def yX4_pressRelief : MethodName := ⟨RX4, "pressRelief", "(II)I"⟩
abbrev cX4_propertyOf : ByteArray := prog_1_method_48_code
def yX4_propertyOf : MethodName := ⟨RX4, "propertyOf", "(II)I"⟩
abbrev cX4_numberOf : ByteArray := prog_1_method_49_code
def yX4_numberOf : MethodName := ⟨RX4, "numberOf", "(I)I"⟩
def RX5 : String := "EmbossPressModel"
def TX5 : u_T := fun k => match k with
  | _ => ("", "", "", false)
def tyX5 : Nat → FieldType := fun k => match k with
  | _ => .int
theorem nmX5 : ∀ a, a < 0 → ∀ b, b < 0 → a ≠ b → (TX5 a).2.1 ≠ (TX5 b).2.1 := by decide +kernel
theorem tyX5_ok : ∀ k, k < 0 → parseFieldDescriptor (TX5 k).2.2.1 = some (tyX5 k) := by decide +kernel
def RJ9 : String := "java/lang/Math"
def TJ9 : u_T := fun k => match k with
  | _ => ("", "", "", false)
def tyJ9 : Nat → FieldType := fun k => match k with
  | _ => .int
theorem nmJ9 : ∀ a, a < 0 → ∀ b, b < 0 → a ≠ b → (TJ9 a).2.1 ≠ (TJ9 b).2.1 := by decide +kernel
theorem tyJ9_ok : ∀ k, k < 0 → parseFieldDescriptor (TJ9 k).2.2.1 = some (tyJ9 k) := by decide +kernel
abbrev cJ9_max_7cf53 : ByteArray := prog_13_method_65_code
def yJ9_max_7cf53 : MethodName := ⟨RJ9, "max", "(II)I"⟩
abbrev cJ9_min_7cf53 : ByteArray := prog_13_method_69_code
def yJ9_min_7cf53 : MethodName := ⟨RJ9, "min", "(II)I"⟩
def RJ10 : String := "java/lang/System"
def TJ10 : u_T := fun k => match k with
  | _ => ("", "", "", false)
def tyJ10 : Nat → FieldType := fun k => match k with
  | _ => .int
theorem nmJ10 : ∀ a, a < 0 → ∀ b, b < 0 → a ≠ b → (TJ10 a).2.1 ≠ (TJ10 b).2.1 := by decide +kernel
theorem tyJ10_ok : ∀ k, k < 0 → parseFieldDescriptor (TJ10 k).2.2.1 = some (tyJ10 k) := by decide +kernel
def RJ7 : String := "java/util/Arrays"
def TJ7 : u_T := fun k => match k with
  | _ => ("", "", "", false)
def tyJ7 : Nat → FieldType := fun k => match k with
  | _ => .int
theorem nmJ7 : ∀ a, a < 0 → ∀ b, b < 0 → a ≠ b → (TJ7 a).2.1 ≠ (TJ7 b).2.1 := by decide +kernel
theorem tyJ7_ok : ∀ k, k < 0 → parseFieldDescriptor (TJ7 k).2.2.1 = some (tyJ7 k) := by decide +kernel
abbrev cJ7_fill_53178 : ByteArray := prog_18_method_103_code
def yJ7_fill_53178 : MethodName := ⟨RJ7, "fill", "([II)V"⟩
def RL : String := "EmbossPressLaw"
abbrev cL_cell : ByteArray := method_2_code
def yL_cell : MethodName := ⟨RL, "cell", "([II)I"⟩
abbrev cL_low : ByteArray := method_3_code
def yL_low : MethodName := ⟨RL, "low", "(II)I"⟩
abbrev cL_told : ByteArray := method_4_code
def yL_told : MethodName := ⟨RL, "told", "(LEmbossPress;)J"⟩
abbrev cL_act : ByteArray := method_5_code
def yL_act : MethodName := ⟨RL, "act", "(LEmbossPress;II)I"⟩
abbrev cL_holds : ByteArray := method_6_code
def yL_holds : MethodName := ⟨RL, "holds", "(LEmbossPress;)Z"⟩
abbrev cL_isSettled : ByteArray := method_7_code
def yL_isSettled : MethodName := ⟨RL, "isSettled", "(LEmbossPress;)Z"⟩
abbrev cL_law : ByteArray := code
def yL_law : MethodName := ⟨RL, "law", "([I)Z"⟩
abbrev vwCl : List vw_C := [(RX0, TX0, 4), (RX0, TX0, 4), (RX0, TX0, 4), (RX0, TX0, 4), (RX1, TX1, 2), (RX2, TX2, 4), (RX3, TX3, 15), (RX4, TX4, 10)]
end
section
theorem dX0_init_0 : decode cX0_init 0 = .ok (.aload_n 0, 1) := by decide +kernel
theorem dX0_init_1 : decode cX0_init 1 = .ok (.invokespecial 3, 3) := by decide +kernel
theorem dX0_init_4 : decode cX0_init 4 = .ok (.aload_n 0, 1) := by decide +kernel
theorem dX0_init_5 : decode cX0_init 5 = .ok (.sipush 144, 3) := by decide +kernel
theorem dX0_init_8 : decode cX0_init 8 = .ok (.newarray .int, 2) := by decide +kernel
theorem dX0_init_10 : decode cX0_init 10 = .ok (.putfield 9, 3) := by decide +kernel
theorem dX0_init_13 : decode cX0_init 13 = .ok (.aload_n 0, 1) := by decide +kernel
theorem dX0_init_14 : decode cX0_init 14 = .ok (.sipush 144, 3) := by decide +kernel
theorem dX0_init_17 : decode cX0_init 17 = .ok (.newarray .int, 2) := by decide +kernel
theorem dX0_init_19 : decode cX0_init 19 = .ok (.putfield 15, 3) := by decide +kernel
theorem dX0_init_22 : decode cX0_init 22 = .ok (.aload_n 0, 1) := by decide +kernel
theorem dX0_init_23 : decode cX0_init 23 = .ok (.sipush 144, 3) := by decide +kernel
theorem dX0_init_26 : decode cX0_init 26 = .ok (.newarray .int, 2) := by decide +kernel
theorem dX0_init_28 : decode cX0_init 28 = .ok (.putfield 18, 3) := by decide +kernel
theorem dX0_init_31 : decode cX0_init 31 = .ok (.return_, 1) := by decide +kernel
theorem dX0_crackAll_0 : decode cX0_crackAll 0 = .ok (.iconst 0, 1) := by decide +kernel
theorem dX0_crackAll_1 : decode cX0_crackAll 1 = .ok (.istore 4, 2) := by decide +kernel
theorem dX0_crackAll_3 : decode cX0_crackAll 3 = .ok (.iload 4, 2) := by decide +kernel
theorem dX0_crackAll_5 : decode cX0_crackAll 5 = .ok (.sipush 144, 3) := by decide +kernel
theorem dX0_crackAll_8 : decode cX0_crackAll 8 = .ok (.if_icmp .ge 35, 3) := by decide +kernel
theorem dX0_crackAll_11 : decode cX0_crackAll 11 = .ok (.aload_n 0, 1) := by decide +kernel
theorem dX0_crackAll_12 : decode cX0_crackAll 12 = .ok (.getfield 9, 3) := by decide +kernel
theorem dX0_crackAll_15 : decode cX0_crackAll 15 = .ok (.iload 4, 2) := by decide +kernel
theorem dX0_crackAll_17 : decode cX0_crackAll 17 = .ok (.aload_n 1, 1) := by decide +kernel
theorem dX0_crackAll_18 : decode cX0_crackAll 18 = .ok (.iload 4, 2) := by decide +kernel
theorem dX0_crackAll_20 : decode cX0_crackAll 20 = .ok (.invokevirtual 21, 3) := by decide +kernel
theorem dX0_crackAll_23 : decode cX0_crackAll 23 = .ok (.iastore, 1) := by decide +kernel
theorem dX0_crackAll_24 : decode cX0_crackAll 24 = .ok (.aload_n 0, 1) := by decide +kernel
theorem dX0_crackAll_25 : decode cX0_crackAll 25 = .ok (.getfield 15, 3) := by decide +kernel
theorem dX0_crackAll_28 : decode cX0_crackAll 28 = .ok (.iload 4, 2) := by decide +kernel
theorem dX0_crackAll_30 : decode cX0_crackAll 30 = .ok (.aload_n 1, 1) := by decide +kernel
theorem dX0_crackAll_31 : decode cX0_crackAll 31 = .ok (.iload 4, 2) := by decide +kernel
theorem dX0_crackAll_33 : decode cX0_crackAll 33 = .ok (.invokevirtual 27, 3) := by decide +kernel
theorem dX0_crackAll_36 : decode cX0_crackAll 36 = .ok (.iastore, 1) := by decide +kernel
theorem dX0_crackAll_37 : decode cX0_crackAll 37 = .ok (.iinc 4 1, 3) := by decide +kernel
theorem dX0_crackAll_40 : decode cX0_crackAll 40 = .ok (.goto (-37), 3) := by decide +kernel
theorem dX0_crackAll_43 : decode cX0_crackAll 43 = .ok (.iconst 0, 1) := by decide +kernel
theorem dX0_crackAll_44 : decode cX0_crackAll 44 = .ok (.istore 4, 2) := by decide +kernel
theorem dX0_crackAll_46 : decode cX0_crackAll 46 = .ok (.iconst 0, 1) := by decide +kernel
theorem dX0_crackAll_47 : decode cX0_crackAll 47 = .ok (.istore 5, 2) := by decide +kernel
theorem dX0_crackAll_49 : decode cX0_crackAll 49 = .ok (.iload 5, 2) := by decide +kernel
theorem dX0_crackAll_51 : decode cX0_crackAll 51 = .ok (.sipush 144, 3) := by decide +kernel
theorem dX0_crackAll_54 : decode cX0_crackAll 54 = .ok (.if_icmp .gt 36, 3) := by decide +kernel
theorem dX0_crackAll_57 : decode cX0_crackAll 57 = .ok (.aload_n 0, 1) := by decide +kernel
theorem dX0_crackAll_58 : decode cX0_crackAll 58 = .ok (.aload_n 1, 1) := by decide +kernel
theorem dX0_crackAll_59 : decode cX0_crackAll 59 = .ok (.iload_n 2, 1) := by decide +kernel
theorem dX0_crackAll_60 : decode cX0_crackAll 60 = .ok (.iload_n 3, 1) := by decide +kernel
theorem dX0_crackAll_61 : decode cX0_crackAll 61 = .ok (.invokevirtual 30, 3) := by decide +kernel
theorem dX0_crackAll_64 : decode cX0_crackAll 64 = .ok (.aload_n 0, 1) := by decide +kernel
theorem dX0_crackAll_65 : decode cX0_crackAll 65 = .ok (.getfield 34, 3) := by decide +kernel
theorem dX0_crackAll_68 : decode cX0_crackAll 68 = .ok (.ifCond .ne 6, 3) := by decide +kernel
theorem dX0_crackAll_71 : decode cX0_crackAll 71 = .ok (.goto 19, 3) := by decide +kernel
theorem dX0_crackAll_74 : decode cX0_crackAll 74 = .ok (.iload 4, 2) := by decide +kernel
theorem dX0_crackAll_76 : decode cX0_crackAll 76 = .ok (.aload_n 0, 1) := by decide +kernel
theorem dX0_crackAll_77 : decode cX0_crackAll 77 = .ok (.aload_n 1, 1) := by decide +kernel
theorem dX0_crackAll_78 : decode cX0_crackAll 78 = .ok (.invokevirtual 38, 3) := by decide +kernel
theorem dX0_crackAll_81 : decode cX0_crackAll 81 = .ok (.iadd, 1) := by decide +kernel
theorem dX0_crackAll_82 : decode cX0_crackAll 82 = .ok (.istore 4, 2) := by decide +kernel
theorem dX0_crackAll_84 : decode cX0_crackAll 84 = .ok (.iinc 5 1, 3) := by decide +kernel
theorem dX0_crackAll_87 : decode cX0_crackAll 87 = .ok (.goto (-38), 3) := by decide +kernel
theorem dX0_crackAll_90 : decode cX0_crackAll 90 = .ok (.iload 4, 2) := by decide +kernel
theorem dX0_crackAll_92 : decode cX0_crackAll 92 = .ok (.ireturn, 1) := by decide +kernel
theorem dX0_crackAtFold_0 : decode cX0_crackAtFold 0 = .ok (.aload_n 0, 1) := by decide +kernel
theorem dX0_crackAtFold_1 : decode cX0_crackAtFold 1 = .ok (.iconst 0, 1) := by decide +kernel
theorem dX0_crackAtFold_2 : decode cX0_crackAtFold 2 = .ok (.putfield 34, 3) := by decide +kernel
theorem dX0_crackAtFold_5 : decode cX0_crackAtFold 5 = .ok (.iconst 0, 1) := by decide +kernel
theorem dX0_crackAtFold_6 : decode cX0_crackAtFold 6 = .ok (.istore 5, 2) := by decide +kernel
theorem dX0_crackAtFold_8 : decode cX0_crackAtFold 8 = .ok (.iload 5, 2) := by decide +kernel
theorem dX0_crackAtFold_10 : decode cX0_crackAtFold 10 = .ok (.bipush 12, 2) := by decide +kernel
theorem dX0_crackAtFold_12 : decode cX0_crackAtFold 12 = .ok (.if_icmp .ge 102, 3) := by decide +kernel
theorem dX0_crackAtFold_15 : decode cX0_crackAtFold 15 = .ok (.iload 5, 2) := by decide +kernel
theorem dX0_crackAtFold_17 : decode cX0_crackAtFold 17 = .ok (.i2l, 1) := by decide +kernel
theorem dX0_crackAtFold_18 : decode cX0_crackAtFold 18 = .ok (.iload_n 2, 1) := by decide +kernel
theorem dX0_crackAtFold_19 : decode cX0_crackAtFold 19 = .ok (.i2l, 1) := by decide +kernel
theorem dX0_crackAtFold_20 : decode cX0_crackAtFold 20 = .ok (.invokestatic 42, 3) := by decide +kernel
theorem dX0_crackAtFold_23 : decode cX0_crackAtFold 23 = .ok (.istore 6, 2) := by decide +kernel
theorem dX0_crackAtFold_25 : decode cX0_crackAtFold 25 = .ok (.iload 5, 2) := by decide +kernel
theorem dX0_crackAtFold_27 : decode cX0_crackAtFold 27 = .ok (.i2l, 1) := by decide +kernel
theorem dX0_crackAtFold_28 : decode cX0_crackAtFold 28 = .ok (.iload_n 2, 1) := by decide +kernel
theorem dX0_crackAtFold_29 : decode cX0_crackAtFold 29 = .ok (.iconst 1, 1) := by decide +kernel
theorem dX0_crackAtFold_30 : decode cX0_crackAtFold 30 = .ok (.isub, 1) := by decide +kernel
theorem dX0_crackAtFold_31 : decode cX0_crackAtFold 31 = .ok (.i2l, 1) := by decide +kernel
theorem dX0_crackAtFold_32 : decode cX0_crackAtFold 32 = .ok (.invokestatic 42, 3) := by decide +kernel
theorem dX0_crackAtFold_35 : decode cX0_crackAtFold 35 = .ok (.istore 7, 2) := by decide +kernel
theorem dX0_crackAtFold_37 : decode cX0_crackAtFold 37 = .ok (.iload 6, 2) := by decide +kernel
theorem dX0_crackAtFold_39 : decode cX0_crackAtFold 39 = .ok (.iconst (-1), 1) := by decide +kernel
theorem dX0_crackAtFold_40 : decode cX0_crackAtFold 40 = .ok (.if_icmp .eq 68, 3) := by decide +kernel
theorem dX0_crackAtFold_43 : decode cX0_crackAtFold 43 = .ok (.iload 7, 2) := by decide +kernel
theorem dX0_crackAtFold_45 : decode cX0_crackAtFold 45 = .ok (.iconst (-1), 1) := by decide +kernel
theorem dX0_crackAtFold_46 : decode cX0_crackAtFold 46 = .ok (.if_icmp .ne 6, 3) := by decide +kernel
theorem dX0_crackAtFold_49 : decode cX0_crackAtFold 49 = .ok (.goto 59, 3) := by decide +kernel
theorem dX0_crackAtFold_52 : decode cX0_crackAtFold 52 = .ok (.aload_n 1, 1) := by decide +kernel
theorem dX0_crackAtFold_53 : decode cX0_crackAtFold 53 = .ok (.iload 6, 2) := by decide +kernel
theorem dX0_crackAtFold_55 : decode cX0_crackAtFold 55 = .ok (.iload 7, 2) := by decide +kernel
theorem dX0_crackAtFold_57 : decode cX0_crackAtFold 57 = .ok (.invokevirtual 46, 3) := by decide +kernel
theorem dX0_crackAtFold_60 : decode cX0_crackAtFold 60 = .ok (.istore 8, 2) := by decide +kernel
theorem dX0_crackAtFold_62 : decode cX0_crackAtFold 62 = .ok (.iload 8, 2) := by decide +kernel
theorem dX0_crackAtFold_64 : decode cX0_crackAtFold 64 = .ok (.aload_n 1, 1) := by decide +kernel
theorem dX0_crackAtFold_65 : decode cX0_crackAtFold 65 = .ok (.iload 7, 2) := by decide +kernel
theorem dX0_crackAtFold_67 : decode cX0_crackAtFold 67 = .ok (.iload_n 3, 1) := by decide +kernel
theorem dX0_crackAtFold_68 : decode cX0_crackAtFold 68 = .ok (.iload 4, 2) := by decide +kernel
theorem dX0_crackAtFold_70 : decode cX0_crackAtFold 70 = .ok (.invokevirtual 50, 3) := by decide +kernel
theorem dX0_crackAtFold_73 : decode cX0_crackAtFold 73 = .ok (.iconst 2, 1) := by decide +kernel
theorem dX0_crackAtFold_74 : decode cX0_crackAtFold 74 = .ok (.idiv, 1) := by decide +kernel
theorem dX0_crackAtFold_75 : decode cX0_crackAtFold 75 = .ok (.if_icmp .le 10, 3) := by decide +kernel
theorem dX0_crackAtFold_78 : decode cX0_crackAtFold 78 = .ok (.aload_n 0, 1) := by decide +kernel
theorem dX0_crackAtFold_79 : decode cX0_crackAtFold 79 = .ok (.aload_n 1, 1) := by decide +kernel
theorem dX0_crackAtFold_80 : decode cX0_crackAtFold 80 = .ok (.iload 7, 2) := by decide +kernel
theorem dX0_crackAtFold_82 : decode cX0_crackAtFold 82 = .ok (.invokevirtual 54, 3) := by decide +kernel
theorem dX0_crackAtFold_85 : decode cX0_crackAtFold 85 = .ok (.iload 8, 2) := by decide +kernel
theorem dX0_crackAtFold_87 : decode cX0_crackAtFold 87 = .ok (.aload_n 1, 1) := by decide +kernel
theorem dX0_crackAtFold_88 : decode cX0_crackAtFold 88 = .ok (.iload 6, 2) := by decide +kernel
theorem dX0_crackAtFold_90 : decode cX0_crackAtFold 90 = .ok (.iload_n 3, 1) := by decide +kernel
theorem dX0_crackAtFold_91 : decode cX0_crackAtFold 91 = .ok (.iload 4, 2) := by decide +kernel
theorem dX0_crackAtFold_93 : decode cX0_crackAtFold 93 = .ok (.invokevirtual 50, 3) := by decide +kernel
theorem dX0_crackAtFold_96 : decode cX0_crackAtFold 96 = .ok (.iconst 2, 1) := by decide +kernel
theorem dX0_crackAtFold_97 : decode cX0_crackAtFold 97 = .ok (.idiv, 1) := by decide +kernel
theorem dX0_crackAtFold_98 : decode cX0_crackAtFold 98 = .ok (.if_icmp .le 10, 3) := by decide +kernel
theorem dX0_crackAtFold_101 : decode cX0_crackAtFold 101 = .ok (.aload_n 0, 1) := by decide +kernel
theorem dX0_crackAtFold_102 : decode cX0_crackAtFold 102 = .ok (.aload_n 1, 1) := by decide +kernel
theorem dX0_crackAtFold_103 : decode cX0_crackAtFold 103 = .ok (.iload 6, 2) := by decide +kernel
theorem dX0_crackAtFold_105 : decode cX0_crackAtFold 105 = .ok (.invokevirtual 54, 3) := by decide +kernel
theorem dX0_crackAtFold_108 : decode cX0_crackAtFold 108 = .ok (.iinc 5 1, 3) := by decide +kernel
theorem dX0_crackAtFold_111 : decode cX0_crackAtFold 111 = .ok (.goto (-103), 3) := by decide +kernel
theorem dX0_crackAtFold_114 : decode cX0_crackAtFold 114 = .ok (.aload_n 0, 1) := by decide +kernel
theorem dX0_crackAtFold_115 : decode cX0_crackAtFold 115 = .ok (.aload_n 1, 1) := by decide +kernel
theorem dX0_crackAtFold_116 : decode cX0_crackAtFold 116 = .ok (.invokevirtual 38, 3) := by decide +kernel
theorem dX0_crackAtFold_119 : decode cX0_crackAtFold 119 = .ok (.ireturn, 1) := by decide +kernel
theorem dX0_findOverstrained_0 : decode cX0_findOverstrained 0 = .ok (.aload_n 0, 1) := by decide +kernel
theorem dX0_findOverstrained_1 : decode cX0_findOverstrained 1 = .ok (.iconst 0, 1) := by decide +kernel
theorem dX0_findOverstrained_2 : decode cX0_findOverstrained 2 = .ok (.putfield 34, 3) := by decide +kernel
theorem dX0_findOverstrained_5 : decode cX0_findOverstrained 5 = .ok (.iconst 0, 1) := by decide +kernel
theorem dX0_findOverstrained_6 : decode cX0_findOverstrained 6 = .ok (.istore 4, 2) := by decide +kernel
theorem dX0_findOverstrained_8 : decode cX0_findOverstrained 8 = .ok (.iload 4, 2) := by decide +kernel
theorem dX0_findOverstrained_10 : decode cX0_findOverstrained 10 = .ok (.sipush 144, 3) := by decide +kernel
theorem dX0_findOverstrained_13 : decode cX0_findOverstrained 13 = .ok (.if_icmp .ge 47, 3) := by decide +kernel
theorem dX0_findOverstrained_16 : decode cX0_findOverstrained 16 = .ok (.aload_n 0, 1) := by decide +kernel
theorem dX0_findOverstrained_17 : decode cX0_findOverstrained 17 = .ok (.getfield 9, 3) := by decide +kernel
theorem dX0_findOverstrained_20 : decode cX0_findOverstrained 20 = .ok (.iload 4, 2) := by decide +kernel
theorem dX0_findOverstrained_22 : decode cX0_findOverstrained 22 = .ok (.iaload, 1) := by decide +kernel
theorem dX0_findOverstrained_23 : decode cX0_findOverstrained 23 = .ok (.ifCond .le 31, 3) := by decide +kernel
theorem dX0_findOverstrained_26 : decode cX0_findOverstrained 26 = .ok (.aload_n 0, 1) := by decide +kernel
theorem dX0_findOverstrained_27 : decode cX0_findOverstrained 27 = .ok (.getfield 9, 3) := by decide +kernel
theorem dX0_findOverstrained_30 : decode cX0_findOverstrained 30 = .ok (.iload 4, 2) := by decide +kernel
theorem dX0_findOverstrained_32 : decode cX0_findOverstrained 32 = .ok (.iaload, 1) := by decide +kernel
theorem dX0_findOverstrained_33 : decode cX0_findOverstrained 33 = .ok (.iload_n 2, 1) := by decide +kernel
theorem dX0_findOverstrained_34 : decode cX0_findOverstrained 34 = .ok (.iload_n 3, 1) := by decide +kernel
theorem dX0_findOverstrained_35 : decode cX0_findOverstrained 35 = .ok (.aload_n 0, 1) := by decide +kernel
theorem dX0_findOverstrained_36 : decode cX0_findOverstrained 36 = .ok (.getfield 15, 3) := by decide +kernel
theorem dX0_findOverstrained_39 : decode cX0_findOverstrained 39 = .ok (.iload 4, 2) := by decide +kernel
theorem dX0_findOverstrained_41 : decode cX0_findOverstrained 41 = .ok (.iaload, 1) := by decide +kernel
theorem dX0_findOverstrained_42 : decode cX0_findOverstrained 42 = .ok (.imul, 1) := by decide +kernel
theorem dX0_findOverstrained_43 : decode cX0_findOverstrained 43 = .ok (.isub, 1) := by decide +kernel
theorem dX0_findOverstrained_44 : decode cX0_findOverstrained 44 = .ok (.if_icmp .le 10, 3) := by decide +kernel
theorem dX0_findOverstrained_47 : decode cX0_findOverstrained 47 = .ok (.aload_n 0, 1) := by decide +kernel
theorem dX0_findOverstrained_48 : decode cX0_findOverstrained 48 = .ok (.aload_n 1, 1) := by decide +kernel
theorem dX0_findOverstrained_49 : decode cX0_findOverstrained 49 = .ok (.iload 4, 2) := by decide +kernel
theorem dX0_findOverstrained_51 : decode cX0_findOverstrained 51 = .ok (.invokevirtual 54, 3) := by decide +kernel
theorem dX0_findOverstrained_54 : decode cX0_findOverstrained 54 = .ok (.iinc 4 1, 3) := by decide +kernel
theorem dX0_findOverstrained_57 : decode cX0_findOverstrained 57 = .ok (.goto (-49), 3) := by decide +kernel
theorem dX0_findOverstrained_60 : decode cX0_findOverstrained 60 = .ok (.return_, 1) := by decide +kernel
theorem dX0_noteIfWhole_0 : decode cX0_noteIfWhole 0 = .ok (.aload_n 1, 1) := by decide +kernel
theorem dX0_noteIfWhole_1 : decode cX0_noteIfWhole 1 = .ok (.getfield 58, 3) := by decide +kernel
theorem dX0_noteIfWhole_4 : decode cX0_noteIfWhole 4 = .ok (.iload_n 2, 1) := by decide +kernel
theorem dX0_noteIfWhole_5 : decode cX0_noteIfWhole 5 = .ok (.iaload, 1) := by decide +kernel
theorem dX0_noteIfWhole_6 : decode cX0_noteIfWhole 6 = .ok (.ifCond .ne 33, 3) := by decide +kernel
theorem dX0_noteIfWhole_9 : decode cX0_noteIfWhole 9 = .ok (.aload_n 0, 1) := by decide +kernel
theorem dX0_noteIfWhole_10 : decode cX0_noteIfWhole 10 = .ok (.getfield 34, 3) := by decide +kernel
theorem dX0_noteIfWhole_13 : decode cX0_noteIfWhole 13 = .ok (.sipush 144, 3) := by decide +kernel
theorem dX0_noteIfWhole_16 : decode cX0_noteIfWhole 16 = .ok (.if_icmp .ge 23, 3) := by decide +kernel
theorem dX0_noteIfWhole_19 : decode cX0_noteIfWhole 19 = .ok (.aload_n 0, 1) := by decide +kernel
theorem dX0_noteIfWhole_20 : decode cX0_noteIfWhole 20 = .ok (.getfield 18, 3) := by decide +kernel
theorem dX0_noteIfWhole_23 : decode cX0_noteIfWhole 23 = .ok (.aload_n 0, 1) := by decide +kernel
theorem dX0_noteIfWhole_24 : decode cX0_noteIfWhole 24 = .ok (.getfield 34, 3) := by decide +kernel
theorem dX0_noteIfWhole_27 : decode cX0_noteIfWhole 27 = .ok (.iload_n 2, 1) := by decide +kernel
theorem dX0_noteIfWhole_28 : decode cX0_noteIfWhole 28 = .ok (.iastore, 1) := by decide +kernel
theorem dX0_noteIfWhole_29 : decode cX0_noteIfWhole 29 = .ok (.aload_n 0, 1) := by decide +kernel
theorem dX0_noteIfWhole_30 : decode cX0_noteIfWhole 30 = .ok (.dup, 1) := by decide +kernel
theorem dX0_noteIfWhole_31 : decode cX0_noteIfWhole 31 = .ok (.getfield 34, 3) := by decide +kernel
theorem dX0_noteIfWhole_34 : decode cX0_noteIfWhole 34 = .ok (.iconst 1, 1) := by decide +kernel
theorem dX0_noteIfWhole_35 : decode cX0_noteIfWhole 35 = .ok (.iadd, 1) := by decide +kernel
theorem dX0_noteIfWhole_36 : decode cX0_noteIfWhole 36 = .ok (.putfield 34, 3) := by decide +kernel
theorem dX0_noteIfWhole_39 : decode cX0_noteIfWhole 39 = .ok (.return_, 1) := by decide +kernel
theorem dX0_crackFound_0 : decode cX0_crackFound 0 = .ok (.iconst 0, 1) := by decide +kernel
theorem dX0_crackFound_1 : decode cX0_crackFound 1 = .ok (.istore_n 2, 1) := by decide +kernel
theorem dX0_crackFound_2 : decode cX0_crackFound 2 = .ok (.iload_n 2, 1) := by decide +kernel
theorem dX0_crackFound_3 : decode cX0_crackFound 3 = .ok (.aload_n 0, 1) := by decide +kernel
theorem dX0_crackFound_4 : decode cX0_crackFound 4 = .ok (.getfield 34, 3) := by decide +kernel
theorem dX0_crackFound_7 : decode cX0_crackFound 7 = .ok (.if_icmp .ge 38, 3) := by decide +kernel
theorem dX0_crackFound_10 : decode cX0_crackFound 10 = .ok (.iload_n 2, 1) := by decide +kernel
theorem dX0_crackFound_11 : decode cX0_crackFound 11 = .ok (.sipush 144, 3) := by decide +kernel
theorem dX0_crackFound_14 : decode cX0_crackFound 14 = .ok (.if_icmp .ge 31, 3) := by decide +kernel
theorem dX0_crackFound_17 : decode cX0_crackFound 17 = .ok (.aload_n 1, 1) := by decide +kernel
theorem dX0_crackFound_18 : decode cX0_crackFound 18 = .ok (.getfield 58, 3) := by decide +kernel
theorem dX0_crackFound_21 : decode cX0_crackFound 21 = .ok (.aload_n 0, 1) := by decide +kernel
theorem dX0_crackFound_22 : decode cX0_crackFound 22 = .ok (.getfield 18, 3) := by decide +kernel
theorem dX0_crackFound_25 : decode cX0_crackFound 25 = .ok (.iload_n 2, 1) := by decide +kernel
theorem dX0_crackFound_26 : decode cX0_crackFound 26 = .ok (.iaload, 1) := by decide +kernel
theorem dX0_crackFound_27 : decode cX0_crackFound 27 = .ok (.iconst 1, 1) := by decide +kernel
theorem dX0_crackFound_28 : decode cX0_crackFound 28 = .ok (.iastore, 1) := by decide +kernel
theorem dX0_crackFound_29 : decode cX0_crackFound 29 = .ok (.aload_n 0, 1) := by decide +kernel
theorem dX0_crackFound_30 : decode cX0_crackFound 30 = .ok (.aload_n 0, 1) := by decide +kernel
theorem dX0_crackFound_31 : decode cX0_crackFound 31 = .ok (.getfield 18, 3) := by decide +kernel
theorem dX0_crackFound_34 : decode cX0_crackFound 34 = .ok (.iload_n 2, 1) := by decide +kernel
theorem dX0_crackFound_35 : decode cX0_crackFound 35 = .ok (.iaload, 1) := by decide +kernel
theorem dX0_crackFound_36 : decode cX0_crackFound 36 = .ok (.invokevirtual 61, 3) := by decide +kernel
theorem dX0_crackFound_39 : decode cX0_crackFound 39 = .ok (.iinc 2 1, 3) := by decide +kernel
theorem dX0_crackFound_42 : decode cX0_crackFound 42 = .ok (.goto (-40), 3) := by decide +kernel
theorem dX0_crackFound_45 : decode cX0_crackFound 45 = .ok (.aload_n 0, 1) := by decide +kernel
theorem dX0_crackFound_46 : decode cX0_crackFound 46 = .ok (.getfield 34, 3) := by decide +kernel
theorem dX0_crackFound_49 : decode cX0_crackFound 49 = .ok (.ireturn, 1) := by decide +kernel
theorem dX0_weakenBeside_0 : decode cX0_weakenBeside 0 = .ok (.iload_n 1, 1) := by decide +kernel
theorem dX0_weakenBeside_1 : decode cX0_weakenBeside 1 = .ok (.bipush 12, 2) := by decide +kernel
theorem dX0_weakenBeside_3 : decode cX0_weakenBeside 3 = .ok (.irem, 1) := by decide +kernel
theorem dX0_weakenBeside_4 : decode cX0_weakenBeside 4 = .ok (.istore_n 2, 1) := by decide +kernel
theorem dX0_weakenBeside_5 : decode cX0_weakenBeside 5 = .ok (.iload_n 2, 1) := by decide +kernel
theorem dX0_weakenBeside_6 : decode cX0_weakenBeside 6 = .ok (.ifCond .le 15, 3) := by decide +kernel
theorem dX0_weakenBeside_9 : decode cX0_weakenBeside 9 = .ok (.aload_n 0, 1) := by decide +kernel
theorem dX0_weakenBeside_10 : decode cX0_weakenBeside 10 = .ok (.getfield 15, 3) := by decide +kernel
theorem dX0_weakenBeside_13 : decode cX0_weakenBeside 13 = .ok (.iload_n 1, 1) := by decide +kernel
theorem dX0_weakenBeside_14 : decode cX0_weakenBeside 14 = .ok (.iconst 1, 1) := by decide +kernel
theorem dX0_weakenBeside_15 : decode cX0_weakenBeside 15 = .ok (.isub, 1) := by decide +kernel
theorem dX0_weakenBeside_16 : decode cX0_weakenBeside 16 = .ok (.dup2, 1) := by decide +kernel
theorem dX0_weakenBeside_17 : decode cX0_weakenBeside 17 = .ok (.iaload, 1) := by decide +kernel
theorem dX0_weakenBeside_18 : decode cX0_weakenBeside 18 = .ok (.iconst 1, 1) := by decide +kernel
theorem dX0_weakenBeside_19 : decode cX0_weakenBeside 19 = .ok (.iadd, 1) := by decide +kernel
theorem dX0_weakenBeside_20 : decode cX0_weakenBeside 20 = .ok (.iastore, 1) := by decide +kernel
theorem dX0_weakenBeside_21 : decode cX0_weakenBeside 21 = .ok (.iload_n 2, 1) := by decide +kernel
theorem dX0_weakenBeside_22 : decode cX0_weakenBeside 22 = .ok (.bipush 11, 2) := by decide +kernel
theorem dX0_weakenBeside_24 : decode cX0_weakenBeside 24 = .ok (.if_icmp .ge 15, 3) := by decide +kernel
theorem dX0_weakenBeside_27 : decode cX0_weakenBeside 27 = .ok (.aload_n 0, 1) := by decide +kernel
theorem dX0_weakenBeside_28 : decode cX0_weakenBeside 28 = .ok (.getfield 15, 3) := by decide +kernel
theorem dX0_weakenBeside_31 : decode cX0_weakenBeside 31 = .ok (.iload_n 1, 1) := by decide +kernel
theorem dX0_weakenBeside_32 : decode cX0_weakenBeside 32 = .ok (.iconst 1, 1) := by decide +kernel
theorem dX0_weakenBeside_33 : decode cX0_weakenBeside 33 = .ok (.iadd, 1) := by decide +kernel
theorem dX0_weakenBeside_34 : decode cX0_weakenBeside 34 = .ok (.dup2, 1) := by decide +kernel
theorem dX0_weakenBeside_35 : decode cX0_weakenBeside 35 = .ok (.iaload, 1) := by decide +kernel
theorem dX0_weakenBeside_36 : decode cX0_weakenBeside 36 = .ok (.iconst 1, 1) := by decide +kernel
theorem dX0_weakenBeside_37 : decode cX0_weakenBeside 37 = .ok (.iadd, 1) := by decide +kernel
theorem dX0_weakenBeside_38 : decode cX0_weakenBeside 38 = .ok (.iastore, 1) := by decide +kernel
theorem dX0_weakenBeside_39 : decode cX0_weakenBeside 39 = .ok (.iload_n 1, 1) := by decide +kernel
theorem dX0_weakenBeside_40 : decode cX0_weakenBeside 40 = .ok (.bipush 12, 2) := by decide +kernel
theorem dX0_weakenBeside_42 : decode cX0_weakenBeside 42 = .ok (.if_icmp .lt 16, 3) := by decide +kernel
theorem dX0_weakenBeside_45 : decode cX0_weakenBeside 45 = .ok (.aload_n 0, 1) := by decide +kernel
theorem dX0_weakenBeside_46 : decode cX0_weakenBeside 46 = .ok (.getfield 15, 3) := by decide +kernel
theorem dX0_weakenBeside_49 : decode cX0_weakenBeside 49 = .ok (.iload_n 1, 1) := by decide +kernel
theorem dX0_weakenBeside_50 : decode cX0_weakenBeside 50 = .ok (.bipush 12, 2) := by decide +kernel
theorem dX0_weakenBeside_52 : decode cX0_weakenBeside 52 = .ok (.isub, 1) := by decide +kernel
theorem dX0_weakenBeside_53 : decode cX0_weakenBeside 53 = .ok (.dup2, 1) := by decide +kernel
theorem dX0_weakenBeside_54 : decode cX0_weakenBeside 54 = .ok (.iaload, 1) := by decide +kernel
theorem dX0_weakenBeside_55 : decode cX0_weakenBeside 55 = .ok (.iconst 1, 1) := by decide +kernel
theorem dX0_weakenBeside_56 : decode cX0_weakenBeside 56 = .ok (.iadd, 1) := by decide +kernel
theorem dX0_weakenBeside_57 : decode cX0_weakenBeside 57 = .ok (.iastore, 1) := by decide +kernel
theorem dX0_weakenBeside_58 : decode cX0_weakenBeside 58 = .ok (.iload_n 1, 1) := by decide +kernel
theorem dX0_weakenBeside_59 : decode cX0_weakenBeside 59 = .ok (.sipush 132, 3) := by decide +kernel
theorem dX0_weakenBeside_62 : decode cX0_weakenBeside 62 = .ok (.if_icmp .ge 16, 3) := by decide +kernel
theorem dX0_weakenBeside_65 : decode cX0_weakenBeside 65 = .ok (.aload_n 0, 1) := by decide +kernel
theorem dX0_weakenBeside_66 : decode cX0_weakenBeside 66 = .ok (.getfield 15, 3) := by decide +kernel
theorem dX0_weakenBeside_69 : decode cX0_weakenBeside 69 = .ok (.iload_n 1, 1) := by decide +kernel
theorem dX0_weakenBeside_70 : decode cX0_weakenBeside 70 = .ok (.bipush 12, 2) := by decide +kernel
theorem dX0_weakenBeside_72 : decode cX0_weakenBeside 72 = .ok (.iadd, 1) := by decide +kernel
theorem dX0_weakenBeside_73 : decode cX0_weakenBeside 73 = .ok (.dup2, 1) := by decide +kernel
theorem dX0_weakenBeside_74 : decode cX0_weakenBeside 74 = .ok (.iaload, 1) := by decide +kernel
theorem dX0_weakenBeside_75 : decode cX0_weakenBeside 75 = .ok (.iconst 1, 1) := by decide +kernel
theorem dX0_weakenBeside_76 : decode cX0_weakenBeside 76 = .ok (.iadd, 1) := by decide +kernel
theorem dX0_weakenBeside_77 : decode cX0_weakenBeside 77 = .ok (.iastore, 1) := by decide +kernel
theorem dX0_weakenBeside_78 : decode cX0_weakenBeside 78 = .ok (.return_, 1) := by decide +kernel
theorem dX1_init_0 : decode cX1_init 0 = .ok (.aload_n 0, 1) := by decide +kernel
theorem dX1_init_1 : decode cX1_init 1 = .ok (.invokespecial 3, 3) := by decide +kernel
theorem dX1_init_4 : decode cX1_init 4 = .ok (.aload_n 0, 1) := by decide +kernel
theorem dX1_init_5 : decode cX1_init 5 = .ok (.bipush 40, 2) := by decide +kernel
theorem dX1_init_7 : decode cX1_init 7 = .ok (.newarray .int, 2) := by decide +kernel
theorem dX1_init_9 : decode cX1_init 9 = .ok (.putfield 9, 3) := by decide +kernel
theorem dX1_init_12 : decode cX1_init 12 = .ok (.return_, 1) := by decide +kernel
theorem dX2_init_0 : decode cX2_init 0 = .ok (.aload_n 0, 1) := by decide +kernel
theorem dX2_init_1 : decode cX2_init 1 = .ok (.invokespecial 3, 3) := by decide +kernel
theorem dX2_init_4 : decode cX2_init 4 = .ok (.aload_n 0, 1) := by decide +kernel
theorem dX2_init_5 : decode cX2_init 5 = .ok (.sipush 144, 3) := by decide +kernel
theorem dX2_init_8 : decode cX2_init 8 = .ok (.newarray .int, 2) := by decide +kernel
theorem dX2_init_10 : decode cX2_init 10 = .ok (.putfield 9, 3) := by decide +kernel
theorem dX2_init_13 : decode cX2_init 13 = .ok (.aload_n 0, 1) := by decide +kernel
theorem dX2_init_14 : decode cX2_init 14 = .ok (.sipush 144, 3) := by decide +kernel
theorem dX2_init_17 : decode cX2_init 17 = .ok (.newarray .int, 2) := by decide +kernel
theorem dX2_init_19 : decode cX2_init 19 = .ok (.putfield 15, 3) := by decide +kernel
theorem dX2_init_22 : decode cX2_init 22 = .ok (.aload_n 0, 1) := by decide +kernel
theorem dX2_init_23 : decode cX2_init 23 = .ok (.sipush 144, 3) := by decide +kernel
theorem dX2_init_26 : decode cX2_init 26 = .ok (.newarray .int, 2) := by decide +kernel
theorem dX2_init_28 : decode cX2_init 28 = .ok (.putfield 18, 3) := by decide +kernel
theorem dX2_init_31 : decode cX2_init 31 = .ok (.aload_n 0, 1) := by decide +kernel
theorem dX2_init_32 : decode cX2_init 32 = .ok (.sipush 144, 3) := by decide +kernel
theorem dX2_init_35 : decode cX2_init 35 = .ok (.newarray .int, 2) := by decide +kernel
theorem dX2_init_37 : decode cX2_init 37 = .ok (.putfield 21, 3) := by decide +kernel
theorem dX2_init_40 : decode cX2_init 40 = .ok (.return_, 1) := by decide +kernel
theorem dX2_makeNew_0 : decode cX2_makeNew 0 = .ok (.aload_n 0, 1) := by decide +kernel
theorem dX2_makeNew_1 : decode cX2_makeNew 1 = .ok (.getfield 9, 3) := by decide +kernel
theorem dX2_makeNew_4 : decode cX2_makeNew 4 = .ok (.iconst 0, 1) := by decide +kernel
theorem dX2_makeNew_5 : decode cX2_makeNew 5 = .ok (.invokestatic 24, 3) := by decide +kernel
theorem dX2_makeNew_8 : decode cX2_makeNew 8 = .ok (.aload_n 0, 1) := by decide +kernel
theorem dX2_makeNew_9 : decode cX2_makeNew 9 = .ok (.getfield 15, 3) := by decide +kernel
theorem dX2_makeNew_12 : decode cX2_makeNew 12 = .ok (.iconst 0, 1) := by decide +kernel
theorem dX2_makeNew_13 : decode cX2_makeNew 13 = .ok (.invokestatic 24, 3) := by decide +kernel
theorem dX2_makeNew_16 : decode cX2_makeNew 16 = .ok (.aload_n 0, 1) := by decide +kernel
theorem dX2_makeNew_17 : decode cX2_makeNew 17 = .ok (.getfield 18, 3) := by decide +kernel
theorem dX2_makeNew_20 : decode cX2_makeNew 20 = .ok (.iconst 0, 1) := by decide +kernel
theorem dX2_makeNew_21 : decode cX2_makeNew 21 = .ok (.invokestatic 24, 3) := by decide +kernel
theorem dX2_makeNew_24 : decode cX2_makeNew 24 = .ok (.aload_n 0, 1) := by decide +kernel
theorem dX2_makeNew_25 : decode cX2_makeNew 25 = .ok (.getfield 21, 3) := by decide +kernel
theorem dX2_makeNew_28 : decode cX2_makeNew 28 = .ok (.iconst 0, 1) := by decide +kernel
theorem dX2_makeNew_29 : decode cX2_makeNew 29 = .ok (.invokestatic 24, 3) := by decide +kernel
theorem dX2_makeNew_32 : decode cX2_makeNew 32 = .ok (.return_, 1) := by decide +kernel
theorem dX2_copyFrom_0 : decode cX2_copyFrom 0 = .ok (.aload_n 0, 1) := by decide +kernel
theorem dX2_copyFrom_1 : decode cX2_copyFrom 1 = .ok (.aload_n 1, 1) := by decide +kernel
theorem dX2_copyFrom_2 : decode cX2_copyFrom 2 = .ok (.invokevirtual 30, 3) := by decide +kernel
theorem dX2_copyFrom_5 : decode cX2_copyFrom 5 = .ok (.aload_n 1, 1) := by decide +kernel
theorem dX2_copyFrom_6 : decode cX2_copyFrom 6 = .ok (.getfield 15, 3) := by decide +kernel
theorem dX2_copyFrom_9 : decode cX2_copyFrom 9 = .ok (.iconst 0, 1) := by decide +kernel
theorem dX2_copyFrom_10 : decode cX2_copyFrom 10 = .ok (.aload_n 0, 1) := by decide +kernel
theorem dX2_copyFrom_11 : decode cX2_copyFrom 11 = .ok (.getfield 15, 3) := by decide +kernel
theorem dX2_copyFrom_14 : decode cX2_copyFrom 14 = .ok (.iconst 0, 1) := by decide +kernel
theorem dX2_copyFrom_15 : decode cX2_copyFrom 15 = .ok (.sipush 144, 3) := by decide +kernel
theorem dX2_copyFrom_18 : decode cX2_copyFrom 18 = .ok (.invokestatic 34, 3) := by decide +kernel
theorem dX2_copyFrom_21 : decode cX2_copyFrom 21 = .ok (.aload_n 1, 1) := by decide +kernel
theorem dX2_copyFrom_22 : decode cX2_copyFrom 22 = .ok (.getfield 21, 3) := by decide +kernel
theorem dX2_copyFrom_25 : decode cX2_copyFrom 25 = .ok (.iconst 0, 1) := by decide +kernel
theorem dX2_copyFrom_26 : decode cX2_copyFrom 26 = .ok (.aload_n 0, 1) := by decide +kernel
theorem dX2_copyFrom_27 : decode cX2_copyFrom 27 = .ok (.getfield 21, 3) := by decide +kernel
theorem dX2_copyFrom_30 : decode cX2_copyFrom 30 = .ok (.iconst 0, 1) := by decide +kernel
theorem dX2_copyFrom_31 : decode cX2_copyFrom 31 = .ok (.sipush 144, 3) := by decide +kernel
theorem dX2_copyFrom_34 : decode cX2_copyFrom 34 = .ok (.invokestatic 34, 3) := by decide +kernel
theorem dX2_copyFrom_37 : decode cX2_copyFrom 37 = .ok (.return_, 1) := by decide +kernel
theorem dX2_copyStrength_0 : decode cX2_copyStrength 0 = .ok (.aload_n 1, 1) := by decide +kernel
theorem dX2_copyStrength_1 : decode cX2_copyStrength 1 = .ok (.getfield 9, 3) := by decide +kernel
theorem dX2_copyStrength_4 : decode cX2_copyStrength 4 = .ok (.iconst 0, 1) := by decide +kernel
theorem dX2_copyStrength_5 : decode cX2_copyStrength 5 = .ok (.aload_n 0, 1) := by decide +kernel
theorem dX2_copyStrength_6 : decode cX2_copyStrength 6 = .ok (.getfield 9, 3) := by decide +kernel
theorem dX2_copyStrength_9 : decode cX2_copyStrength 9 = .ok (.iconst 0, 1) := by decide +kernel
theorem dX2_copyStrength_10 : decode cX2_copyStrength 10 = .ok (.sipush 144, 3) := by decide +kernel
theorem dX2_copyStrength_13 : decode cX2_copyStrength 13 = .ok (.invokestatic 34, 3) := by decide +kernel
theorem dX2_copyStrength_16 : decode cX2_copyStrength 16 = .ok (.aload_n 1, 1) := by decide +kernel
theorem dX2_copyStrength_17 : decode cX2_copyStrength 17 = .ok (.getfield 18, 3) := by decide +kernel
theorem dX2_copyStrength_20 : decode cX2_copyStrength 20 = .ok (.iconst 0, 1) := by decide +kernel
theorem dX2_copyStrength_21 : decode cX2_copyStrength 21 = .ok (.aload_n 0, 1) := by decide +kernel
theorem dX2_copyStrength_22 : decode cX2_copyStrength 22 = .ok (.getfield 18, 3) := by decide +kernel
theorem dX2_copyStrength_25 : decode cX2_copyStrength 25 = .ok (.iconst 0, 1) := by decide +kernel
theorem dX2_copyStrength_26 : decode cX2_copyStrength 26 = .ok (.sipush 144, 3) := by decide +kernel
theorem dX2_copyStrength_29 : decode cX2_copyStrength 29 = .ok (.invokestatic 34, 3) := by decide +kernel
theorem dX2_copyStrength_32 : decode cX2_copyStrength 32 = .ok (.return_, 1) := by decide +kernel
theorem dX2_depthAt_0 : decode cX2_depthAt 0 = .ok (.iload_n 1, 1) := by decide +kernel
theorem dX2_depthAt_1 : decode cX2_depthAt 1 = .ok (.i2l, 1) := by decide +kernel
theorem dX2_depthAt_2 : decode cX2_depthAt 2 = .ok (.iload_n 2, 1) := by decide +kernel
theorem dX2_depthAt_3 : decode cX2_depthAt 3 = .ok (.i2l, 1) := by decide +kernel
theorem dX2_depthAt_4 : decode cX2_depthAt 4 = .ok (.invokestatic 40, 3) := by decide +kernel
theorem dX2_depthAt_7 : decode cX2_depthAt 7 = .ok (.istore_n 3, 1) := by decide +kernel
theorem dX2_depthAt_8 : decode cX2_depthAt 8 = .ok (.iload_n 3, 1) := by decide +kernel
theorem dX2_depthAt_9 : decode cX2_depthAt 9 = .ok (.iconst (-1), 1) := by decide +kernel
theorem dX2_depthAt_10 : decode cX2_depthAt 10 = .ok (.if_icmp .ne 7, 3) := by decide +kernel
theorem dX2_depthAt_13 : decode cX2_depthAt 13 = .ok (.iconst 0, 1) := by decide +kernel
theorem dX2_depthAt_14 : decode cX2_depthAt 14 = .ok (.goto 9, 3) := by decide +kernel
theorem dX2_depthAt_17 : decode cX2_depthAt 17 = .ok (.aload_n 0, 1) := by decide +kernel
theorem dX2_depthAt_18 : decode cX2_depthAt 18 = .ok (.getfield 9, 3) := by decide +kernel
theorem dX2_depthAt_21 : decode cX2_depthAt 21 = .ok (.iload_n 3, 1) := by decide +kernel
theorem dX2_depthAt_22 : decode cX2_depthAt 22 = .ok (.iaload, 1) := by decide +kernel
theorem dX2_depthAt_23 : decode cX2_depthAt 23 = .ok (.ireturn, 1) := by decide +kernel
theorem dX2_emboss_0 : decode cX2_emboss 0 = .ok (.iconst 0, 1) := by decide +kernel
theorem dX2_emboss_1 : decode cX2_emboss 1 = .ok (.istore 6, 2) := by decide +kernel
theorem dX2_emboss_3 : decode cX2_emboss 3 = .ok (.iload 6, 2) := by decide +kernel
theorem dX2_emboss_5 : decode cX2_emboss 5 = .ok (.bipush 25, 2) := by decide +kernel
theorem dX2_emboss_7 : decode cX2_emboss 7 = .ok (.if_icmp .ge 64, 3) := by decide +kernel
theorem dX2_emboss_10 : decode cX2_emboss 10 = .ok (.iload 6, 2) := by decide +kernel
theorem dX2_emboss_12 : decode cX2_emboss 12 = .ok (.lload_n 2, 1) := by decide +kernel
theorem dX2_emboss_13 : decode cX2_emboss 13 = .ok (.lload 4, 2) := by decide +kernel
theorem dX2_emboss_15 : decode cX2_emboss 15 = .ok (.invokestatic 44, 3) := by decide +kernel
theorem dX2_emboss_18 : decode cX2_emboss 18 = .ok (.istore 7, 2) := by decide +kernel
theorem dX2_emboss_20 : decode cX2_emboss 20 = .ok (.aload_n 1, 1) := by decide +kernel
theorem dX2_emboss_21 : decode cX2_emboss 21 = .ok (.iload 6, 2) := by decide +kernel
theorem dX2_emboss_23 : decode cX2_emboss 23 = .ok (.iaload, 1) := by decide +kernel
theorem dX2_emboss_24 : decode cX2_emboss 24 = .ok (.ifCond .le 41, 3) := by decide +kernel
theorem dX2_emboss_27 : decode cX2_emboss 27 = .ok (.iload 7, 2) := by decide +kernel
theorem dX2_emboss_29 : decode cX2_emboss 29 = .ok (.iconst (-1), 1) := by decide +kernel
theorem dX2_emboss_30 : decode cX2_emboss 30 = .ok (.if_icmp .eq 35, 3) := by decide +kernel
theorem dX2_emboss_33 : decode cX2_emboss 33 = .ok (.aload_n 0, 1) := by decide +kernel
theorem dX2_emboss_34 : decode cX2_emboss 34 = .ok (.getfield 9, 3) := by decide +kernel
theorem dX2_emboss_37 : decode cX2_emboss 37 = .ok (.iload 7, 2) := by decide +kernel
theorem dX2_emboss_39 : decode cX2_emboss 39 = .ok (.aload_n 0, 1) := by decide +kernel
theorem dX2_emboss_40 : decode cX2_emboss 40 = .ok (.getfield 9, 3) := by decide +kernel
theorem dX2_emboss_43 : decode cX2_emboss 43 = .ok (.iload 7, 2) := by decide +kernel
theorem dX2_emboss_45 : decode cX2_emboss 45 = .ok (.iaload, 1) := by decide +kernel
theorem dX2_emboss_46 : decode cX2_emboss 46 = .ok (.aload_n 1, 1) := by decide +kernel
theorem dX2_emboss_47 : decode cX2_emboss 47 = .ok (.iload 6, 2) := by decide +kernel
theorem dX2_emboss_49 : decode cX2_emboss 49 = .ok (.iaload, 1) := by decide +kernel
theorem dX2_emboss_50 : decode cX2_emboss 50 = .ok (.invokestatic 48, 3) := by decide +kernel
theorem dX2_emboss_53 : decode cX2_emboss 53 = .ok (.iastore, 1) := by decide +kernel
theorem dX2_emboss_54 : decode cX2_emboss 54 = .ok (.aload_n 0, 1) := by decide +kernel
theorem dX2_emboss_55 : decode cX2_emboss 55 = .ok (.getfield 21, 3) := by decide +kernel
theorem dX2_emboss_58 : decode cX2_emboss 58 = .ok (.iload 7, 2) := by decide +kernel
theorem dX2_emboss_60 : decode cX2_emboss 60 = .ok (.dup2, 1) := by decide +kernel
theorem dX2_emboss_61 : decode cX2_emboss 61 = .ok (.iaload, 1) := by decide +kernel
theorem dX2_emboss_62 : decode cX2_emboss 62 = .ok (.iconst 1, 1) := by decide +kernel
theorem dX2_emboss_63 : decode cX2_emboss 63 = .ok (.iadd, 1) := by decide +kernel
theorem dX2_emboss_64 : decode cX2_emboss 64 = .ok (.iastore, 1) := by decide +kernel
theorem dX2_emboss_65 : decode cX2_emboss 65 = .ok (.iinc 6 1, 3) := by decide +kernel
theorem dX2_emboss_68 : decode cX2_emboss 68 = .ok (.goto (-65), 3) := by decide +kernel
theorem dX2_emboss_71 : decode cX2_emboss 71 = .ok (.return_, 1) := by decide +kernel
theorem dX2_strainOf_0 : decode cX2_strainOf 0 = .ok (.iload_n 1, 1) := by decide +kernel
theorem dX2_strainOf_1 : decode cX2_strainOf 1 = .ok (.bipush 12, 2) := by decide +kernel
theorem dX2_strainOf_3 : decode cX2_strainOf 3 = .ok (.irem, 1) := by decide +kernel
theorem dX2_strainOf_4 : decode cX2_strainOf 4 = .ok (.istore_n 2, 1) := by decide +kernel
theorem dX2_strainOf_5 : decode cX2_strainOf 5 = .ok (.iconst 0, 1) := by decide +kernel
theorem dX2_strainOf_6 : decode cX2_strainOf 6 = .ok (.istore_n 3, 1) := by decide +kernel
theorem dX2_strainOf_7 : decode cX2_strainOf 7 = .ok (.iload_n 2, 1) := by decide +kernel
theorem dX2_strainOf_8 : decode cX2_strainOf 8 = .ok (.ifCond .le 14, 3) := by decide +kernel
theorem dX2_strainOf_11 : decode cX2_strainOf 11 = .ok (.iload_n 3, 1) := by decide +kernel
theorem dX2_strainOf_12 : decode cX2_strainOf 12 = .ok (.aload_n 0, 1) := by decide +kernel
theorem dX2_strainOf_13 : decode cX2_strainOf 13 = .ok (.iload_n 1, 1) := by decide +kernel
theorem dX2_strainOf_14 : decode cX2_strainOf 14 = .ok (.iload_n 1, 1) := by decide +kernel
theorem dX2_strainOf_15 : decode cX2_strainOf 15 = .ok (.iconst 1, 1) := by decide +kernel
theorem dX2_strainOf_16 : decode cX2_strainOf 16 = .ok (.isub, 1) := by decide +kernel
theorem dX2_strainOf_17 : decode cX2_strainOf 17 = .ok (.invokevirtual 54, 3) := by decide +kernel
theorem dX2_strainOf_20 : decode cX2_strainOf 20 = .ok (.iadd, 1) := by decide +kernel
theorem dX2_strainOf_21 : decode cX2_strainOf 21 = .ok (.istore_n 3, 1) := by decide +kernel
theorem dX2_strainOf_22 : decode cX2_strainOf 22 = .ok (.iload_n 2, 1) := by decide +kernel
theorem dX2_strainOf_23 : decode cX2_strainOf 23 = .ok (.bipush 11, 2) := by decide +kernel
theorem dX2_strainOf_25 : decode cX2_strainOf 25 = .ok (.if_icmp .ge 14, 3) := by decide +kernel
theorem dX2_strainOf_28 : decode cX2_strainOf 28 = .ok (.iload_n 3, 1) := by decide +kernel
theorem dX2_strainOf_29 : decode cX2_strainOf 29 = .ok (.aload_n 0, 1) := by decide +kernel
theorem dX2_strainOf_30 : decode cX2_strainOf 30 = .ok (.iload_n 1, 1) := by decide +kernel
theorem dX2_strainOf_31 : decode cX2_strainOf 31 = .ok (.iload_n 1, 1) := by decide +kernel
theorem dX2_strainOf_32 : decode cX2_strainOf 32 = .ok (.iconst 1, 1) := by decide +kernel
theorem dX2_strainOf_33 : decode cX2_strainOf 33 = .ok (.iadd, 1) := by decide +kernel
theorem dX2_strainOf_34 : decode cX2_strainOf 34 = .ok (.invokevirtual 54, 3) := by decide +kernel
theorem dX2_strainOf_37 : decode cX2_strainOf 37 = .ok (.iadd, 1) := by decide +kernel
theorem dX2_strainOf_38 : decode cX2_strainOf 38 = .ok (.istore_n 3, 1) := by decide +kernel
theorem dX2_strainOf_39 : decode cX2_strainOf 39 = .ok (.iload_n 1, 1) := by decide +kernel
theorem dX2_strainOf_40 : decode cX2_strainOf 40 = .ok (.bipush 12, 2) := by decide +kernel
theorem dX2_strainOf_42 : decode cX2_strainOf 42 = .ok (.if_icmp .lt 15, 3) := by decide +kernel
theorem dX2_strainOf_45 : decode cX2_strainOf 45 = .ok (.iload_n 3, 1) := by decide +kernel
theorem dX2_strainOf_46 : decode cX2_strainOf 46 = .ok (.aload_n 0, 1) := by decide +kernel
theorem dX2_strainOf_47 : decode cX2_strainOf 47 = .ok (.iload_n 1, 1) := by decide +kernel
theorem dX2_strainOf_48 : decode cX2_strainOf 48 = .ok (.iload_n 1, 1) := by decide +kernel
theorem dX2_strainOf_49 : decode cX2_strainOf 49 = .ok (.bipush 12, 2) := by decide +kernel
theorem dX2_strainOf_51 : decode cX2_strainOf 51 = .ok (.isub, 1) := by decide +kernel
theorem dX2_strainOf_52 : decode cX2_strainOf 52 = .ok (.invokevirtual 54, 3) := by decide +kernel
theorem dX2_strainOf_55 : decode cX2_strainOf 55 = .ok (.iadd, 1) := by decide +kernel
theorem dX2_strainOf_56 : decode cX2_strainOf 56 = .ok (.istore_n 3, 1) := by decide +kernel
theorem dX2_strainOf_57 : decode cX2_strainOf 57 = .ok (.iload_n 1, 1) := by decide +kernel
theorem dX2_strainOf_58 : decode cX2_strainOf 58 = .ok (.sipush 132, 3) := by decide +kernel
theorem dX2_strainOf_61 : decode cX2_strainOf 61 = .ok (.if_icmp .ge 15, 3) := by decide +kernel
theorem dX2_strainOf_64 : decode cX2_strainOf 64 = .ok (.iload_n 3, 1) := by decide +kernel
theorem dX2_strainOf_65 : decode cX2_strainOf 65 = .ok (.aload_n 0, 1) := by decide +kernel
theorem dX2_strainOf_66 : decode cX2_strainOf 66 = .ok (.iload_n 1, 1) := by decide +kernel
theorem dX2_strainOf_67 : decode cX2_strainOf 67 = .ok (.iload_n 1, 1) := by decide +kernel
theorem dX2_strainOf_68 : decode cX2_strainOf 68 = .ok (.bipush 12, 2) := by decide +kernel
theorem dX2_strainOf_70 : decode cX2_strainOf 70 = .ok (.iadd, 1) := by decide +kernel
theorem dX2_strainOf_71 : decode cX2_strainOf 71 = .ok (.invokevirtual 54, 3) := by decide +kernel
theorem dX2_strainOf_74 : decode cX2_strainOf 74 = .ok (.iadd, 1) := by decide +kernel
theorem dX2_strainOf_75 : decode cX2_strainOf 75 = .ok (.istore_n 3, 1) := by decide +kernel
theorem dX2_strainOf_76 : decode cX2_strainOf 76 = .ok (.iload_n 3, 1) := by decide +kernel
theorem dX2_strainOf_77 : decode cX2_strainOf 77 = .ok (.ireturn, 1) := by decide +kernel
theorem dX2_difference_0 : decode cX2_difference 0 = .ok (.aload_n 0, 1) := by decide +kernel
theorem dX2_difference_1 : decode cX2_difference 1 = .ok (.getfield 9, 3) := by decide +kernel
theorem dX2_difference_4 : decode cX2_difference 4 = .ok (.iload_n 1, 1) := by decide +kernel
theorem dX2_difference_5 : decode cX2_difference 5 = .ok (.iaload, 1) := by decide +kernel
theorem dX2_difference_6 : decode cX2_difference 6 = .ok (.aload_n 0, 1) := by decide +kernel
theorem dX2_difference_7 : decode cX2_difference 7 = .ok (.getfield 9, 3) := by decide +kernel
theorem dX2_difference_10 : decode cX2_difference 10 = .ok (.iload_n 2, 1) := by decide +kernel
theorem dX2_difference_11 : decode cX2_difference 11 = .ok (.iaload, 1) := by decide +kernel
theorem dX2_difference_12 : decode cX2_difference 12 = .ok (.isub, 1) := by decide +kernel
theorem dX2_difference_13 : decode cX2_difference 13 = .ok (.istore_n 3, 1) := by decide +kernel
theorem dX2_difference_14 : decode cX2_difference 14 = .ok (.iload_n 3, 1) := by decide +kernel
theorem dX2_difference_15 : decode cX2_difference 15 = .ok (.ifCond .ge 8, 3) := by decide +kernel
theorem dX2_difference_18 : decode cX2_difference 18 = .ok (.iload_n 3, 1) := by decide +kernel
theorem dX2_difference_19 : decode cX2_difference 19 = .ok (.ineg, 1) := by decide +kernel
theorem dX2_difference_20 : decode cX2_difference 20 = .ok (.goto 4, 3) := by decide +kernel
theorem dX2_difference_23 : decode cX2_difference 23 = .ok (.iload_n 3, 1) := by decide +kernel
theorem dX2_difference_24 : decode cX2_difference 24 = .ok (.ireturn, 1) := by decide +kernel
theorem dX2_crackedBeside_0 : decode cX2_crackedBeside 0 = .ok (.iload_n 1, 1) := by decide +kernel
theorem dX2_crackedBeside_1 : decode cX2_crackedBeside 1 = .ok (.bipush 12, 2) := by decide +kernel
theorem dX2_crackedBeside_3 : decode cX2_crackedBeside 3 = .ok (.irem, 1) := by decide +kernel
theorem dX2_crackedBeside_4 : decode cX2_crackedBeside 4 = .ok (.istore_n 2, 1) := by decide +kernel
theorem dX2_crackedBeside_5 : decode cX2_crackedBeside 5 = .ok (.iconst 0, 1) := by decide +kernel
theorem dX2_crackedBeside_6 : decode cX2_crackedBeside 6 = .ok (.istore_n 3, 1) := by decide +kernel
theorem dX2_crackedBeside_7 : decode cX2_crackedBeside 7 = .ok (.iload_n 2, 1) := by decide +kernel
theorem dX2_crackedBeside_8 : decode cX2_crackedBeside 8 = .ok (.ifCond .le 14, 3) := by decide +kernel
theorem dX2_crackedBeside_11 : decode cX2_crackedBeside 11 = .ok (.iload_n 3, 1) := by decide +kernel
theorem dX2_crackedBeside_12 : decode cX2_crackedBeside 12 = .ok (.aload_n 0, 1) := by decide +kernel
theorem dX2_crackedBeside_13 : decode cX2_crackedBeside 13 = .ok (.getfield 18, 3) := by decide +kernel
theorem dX2_crackedBeside_16 : decode cX2_crackedBeside 16 = .ok (.iload_n 1, 1) := by decide +kernel
theorem dX2_crackedBeside_17 : decode cX2_crackedBeside 17 = .ok (.iconst 1, 1) := by decide +kernel
theorem dX2_crackedBeside_18 : decode cX2_crackedBeside 18 = .ok (.isub, 1) := by decide +kernel
theorem dX2_crackedBeside_19 : decode cX2_crackedBeside 19 = .ok (.iaload, 1) := by decide +kernel
theorem dX2_crackedBeside_20 : decode cX2_crackedBeside 20 = .ok (.iadd, 1) := by decide +kernel
theorem dX2_crackedBeside_21 : decode cX2_crackedBeside 21 = .ok (.istore_n 3, 1) := by decide +kernel
theorem dX2_crackedBeside_22 : decode cX2_crackedBeside 22 = .ok (.iload_n 2, 1) := by decide +kernel
theorem dX2_crackedBeside_23 : decode cX2_crackedBeside 23 = .ok (.bipush 11, 2) := by decide +kernel
theorem dX2_crackedBeside_25 : decode cX2_crackedBeside 25 = .ok (.if_icmp .ge 14, 3) := by decide +kernel
theorem dX2_crackedBeside_28 : decode cX2_crackedBeside 28 = .ok (.iload_n 3, 1) := by decide +kernel
theorem dX2_crackedBeside_29 : decode cX2_crackedBeside 29 = .ok (.aload_n 0, 1) := by decide +kernel
theorem dX2_crackedBeside_30 : decode cX2_crackedBeside 30 = .ok (.getfield 18, 3) := by decide +kernel
theorem dX2_crackedBeside_33 : decode cX2_crackedBeside 33 = .ok (.iload_n 1, 1) := by decide +kernel
theorem dX2_crackedBeside_34 : decode cX2_crackedBeside 34 = .ok (.iconst 1, 1) := by decide +kernel
theorem dX2_crackedBeside_35 : decode cX2_crackedBeside 35 = .ok (.iadd, 1) := by decide +kernel
theorem dX2_crackedBeside_36 : decode cX2_crackedBeside 36 = .ok (.iaload, 1) := by decide +kernel
theorem dX2_crackedBeside_37 : decode cX2_crackedBeside 37 = .ok (.iadd, 1) := by decide +kernel
theorem dX2_crackedBeside_38 : decode cX2_crackedBeside 38 = .ok (.istore_n 3, 1) := by decide +kernel
theorem dX2_crackedBeside_39 : decode cX2_crackedBeside 39 = .ok (.iload_n 1, 1) := by decide +kernel
theorem dX2_crackedBeside_40 : decode cX2_crackedBeside 40 = .ok (.bipush 12, 2) := by decide +kernel
theorem dX2_crackedBeside_42 : decode cX2_crackedBeside 42 = .ok (.if_icmp .lt 15, 3) := by decide +kernel
theorem dX2_crackedBeside_45 : decode cX2_crackedBeside 45 = .ok (.iload_n 3, 1) := by decide +kernel
theorem dX2_crackedBeside_46 : decode cX2_crackedBeside 46 = .ok (.aload_n 0, 1) := by decide +kernel
theorem dX2_crackedBeside_47 : decode cX2_crackedBeside 47 = .ok (.getfield 18, 3) := by decide +kernel
theorem dX2_crackedBeside_50 : decode cX2_crackedBeside 50 = .ok (.iload_n 1, 1) := by decide +kernel
theorem dX2_crackedBeside_51 : decode cX2_crackedBeside 51 = .ok (.bipush 12, 2) := by decide +kernel
theorem dX2_crackedBeside_53 : decode cX2_crackedBeside 53 = .ok (.isub, 1) := by decide +kernel
theorem dX2_crackedBeside_54 : decode cX2_crackedBeside 54 = .ok (.iaload, 1) := by decide +kernel
theorem dX2_crackedBeside_55 : decode cX2_crackedBeside 55 = .ok (.iadd, 1) := by decide +kernel
theorem dX2_crackedBeside_56 : decode cX2_crackedBeside 56 = .ok (.istore_n 3, 1) := by decide +kernel
theorem dX2_crackedBeside_57 : decode cX2_crackedBeside 57 = .ok (.iload_n 1, 1) := by decide +kernel
theorem dX2_crackedBeside_58 : decode cX2_crackedBeside 58 = .ok (.sipush 132, 3) := by decide +kernel
theorem dX2_crackedBeside_61 : decode cX2_crackedBeside 61 = .ok (.if_icmp .ge 15, 3) := by decide +kernel
theorem dX2_crackedBeside_64 : decode cX2_crackedBeside 64 = .ok (.iload_n 3, 1) := by decide +kernel
theorem dX2_crackedBeside_65 : decode cX2_crackedBeside 65 = .ok (.aload_n 0, 1) := by decide +kernel
theorem dX2_crackedBeside_66 : decode cX2_crackedBeside 66 = .ok (.getfield 18, 3) := by decide +kernel
theorem dX2_crackedBeside_69 : decode cX2_crackedBeside 69 = .ok (.iload_n 1, 1) := by decide +kernel
theorem dX2_crackedBeside_70 : decode cX2_crackedBeside 70 = .ok (.bipush 12, 2) := by decide +kernel
theorem dX2_crackedBeside_72 : decode cX2_crackedBeside 72 = .ok (.iadd, 1) := by decide +kernel
theorem dX2_crackedBeside_73 : decode cX2_crackedBeside 73 = .ok (.iaload, 1) := by decide +kernel
theorem dX2_crackedBeside_74 : decode cX2_crackedBeside 74 = .ok (.iadd, 1) := by decide +kernel
theorem dX2_crackedBeside_75 : decode cX2_crackedBeside 75 = .ok (.istore_n 3, 1) := by decide +kernel
theorem dX2_crackedBeside_76 : decode cX2_crackedBeside 76 = .ok (.iload_n 3, 1) := by decide +kernel
theorem dX2_crackedBeside_77 : decode cX2_crackedBeside 77 = .ok (.ireturn, 1) := by decide +kernel
theorem dX2_bearingOf_0 : decode cX2_bearingOf 0 = .ok (.iconst 0, 1) := by decide +kernel
theorem dX2_bearingOf_1 : decode cX2_bearingOf 1 = .ok (.iload_n 2, 1) := by decide +kernel
theorem dX2_bearingOf_2 : decode cX2_bearingOf 2 = .ok (.iload_n 3, 1) := by decide +kernel
theorem dX2_bearingOf_3 : decode cX2_bearingOf 3 = .ok (.aload_n 0, 1) := by decide +kernel
theorem dX2_bearingOf_4 : decode cX2_bearingOf 4 = .ok (.iload_n 1, 1) := by decide +kernel
theorem dX2_bearingOf_5 : decode cX2_bearingOf 5 = .ok (.invokevirtual 57, 3) := by decide +kernel
theorem dX2_bearingOf_8 : decode cX2_bearingOf 8 = .ok (.imul, 1) := by decide +kernel
theorem dX2_bearingOf_9 : decode cX2_bearingOf 9 = .ok (.isub, 1) := by decide +kernel
theorem dX2_bearingOf_10 : decode cX2_bearingOf 10 = .ok (.invokestatic 48, 3) := by decide +kernel
theorem dX2_bearingOf_13 : decode cX2_bearingOf 13 = .ok (.ireturn, 1) := by decide +kernel
theorem dX2_cracked_0 : decode cX2_cracked 0 = .ok (.iconst 0, 1) := by decide +kernel
theorem dX2_cracked_1 : decode cX2_cracked 1 = .ok (.istore_n 1, 1) := by decide +kernel
theorem dX2_cracked_2 : decode cX2_cracked 2 = .ok (.iconst 0, 1) := by decide +kernel
theorem dX2_cracked_3 : decode cX2_cracked 3 = .ok (.istore_n 2, 1) := by decide +kernel
theorem dX2_cracked_4 : decode cX2_cracked 4 = .ok (.iload_n 2, 1) := by decide +kernel
theorem dX2_cracked_5 : decode cX2_cracked 5 = .ok (.sipush 144, 3) := by decide +kernel
theorem dX2_cracked_8 : decode cX2_cracked 8 = .ok (.if_icmp .ge 18, 3) := by decide +kernel
theorem dX2_cracked_11 : decode cX2_cracked 11 = .ok (.iload_n 1, 1) := by decide +kernel
theorem dX2_cracked_12 : decode cX2_cracked 12 = .ok (.aload_n 0, 1) := by decide +kernel
theorem dX2_cracked_13 : decode cX2_cracked 13 = .ok (.getfield 18, 3) := by decide +kernel
theorem dX2_cracked_16 : decode cX2_cracked 16 = .ok (.iload_n 2, 1) := by decide +kernel
theorem dX2_cracked_17 : decode cX2_cracked 17 = .ok (.iaload, 1) := by decide +kernel
theorem dX2_cracked_18 : decode cX2_cracked 18 = .ok (.iadd, 1) := by decide +kernel
theorem dX2_cracked_19 : decode cX2_cracked 19 = .ok (.istore_n 1, 1) := by decide +kernel
theorem dX2_cracked_20 : decode cX2_cracked 20 = .ok (.iinc 2 1, 3) := by decide +kernel
theorem dX2_cracked_23 : decode cX2_cracked 23 = .ok (.goto (-19), 3) := by decide +kernel
theorem dX2_cracked_26 : decode cX2_cracked 26 = .ok (.iload_n 1, 1) := by decide +kernel
theorem dX2_cracked_27 : decode cX2_cracked 27 = .ok (.ireturn, 1) := by decide +kernel
theorem dX2_foiled_0 : decode cX2_foiled 0 = .ok (.iconst 0, 1) := by decide +kernel
theorem dX2_foiled_1 : decode cX2_foiled 1 = .ok (.istore_n 1, 1) := by decide +kernel
theorem dX2_foiled_2 : decode cX2_foiled 2 = .ok (.iconst 0, 1) := by decide +kernel
theorem dX2_foiled_3 : decode cX2_foiled 3 = .ok (.istore_n 2, 1) := by decide +kernel
theorem dX2_foiled_4 : decode cX2_foiled 4 = .ok (.iload_n 2, 1) := by decide +kernel
theorem dX2_foiled_5 : decode cX2_foiled 5 = .ok (.sipush 144, 3) := by decide +kernel
theorem dX2_foiled_8 : decode cX2_foiled 8 = .ok (.if_icmp .ge 21, 3) := by decide +kernel
theorem dX2_foiled_11 : decode cX2_foiled 11 = .ok (.aload_n 0, 1) := by decide +kernel
theorem dX2_foiled_12 : decode cX2_foiled 12 = .ok (.getfield 15, 3) := by decide +kernel
theorem dX2_foiled_15 : decode cX2_foiled 15 = .ok (.iload_n 2, 1) := by decide +kernel
theorem dX2_foiled_16 : decode cX2_foiled 16 = .ok (.iaload, 1) := by decide +kernel
theorem dX2_foiled_17 : decode cX2_foiled 17 = .ok (.ifCond .eq 6, 3) := by decide +kernel
theorem dX2_foiled_20 : decode cX2_foiled 20 = .ok (.iinc 1 1, 3) := by decide +kernel
theorem dX2_foiled_23 : decode cX2_foiled 23 = .ok (.iinc 2 1, 3) := by decide +kernel
theorem dX2_foiled_26 : decode cX2_foiled 26 = .ok (.goto (-22), 3) := by decide +kernel
theorem dX2_foiled_29 : decode cX2_foiled 29 = .ok (.iload_n 1, 1) := by decide +kernel
theorem dX2_foiled_30 : decode cX2_foiled 30 = .ok (.ireturn, 1) := by decide +kernel
theorem dX2_greatestDepth_0 : decode cX2_greatestDepth 0 = .ok (.iconst 0, 1) := by decide +kernel
theorem dX2_greatestDepth_1 : decode cX2_greatestDepth 1 = .ok (.istore_n 1, 1) := by decide +kernel
theorem dX2_greatestDepth_2 : decode cX2_greatestDepth 2 = .ok (.iconst 0, 1) := by decide +kernel
theorem dX2_greatestDepth_3 : decode cX2_greatestDepth 3 = .ok (.istore_n 2, 1) := by decide +kernel
theorem dX2_greatestDepth_4 : decode cX2_greatestDepth 4 = .ok (.iload_n 2, 1) := by decide +kernel
theorem dX2_greatestDepth_5 : decode cX2_greatestDepth 5 = .ok (.sipush 144, 3) := by decide +kernel
theorem dX2_greatestDepth_8 : decode cX2_greatestDepth 8 = .ok (.if_icmp .ge 20, 3) := by decide +kernel
theorem dX2_greatestDepth_11 : decode cX2_greatestDepth 11 = .ok (.iload_n 1, 1) := by decide +kernel
theorem dX2_greatestDepth_12 : decode cX2_greatestDepth 12 = .ok (.aload_n 0, 1) := by decide +kernel
theorem dX2_greatestDepth_13 : decode cX2_greatestDepth 13 = .ok (.getfield 9, 3) := by decide +kernel
theorem dX2_greatestDepth_16 : decode cX2_greatestDepth 16 = .ok (.iload_n 2, 1) := by decide +kernel
theorem dX2_greatestDepth_17 : decode cX2_greatestDepth 17 = .ok (.iaload, 1) := by decide +kernel
theorem dX2_greatestDepth_18 : decode cX2_greatestDepth 18 = .ok (.invokestatic 48, 3) := by decide +kernel
theorem dX2_greatestDepth_21 : decode cX2_greatestDepth 21 = .ok (.istore_n 1, 1) := by decide +kernel
theorem dX2_greatestDepth_22 : decode cX2_greatestDepth 22 = .ok (.iinc 2 1, 3) := by decide +kernel
theorem dX2_greatestDepth_25 : decode cX2_greatestDepth 25 = .ok (.goto (-21), 3) := by decide +kernel
theorem dX2_greatestDepth_28 : decode cX2_greatestDepth 28 = .ok (.iload_n 1, 1) := by decide +kernel
theorem dX2_greatestDepth_29 : decode cX2_greatestDepth 29 = .ok (.ireturn, 1) := by decide +kernel
theorem dX2_strainByPlaces_0 : decode cX2_strainByPlaces 0 = .ok (.iconst 0, 1) := by decide +kernel
theorem dX2_strainByPlaces_1 : decode cX2_strainByPlaces 1 = .ok (.istore_n 1, 1) := by decide +kernel
theorem dX2_strainByPlaces_2 : decode cX2_strainByPlaces 2 = .ok (.iconst 0, 1) := by decide +kernel
theorem dX2_strainByPlaces_3 : decode cX2_strainByPlaces 3 = .ok (.istore_n 2, 1) := by decide +kernel
theorem dX2_strainByPlaces_4 : decode cX2_strainByPlaces 4 = .ok (.iload_n 2, 1) := by decide +kernel
theorem dX2_strainByPlaces_5 : decode cX2_strainByPlaces 5 = .ok (.sipush 144, 3) := by decide +kernel
theorem dX2_strainByPlaces_8 : decode cX2_strainByPlaces 8 = .ok (.if_icmp .ge 17, 3) := by decide +kernel
theorem dX2_strainByPlaces_11 : decode cX2_strainByPlaces 11 = .ok (.iload_n 1, 1) := by decide +kernel
theorem dX2_strainByPlaces_12 : decode cX2_strainByPlaces 12 = .ok (.aload_n 0, 1) := by decide +kernel
theorem dX2_strainByPlaces_13 : decode cX2_strainByPlaces 13 = .ok (.iload_n 2, 1) := by decide +kernel
theorem dX2_strainByPlaces_14 : decode cX2_strainByPlaces 14 = .ok (.invokevirtual 61, 3) := by decide +kernel
theorem dX2_strainByPlaces_17 : decode cX2_strainByPlaces 17 = .ok (.iadd, 1) := by decide +kernel
theorem dX2_strainByPlaces_18 : decode cX2_strainByPlaces 18 = .ok (.istore_n 1, 1) := by decide +kernel
theorem dX2_strainByPlaces_19 : decode cX2_strainByPlaces 19 = .ok (.iinc 2 1, 3) := by decide +kernel
theorem dX2_strainByPlaces_22 : decode cX2_strainByPlaces 22 = .ok (.goto (-18), 3) := by decide +kernel
theorem dX2_strainByPlaces_25 : decode cX2_strainByPlaces 25 = .ok (.iload_n 1, 1) := by decide +kernel
theorem dX2_strainByPlaces_26 : decode cX2_strainByPlaces 26 = .ok (.ireturn, 1) := by decide +kernel
theorem dX2_strainByPairs_0 : decode cX2_strainByPairs 0 = .ok (.iconst 0, 1) := by decide +kernel
theorem dX2_strainByPairs_1 : decode cX2_strainByPairs 1 = .ok (.istore_n 1, 1) := by decide +kernel
theorem dX2_strainByPairs_2 : decode cX2_strainByPairs 2 = .ok (.iconst 0, 1) := by decide +kernel
theorem dX2_strainByPairs_3 : decode cX2_strainByPairs 3 = .ok (.istore_n 2, 1) := by decide +kernel
theorem dX2_strainByPairs_4 : decode cX2_strainByPairs 4 = .ok (.iload_n 2, 1) := by decide +kernel
theorem dX2_strainByPairs_5 : decode cX2_strainByPairs 5 = .ok (.sipush 144, 3) := by decide +kernel
theorem dX2_strainByPairs_8 : decode cX2_strainByPairs 8 = .ok (.if_icmp .ge 48, 3) := by decide +kernel
theorem dX2_strainByPairs_11 : decode cX2_strainByPairs 11 = .ok (.iload_n 2, 1) := by decide +kernel
theorem dX2_strainByPairs_12 : decode cX2_strainByPairs 12 = .ok (.bipush 12, 2) := by decide +kernel
theorem dX2_strainByPairs_14 : decode cX2_strainByPairs 14 = .ok (.irem, 1) := by decide +kernel
theorem dX2_strainByPairs_15 : decode cX2_strainByPairs 15 = .ok (.bipush 11, 2) := by decide +kernel
theorem dX2_strainByPairs_17 : decode cX2_strainByPairs 17 = .ok (.if_icmp .ge 14, 3) := by decide +kernel
theorem dX2_strainByPairs_20 : decode cX2_strainByPairs 20 = .ok (.iload_n 1, 1) := by decide +kernel
theorem dX2_strainByPairs_21 : decode cX2_strainByPairs 21 = .ok (.aload_n 0, 1) := by decide +kernel
theorem dX2_strainByPairs_22 : decode cX2_strainByPairs 22 = .ok (.iload_n 2, 1) := by decide +kernel
theorem dX2_strainByPairs_23 : decode cX2_strainByPairs 23 = .ok (.iload_n 2, 1) := by decide +kernel
theorem dX2_strainByPairs_24 : decode cX2_strainByPairs 24 = .ok (.iconst 1, 1) := by decide +kernel
theorem dX2_strainByPairs_25 : decode cX2_strainByPairs 25 = .ok (.iadd, 1) := by decide +kernel
theorem dX2_strainByPairs_26 : decode cX2_strainByPairs 26 = .ok (.invokevirtual 54, 3) := by decide +kernel
theorem dX2_strainByPairs_29 : decode cX2_strainByPairs 29 = .ok (.iadd, 1) := by decide +kernel
theorem dX2_strainByPairs_30 : decode cX2_strainByPairs 30 = .ok (.istore_n 1, 1) := by decide +kernel
theorem dX2_strainByPairs_31 : decode cX2_strainByPairs 31 = .ok (.iload_n 2, 1) := by decide +kernel
theorem dX2_strainByPairs_32 : decode cX2_strainByPairs 32 = .ok (.sipush 132, 3) := by decide +kernel
theorem dX2_strainByPairs_35 : decode cX2_strainByPairs 35 = .ok (.if_icmp .ge 15, 3) := by decide +kernel
theorem dX2_strainByPairs_38 : decode cX2_strainByPairs 38 = .ok (.iload_n 1, 1) := by decide +kernel
theorem dX2_strainByPairs_39 : decode cX2_strainByPairs 39 = .ok (.aload_n 0, 1) := by decide +kernel
theorem dX2_strainByPairs_40 : decode cX2_strainByPairs 40 = .ok (.iload_n 2, 1) := by decide +kernel
theorem dX2_strainByPairs_41 : decode cX2_strainByPairs 41 = .ok (.iload_n 2, 1) := by decide +kernel
theorem dX2_strainByPairs_42 : decode cX2_strainByPairs 42 = .ok (.bipush 12, 2) := by decide +kernel
theorem dX2_strainByPairs_44 : decode cX2_strainByPairs 44 = .ok (.iadd, 1) := by decide +kernel
theorem dX2_strainByPairs_45 : decode cX2_strainByPairs 45 = .ok (.invokevirtual 54, 3) := by decide +kernel
theorem dX2_strainByPairs_48 : decode cX2_strainByPairs 48 = .ok (.iadd, 1) := by decide +kernel
theorem dX2_strainByPairs_49 : decode cX2_strainByPairs 49 = .ok (.istore_n 1, 1) := by decide +kernel
theorem dX2_strainByPairs_50 : decode cX2_strainByPairs 50 = .ok (.iinc 2 1, 3) := by decide +kernel
theorem dX2_strainByPairs_53 : decode cX2_strainByPairs 53 = .ok (.goto (-49), 3) := by decide +kernel
theorem dX2_strainByPairs_56 : decode cX2_strainByPairs 56 = .ok (.iconst 2, 1) := by decide +kernel
theorem dX2_strainByPairs_57 : decode cX2_strainByPairs 57 = .ok (.iload_n 1, 1) := by decide +kernel
theorem dX2_strainByPairs_58 : decode cX2_strainByPairs 58 = .ok (.imul, 1) := by decide +kernel
theorem dX2_strainByPairs_59 : decode cX2_strainByPairs 59 = .ok (.ireturn, 1) := by decide +kernel
theorem dX3_init_0 : decode cX3_init 0 = .ok (.aload_n 0, 1) := by decide +kernel
theorem dX3_init_1 : decode cX3_init 1 = .ok (.invokespecial 3, 3) := by decide +kernel
theorem dX3_init_4 : decode cX3_init 4 = .ok (.aload_n 0, 1) := by decide +kernel
theorem dX3_init_5 : decode cX3_init 5 = .ok (.bipush 75, 2) := by decide +kernel
theorem dX3_init_7 : decode cX3_init 7 = .ok (.newarray .int, 2) := by decide +kernel
theorem dX3_init_9 : decode cX3_init 9 = .ok (.putfield 9, 3) := by decide +kernel
theorem dX3_init_12 : decode cX3_init 12 = .ok (.aload_n 0, 1) := by decide +kernel
theorem dX3_init_13 : decode cX3_init 13 = .ok (.getstatic 15, 3) := by decide +kernel
theorem dX3_init_16 : decode cX3_init 16 = .ok (.invokevirtual 18, 3) := by decide +kernel
theorem dX3_init_19 : decode cX3_init 19 = .ok (.checkcast 19, 3) := by decide +kernel
theorem dX3_init_22 : decode cX3_init 22 = .ok (.putfield 23, 3) := by decide +kernel
theorem dX3_init_25 : decode cX3_init 25 = .ok (.aload_n 0, 1) := by decide +kernel
theorem dX3_init_26 : decode cX3_init 26 = .ok (.new 26, 3) := by decide +kernel
theorem dX3_init_29 : decode cX3_init 29 = .ok (.dup, 1) := by decide +kernel
theorem dX3_init_30 : decode cX3_init 30 = .ok (.invokespecial 28, 3) := by decide +kernel
theorem dX3_init_33 : decode cX3_init 33 = .ok (.putfield 29, 3) := by decide +kernel
theorem dX3_init_36 : decode cX3_init 36 = .ok (.aload_n 0, 1) := by decide +kernel
theorem dX3_init_37 : decode cX3_init 37 = .ok (.iconst 1, 1) := by decide +kernel
theorem dX3_init_38 : decode cX3_init 38 = .ok (.putfield 33, 3) := by decide +kernel
theorem dX3_init_41 : decode cX3_init 41 = .ok (.return_, 1) := by decide +kernel
theorem dX3_copyFrom_0 : decode cX3_copyFrom 0 = .ok (.aload_n 1, 1) := by decide +kernel
theorem dX3_copyFrom_1 : decode cX3_copyFrom 1 = .ok (.getfield 9, 3) := by decide +kernel
theorem dX3_copyFrom_4 : decode cX3_copyFrom 4 = .ok (.iconst 0, 1) := by decide +kernel
theorem dX3_copyFrom_5 : decode cX3_copyFrom 5 = .ok (.aload_n 0, 1) := by decide +kernel
theorem dX3_copyFrom_6 : decode cX3_copyFrom 6 = .ok (.getfield 9, 3) := by decide +kernel
theorem dX3_copyFrom_9 : decode cX3_copyFrom 9 = .ok (.iconst 0, 1) := by decide +kernel
theorem dX3_copyFrom_10 : decode cX3_copyFrom 10 = .ok (.bipush 75, 2) := by decide +kernel
theorem dX3_copyFrom_12 : decode cX3_copyFrom 12 = .ok (.invokestatic 37, 3) := by decide +kernel
theorem dX3_copyFrom_15 : decode cX3_copyFrom 15 = .ok (.aload_n 1, 1) := by decide +kernel
theorem dX3_copyFrom_16 : decode cX3_copyFrom 16 = .ok (.getfield 23, 3) := by decide +kernel
theorem dX3_copyFrom_19 : decode cX3_copyFrom 19 = .ok (.iconst 0, 1) := by decide +kernel
theorem dX3_copyFrom_20 : decode cX3_copyFrom 20 = .ok (.aload_n 0, 1) := by decide +kernel
theorem dX3_copyFrom_21 : decode cX3_copyFrom 21 = .ok (.getfield 23, 3) := by decide +kernel
theorem dX3_copyFrom_24 : decode cX3_copyFrom 24 = .ok (.iconst 0, 1) := by decide +kernel
theorem dX3_copyFrom_25 : decode cX3_copyFrom 25 = .ok (.iconst 4, 1) := by decide +kernel
theorem dX3_copyFrom_26 : decode cX3_copyFrom 26 = .ok (.invokestatic 37, 3) := by decide +kernel
theorem dX3_copyFrom_29 : decode cX3_copyFrom 29 = .ok (.aload_n 0, 1) := by decide +kernel
theorem dX3_copyFrom_30 : decode cX3_copyFrom 30 = .ok (.getfield 29, 3) := by decide +kernel
theorem dX3_copyFrom_33 : decode cX3_copyFrom 33 = .ok (.aload_n 1, 1) := by decide +kernel
theorem dX3_copyFrom_34 : decode cX3_copyFrom 34 = .ok (.getfield 29, 3) := by decide +kernel
theorem dX3_copyFrom_37 : decode cX3_copyFrom 37 = .ok (.invokevirtual 43, 3) := by decide +kernel
theorem dX3_copyFrom_40 : decode cX3_copyFrom 40 = .ok (.aload_n 0, 1) := by decide +kernel
theorem dX3_copyFrom_41 : decode cX3_copyFrom 41 = .ok (.aload_n 1, 1) := by decide +kernel
theorem dX3_copyFrom_42 : decode cX3_copyFrom 42 = .ok (.getfield 47, 3) := by decide +kernel
theorem dX3_copyFrom_45 : decode cX3_copyFrom 45 = .ok (.putfield 47, 3) := by decide +kernel
theorem dX3_copyFrom_48 : decode cX3_copyFrom 48 = .ok (.aload_n 0, 1) := by decide +kernel
theorem dX3_copyFrom_49 : decode cX3_copyFrom 49 = .ok (.aload_n 1, 1) := by decide +kernel
theorem dX3_copyFrom_50 : decode cX3_copyFrom 50 = .ok (.getfield 50, 3) := by decide +kernel
theorem dX3_copyFrom_53 : decode cX3_copyFrom 53 = .ok (.putfield 50, 3) := by decide +kernel
theorem dX3_copyFrom_56 : decode cX3_copyFrom 56 = .ok (.aload_n 0, 1) := by decide +kernel
theorem dX3_copyFrom_57 : decode cX3_copyFrom 57 = .ok (.aload_n 1, 1) := by decide +kernel
theorem dX3_copyFrom_58 : decode cX3_copyFrom 58 = .ok (.getfield 53, 3) := by decide +kernel
theorem dX3_copyFrom_61 : decode cX3_copyFrom 61 = .ok (.putfield 53, 3) := by decide +kernel
theorem dX3_copyFrom_64 : decode cX3_copyFrom 64 = .ok (.aload_n 0, 1) := by decide +kernel
theorem dX3_copyFrom_65 : decode cX3_copyFrom 65 = .ok (.aload_n 1, 1) := by decide +kernel
theorem dX3_copyFrom_66 : decode cX3_copyFrom 66 = .ok (.getfield 56, 3) := by decide +kernel
theorem dX3_copyFrom_69 : decode cX3_copyFrom 69 = .ok (.putfield 56, 3) := by decide +kernel
theorem dX3_copyFrom_72 : decode cX3_copyFrom 72 = .ok (.aload_n 0, 1) := by decide +kernel
theorem dX3_copyFrom_73 : decode cX3_copyFrom 73 = .ok (.aload_n 1, 1) := by decide +kernel
theorem dX3_copyFrom_74 : decode cX3_copyFrom 74 = .ok (.getfield 59, 3) := by decide +kernel
theorem dX3_copyFrom_77 : decode cX3_copyFrom 77 = .ok (.putfield 59, 3) := by decide +kernel
theorem dX3_copyFrom_80 : decode cX3_copyFrom 80 = .ok (.aload_n 0, 1) := by decide +kernel
theorem dX3_copyFrom_81 : decode cX3_copyFrom 81 = .ok (.aload_n 1, 1) := by decide +kernel
theorem dX3_copyFrom_82 : decode cX3_copyFrom 82 = .ok (.getfield 33, 3) := by decide +kernel
theorem dX3_copyFrom_85 : decode cX3_copyFrom 85 = .ok (.putfield 33, 3) := by decide +kernel
theorem dX3_copyFrom_88 : decode cX3_copyFrom 88 = .ok (.aload_n 0, 1) := by decide +kernel
theorem dX3_copyFrom_89 : decode cX3_copyFrom 89 = .ok (.aload_n 1, 1) := by decide +kernel
theorem dX3_copyFrom_90 : decode cX3_copyFrom 90 = .ok (.getfield 62, 3) := by decide +kernel
theorem dX3_copyFrom_93 : decode cX3_copyFrom 93 = .ok (.putfield 62, 3) := by decide +kernel
theorem dX3_copyFrom_96 : decode cX3_copyFrom 96 = .ok (.aload_n 0, 1) := by decide +kernel
theorem dX3_copyFrom_97 : decode cX3_copyFrom 97 = .ok (.aload_n 1, 1) := by decide +kernel
theorem dX3_copyFrom_98 : decode cX3_copyFrom 98 = .ok (.getfield 65, 3) := by decide +kernel
theorem dX3_copyFrom_101 : decode cX3_copyFrom 101 = .ok (.putfield 65, 3) := by decide +kernel
theorem dX3_copyFrom_104 : decode cX3_copyFrom 104 = .ok (.aload_n 0, 1) := by decide +kernel
theorem dX3_copyFrom_105 : decode cX3_copyFrom 105 = .ok (.aload_n 1, 1) := by decide +kernel
theorem dX3_copyFrom_106 : decode cX3_copyFrom 106 = .ok (.getfield 68, 3) := by decide +kernel
theorem dX3_copyFrom_109 : decode cX3_copyFrom 109 = .ok (.putfield 68, 3) := by decide +kernel
theorem dX3_copyFrom_112 : decode cX3_copyFrom 112 = .ok (.aload_n 0, 1) := by decide +kernel
theorem dX3_copyFrom_113 : decode cX3_copyFrom 113 = .ok (.aload_n 1, 1) := by decide +kernel
theorem dX3_copyFrom_114 : decode cX3_copyFrom 114 = .ok (.getfield 71, 3) := by decide +kernel
theorem dX3_copyFrom_117 : decode cX3_copyFrom 117 = .ok (.putfield 71, 3) := by decide +kernel
theorem dX3_copyFrom_120 : decode cX3_copyFrom 120 = .ok (.aload_n 0, 1) := by decide +kernel
theorem dX3_copyFrom_121 : decode cX3_copyFrom 121 = .ok (.aload_n 1, 1) := by decide +kernel
theorem dX3_copyFrom_122 : decode cX3_copyFrom 122 = .ok (.getfield 74, 3) := by decide +kernel
theorem dX3_copyFrom_125 : decode cX3_copyFrom 125 = .ok (.putfield 74, 3) := by decide +kernel
theorem dX3_copyFrom_128 : decode cX3_copyFrom 128 = .ok (.aload_n 0, 1) := by decide +kernel
theorem dX3_copyFrom_129 : decode cX3_copyFrom 129 = .ok (.aload_n 1, 1) := by decide +kernel
theorem dX3_copyFrom_130 : decode cX3_copyFrom 130 = .ok (.getfield 77, 3) := by decide +kernel
theorem dX3_copyFrom_133 : decode cX3_copyFrom 133 = .ok (.putfield 77, 3) := by decide +kernel
theorem dX3_copyFrom_136 : decode cX3_copyFrom 136 = .ok (.return_, 1) := by decide +kernel
theorem dX3_turnedPoint_0 : decode cX3_turnedPoint 0 = .ok (.iload_n 2, 1) := by decide +kernel
theorem dX3_turnedPoint_1 : decode cX3_turnedPoint 1 = .ok (.istore 5, 2) := by decide +kernel
theorem dX3_turnedPoint_3 : decode cX3_turnedPoint 3 = .ok (.iload_n 3, 1) := by decide +kernel
theorem dX3_turnedPoint_4 : decode cX3_turnedPoint 4 = .ok (.istore 6, 2) := by decide +kernel
theorem dX3_turnedPoint_6 : decode cX3_turnedPoint 6 = .ok (.iconst 0, 1) := by decide +kernel
theorem dX3_turnedPoint_7 : decode cX3_turnedPoint 7 = .ok (.istore 7, 2) := by decide +kernel
theorem dX3_turnedPoint_9 : decode cX3_turnedPoint 9 = .ok (.iload 7, 2) := by decide +kernel
theorem dX3_turnedPoint_11 : decode cX3_turnedPoint 11 = .ok (.iload 4, 2) := by decide +kernel
theorem dX3_turnedPoint_13 : decode cX3_turnedPoint 13 = .ok (.iconst 4, 1) := by decide +kernel
theorem dX3_turnedPoint_14 : decode cX3_turnedPoint 14 = .ok (.irem, 1) := by decide +kernel
theorem dX3_turnedPoint_15 : decode cX3_turnedPoint 15 = .ok (.if_icmp .ge 23, 3) := by decide +kernel
theorem dX3_turnedPoint_18 : decode cX3_turnedPoint 18 = .ok (.iconst 4, 1) := by decide +kernel
theorem dX3_turnedPoint_19 : decode cX3_turnedPoint 19 = .ok (.iload 5, 2) := by decide +kernel
theorem dX3_turnedPoint_21 : decode cX3_turnedPoint 21 = .ok (.isub, 1) := by decide +kernel
theorem dX3_turnedPoint_22 : decode cX3_turnedPoint 22 = .ok (.istore 8, 2) := by decide +kernel
theorem dX3_turnedPoint_24 : decode cX3_turnedPoint 24 = .ok (.iload 6, 2) := by decide +kernel
theorem dX3_turnedPoint_26 : decode cX3_turnedPoint 26 = .ok (.istore 5, 2) := by decide +kernel
theorem dX3_turnedPoint_28 : decode cX3_turnedPoint 28 = .ok (.iload 8, 2) := by decide +kernel
theorem dX3_turnedPoint_30 : decode cX3_turnedPoint 30 = .ok (.istore 6, 2) := by decide +kernel
theorem dX3_turnedPoint_32 : decode cX3_turnedPoint 32 = .ok (.iinc 7 1, 3) := by decide +kernel
theorem dX3_turnedPoint_35 : decode cX3_turnedPoint 35 = .ok (.goto (-26), 3) := by decide +kernel
theorem dX3_turnedPoint_38 : decode cX3_turnedPoint 38 = .ok (.iload 4, 2) := by decide +kernel
theorem dX3_turnedPoint_40 : decode cX3_turnedPoint 40 = .ok (.iconst 4, 1) := by decide +kernel
theorem dX3_turnedPoint_41 : decode cX3_turnedPoint 41 = .ok (.if_icmp .lt 9, 3) := by decide +kernel
theorem dX3_turnedPoint_44 : decode cX3_turnedPoint 44 = .ok (.iconst 4, 1) := by decide +kernel
theorem dX3_turnedPoint_45 : decode cX3_turnedPoint 45 = .ok (.iload 5, 2) := by decide +kernel
theorem dX3_turnedPoint_47 : decode cX3_turnedPoint 47 = .ok (.isub, 1) := by decide +kernel
theorem dX3_turnedPoint_48 : decode cX3_turnedPoint 48 = .ok (.istore 5, 2) := by decide +kernel
theorem dX3_turnedPoint_50 : decode cX3_turnedPoint 50 = .ok (.aload_n 0, 1) := by decide +kernel
theorem dX3_turnedPoint_51 : decode cX3_turnedPoint 51 = .ok (.getfield 9, 3) := by decide +kernel
theorem dX3_turnedPoint_54 : decode cX3_turnedPoint 54 = .ok (.iload_n 1, 1) := by decide +kernel
theorem dX3_turnedPoint_55 : decode cX3_turnedPoint 55 = .ok (.iload 5, 2) := by decide +kernel
theorem dX3_turnedPoint_57 : decode cX3_turnedPoint 57 = .ok (.iload 6, 2) := by decide +kernel
theorem dX3_turnedPoint_59 : decode cX3_turnedPoint 59 = .ok (.invokestatic 80, 3) := by decide +kernel
theorem dX3_turnedPoint_62 : decode cX3_turnedPoint 62 = .ok (.iaload, 1) := by decide +kernel
theorem dX3_turnedPoint_63 : decode cX3_turnedPoint 63 = .ok (.ireturn, 1) := by decide +kernel
theorem dX3_turnDie_0 : decode cX3_turnDie 0 = .ok (.iconst 0, 1) := by decide +kernel
theorem dX3_turnDie_1 : decode cX3_turnDie 1 = .ok (.istore 4, 2) := by decide +kernel
theorem dX3_turnDie_3 : decode cX3_turnDie 3 = .ok (.iload 4, 2) := by decide +kernel
theorem dX3_turnDie_5 : decode cX3_turnDie 5 = .ok (.iconst 5, 1) := by decide +kernel
theorem dX3_turnDie_6 : decode cX3_turnDie 6 = .ok (.if_icmp .ge 43, 3) := by decide +kernel
theorem dX3_turnDie_9 : decode cX3_turnDie 9 = .ok (.iconst 0, 1) := by decide +kernel
theorem dX3_turnDie_10 : decode cX3_turnDie 10 = .ok (.istore 5, 2) := by decide +kernel
theorem dX3_turnDie_12 : decode cX3_turnDie 12 = .ok (.iload 5, 2) := by decide +kernel
theorem dX3_turnDie_14 : decode cX3_turnDie 14 = .ok (.iconst 5, 1) := by decide +kernel
theorem dX3_turnDie_15 : decode cX3_turnDie 15 = .ok (.if_icmp .ge 28, 3) := by decide +kernel
theorem dX3_turnDie_18 : decode cX3_turnDie 18 = .ok (.aload_n 3, 1) := by decide +kernel
theorem dX3_turnDie_19 : decode cX3_turnDie 19 = .ok (.iload 4, 2) := by decide +kernel
theorem dX3_turnDie_21 : decode cX3_turnDie 21 = .ok (.iconst 5, 1) := by decide +kernel
theorem dX3_turnDie_22 : decode cX3_turnDie 22 = .ok (.imul, 1) := by decide +kernel
theorem dX3_turnDie_23 : decode cX3_turnDie 23 = .ok (.iload 5, 2) := by decide +kernel
theorem dX3_turnDie_25 : decode cX3_turnDie 25 = .ok (.iadd, 1) := by decide +kernel
theorem dX3_turnDie_26 : decode cX3_turnDie 26 = .ok (.aload_n 0, 1) := by decide +kernel
theorem dX3_turnDie_27 : decode cX3_turnDie 27 = .ok (.iload_n 1, 1) := by decide +kernel
theorem dX3_turnDie_28 : decode cX3_turnDie 28 = .ok (.iload 5, 2) := by decide +kernel
theorem dX3_turnDie_30 : decode cX3_turnDie 30 = .ok (.iload 4, 2) := by decide +kernel
theorem dX3_turnDie_32 : decode cX3_turnDie 32 = .ok (.iload_n 2, 1) := by decide +kernel
theorem dX3_turnDie_33 : decode cX3_turnDie 33 = .ok (.invokevirtual 84, 3) := by decide +kernel
theorem dX3_turnDie_36 : decode cX3_turnDie 36 = .ok (.iastore, 1) := by decide +kernel
theorem dX3_turnDie_37 : decode cX3_turnDie 37 = .ok (.iinc 5 1, 3) := by decide +kernel
theorem dX3_turnDie_40 : decode cX3_turnDie 40 = .ok (.goto (-28), 3) := by decide +kernel
theorem dX3_turnDie_43 : decode cX3_turnDie 43 = .ok (.iinc 4 1, 3) := by decide +kernel
theorem dX3_turnDie_46 : decode cX3_turnDie 46 = .ok (.goto (-43), 3) := by decide +kernel
theorem dX3_turnDie_49 : decode cX3_turnDie 49 = .ok (.return_, 1) := by decide +kernel
theorem dX3_raisedPoints_0 : decode cX3_raisedPoints 0 = .ok (.iconst 0, 1) := by decide +kernel
theorem dX3_raisedPoints_1 : decode cX3_raisedPoints 1 = .ok (.istore_n 2, 1) := by decide +kernel
theorem dX3_raisedPoints_2 : decode cX3_raisedPoints 2 = .ok (.iconst 0, 1) := by decide +kernel
theorem dX3_raisedPoints_3 : decode cX3_raisedPoints 3 = .ok (.istore_n 3, 1) := by decide +kernel
theorem dX3_raisedPoints_4 : decode cX3_raisedPoints 4 = .ok (.iload_n 3, 1) := by decide +kernel
theorem dX3_raisedPoints_5 : decode cX3_raisedPoints 5 = .ok (.bipush 25, 2) := by decide +kernel
theorem dX3_raisedPoints_7 : decode cX3_raisedPoints 7 = .ok (.if_icmp .ge 26, 3) := by decide +kernel
theorem dX3_raisedPoints_10 : decode cX3_raisedPoints 10 = .ok (.aload_n 0, 1) := by decide +kernel
theorem dX3_raisedPoints_11 : decode cX3_raisedPoints 11 = .ok (.getfield 9, 3) := by decide +kernel
theorem dX3_raisedPoints_14 : decode cX3_raisedPoints 14 = .ok (.iload_n 1, 1) := by decide +kernel
theorem dX3_raisedPoints_15 : decode cX3_raisedPoints 15 = .ok (.bipush 25, 2) := by decide +kernel
theorem dX3_raisedPoints_17 : decode cX3_raisedPoints 17 = .ok (.imul, 1) := by decide +kernel
theorem dX3_raisedPoints_18 : decode cX3_raisedPoints 18 = .ok (.iload_n 3, 1) := by decide +kernel
theorem dX3_raisedPoints_19 : decode cX3_raisedPoints 19 = .ok (.iadd, 1) := by decide +kernel
theorem dX3_raisedPoints_20 : decode cX3_raisedPoints 20 = .ok (.iaload, 1) := by decide +kernel
theorem dX3_raisedPoints_21 : decode cX3_raisedPoints 21 = .ok (.ifCond .le 6, 3) := by decide +kernel
theorem dX3_raisedPoints_24 : decode cX3_raisedPoints 24 = .ok (.iinc 2 1, 3) := by decide +kernel
theorem dX3_raisedPoints_27 : decode cX3_raisedPoints 27 = .ok (.iinc 3 1, 3) := by decide +kernel
theorem dX3_raisedPoints_30 : decode cX3_raisedPoints 30 = .ok (.goto (-26), 3) := by decide +kernel
theorem dX3_raisedPoints_33 : decode cX3_raisedPoints 33 = .ok (.iload_n 2, 1) := by decide +kernel
theorem dX3_raisedPoints_34 : decode cX3_raisedPoints 34 = .ok (.ireturn, 1) := by decide +kernel
theorem dX3_isFoilReadyOver_0 : decode cX3_isFoilReadyOver 0 = .ok (.iload_n 1, 1) := by decide +kernel
theorem dX3_isFoilReadyOver_1 : decode cX3_isFoilReadyOver 1 = .ok (.bipush 12, 2) := by decide +kernel
theorem dX3_isFoilReadyOver_3 : decode cX3_isFoilReadyOver 3 = .ok (.irem, 1) := by decide +kernel
theorem dX3_isFoilReadyOver_4 : decode cX3_isFoilReadyOver 4 = .ok (.istore_n 2, 1) := by decide +kernel
theorem dX3_isFoilReadyOver_5 : decode cX3_isFoilReadyOver 5 = .ok (.iload_n 1, 1) := by decide +kernel
theorem dX3_isFoilReadyOver_6 : decode cX3_isFoilReadyOver 6 = .ok (.bipush 12, 2) := by decide +kernel
theorem dX3_isFoilReadyOver_8 : decode cX3_isFoilReadyOver 8 = .ok (.idiv, 1) := by decide +kernel
theorem dX3_isFoilReadyOver_9 : decode cX3_isFoilReadyOver 9 = .ok (.istore_n 3, 1) := by decide +kernel
theorem dX3_isFoilReadyOver_10 : decode cX3_isFoilReadyOver 10 = .ok (.aload_n 0, 1) := by decide +kernel
theorem dX3_isFoilReadyOver_11 : decode cX3_isFoilReadyOver 11 = .ok (.getfield 65, 3) := by decide +kernel
theorem dX3_isFoilReadyOver_14 : decode cX3_isFoilReadyOver 14 = .ok (.ifCond .eq 39, 3) := by decide +kernel
theorem dX3_isFoilReadyOver_17 : decode cX3_isFoilReadyOver 17 = .ok (.iload_n 2, 1) := by decide +kernel
theorem dX3_isFoilReadyOver_18 : decode cX3_isFoilReadyOver 18 = .ok (.aload_n 0, 1) := by decide +kernel
theorem dX3_isFoilReadyOver_19 : decode cX3_isFoilReadyOver 19 = .ok (.getfield 68, 3) := by decide +kernel
theorem dX3_isFoilReadyOver_22 : decode cX3_isFoilReadyOver 22 = .ok (.if_icmp .lt 31, 3) := by decide +kernel
theorem dX3_isFoilReadyOver_25 : decode cX3_isFoilReadyOver 25 = .ok (.iload_n 2, 1) := by decide +kernel
theorem dX3_isFoilReadyOver_26 : decode cX3_isFoilReadyOver 26 = .ok (.aload_n 0, 1) := by decide +kernel
theorem dX3_isFoilReadyOver_27 : decode cX3_isFoilReadyOver 27 = .ok (.getfield 74, 3) := by decide +kernel
theorem dX3_isFoilReadyOver_30 : decode cX3_isFoilReadyOver 30 = .ok (.if_icmp .gt 23, 3) := by decide +kernel
theorem dX3_isFoilReadyOver_33 : decode cX3_isFoilReadyOver 33 = .ok (.iload_n 3, 1) := by decide +kernel
theorem dX3_isFoilReadyOver_34 : decode cX3_isFoilReadyOver 34 = .ok (.aload_n 0, 1) := by decide +kernel
theorem dX3_isFoilReadyOver_35 : decode cX3_isFoilReadyOver 35 = .ok (.getfield 71, 3) := by decide +kernel
theorem dX3_isFoilReadyOver_38 : decode cX3_isFoilReadyOver 38 = .ok (.if_icmp .lt 15, 3) := by decide +kernel
theorem dX3_isFoilReadyOver_41 : decode cX3_isFoilReadyOver 41 = .ok (.iload_n 3, 1) := by decide +kernel
theorem dX3_isFoilReadyOver_42 : decode cX3_isFoilReadyOver 42 = .ok (.aload_n 0, 1) := by decide +kernel
theorem dX3_isFoilReadyOver_43 : decode cX3_isFoilReadyOver 43 = .ok (.getfield 77, 3) := by decide +kernel
theorem dX3_isFoilReadyOver_46 : decode cX3_isFoilReadyOver 46 = .ok (.if_icmp .gt 7, 3) := by decide +kernel
theorem dX3_isFoilReadyOver_49 : decode cX3_isFoilReadyOver 49 = .ok (.iconst 1, 1) := by decide +kernel
theorem dX3_isFoilReadyOver_50 : decode cX3_isFoilReadyOver 50 = .ok (.goto 4, 3) := by decide +kernel
theorem dX3_isFoilReadyOver_53 : decode cX3_isFoilReadyOver 53 = .ok (.iconst 0, 1) := by decide +kernel
theorem dX3_isFoilReadyOver_54 : decode cX3_isFoilReadyOver 54 = .ok (.ireturn, 1) := by decide +kernel
theorem dX3_stickFoil_0 : decode cX3_stickFoil 0 = .ok (.iconst 0, 1) := by decide +kernel
theorem dX3_stickFoil_1 : decode cX3_stickFoil 1 = .ok (.istore 6, 2) := by decide +kernel
theorem dX3_stickFoil_3 : decode cX3_stickFoil 3 = .ok (.iload 6, 2) := by decide +kernel
theorem dX3_stickFoil_5 : decode cX3_stickFoil 5 = .ok (.bipush 25, 2) := by decide +kernel
theorem dX3_stickFoil_7 : decode cX3_stickFoil 7 = .ok (.if_icmp .ge 55, 3) := by decide +kernel
theorem dX3_stickFoil_10 : decode cX3_stickFoil 10 = .ok (.iload 6, 2) := by decide +kernel
theorem dX3_stickFoil_12 : decode cX3_stickFoil 12 = .ok (.lload_n 2, 1) := by decide +kernel
theorem dX3_stickFoil_13 : decode cX3_stickFoil 13 = .ok (.lload 4, 2) := by decide +kernel
theorem dX3_stickFoil_15 : decode cX3_stickFoil 15 = .ok (.invokestatic 88, 3) := by decide +kernel
theorem dX3_stickFoil_18 : decode cX3_stickFoil 18 = .ok (.istore 7, 2) := by decide +kernel
theorem dX3_stickFoil_20 : decode cX3_stickFoil 20 = .ok (.aload_n 1, 1) := by decide +kernel
theorem dX3_stickFoil_21 : decode cX3_stickFoil 21 = .ok (.iload 6, 2) := by decide +kernel
theorem dX3_stickFoil_23 : decode cX3_stickFoil 23 = .ok (.iaload, 1) := by decide +kernel
theorem dX3_stickFoil_24 : decode cX3_stickFoil 24 = .ok (.ifCond .le 32, 3) := by decide +kernel
theorem dX3_stickFoil_27 : decode cX3_stickFoil 27 = .ok (.iload 7, 2) := by decide +kernel
theorem dX3_stickFoil_29 : decode cX3_stickFoil 29 = .ok (.iconst (-1), 1) := by decide +kernel
theorem dX3_stickFoil_30 : decode cX3_stickFoil 30 = .ok (.if_icmp .eq 26, 3) := by decide +kernel
theorem dX3_stickFoil_33 : decode cX3_stickFoil 33 = .ok (.aload_n 0, 1) := by decide +kernel
theorem dX3_stickFoil_34 : decode cX3_stickFoil 34 = .ok (.iload 7, 2) := by decide +kernel
theorem dX3_stickFoil_36 : decode cX3_stickFoil 36 = .ok (.invokevirtual 92, 3) := by decide +kernel
theorem dX3_stickFoil_39 : decode cX3_stickFoil 39 = .ok (.ifCond .eq 17, 3) := by decide +kernel
theorem dX3_stickFoil_42 : decode cX3_stickFoil 42 = .ok (.aload_n 0, 1) := by decide +kernel
theorem dX3_stickFoil_43 : decode cX3_stickFoil 43 = .ok (.getfield 29, 3) := by decide +kernel
theorem dX3_stickFoil_46 : decode cX3_stickFoil 46 = .ok (.getfield 96, 3) := by decide +kernel
theorem dX3_stickFoil_49 : decode cX3_stickFoil 49 = .ok (.iload 7, 2) := by decide +kernel
theorem dX3_stickFoil_51 : decode cX3_stickFoil 51 = .ok (.aload_n 0, 1) := by decide +kernel
theorem dX3_stickFoil_52 : decode cX3_stickFoil 52 = .ok (.getfield 65, 3) := by decide +kernel
theorem dX3_stickFoil_55 : decode cX3_stickFoil 55 = .ok (.iastore, 1) := by decide +kernel
theorem dX3_stickFoil_56 : decode cX3_stickFoil 56 = .ok (.iinc 6 1, 3) := by decide +kernel
theorem dX3_stickFoil_59 : decode cX3_stickFoil 59 = .ok (.goto (-56), 3) := by decide +kernel
theorem dX3_stickFoil_62 : decode cX3_stickFoil 62 = .ok (.aload_n 0, 1) := by decide +kernel
theorem dX3_stickFoil_63 : decode cX3_stickFoil 63 = .ok (.iconst 0, 1) := by decide +kernel
theorem dX3_stickFoil_64 : decode cX3_stickFoil 64 = .ok (.putfield 65, 3) := by decide +kernel
theorem dX3_stickFoil_67 : decode cX3_stickFoil 67 = .ok (.return_, 1) := by decide +kernel
theorem dX3_slipIfDue_0 : decode cX3_slipIfDue 0 = .ok (.aload_n 0, 1) := by decide +kernel
theorem dX3_slipIfDue_1 : decode cX3_slipIfDue 1 = .ok (.getfield 23, 3) := by decide +kernel
theorem dX3_slipIfDue_4 : decode cX3_slipIfDue 4 = .ok (.iconst 3, 1) := by decide +kernel
theorem dX3_slipIfDue_5 : decode cX3_slipIfDue 5 = .ok (.iaload, 1) := by decide +kernel
theorem dX3_slipIfDue_6 : decode cX3_slipIfDue 6 = .ok (.istore_n 1, 1) := by decide +kernel
theorem dX3_slipIfDue_7 : decode cX3_slipIfDue 7 = .ok (.iload_n 1, 1) := by decide +kernel
theorem dX3_slipIfDue_8 : decode cX3_slipIfDue 8 = .ok (.ifCond .le 26, 3) := by decide +kernel
theorem dX3_slipIfDue_11 : decode cX3_slipIfDue 11 = .ok (.aload_n 0, 1) := by decide +kernel
theorem dX3_slipIfDue_12 : decode cX3_slipIfDue 12 = .ok (.getfield 53, 3) := by decide +kernel
theorem dX3_slipIfDue_15 : decode cX3_slipIfDue 15 = .ok (.iload_n 1, 1) := by decide +kernel
theorem dX3_slipIfDue_16 : decode cX3_slipIfDue 16 = .ok (.irem, 1) := by decide +kernel
theorem dX3_slipIfDue_17 : decode cX3_slipIfDue 17 = .ok (.ifCond .ne 17, 3) := by decide +kernel
theorem dX3_slipIfDue_20 : decode cX3_slipIfDue 20 = .ok (.aload_n 0, 1) := by decide +kernel
theorem dX3_slipIfDue_21 : decode cX3_slipIfDue 21 = .ok (.aload_n 0, 1) := by decide +kernel
theorem dX3_slipIfDue_22 : decode cX3_slipIfDue 22 = .ok (.getfield 47, 3) := by decide +kernel
theorem dX3_slipIfDue_25 : decode cX3_slipIfDue 25 = .ok (.iconst 1, 1) := by decide +kernel
theorem dX3_slipIfDue_26 : decode cX3_slipIfDue 26 = .ok (.iadd, 1) := by decide +kernel
theorem dX3_slipIfDue_27 : decode cX3_slipIfDue 27 = .ok (.iconst 3, 1) := by decide +kernel
theorem dX3_slipIfDue_28 : decode cX3_slipIfDue 28 = .ok (.invokestatic 99, 3) := by decide +kernel
theorem dX3_slipIfDue_31 : decode cX3_slipIfDue 31 = .ok (.putfield 47, 3) := by decide +kernel
theorem dX3_slipIfDue_34 : decode cX3_slipIfDue 34 = .ok (.return_, 1) := by decide +kernel
theorem dX3_unslip_0 : decode cX3_unslip 0 = .ok (.aload_n 0, 1) := by decide +kernel
theorem dX3_unslip_1 : decode cX3_unslip 1 = .ok (.iconst 0, 1) := by decide +kernel
theorem dX3_unslip_2 : decode cX3_unslip 2 = .ok (.putfield 47, 3) := by decide +kernel
theorem dX3_unslip_5 : decode cX3_unslip 5 = .ok (.aload_n 0, 1) := by decide +kernel
theorem dX3_unslip_6 : decode cX3_unslip 6 = .ok (.iconst 0, 1) := by decide +kernel
theorem dX3_unslip_7 : decode cX3_unslip 7 = .ok (.putfield 53, 3) := by decide +kernel
theorem dX3_unslip_10 : decode cX3_unslip 10 = .ok (.return_, 1) := by decide +kernel
theorem dJ9_max_7cf53_0 : decode cJ9_max_7cf53 0 = .ok (.iload_n 0, 1) := by decide +kernel
theorem dJ9_max_7cf53_1 : decode cJ9_max_7cf53 1 = .ok (.iload_n 1, 1) := by decide +kernel
theorem dJ9_max_7cf53_2 : decode cJ9_max_7cf53 2 = .ok (.if_icmp .lt 7, 3) := by decide +kernel
theorem dJ9_max_7cf53_5 : decode cJ9_max_7cf53 5 = .ok (.iload_n 0, 1) := by decide +kernel
theorem dJ9_max_7cf53_6 : decode cJ9_max_7cf53 6 = .ok (.goto 4, 3) := by decide +kernel
theorem dJ9_max_7cf53_9 : decode cJ9_max_7cf53 9 = .ok (.iload_n 1, 1) := by decide +kernel
theorem dJ9_max_7cf53_10 : decode cJ9_max_7cf53 10 = .ok (.ireturn, 1) := by decide +kernel
theorem dJ9_min_7cf53_0 : decode cJ9_min_7cf53 0 = .ok (.iload_n 0, 1) := by decide +kernel
theorem dJ9_min_7cf53_1 : decode cJ9_min_7cf53 1 = .ok (.iload_n 1, 1) := by decide +kernel
theorem dJ9_min_7cf53_2 : decode cJ9_min_7cf53 2 = .ok (.if_icmp .gt 7, 3) := by decide +kernel
theorem dJ9_min_7cf53_5 : decode cJ9_min_7cf53 5 = .ok (.iload_n 0, 1) := by decide +kernel
theorem dJ9_min_7cf53_6 : decode cJ9_min_7cf53 6 = .ok (.goto 4, 3) := by decide +kernel
theorem dJ9_min_7cf53_9 : decode cJ9_min_7cf53 9 = .ok (.iload_n 1, 1) := by decide +kernel
theorem dJ9_min_7cf53_10 : decode cJ9_min_7cf53 10 = .ok (.ireturn, 1) := by decide +kernel
theorem dJ7_fill_53178_0 : decode cJ7_fill_53178 0 = .ok (.iconst 0, 1) := by decide +kernel
theorem dJ7_fill_53178_1 : decode cJ7_fill_53178 1 = .ok (.istore_n 2, 1) := by decide +kernel
theorem dJ7_fill_53178_2 : decode cJ7_fill_53178 2 = .ok (.aload_n 0, 1) := by decide +kernel
theorem dJ7_fill_53178_3 : decode cJ7_fill_53178 3 = .ok (.arraylength, 1) := by decide +kernel
theorem dJ7_fill_53178_4 : decode cJ7_fill_53178 4 = .ok (.istore_n 3, 1) := by decide +kernel
theorem dJ7_fill_53178_5 : decode cJ7_fill_53178 5 = .ok (.iload_n 2, 1) := by decide +kernel
theorem dJ7_fill_53178_6 : decode cJ7_fill_53178 6 = .ok (.iload_n 3, 1) := by decide +kernel
theorem dJ7_fill_53178_7 : decode cJ7_fill_53178 7 = .ok (.if_icmp .ge 13, 3) := by decide +kernel
theorem dJ7_fill_53178_10 : decode cJ7_fill_53178 10 = .ok (.aload_n 0, 1) := by decide +kernel
theorem dJ7_fill_53178_11 : decode cJ7_fill_53178 11 = .ok (.iload_n 2, 1) := by decide +kernel
theorem dJ7_fill_53178_12 : decode cJ7_fill_53178 12 = .ok (.iload_n 1, 1) := by decide +kernel
theorem dJ7_fill_53178_13 : decode cJ7_fill_53178 13 = .ok (.iastore, 1) := by decide +kernel
theorem dJ7_fill_53178_14 : decode cJ7_fill_53178 14 = .ok (.iinc 2 1, 3) := by decide +kernel
theorem dJ7_fill_53178_17 : decode cJ7_fill_53178 17 = .ok (.goto (-12), 3) := by decide +kernel
theorem dJ7_fill_53178_20 : decode cJ7_fill_53178 20 = .ok (.return_, 1) := by decide +kernel
end
section
theorem dX4_init_0 : decode cX4_init 0 = .ok (.aload_n 0, 1) := by decide +kernel
theorem dX4_init_1 : decode cX4_init 1 = .ok (.invokespecial 3, 3) := by decide +kernel
theorem dX4_init_4 : decode cX4_init 4 = .ok (.aload_n 0, 1) := by decide +kernel
theorem dX4_init_5 : decode cX4_init 5 = .ok (.new 9, 3) := by decide +kernel
theorem dX4_init_8 : decode cX4_init 8 = .ok (.dup, 1) := by decide +kernel
theorem dX4_init_9 : decode cX4_init 9 = .ok (.invokespecial 11, 3) := by decide +kernel
theorem dX4_init_12 : decode cX4_init 12 = .ok (.putfield 12, 3) := by decide +kernel
theorem dX4_init_15 : decode cX4_init 15 = .ok (.aload_n 0, 1) := by decide +kernel
theorem dX4_init_16 : decode cX4_init 16 = .ok (.iconst 2, 1) := by decide +kernel
theorem dX4_init_17 : decode cX4_init 17 = .ok (.anewarray 9, 3) := by decide +kernel
theorem dX4_init_20 : decode cX4_init 20 = .ok (.putfield 16, 3) := by decide +kernel
theorem dX4_init_23 : decode cX4_init 23 = .ok (.iconst 0, 1) := by decide +kernel
theorem dX4_init_24 : decode cX4_init 24 = .ok (.istore_n 1, 1) := by decide +kernel
theorem dX4_init_25 : decode cX4_init 25 = .ok (.iload_n 1, 1) := by decide +kernel
theorem dX4_init_26 : decode cX4_init 26 = .ok (.iconst 2, 1) := by decide +kernel
theorem dX4_init_27 : decode cX4_init 27 = .ok (.if_icmp .ge 22, 3) := by decide +kernel
theorem dX4_init_30 : decode cX4_init 30 = .ok (.aload_n 0, 1) := by decide +kernel
theorem dX4_init_31 : decode cX4_init 31 = .ok (.getfield 16, 3) := by decide +kernel
theorem dX4_init_34 : decode cX4_init 34 = .ok (.iload_n 1, 1) := by decide +kernel
theorem dX4_init_35 : decode cX4_init 35 = .ok (.new 9, 3) := by decide +kernel
theorem dX4_init_38 : decode cX4_init 38 = .ok (.dup, 1) := by decide +kernel
theorem dX4_init_39 : decode cX4_init 39 = .ok (.invokespecial 11, 3) := by decide +kernel
theorem dX4_init_42 : decode cX4_init 42 = .ok (.aastore, 1) := by decide +kernel
theorem dX4_init_43 : decode cX4_init 43 = .ok (.iinc 1 1, 3) := by decide +kernel
theorem dX4_init_46 : decode cX4_init 46 = .ok (.goto (-21), 3) := by decide +kernel
theorem dX4_init_49 : decode cX4_init 49 = .ok (.aload_n 0, 1) := by decide +kernel
theorem dX4_init_50 : decode cX4_init 50 = .ok (.iconst 2, 1) := by decide +kernel
theorem dX4_init_51 : decode cX4_init 51 = .ok (.newarray .boolean, 2) := by decide +kernel
theorem dX4_init_53 : decode cX4_init 53 = .ok (.putfield 20, 3) := by decide +kernel
theorem dX4_init_56 : decode cX4_init 56 = .ok (.aload_n 0, 1) := by decide +kernel
theorem dX4_init_57 : decode cX4_init 57 = .ok (.bipush 6, 2) := by decide +kernel
theorem dX4_init_59 : decode cX4_init 59 = .ok (.anewarray 9, 3) := by decide +kernel
theorem dX4_init_62 : decode cX4_init 62 = .ok (.putfield 24, 3) := by decide +kernel
theorem dX4_init_65 : decode cX4_init 65 = .ok (.iconst 0, 1) := by decide +kernel
theorem dX4_init_66 : decode cX4_init 66 = .ok (.istore_n 1, 1) := by decide +kernel
theorem dX4_init_67 : decode cX4_init 67 = .ok (.iload_n 1, 1) := by decide +kernel
theorem dX4_init_68 : decode cX4_init 68 = .ok (.bipush 6, 2) := by decide +kernel
theorem dX4_init_70 : decode cX4_init 70 = .ok (.if_icmp .ge 22, 3) := by decide +kernel
theorem dX4_init_73 : decode cX4_init 73 = .ok (.aload_n 0, 1) := by decide +kernel
theorem dX4_init_74 : decode cX4_init 74 = .ok (.getfield 24, 3) := by decide +kernel
theorem dX4_init_77 : decode cX4_init 77 = .ok (.iload_n 1, 1) := by decide +kernel
theorem dX4_init_78 : decode cX4_init 78 = .ok (.new 9, 3) := by decide +kernel
theorem dX4_init_81 : decode cX4_init 81 = .ok (.dup, 1) := by decide +kernel
theorem dX4_init_82 : decode cX4_init 82 = .ok (.invokespecial 11, 3) := by decide +kernel
theorem dX4_init_85 : decode cX4_init 85 = .ok (.aastore, 1) := by decide +kernel
theorem dX4_init_86 : decode cX4_init 86 = .ok (.iinc 1 1, 3) := by decide +kernel
theorem dX4_init_89 : decode cX4_init 89 = .ok (.goto (-22), 3) := by decide +kernel
theorem dX4_init_92 : decode cX4_init 92 = .ok (.aload_n 0, 1) := by decide +kernel
theorem dX4_init_93 : decode cX4_init 93 = .ok (.new 27, 3) := by decide +kernel
theorem dX4_init_96 : decode cX4_init 96 = .ok (.dup, 1) := by decide +kernel
theorem dX4_init_97 : decode cX4_init 97 = .ok (.invokespecial 29, 3) := by decide +kernel
theorem dX4_init_100 : decode cX4_init 100 = .ok (.putfield 30, 3) := by decide +kernel
theorem dX4_init_103 : decode cX4_init 103 = .ok (.aload_n 0, 1) := by decide +kernel
theorem dX4_init_104 : decode cX4_init 104 = .ok (.bipush 25, 2) := by decide +kernel
theorem dX4_init_106 : decode cX4_init 106 = .ok (.newarray .int, 2) := by decide +kernel
theorem dX4_init_108 : decode cX4_init 108 = .ok (.putfield 34, 3) := by decide +kernel
theorem dX4_init_111 : decode cX4_init 111 = .ok (.aload_n 0, 1) := by decide +kernel
theorem dX4_init_112 : decode cX4_init 112 = .ok (.new 38, 3) := by decide +kernel
theorem dX4_init_115 : decode cX4_init 115 = .ok (.dup, 1) := by decide +kernel
theorem dX4_init_116 : decode cX4_init 116 = .ok (.invokespecial 40, 3) := by decide +kernel
theorem dX4_init_119 : decode cX4_init 119 = .ok (.putfield 41, 3) := by decide +kernel
theorem dX4_init_122 : decode cX4_init 122 = .ok (.aload_n 0, 1) := by decide +kernel
theorem dX4_init_123 : decode cX4_init 123 = .ok (.new 45, 3) := by decide +kernel
theorem dX4_init_126 : decode cX4_init 126 = .ok (.dup, 1) := by decide +kernel
theorem dX4_init_127 : decode cX4_init 127 = .ok (.invokespecial 47, 3) := by decide +kernel
theorem dX4_init_130 : decode cX4_init 130 = .ok (.putfield 48, 3) := by decide +kernel
theorem dX4_init_133 : decode cX4_init 133 = .ok (.return_, 1) := by decide +kernel
theorem dX4_point_0 : decode cX4_point 0 = .ok (.iload_n 1, 1) := by decide +kernel
theorem dX4_point_1 : decode cX4_point 1 = .ok (.invokestatic 52, 3) := by decide +kernel
theorem dX4_point_4 : decode cX4_point 4 = .ok (.ifCond .eq 11, 3) := by decide +kernel
theorem dX4_point_7 : decode cX4_point 7 = .ok (.iload_n 2, 1) := by decide +kernel
theorem dX4_point_8 : decode cX4_point 8 = .ok (.iload_n 3, 1) := by decide +kernel
theorem dX4_point_9 : decode cX4_point 9 = .ok (.invokestatic 56, 3) := by decide +kernel
theorem dX4_point_12 : decode cX4_point 12 = .ok (.ifCond .ne 13, 3) := by decide +kernel
theorem dX4_point_15 : decode cX4_point 15 = .ok (.new 60, 3) := by decide +kernel
theorem dX4_point_18 : decode cX4_point 18 = .ok (.dup, 1) := by decide +kernel
theorem dX4_point_19 : decode cX4_point 19 = .ok (.ldc 62, 2) := by decide +kernel
theorem dX4_point_21 : decode cX4_point 21 = .ok (.invokespecial 64, 3) := by decide +kernel
theorem dX4_point_24 : decode cX4_point 24 = .ok (.athrow, 1) := by decide +kernel
theorem dX4_point_25 : decode cX4_point 25 = .ok (.iload 4, 2) := by decide +kernel
theorem dX4_point_27 : decode cX4_point 27 = .ok (.ifCond .lt 10, 3) := by decide +kernel
theorem dX4_point_30 : decode cX4_point 30 = .ok (.iload 4, 2) := by decide +kernel
theorem dX4_point_32 : decode cX4_point 32 = .ok (.bipush 9, 2) := by decide +kernel
theorem dX4_point_34 : decode cX4_point 34 = .ok (.if_icmp .le 13, 3) := by decide +kernel
theorem dX4_point_37 : decode cX4_point 37 = .ok (.new 67, 3) := by decide +kernel
theorem dX4_point_40 : decode cX4_point 40 = .ok (.dup, 1) := by decide +kernel
theorem dX4_point_41 : decode cX4_point 41 = .ok (.ldc 69, 2) := by decide +kernel
theorem dX4_point_43 : decode cX4_point 43 = .ok (.invokespecial 71, 3) := by decide +kernel
theorem dX4_point_46 : decode cX4_point 46 = .ok (.athrow, 1) := by decide +kernel
theorem dX4_point_47 : decode cX4_point 47 = .ok (.aload_n 0, 1) := by decide +kernel
theorem dX4_point_48 : decode cX4_point 48 = .ok (.invokevirtual 72, 3) := by decide +kernel
theorem dX4_point_51 : decode cX4_point 51 = .ok (.iload_n 1, 1) := by decide +kernel
theorem dX4_point_52 : decode cX4_point 52 = .ok (.iload_n 2, 1) := by decide +kernel
theorem dX4_point_53 : decode cX4_point 53 = .ok (.iload_n 3, 1) := by decide +kernel
theorem dX4_point_54 : decode cX4_point 54 = .ok (.invokestatic 75, 3) := by decide +kernel
theorem dX4_point_57 : decode cX4_point 57 = .ok (.istore 5, 2) := by decide +kernel
theorem dX4_point_59 : decode cX4_point 59 = .ok (.aload_n 0, 1) := by decide +kernel
theorem dX4_point_60 : decode cX4_point 60 = .ok (.getfield 12, 3) := by decide +kernel
theorem dX4_point_63 : decode cX4_point 63 = .ok (.getfield 79, 3) := by decide +kernel
theorem dX4_point_66 : decode cX4_point 66 = .ok (.iload 5, 2) := by decide +kernel
theorem dX4_point_68 : decode cX4_point 68 = .ok (.iaload, 1) := by decide +kernel
theorem dX4_point_69 : decode cX4_point 69 = .ok (.istore 6, 2) := by decide +kernel
theorem dX4_point_71 : decode cX4_point 71 = .ok (.aload_n 0, 1) := by decide +kernel
theorem dX4_point_72 : decode cX4_point 72 = .ok (.getfield 12, 3) := by decide +kernel
theorem dX4_point_75 : decode cX4_point 75 = .ok (.getfield 79, 3) := by decide +kernel
theorem dX4_point_78 : decode cX4_point 78 = .ok (.iload 5, 2) := by decide +kernel
theorem dX4_point_80 : decode cX4_point 80 = .ok (.iload 4, 2) := by decide +kernel
theorem dX4_point_82 : decode cX4_point 82 = .ok (.iastore, 1) := by decide +kernel
theorem dX4_point_83 : decode cX4_point 83 = .ok (.iload 6, 2) := by decide +kernel
theorem dX4_point_85 : decode cX4_point 85 = .ok (.ireturn, 1) := by decide +kernel
theorem dX4_cast_0 : decode cX4_cast 0 = .ok (.iload_n 1, 1) := by decide +kernel
theorem dX4_cast_1 : decode cX4_cast 1 = .ok (.invokestatic 52, 3) := by decide +kernel
theorem dX4_cast_4 : decode cX4_cast 4 = .ok (.ifCond .eq 14, 3) := by decide +kernel
theorem dX4_cast_7 : decode cX4_cast 7 = .ok (.iload_n 2, 1) := by decide +kernel
theorem dX4_cast_8 : decode cX4_cast 8 = .ok (.i2l, 1) := by decide +kernel
theorem dX4_cast_9 : decode cX4_cast 9 = .ok (.iload_n 3, 1) := by decide +kernel
theorem dX4_cast_10 : decode cX4_cast 10 = .ok (.i2l, 1) := by decide +kernel
theorem dX4_cast_11 : decode cX4_cast 11 = .ok (.invokestatic 82, 3) := by decide +kernel
theorem dX4_cast_14 : decode cX4_cast 14 = .ok (.iconst (-1), 1) := by decide +kernel
theorem dX4_cast_15 : decode cX4_cast 15 = .ok (.if_icmp .ne 13, 3) := by decide +kernel
theorem dX4_cast_18 : decode cX4_cast 18 = .ok (.new 60, 3) := by decide +kernel
theorem dX4_cast_21 : decode cX4_cast 21 = .ok (.dup, 1) := by decide +kernel
theorem dX4_cast_22 : decode cX4_cast 22 = .ok (.ldc 86, 2) := by decide +kernel
theorem dX4_cast_24 : decode cX4_cast 24 = .ok (.invokespecial 64, 3) := by decide +kernel
theorem dX4_cast_27 : decode cX4_cast 27 = .ok (.athrow, 1) := by decide +kernel
theorem dX4_cast_28 : decode cX4_cast 28 = .ok (.aload_n 0, 1) := by decide +kernel
theorem dX4_cast_29 : decode cX4_cast 29 = .ok (.invokevirtual 72, 3) := by decide +kernel
theorem dX4_cast_32 : decode cX4_cast 32 = .ok (.iconst 0, 1) := by decide +kernel
theorem dX4_cast_33 : decode cX4_cast 33 = .ok (.istore 4, 2) := by decide +kernel
theorem dX4_cast_35 : decode cX4_cast 35 = .ok (.iload 4, 2) := by decide +kernel
theorem dX4_cast_37 : decode cX4_cast 37 = .ok (.iconst 5, 1) := by decide +kernel
theorem dX4_cast_38 : decode cX4_cast 38 = .ok (.if_icmp .ge 67, 3) := by decide +kernel
theorem dX4_cast_41 : decode cX4_cast 41 = .ok (.iconst 0, 1) := by decide +kernel
theorem dX4_cast_42 : decode cX4_cast 42 = .ok (.istore 5, 2) := by decide +kernel
theorem dX4_cast_44 : decode cX4_cast 44 = .ok (.iload 5, 2) := by decide +kernel
theorem dX4_cast_46 : decode cX4_cast 46 = .ok (.iconst 5, 1) := by decide +kernel
theorem dX4_cast_47 : decode cX4_cast 47 = .ok (.if_icmp .ge 52, 3) := by decide +kernel
theorem dX4_cast_50 : decode cX4_cast 50 = .ok (.aload_n 0, 1) := by decide +kernel
theorem dX4_cast_51 : decode cX4_cast 51 = .ok (.getfield 12, 3) := by decide +kernel
theorem dX4_cast_54 : decode cX4_cast 54 = .ok (.getfield 88, 3) := by decide +kernel
theorem dX4_cast_57 : decode cX4_cast 57 = .ok (.iload_n 2, 1) := by decide +kernel
theorem dX4_cast_58 : decode cX4_cast 58 = .ok (.iload 5, 2) := by decide +kernel
theorem dX4_cast_60 : decode cX4_cast 60 = .ok (.iadd, 1) := by decide +kernel
theorem dX4_cast_61 : decode cX4_cast 61 = .ok (.iload_n 3, 1) := by decide +kernel
theorem dX4_cast_62 : decode cX4_cast 62 = .ok (.iload 4, 2) := by decide +kernel
theorem dX4_cast_64 : decode cX4_cast 64 = .ok (.iadd, 1) := by decide +kernel
theorem dX4_cast_65 : decode cX4_cast 65 = .ok (.invokevirtual 91, 3) := by decide +kernel
theorem dX4_cast_68 : decode cX4_cast 68 = .ok (.istore 6, 2) := by decide +kernel
theorem dX4_cast_70 : decode cX4_cast 70 = .ok (.aload_n 0, 1) := by decide +kernel
theorem dX4_cast_71 : decode cX4_cast 71 = .ok (.getfield 12, 3) := by decide +kernel
theorem dX4_cast_74 : decode cX4_cast 74 = .ok (.getfield 79, 3) := by decide +kernel
theorem dX4_cast_77 : decode cX4_cast 77 = .ok (.iload_n 1, 1) := by decide +kernel
theorem dX4_cast_78 : decode cX4_cast 78 = .ok (.iload 5, 2) := by decide +kernel
theorem dX4_cast_80 : decode cX4_cast 80 = .ok (.iload 4, 2) := by decide +kernel
theorem dX4_cast_82 : decode cX4_cast 82 = .ok (.invokestatic 75, 3) := by decide +kernel
theorem dX4_cast_85 : decode cX4_cast 85 = .ok (.iload 6, 2) := by decide +kernel
theorem dX4_cast_87 : decode cX4_cast 87 = .ok (.bipush 9, 2) := by decide +kernel
theorem dX4_cast_89 : decode cX4_cast 89 = .ok (.invokestatic 95, 3) := by decide +kernel
theorem dX4_cast_92 : decode cX4_cast 92 = .ok (.iastore, 1) := by decide +kernel
theorem dX4_cast_93 : decode cX4_cast 93 = .ok (.iinc 5 1, 3) := by decide +kernel
theorem dX4_cast_96 : decode cX4_cast 96 = .ok (.goto (-52), 3) := by decide +kernel
theorem dX4_cast_99 : decode cX4_cast 99 = .ok (.iinc 4 1, 3) := by decide +kernel
theorem dX4_cast_102 : decode cX4_cast 102 = .ok (.goto (-67), 3) := by decide +kernel
theorem dX4_cast_105 : decode cX4_cast 105 = .ok (.aload_n 0, 1) := by decide +kernel
theorem dX4_cast_106 : decode cX4_cast 106 = .ok (.getfield 12, 3) := by decide +kernel
theorem dX4_cast_109 : decode cX4_cast 109 = .ok (.iload_n 1, 1) := by decide +kernel
theorem dX4_cast_110 : decode cX4_cast 110 = .ok (.invokevirtual 100, 3) := by decide +kernel
theorem dX4_cast_113 : decode cX4_cast 113 = .ok (.ireturn, 1) := by decide +kernel
theorem dX4_sheet_0 : decode cX4_sheet 0 = .ok (.aload_n 0, 1) := by decide +kernel
theorem dX4_sheet_1 : decode cX4_sheet 1 = .ok (.invokevirtual 72, 3) := by decide +kernel
theorem dX4_sheet_4 : decode cX4_sheet 4 = .ok (.aload_n 0, 1) := by decide +kernel
theorem dX4_sheet_5 : decode cX4_sheet 5 = .ok (.getfield 12, 3) := by decide +kernel
theorem dX4_sheet_8 : decode cX4_sheet 8 = .ok (.getfield 88, 3) := by decide +kernel
theorem dX4_sheet_11 : decode cX4_sheet 11 = .ok (.invokevirtual 104, 3) := by decide +kernel
theorem dX4_sheet_14 : decode cX4_sheet 14 = .ok (.istore_n 1, 1) := by decide +kernel
theorem dX4_sheet_15 : decode cX4_sheet 15 = .ok (.aload_n 0, 1) := by decide +kernel
theorem dX4_sheet_16 : decode cX4_sheet 16 = .ok (.getfield 12, 3) := by decide +kernel
theorem dX4_sheet_19 : decode cX4_sheet 19 = .ok (.getfield 88, 3) := by decide +kernel
theorem dX4_sheet_22 : decode cX4_sheet 22 = .ok (.invokevirtual 108, 3) := by decide +kernel
theorem dX4_sheet_25 : decode cX4_sheet 25 = .ok (.aload_n 0, 1) := by decide +kernel
theorem dX4_sheet_26 : decode cX4_sheet 26 = .ok (.getfield 12, 3) := by decide +kernel
theorem dX4_sheet_29 : decode cX4_sheet 29 = .ok (.invokevirtual 111, 3) := by decide +kernel
theorem dX4_sheet_32 : decode cX4_sheet 32 = .ok (.aload_n 0, 1) := by decide +kernel
theorem dX4_sheet_33 : decode cX4_sheet 33 = .ok (.getfield 12, 3) := by decide +kernel
theorem dX4_sheet_36 : decode cX4_sheet 36 = .ok (.iconst 0, 1) := by decide +kernel
theorem dX4_sheet_37 : decode cX4_sheet 37 = .ok (.putfield 114, 3) := by decide +kernel
theorem dX4_sheet_40 : decode cX4_sheet 40 = .ok (.aload_n 0, 1) := by decide +kernel
theorem dX4_sheet_41 : decode cX4_sheet 41 = .ok (.getfield 12, 3) := by decide +kernel
theorem dX4_sheet_44 : decode cX4_sheet 44 = .ok (.dup, 1) := by decide +kernel
theorem dX4_sheet_45 : decode cX4_sheet 45 = .ok (.getfield 118, 3) := by decide +kernel
theorem dX4_sheet_48 : decode cX4_sheet 48 = .ok (.iconst 1, 1) := by decide +kernel
theorem dX4_sheet_49 : decode cX4_sheet 49 = .ok (.iadd, 1) := by decide +kernel
theorem dX4_sheet_50 : decode cX4_sheet 50 = .ok (.putfield 118, 3) := by decide +kernel
theorem dX4_sheet_53 : decode cX4_sheet 53 = .ok (.iload_n 1, 1) := by decide +kernel
theorem dX4_sheet_54 : decode cX4_sheet 54 = .ok (.ireturn, 1) := by decide +kernel
theorem dX4_pin_0 : decode cX4_pin 0 = .ok (.aload_n 0, 1) := by decide +kernel
theorem dX4_pin_1 : decode cX4_pin 1 = .ok (.invokevirtual 72, 3) := by decide +kernel
theorem dX4_pin_4 : decode cX4_pin 4 = .ok (.aload_n 0, 1) := by decide +kernel
theorem dX4_pin_5 : decode cX4_pin 5 = .ok (.getfield 12, 3) := by decide +kernel
theorem dX4_pin_8 : decode cX4_pin 8 = .ok (.getfield 121, 3) := by decide +kernel
theorem dX4_pin_11 : decode cX4_pin 11 = .ok (.istore_n 1, 1) := by decide +kernel
theorem dX4_pin_12 : decode cX4_pin 12 = .ok (.aload_n 0, 1) := by decide +kernel
theorem dX4_pin_13 : decode cX4_pin 13 = .ok (.getfield 12, 3) := by decide +kernel
theorem dX4_pin_16 : decode cX4_pin 16 = .ok (.invokevirtual 111, 3) := by decide +kernel
theorem dX4_pin_19 : decode cX4_pin 19 = .ok (.iload_n 1, 1) := by decide +kernel
theorem dX4_pin_20 : decode cX4_pin 20 = .ok (.ireturn, 1) := by decide +kernel
theorem dX4_foil_0 : decode cX4_foil 0 = .ok (.iload_n 2, 1) := by decide +kernel
theorem dX4_foil_1 : decode cX4_foil 1 = .ok (.i2l, 1) := by decide +kernel
theorem dX4_foil_2 : decode cX4_foil 2 = .ok (.iload_n 3, 1) := by decide +kernel
theorem dX4_foil_3 : decode cX4_foil 3 = .ok (.i2l, 1) := by decide +kernel
theorem dX4_foil_4 : decode cX4_foil 4 = .ok (.invokestatic 82, 3) := by decide +kernel
theorem dX4_foil_7 : decode cX4_foil 7 = .ok (.iconst (-1), 1) := by decide +kernel
theorem dX4_foil_8 : decode cX4_foil 8 = .ok (.if_icmp .eq 16, 3) := by decide +kernel
theorem dX4_foil_11 : decode cX4_foil 11 = .ok (.iload 4, 2) := by decide +kernel
theorem dX4_foil_13 : decode cX4_foil 13 = .ok (.i2l, 1) := by decide +kernel
theorem dX4_foil_14 : decode cX4_foil 14 = .ok (.iload 5, 2) := by decide +kernel
theorem dX4_foil_16 : decode cX4_foil 16 = .ok (.i2l, 1) := by decide +kernel
theorem dX4_foil_17 : decode cX4_foil 17 = .ok (.invokestatic 82, 3) := by decide +kernel
theorem dX4_foil_20 : decode cX4_foil 20 = .ok (.iconst (-1), 1) := by decide +kernel
theorem dX4_foil_21 : decode cX4_foil 21 = .ok (.if_icmp .ne 13, 3) := by decide +kernel
theorem dX4_foil_24 : decode cX4_foil 24 = .ok (.new 60, 3) := by decide +kernel
theorem dX4_foil_27 : decode cX4_foil 27 = .ok (.dup, 1) := by decide +kernel
theorem dX4_foil_28 : decode cX4_foil 28 = .ok (.ldc 124, 2) := by decide +kernel
theorem dX4_foil_30 : decode cX4_foil 30 = .ok (.invokespecial 64, 3) := by decide +kernel
theorem dX4_foil_33 : decode cX4_foil 33 = .ok (.athrow, 1) := by decide +kernel
theorem dX4_foil_34 : decode cX4_foil 34 = .ok (.iload_n 1, 1) := by decide +kernel
theorem dX4_foil_35 : decode cX4_foil 35 = .ok (.iconst 1, 1) := by decide +kernel
theorem dX4_foil_36 : decode cX4_foil 36 = .ok (.if_icmp .lt 21, 3) := by decide +kernel
theorem dX4_foil_39 : decode cX4_foil 39 = .ok (.iload_n 1, 1) := by decide +kernel
theorem dX4_foil_40 : decode cX4_foil 40 = .ok (.bipush 9, 2) := by decide +kernel
theorem dX4_foil_42 : decode cX4_foil 42 = .ok (.if_icmp .gt 15, 3) := by decide +kernel
theorem dX4_foil_45 : decode cX4_foil 45 = .ok (.iload 4, 2) := by decide +kernel
theorem dX4_foil_47 : decode cX4_foil 47 = .ok (.iload_n 2, 1) := by decide +kernel
theorem dX4_foil_48 : decode cX4_foil 48 = .ok (.if_icmp .lt 9, 3) := by decide +kernel
theorem dX4_foil_51 : decode cX4_foil 51 = .ok (.iload 5, 2) := by decide +kernel
theorem dX4_foil_53 : decode cX4_foil 53 = .ok (.iload_n 3, 1) := by decide +kernel
theorem dX4_foil_54 : decode cX4_foil 54 = .ok (.if_icmp .ge 13, 3) := by decide +kernel
theorem dX4_foil_57 : decode cX4_foil 57 = .ok (.new 67, 3) := by decide +kernel
theorem dX4_foil_60 : decode cX4_foil 60 = .ok (.dup, 1) := by decide +kernel
theorem dX4_foil_61 : decode cX4_foil 61 = .ok (.ldc 126, 2) := by decide +kernel
theorem dX4_foil_63 : decode cX4_foil 63 = .ok (.invokespecial 71, 3) := by decide +kernel
theorem dX4_foil_66 : decode cX4_foil 66 = .ok (.athrow, 1) := by decide +kernel
theorem dX4_foil_67 : decode cX4_foil 67 = .ok (.aload_n 0, 1) := by decide +kernel
theorem dX4_foil_68 : decode cX4_foil 68 = .ok (.invokevirtual 72, 3) := by decide +kernel
theorem dX4_foil_71 : decode cX4_foil 71 = .ok (.aload_n 0, 1) := by decide +kernel
theorem dX4_foil_72 : decode cX4_foil 72 = .ok (.getfield 12, 3) := by decide +kernel
theorem dX4_foil_75 : decode cX4_foil 75 = .ok (.iload_n 1, 1) := by decide +kernel
theorem dX4_foil_76 : decode cX4_foil 76 = .ok (.putfield 114, 3) := by decide +kernel
theorem dX4_foil_79 : decode cX4_foil 79 = .ok (.aload_n 0, 1) := by decide +kernel
theorem dX4_foil_80 : decode cX4_foil 80 = .ok (.getfield 12, 3) := by decide +kernel
theorem dX4_foil_83 : decode cX4_foil 83 = .ok (.iload_n 2, 1) := by decide +kernel
theorem dX4_foil_84 : decode cX4_foil 84 = .ok (.putfield 128, 3) := by decide +kernel
theorem dX4_foil_87 : decode cX4_foil 87 = .ok (.aload_n 0, 1) := by decide +kernel
theorem dX4_foil_88 : decode cX4_foil 88 = .ok (.getfield 12, 3) := by decide +kernel
theorem dX4_foil_91 : decode cX4_foil 91 = .ok (.iload_n 3, 1) := by decide +kernel
theorem dX4_foil_92 : decode cX4_foil 92 = .ok (.putfield 131, 3) := by decide +kernel
theorem dX4_foil_95 : decode cX4_foil 95 = .ok (.aload_n 0, 1) := by decide +kernel
theorem dX4_foil_96 : decode cX4_foil 96 = .ok (.getfield 12, 3) := by decide +kernel
theorem dX4_foil_99 : decode cX4_foil 99 = .ok (.iload 4, 2) := by decide +kernel
theorem dX4_foil_101 : decode cX4_foil 101 = .ok (.putfield 134, 3) := by decide +kernel
theorem dX4_foil_104 : decode cX4_foil 104 = .ok (.aload_n 0, 1) := by decide +kernel
theorem dX4_foil_105 : decode cX4_foil 105 = .ok (.getfield 12, 3) := by decide +kernel
theorem dX4_foil_108 : decode cX4_foil 108 = .ok (.iload 5, 2) := by decide +kernel
theorem dX4_foil_110 : decode cX4_foil 110 = .ok (.putfield 137, 3) := by decide +kernel
theorem dX4_foil_113 : decode cX4_foil 113 = .ok (.iload 4, 2) := by decide +kernel
theorem dX4_foil_115 : decode cX4_foil 115 = .ok (.iload_n 2, 1) := by decide +kernel
theorem dX4_foil_116 : decode cX4_foil 116 = .ok (.isub, 1) := by decide +kernel
theorem dX4_foil_117 : decode cX4_foil 117 = .ok (.iconst 1, 1) := by decide +kernel
theorem dX4_foil_118 : decode cX4_foil 118 = .ok (.iadd, 1) := by decide +kernel
theorem dX4_foil_119 : decode cX4_foil 119 = .ok (.iload 5, 2) := by decide +kernel
theorem dX4_foil_121 : decode cX4_foil 121 = .ok (.iload_n 3, 1) := by decide +kernel
theorem dX4_foil_122 : decode cX4_foil 122 = .ok (.isub, 1) := by decide +kernel
theorem dX4_foil_123 : decode cX4_foil 123 = .ok (.iconst 1, 1) := by decide +kernel
theorem dX4_foil_124 : decode cX4_foil 124 = .ok (.iadd, 1) := by decide +kernel
theorem dX4_foil_125 : decode cX4_foil 125 = .ok (.imul, 1) := by decide +kernel
theorem dX4_foil_126 : decode cX4_foil 126 = .ok (.ireturn, 1) := by decide +kernel
theorem dX4_press_0 : decode cX4_press 0 = .ok (.iload_n 1, 1) := by decide +kernel
theorem dX4_press_1 : decode cX4_press 1 = .ok (.invokestatic 52, 3) := by decide +kernel
theorem dX4_press_4 : decode cX4_press 4 = .ok (.ifCond .ne 13, 3) := by decide +kernel
theorem dX4_press_7 : decode cX4_press 7 = .ok (.new 60, 3) := by decide +kernel
theorem dX4_press_10 : decode cX4_press 10 = .ok (.dup, 1) := by decide +kernel
theorem dX4_press_11 : decode cX4_press 11 = .ok (.ldc 140, 2) := by decide +kernel
theorem dX4_press_13 : decode cX4_press 13 = .ok (.invokespecial 64, 3) := by decide +kernel
theorem dX4_press_16 : decode cX4_press 16 = .ok (.athrow, 1) := by decide +kernel
theorem dX4_press_17 : decode cX4_press 17 = .ok (.iload 4, 2) := by decide +kernel
theorem dX4_press_19 : decode cX4_press 19 = .ok (.invokestatic 142, 3) := by decide +kernel
theorem dX4_press_22 : decode cX4_press 22 = .ok (.ifCond .ne 13, 3) := by decide +kernel
theorem dX4_press_25 : decode cX4_press 25 = .ok (.new 67, 3) := by decide +kernel
theorem dX4_press_28 : decode cX4_press 28 = .ok (.dup, 1) := by decide +kernel
theorem dX4_press_29 : decode cX4_press 29 = .ok (.ldc 145, 2) := by decide +kernel
theorem dX4_press_31 : decode cX4_press 31 = .ok (.invokespecial 71, 3) := by decide +kernel
theorem dX4_press_34 : decode cX4_press 34 = .ok (.athrow, 1) := by decide +kernel
theorem dX4_press_35 : decode cX4_press 35 = .ok (.aload_n 0, 1) := by decide +kernel
theorem dX4_press_36 : decode cX4_press 36 = .ok (.invokevirtual 72, 3) := by decide +kernel
theorem dX4_press_39 : decode cX4_press 39 = .ok (.aload_n 0, 1) := by decide +kernel
theorem dX4_press_40 : decode cX4_press 40 = .ok (.getfield 12, 3) := by decide +kernel
theorem dX4_press_43 : decode cX4_press 43 = .ok (.iload_n 1, 1) := by decide +kernel
theorem dX4_press_44 : decode cX4_press 44 = .ok (.iload 4, 2) := by decide +kernel
theorem dX4_press_46 : decode cX4_press 46 = .ok (.aload_n 0, 1) := by decide +kernel
theorem dX4_press_47 : decode cX4_press 47 = .ok (.getfield 34, 3) := by decide +kernel
theorem dX4_press_50 : decode cX4_press 50 = .ok (.invokevirtual 147, 3) := by decide +kernel
theorem dX4_press_53 : decode cX4_press 53 = .ok (.aload_n 0, 1) := by decide +kernel
theorem dX4_press_54 : decode cX4_press 54 = .ok (.iload_n 2, 1) := by decide +kernel
theorem dX4_press_55 : decode cX4_press 55 = .ok (.iload_n 3, 1) := by decide +kernel
theorem dX4_press_56 : decode cX4_press 56 = .ok (.invokevirtual 151, 3) := by decide +kernel
theorem dX4_press_59 : decode cX4_press 59 = .ok (.istore 5, 2) := by decide +kernel
theorem dX4_press_61 : decode cX4_press 61 = .ok (.iload 5, 2) := by decide +kernel
theorem dX4_press_63 : decode cX4_press 63 = .ok (.ifCond .eq 19, 3) := by decide +kernel
theorem dX4_press_66 : decode cX4_press 66 = .ok (.aload_n 0, 1) := by decide +kernel
theorem dX4_press_67 : decode cX4_press 67 = .ok (.getfield 12, 3) := by decide +kernel
theorem dX4_press_70 : decode cX4_press 70 = .ok (.dup, 1) := by decide +kernel
theorem dX4_press_71 : decode cX4_press 71 = .ok (.getfield 154, 3) := by decide +kernel
theorem dX4_press_74 : decode cX4_press 74 = .ok (.iconst 1, 1) := by decide +kernel
theorem dX4_press_75 : decode cX4_press 75 = .ok (.iadd, 1) := by decide +kernel
theorem dX4_press_76 : decode cX4_press 76 = .ok (.putfield 154, 3) := by decide +kernel
theorem dX4_press_79 : decode cX4_press 79 = .ok (.iload 5, 2) := by decide +kernel
theorem dX4_press_81 : decode cX4_press 81 = .ok (.ireturn, 1) := by decide +kernel
theorem dX4_press_82 : decode cX4_press 82 = .ok (.bipush 100, 2) := by decide +kernel
theorem dX4_press_84 : decode cX4_press 84 = .ok (.aload_n 0, 1) := by decide +kernel
theorem dX4_press_85 : decode cX4_press 85 = .ok (.iload_n 2, 1) := by decide +kernel
theorem dX4_press_86 : decode cX4_press 86 = .ok (.iload_n 3, 1) := by decide +kernel
theorem dX4_press_87 : decode cX4_press 87 = .ok (.invokevirtual 157, 3) := by decide +kernel
theorem dX4_press_90 : decode cX4_press 90 = .ok (.iadd, 1) := by decide +kernel
theorem dX4_press_91 : decode cX4_press 91 = .ok (.ireturn, 1) := by decide +kernel
theorem dX4_fold_0 : decode cX4_fold 0 = .ok (.iload_n 1, 1) := by decide +kernel
theorem dX4_fold_1 : decode cX4_fold 1 = .ok (.invokestatic 160, 3) := by decide +kernel
theorem dX4_fold_4 : decode cX4_fold 4 = .ok (.ifCond .ne 13, 3) := by decide +kernel
theorem dX4_fold_7 : decode cX4_fold 7 = .ok (.new 60, 3) := by decide +kernel
theorem dX4_fold_10 : decode cX4_fold 10 = .ok (.dup, 1) := by decide +kernel
theorem dX4_fold_11 : decode cX4_fold 11 = .ok (.ldc 163, 2) := by decide +kernel
theorem dX4_fold_13 : decode cX4_fold 13 = .ok (.invokespecial 64, 3) := by decide +kernel
theorem dX4_fold_16 : decode cX4_fold 16 = .ok (.athrow, 1) := by decide +kernel
theorem dX4_fold_17 : decode cX4_fold 17 = .ok (.aload_n 0, 1) := by decide +kernel
theorem dX4_fold_18 : decode cX4_fold 18 = .ok (.invokevirtual 72, 3) := by decide +kernel
theorem dX4_fold_21 : decode cX4_fold 21 = .ok (.aload_n 0, 1) := by decide +kernel
theorem dX4_fold_22 : decode cX4_fold 22 = .ok (.getfield 12, 3) := by decide +kernel
theorem dX4_fold_25 : decode cX4_fold 25 = .ok (.getfield 165, 3) := by decide +kernel
theorem dX4_fold_28 : decode cX4_fold 28 = .ok (.iconst 0, 1) := by decide +kernel
theorem dX4_fold_29 : decode cX4_fold 29 = .ok (.iaload, 1) := by decide +kernel
theorem dX4_fold_30 : decode cX4_fold 30 = .ok (.istore_n 2, 1) := by decide +kernel
theorem dX4_fold_31 : decode cX4_fold 31 = .ok (.aload_n 0, 1) := by decide +kernel
theorem dX4_fold_32 : decode cX4_fold 32 = .ok (.getfield 12, 3) := by decide +kernel
theorem dX4_fold_35 : decode cX4_fold 35 = .ok (.getfield 165, 3) := by decide +kernel
theorem dX4_fold_38 : decode cX4_fold 38 = .ok (.iconst 1, 1) := by decide +kernel
theorem dX4_fold_39 : decode cX4_fold 39 = .ok (.iaload, 1) := by decide +kernel
theorem dX4_fold_40 : decode cX4_fold 40 = .ok (.istore_n 3, 1) := by decide +kernel
theorem dX4_fold_41 : decode cX4_fold 41 = .ok (.aload_n 0, 1) := by decide +kernel
theorem dX4_fold_42 : decode cX4_fold 42 = .ok (.getfield 48, 3) := by decide +kernel
theorem dX4_fold_45 : decode cX4_fold 45 = .ok (.aload_n 0, 1) := by decide +kernel
theorem dX4_fold_46 : decode cX4_fold 46 = .ok (.getfield 12, 3) := by decide +kernel
theorem dX4_fold_49 : decode cX4_fold 49 = .ok (.getfield 88, 3) := by decide +kernel
theorem dX4_fold_52 : decode cX4_fold 52 = .ok (.iload_n 1, 1) := by decide +kernel
theorem dX4_fold_53 : decode cX4_fold 53 = .ok (.iload_n 2, 1) := by decide +kernel
theorem dX4_fold_54 : decode cX4_fold 54 = .ok (.iload_n 3, 1) := by decide +kernel
theorem dX4_fold_55 : decode cX4_fold 55 = .ok (.invokevirtual 168, 3) := by decide +kernel
theorem dX4_fold_58 : decode cX4_fold 58 = .ok (.istore 4, 2) := by decide +kernel
theorem dX4_fold_60 : decode cX4_fold 60 = .ok (.iload 4, 2) := by decide +kernel
theorem dX4_fold_62 : decode cX4_fold 62 = .ok (.aload_n 0, 1) := by decide +kernel
theorem dX4_fold_63 : decode cX4_fold 63 = .ok (.getfield 48, 3) := by decide +kernel
theorem dX4_fold_66 : decode cX4_fold 66 = .ok (.aload_n 0, 1) := by decide +kernel
theorem dX4_fold_67 : decode cX4_fold 67 = .ok (.getfield 12, 3) := by decide +kernel
theorem dX4_fold_70 : decode cX4_fold 70 = .ok (.getfield 88, 3) := by decide +kernel
theorem dX4_fold_73 : decode cX4_fold 73 = .ok (.iload_n 2, 1) := by decide +kernel
theorem dX4_fold_74 : decode cX4_fold 74 = .ok (.iload_n 3, 1) := by decide +kernel
theorem dX4_fold_75 : decode cX4_fold 75 = .ok (.invokevirtual 172, 3) := by decide +kernel
theorem dX4_fold_78 : decode cX4_fold 78 = .ok (.iadd, 1) := by decide +kernel
theorem dX4_fold_79 : decode cX4_fold 79 = .ok (.istore 4, 2) := by decide +kernel
theorem dX4_fold_81 : decode cX4_fold 81 = .ok (.aload_n 0, 1) := by decide +kernel
theorem dX4_fold_82 : decode cX4_fold 82 = .ok (.getfield 12, 3) := by decide +kernel
theorem dX4_fold_85 : decode cX4_fold 85 = .ok (.dup, 1) := by decide +kernel
theorem dX4_fold_86 : decode cX4_fold 86 = .ok (.getfield 176, 3) := by decide +kernel
theorem dX4_fold_89 : decode cX4_fold 89 = .ok (.iload 4, 2) := by decide +kernel
theorem dX4_fold_91 : decode cX4_fold 91 = .ok (.iadd, 1) := by decide +kernel
theorem dX4_fold_92 : decode cX4_fold 92 = .ok (.putfield 176, 3) := by decide +kernel
theorem dX4_fold_95 : decode cX4_fold 95 = .ok (.aload_n 0, 1) := by decide +kernel
theorem dX4_fold_96 : decode cX4_fold 96 = .ok (.getfield 12, 3) := by decide +kernel
theorem dX4_fold_99 : decode cX4_fold 99 = .ok (.dup, 1) := by decide +kernel
theorem dX4_fold_100 : decode cX4_fold 100 = .ok (.getfield 179, 3) := by decide +kernel
theorem dX4_fold_103 : decode cX4_fold 103 = .ok (.iconst 1, 1) := by decide +kernel
theorem dX4_fold_104 : decode cX4_fold 104 = .ok (.iadd, 1) := by decide +kernel
theorem dX4_fold_105 : decode cX4_fold 105 = .ok (.putfield 179, 3) := by decide +kernel
theorem dX4_fold_108 : decode cX4_fold 108 = .ok (.iload 4, 2) := by decide +kernel
theorem dX4_fold_110 : decode cX4_fold 110 = .ok (.ireturn, 1) := by decide +kernel
theorem dX4_set_0 : decode cX4_set 0 = .ok (.iload_n 1, 1) := by decide +kernel
theorem dX4_set_1 : decode cX4_set 1 = .ok (.invokestatic 182, 3) := by decide +kernel
theorem dX4_set_4 : decode cX4_set 4 = .ok (.ifCond .ne 13, 3) := by decide +kernel
theorem dX4_set_7 : decode cX4_set 7 = .ok (.new 60, 3) := by decide +kernel
theorem dX4_set_10 : decode cX4_set 10 = .ok (.dup, 1) := by decide +kernel
theorem dX4_set_11 : decode cX4_set 11 = .ok (.ldc 185, 2) := by decide +kernel
theorem dX4_set_13 : decode cX4_set 13 = .ok (.invokespecial 64, 3) := by decide +kernel
theorem dX4_set_16 : decode cX4_set 16 = .ok (.athrow, 1) := by decide +kernel
theorem dX4_set_17 : decode cX4_set 17 = .ok (.iload_n 2, 1) := by decide +kernel
theorem dX4_set_18 : decode cX4_set 18 = .ok (.getstatic 187, 3) := by decide +kernel
theorem dX4_set_21 : decode cX4_set 21 = .ok (.iload_n 1, 1) := by decide +kernel
theorem dX4_set_22 : decode cX4_set 22 = .ok (.iaload, 1) := by decide +kernel
theorem dX4_set_23 : decode cX4_set 23 = .ok (.if_icmp .lt 12, 3) := by decide +kernel
theorem dX4_set_26 : decode cX4_set 26 = .ok (.iload_n 2, 1) := by decide +kernel
theorem dX4_set_27 : decode cX4_set 27 = .ok (.getstatic 190, 3) := by decide +kernel
theorem dX4_set_30 : decode cX4_set 30 = .ok (.iload_n 1, 1) := by decide +kernel
theorem dX4_set_31 : decode cX4_set 31 = .ok (.iaload, 1) := by decide +kernel
theorem dX4_set_32 : decode cX4_set 32 = .ok (.if_icmp .le 13, 3) := by decide +kernel
theorem dX4_set_35 : decode cX4_set 35 = .ok (.new 67, 3) := by decide +kernel
theorem dX4_set_38 : decode cX4_set 38 = .ok (.dup, 1) := by decide +kernel
theorem dX4_set_39 : decode cX4_set 39 = .ok (.ldc 193, 2) := by decide +kernel
theorem dX4_set_41 : decode cX4_set 41 = .ok (.invokespecial 71, 3) := by decide +kernel
theorem dX4_set_44 : decode cX4_set 44 = .ok (.athrow, 1) := by decide +kernel
theorem dX4_set_45 : decode cX4_set 45 = .ok (.aload_n 0, 1) := by decide +kernel
theorem dX4_set_46 : decode cX4_set 46 = .ok (.invokevirtual 72, 3) := by decide +kernel
theorem dX4_set_49 : decode cX4_set 49 = .ok (.aload_n 0, 1) := by decide +kernel
theorem dX4_set_50 : decode cX4_set 50 = .ok (.getfield 12, 3) := by decide +kernel
theorem dX4_set_53 : decode cX4_set 53 = .ok (.getfield 165, 3) := by decide +kernel
theorem dX4_set_56 : decode cX4_set 56 = .ok (.iload_n 1, 1) := by decide +kernel
theorem dX4_set_57 : decode cX4_set 57 = .ok (.iaload, 1) := by decide +kernel
theorem dX4_set_58 : decode cX4_set 58 = .ok (.istore_n 3, 1) := by decide +kernel
theorem dX4_set_59 : decode cX4_set 59 = .ok (.aload_n 0, 1) := by decide +kernel
theorem dX4_set_60 : decode cX4_set 60 = .ok (.getfield 12, 3) := by decide +kernel
theorem dX4_set_63 : decode cX4_set 63 = .ok (.getfield 165, 3) := by decide +kernel
theorem dX4_set_66 : decode cX4_set 66 = .ok (.iload_n 1, 1) := by decide +kernel
theorem dX4_set_67 : decode cX4_set 67 = .ok (.iload_n 2, 1) := by decide +kernel
theorem dX4_set_68 : decode cX4_set 68 = .ok (.iastore, 1) := by decide +kernel
theorem dX4_set_69 : decode cX4_set 69 = .ok (.iload_n 3, 1) := by decide +kernel
theorem dX4_set_70 : decode cX4_set 70 = .ok (.ireturn, 1) := by decide +kernel
theorem dX4_undo_0 : decode cX4_undo 0 = .ok (.aload_n 0, 1) := by decide +kernel
theorem dX4_undo_1 : decode cX4_undo 1 = .ok (.getfield 239, 3) := by decide +kernel
theorem dX4_undo_4 : decode cX4_undo 4 = .ok (.ifCond .ne 13, 3) := by decide +kernel
theorem dX4_undo_7 : decode cX4_undo 7 = .ok (.new 201, 3) := by decide +kernel
theorem dX4_undo_10 : decode cX4_undo 10 = .ok (.dup, 1) := by decide +kernel
theorem dX4_undo_11 : decode cX4_undo 11 = .ok (.ldc 242, 2) := by decide +kernel
theorem dX4_undo_13 : decode cX4_undo 13 = .ok (.invokespecial 205, 3) := by decide +kernel
theorem dX4_undo_16 : decode cX4_undo 16 = .ok (.athrow, 1) := by decide +kernel
theorem dX4_undo_17 : decode cX4_undo 17 = .ok (.aload_n 0, 1) := by decide +kernel
theorem dX4_undo_18 : decode cX4_undo 18 = .ok (.dup, 1) := by decide +kernel
theorem dX4_undo_19 : decode cX4_undo 19 = .ok (.getfield 239, 3) := by decide +kernel
theorem dX4_undo_22 : decode cX4_undo 22 = .ok (.iconst 1, 1) := by decide +kernel
theorem dX4_undo_23 : decode cX4_undo 23 = .ok (.isub, 1) := by decide +kernel
theorem dX4_undo_24 : decode cX4_undo 24 = .ok (.putfield 239, 3) := by decide +kernel
theorem dX4_undo_27 : decode cX4_undo 27 = .ok (.aload_n 0, 1) := by decide +kernel
theorem dX4_undo_28 : decode cX4_undo 28 = .ok (.getfield 12, 3) := by decide +kernel
theorem dX4_undo_31 : decode cX4_undo 31 = .ok (.aload_n 0, 1) := by decide +kernel
theorem dX4_undo_32 : decode cX4_undo 32 = .ok (.getfield 24, 3) := by decide +kernel
theorem dX4_undo_35 : decode cX4_undo 35 = .ok (.aload_n 0, 1) := by decide +kernel
theorem dX4_undo_36 : decode cX4_undo 36 = .ok (.getfield 244, 3) := by decide +kernel
theorem dX4_undo_39 : decode cX4_undo 39 = .ok (.aload_n 0, 1) := by decide +kernel
theorem dX4_undo_40 : decode cX4_undo 40 = .ok (.getfield 239, 3) := by decide +kernel
theorem dX4_undo_43 : decode cX4_undo 43 = .ok (.iadd, 1) := by decide +kernel
theorem dX4_undo_44 : decode cX4_undo 44 = .ok (.bipush 6, 2) := by decide +kernel
theorem dX4_undo_46 : decode cX4_undo 46 = .ok (.irem, 1) := by decide +kernel
theorem dX4_undo_47 : decode cX4_undo 47 = .ok (.aaload, 1) := by decide +kernel
theorem dX4_undo_48 : decode cX4_undo 48 = .ok (.invokevirtual 230, 3) := by decide +kernel
theorem dX4_undo_51 : decode cX4_undo 51 = .ok (.aload_n 0, 1) := by decide +kernel
theorem dX4_undo_52 : decode cX4_undo 52 = .ok (.getfield 239, 3) := by decide +kernel
theorem dX4_undo_55 : decode cX4_undo 55 = .ok (.ireturn, 1) := by decide +kernel
theorem dX4_dieOf_0 : decode cX4_dieOf 0 = .ok (.iload_n 1, 1) := by decide +kernel
theorem dX4_dieOf_1 : decode cX4_dieOf 1 = .ok (.invokestatic 52, 3) := by decide +kernel
theorem dX4_dieOf_4 : decode cX4_dieOf 4 = .ok (.ifCond .eq 11, 3) := by decide +kernel
theorem dX4_dieOf_7 : decode cX4_dieOf 7 = .ok (.iload_n 2, 1) := by decide +kernel
theorem dX4_dieOf_8 : decode cX4_dieOf 8 = .ok (.iload_n 3, 1) := by decide +kernel
theorem dX4_dieOf_9 : decode cX4_dieOf 9 = .ok (.invokestatic 56, 3) := by decide +kernel
theorem dX4_dieOf_12 : decode cX4_dieOf 12 = .ok (.ifCond .ne 13, 3) := by decide +kernel
theorem dX4_dieOf_15 : decode cX4_dieOf 15 = .ok (.new 60, 3) := by decide +kernel
theorem dX4_dieOf_18 : decode cX4_dieOf 18 = .ok (.dup, 1) := by decide +kernel
theorem dX4_dieOf_19 : decode cX4_dieOf 19 = .ok (.ldc 62, 2) := by decide +kernel
theorem dX4_dieOf_21 : decode cX4_dieOf 21 = .ok (.invokespecial 64, 3) := by decide +kernel
theorem dX4_dieOf_24 : decode cX4_dieOf 24 = .ok (.athrow, 1) := by decide +kernel
theorem dX4_dieOf_25 : decode cX4_dieOf 25 = .ok (.iload 4, 2) := by decide +kernel
theorem dX4_dieOf_27 : decode cX4_dieOf 27 = .ok (.invokestatic 142, 3) := by decide +kernel
theorem dX4_dieOf_30 : decode cX4_dieOf 30 = .ok (.ifCond .ne 13, 3) := by decide +kernel
theorem dX4_dieOf_33 : decode cX4_dieOf 33 = .ok (.new 67, 3) := by decide +kernel
theorem dX4_dieOf_36 : decode cX4_dieOf 36 = .ok (.dup, 1) := by decide +kernel
theorem dX4_dieOf_37 : decode cX4_dieOf 37 = .ok (.ldc 145, 2) := by decide +kernel
theorem dX4_dieOf_39 : decode cX4_dieOf 39 = .ok (.invokespecial 71, 3) := by decide +kernel
theorem dX4_dieOf_42 : decode cX4_dieOf 42 = .ok (.athrow, 1) := by decide +kernel
theorem dX4_dieOf_43 : decode cX4_dieOf 43 = .ok (.aload_n 0, 1) := by decide +kernel
theorem dX4_dieOf_44 : decode cX4_dieOf 44 = .ok (.getfield 12, 3) := by decide +kernel
theorem dX4_dieOf_47 : decode cX4_dieOf 47 = .ok (.iload_n 1, 1) := by decide +kernel
theorem dX4_dieOf_48 : decode cX4_dieOf 48 = .ok (.iload_n 2, 1) := by decide +kernel
theorem dX4_dieOf_49 : decode cX4_dieOf 49 = .ok (.iload_n 3, 1) := by decide +kernel
theorem dX4_dieOf_50 : decode cX4_dieOf 50 = .ok (.iload 4, 2) := by decide +kernel
theorem dX4_dieOf_52 : decode cX4_dieOf 52 = .ok (.invokevirtual 247, 3) := by decide +kernel
theorem dX4_dieOf_55 : decode cX4_dieOf 55 = .ok (.ireturn, 1) := by decide +kernel
theorem dX4_place_0 : decode cX4_place 0 = .ok (.iload_n 1, 1) := by decide +kernel
theorem dX4_place_1 : decode cX4_place 1 = .ok (.i2l, 1) := by decide +kernel
theorem dX4_place_2 : decode cX4_place 2 = .ok (.iload_n 2, 1) := by decide +kernel
theorem dX4_place_3 : decode cX4_place 3 = .ok (.i2l, 1) := by decide +kernel
theorem dX4_place_4 : decode cX4_place 4 = .ok (.invokestatic 82, 3) := by decide +kernel
theorem dX4_place_7 : decode cX4_place 7 = .ok (.istore 4, 2) := by decide +kernel
theorem dX4_place_9 : decode cX4_place 9 = .ok (.iload 4, 2) := by decide +kernel
theorem dX4_place_11 : decode cX4_place 11 = .ok (.iconst (-1), 1) := by decide +kernel
theorem dX4_place_12 : decode cX4_place 12 = .ok (.if_icmp .ne 13, 3) := by decide +kernel
theorem dX4_place_15 : decode cX4_place 15 = .ok (.new 60, 3) := by decide +kernel
theorem dX4_place_18 : decode cX4_place 18 = .ok (.dup, 1) := by decide +kernel
theorem dX4_place_19 : decode cX4_place 19 = .ok (.ldc 124, 2) := by decide +kernel
theorem dX4_place_21 : decode cX4_place 21 = .ok (.invokespecial 64, 3) := by decide +kernel
theorem dX4_place_24 : decode cX4_place 24 = .ok (.athrow, 1) := by decide +kernel
theorem dX4_place_25 : decode cX4_place 25 = .ok (.iload_n 3, 1) := by decide +kernel
theorem dX4_place_26 : decode cX4_place 26 = .ok (.ifCond .lt 9, 3) := by decide +kernel
theorem dX4_place_29 : decode cX4_place 29 = .ok (.iload_n 3, 1) := by decide +kernel
theorem dX4_place_30 : decode cX4_place 30 = .ok (.bipush 7, 2) := by decide +kernel
theorem dX4_place_32 : decode cX4_place 32 = .ok (.if_icmp .lt 13, 3) := by decide +kernel
theorem dX4_place_35 : decode cX4_place 35 = .ok (.new 67, 3) := by decide +kernel
theorem dX4_place_38 : decode cX4_place 38 = .ok (.dup, 1) := by decide +kernel
theorem dX4_place_39 : decode cX4_place 39 = .ok (.ldc 251, 2) := by decide +kernel
theorem dX4_place_41 : decode cX4_place 41 = .ok (.invokespecial 71, 3) := by decide +kernel
theorem dX4_place_44 : decode cX4_place 44 = .ok (.athrow, 1) := by decide +kernel
theorem dX4_place_45 : decode cX4_place 45 = .ok (.aload_n 0, 1) := by decide +kernel
theorem dX4_place_46 : decode cX4_place 46 = .ok (.iload 4, 2) := by decide +kernel
theorem dX4_place_48 : decode cX4_place 48 = .ok (.iload_n 3, 1) := by decide +kernel
theorem dX4_place_49 : decode cX4_place 49 = .ok (.invokevirtual 253, 3) := by decide +kernel
theorem dX4_place_52 : decode cX4_place 52 = .ok (.ireturn, 1) := by decide +kernel
theorem dX4_count_0 : decode cX4_count 0 = .ok (.iload_n 1, 1) := by decide +kernel
theorem dX4_count_1 : decode cX4_count 1 = .ok (.ifCond .lt 9, 3) := by decide +kernel
theorem dX4_count_4 : decode cX4_count 4 = .ok (.iload_n 1, 1) := by decide +kernel
theorem dX4_count_5 : decode cX4_count 5 = .ok (.bipush 14, 2) := by decide +kernel
theorem dX4_count_7 : decode cX4_count 7 = .ok (.if_icmp .lt 14, 3) := by decide +kernel
theorem dX4_count_10 : decode cX4_count 10 = .ok (.new 67, 3) := by decide +kernel
theorem dX4_count_13 : decode cX4_count 13 = .ok (.dup, 1) := by decide +kernel
theorem dX4_count_14 : decode cX4_count 14 = .ok (.ldc_w 256, 3) := by decide +kernel
theorem dX4_count_17 : decode cX4_count 17 = .ok (.invokespecial 71, 3) := by decide +kernel
theorem dX4_count_20 : decode cX4_count 20 = .ok (.athrow, 1) := by decide +kernel
theorem dX4_count_21 : decode cX4_count 21 = .ok (.aload_n 0, 1) := by decide +kernel
theorem dX4_count_22 : decode cX4_count 22 = .ok (.iload_n 1, 1) := by decide +kernel
theorem dX4_count_23 : decode cX4_count 23 = .ok (.invokevirtual 258, 3) := by decide +kernel
theorem dX4_count_26 : decode cX4_count 26 = .ok (.ireturn, 1) := by decide +kernel
theorem dX4_setting_0 : decode cX4_setting 0 = .ok (.iload_n 1, 1) := by decide +kernel
theorem dX4_setting_1 : decode cX4_setting 1 = .ok (.invokestatic 182, 3) := by decide +kernel
theorem dX4_setting_4 : decode cX4_setting 4 = .ok (.ifCond .ne 13, 3) := by decide +kernel
theorem dX4_setting_7 : decode cX4_setting 7 = .ok (.new 60, 3) := by decide +kernel
theorem dX4_setting_10 : decode cX4_setting 10 = .ok (.dup, 1) := by decide +kernel
theorem dX4_setting_11 : decode cX4_setting 11 = .ok (.ldc 185, 2) := by decide +kernel
theorem dX4_setting_13 : decode cX4_setting 13 = .ok (.invokespecial 64, 3) := by decide +kernel
theorem dX4_setting_16 : decode cX4_setting 16 = .ok (.athrow, 1) := by decide +kernel
theorem dX4_setting_17 : decode cX4_setting 17 = .ok (.aload_n 0, 1) := by decide +kernel
theorem dX4_setting_18 : decode cX4_setting 18 = .ok (.getfield 12, 3) := by decide +kernel
theorem dX4_setting_21 : decode cX4_setting 21 = .ok (.getfield 165, 3) := by decide +kernel
theorem dX4_setting_24 : decode cX4_setting 24 = .ok (.iload_n 1, 1) := by decide +kernel
theorem dX4_setting_25 : decode cX4_setting 25 = .ok (.iaload, 1) := by decide +kernel
theorem dX4_setting_26 : decode cX4_setting 26 = .ok (.ireturn, 1) := by decide +kernel
theorem dX4_wholeShare_0 : decode cX4_wholeShare 0 = .ok (.sipush 144, 3) := by decide +kernel
theorem dX4_wholeShare_3 : decode cX4_wholeShare 3 = .ok (.aload_n 0, 1) := by decide +kernel
theorem dX4_wholeShare_4 : decode cX4_wholeShare 4 = .ok (.getfield 12, 3) := by decide +kernel
theorem dX4_wholeShare_7 : decode cX4_wholeShare 7 = .ok (.getfield 88, 3) := by decide +kernel
theorem dX4_wholeShare_10 : decode cX4_wholeShare 10 = .ok (.invokevirtual 104, 3) := by decide +kernel
theorem dX4_wholeShare_13 : decode cX4_wholeShare 13 = .ok (.isub, 1) := by decide +kernel
theorem dX4_wholeShare_14 : decode cX4_wholeShare 14 = .ok (.i2d, 1) := by decide +kernel
theorem dX4_wholeShare_15 : decode cX4_wholeShare 15 = .ok (.ldc2_w 276, 3) := by decide +kernel
theorem dX4_wholeShare_18 : decode cX4_wholeShare 18 = .ok (.ddiv, 1) := by decide +kernel
theorem dX4_wholeShare_19 : decode cX4_wholeShare 19 = .ok (.dreturn, 1) := by decide +kernel
theorem dX4_isDie_0 : decode cX4_isDie 0 = .ok (.iload_n 0, 1) := by decide +kernel
theorem dX4_isDie_1 : decode cX4_isDie 1 = .ok (.ifCond .lt 12, 3) := by decide +kernel
theorem dX4_isDie_4 : decode cX4_isDie 4 = .ok (.iload_n 0, 1) := by decide +kernel
theorem dX4_isDie_5 : decode cX4_isDie 5 = .ok (.iconst 3, 1) := by decide +kernel
theorem dX4_isDie_6 : decode cX4_isDie 6 = .ok (.if_icmp .ge 7, 3) := by decide +kernel
theorem dX4_isDie_9 : decode cX4_isDie 9 = .ok (.iconst 1, 1) := by decide +kernel
theorem dX4_isDie_10 : decode cX4_isDie 10 = .ok (.goto 4, 3) := by decide +kernel
theorem dX4_isDie_13 : decode cX4_isDie 13 = .ok (.iconst 0, 1) := by decide +kernel
theorem dX4_isDie_14 : decode cX4_isDie 14 = .ok (.ireturn, 1) := by decide +kernel
theorem dX4_isPoint_0 : decode cX4_isPoint 0 = .ok (.iload_n 0, 1) := by decide +kernel
theorem dX4_isPoint_1 : decode cX4_isPoint 1 = .ok (.ifCond .lt 21, 3) := by decide +kernel
theorem dX4_isPoint_4 : decode cX4_isPoint 4 = .ok (.iload_n 0, 1) := by decide +kernel
theorem dX4_isPoint_5 : decode cX4_isPoint 5 = .ok (.iconst 5, 1) := by decide +kernel
theorem dX4_isPoint_6 : decode cX4_isPoint 6 = .ok (.if_icmp .ge 16, 3) := by decide +kernel
theorem dX4_isPoint_9 : decode cX4_isPoint 9 = .ok (.iload_n 1, 1) := by decide +kernel
theorem dX4_isPoint_10 : decode cX4_isPoint 10 = .ok (.ifCond .lt 12, 3) := by decide +kernel
theorem dX4_isPoint_13 : decode cX4_isPoint 13 = .ok (.iload_n 1, 1) := by decide +kernel
theorem dX4_isPoint_14 : decode cX4_isPoint 14 = .ok (.iconst 5, 1) := by decide +kernel
theorem dX4_isPoint_15 : decode cX4_isPoint 15 = .ok (.if_icmp .ge 7, 3) := by decide +kernel
theorem dX4_isPoint_18 : decode cX4_isPoint 18 = .ok (.iconst 1, 1) := by decide +kernel
theorem dX4_isPoint_19 : decode cX4_isPoint 19 = .ok (.goto 4, 3) := by decide +kernel
theorem dX4_isPoint_22 : decode cX4_isPoint 22 = .ok (.iconst 0, 1) := by decide +kernel
theorem dX4_isPoint_23 : decode cX4_isPoint 23 = .ok (.ireturn, 1) := by decide +kernel
theorem dX4_isTurn_0 : decode cX4_isTurn 0 = .ok (.iload_n 0, 1) := by decide +kernel
theorem dX4_isTurn_1 : decode cX4_isTurn 1 = .ok (.ifCond .lt 13, 3) := by decide +kernel
theorem dX4_isTurn_4 : decode cX4_isTurn 4 = .ok (.iload_n 0, 1) := by decide +kernel
theorem dX4_isTurn_5 : decode cX4_isTurn 5 = .ok (.bipush 8, 2) := by decide +kernel
theorem dX4_isTurn_7 : decode cX4_isTurn 7 = .ok (.if_icmp .ge 7, 3) := by decide +kernel
theorem dX4_isTurn_10 : decode cX4_isTurn 10 = .ok (.iconst 1, 1) := by decide +kernel
theorem dX4_isTurn_11 : decode cX4_isTurn 11 = .ok (.goto 4, 3) := by decide +kernel
theorem dX4_isTurn_14 : decode cX4_isTurn 14 = .ok (.iconst 0, 1) := by decide +kernel
theorem dX4_isTurn_15 : decode cX4_isTurn 15 = .ok (.ireturn, 1) := by decide +kernel
theorem dX4_isFoldRow_0 : decode cX4_isFoldRow 0 = .ok (.iload_n 0, 1) := by decide +kernel
theorem dX4_isFoldRow_1 : decode cX4_isFoldRow 1 = .ok (.iconst 1, 1) := by decide +kernel
theorem dX4_isFoldRow_2 : decode cX4_isFoldRow 2 = .ok (.if_icmp .lt 13, 3) := by decide +kernel
theorem dX4_isFoldRow_5 : decode cX4_isFoldRow 5 = .ok (.iload_n 0, 1) := by decide +kernel
theorem dX4_isFoldRow_6 : decode cX4_isFoldRow 6 = .ok (.bipush 12, 2) := by decide +kernel
theorem dX4_isFoldRow_8 : decode cX4_isFoldRow 8 = .ok (.if_icmp .ge 7, 3) := by decide +kernel
theorem dX4_isFoldRow_11 : decode cX4_isFoldRow 11 = .ok (.iconst 1, 1) := by decide +kernel
theorem dX4_isFoldRow_12 : decode cX4_isFoldRow 12 = .ok (.goto 4, 3) := by decide +kernel
theorem dX4_isFoldRow_15 : decode cX4_isFoldRow 15 = .ok (.iconst 0, 1) := by decide +kernel
theorem dX4_isFoldRow_16 : decode cX4_isFoldRow 16 = .ok (.ireturn, 1) := by decide +kernel
theorem dX4_isSetting_0 : decode cX4_isSetting 0 = .ok (.iload_n 0, 1) := by decide +kernel
theorem dX4_isSetting_1 : decode cX4_isSetting 1 = .ok (.ifCond .lt 12, 3) := by decide +kernel
theorem dX4_isSetting_4 : decode cX4_isSetting 4 = .ok (.iload_n 0, 1) := by decide +kernel
theorem dX4_isSetting_5 : decode cX4_isSetting 5 = .ok (.iconst 4, 1) := by decide +kernel
theorem dX4_isSetting_6 : decode cX4_isSetting 6 = .ok (.if_icmp .ge 7, 3) := by decide +kernel
theorem dX4_isSetting_9 : decode cX4_isSetting 9 = .ok (.iconst 1, 1) := by decide +kernel
theorem dX4_isSetting_10 : decode cX4_isSetting 10 = .ok (.goto 4, 3) := by decide +kernel
theorem dX4_isSetting_13 : decode cX4_isSetting 13 = .ok (.iconst 0, 1) := by decide +kernel
theorem dX4_isSetting_14 : decode cX4_isSetting 14 = .ok (.ireturn, 1) := by decide +kernel
theorem dX4_pointIndex_0 : decode cX4_pointIndex 0 = .ok (.iload_n 0, 1) := by decide +kernel
theorem dX4_pointIndex_1 : decode cX4_pointIndex 1 = .ok (.bipush 25, 2) := by decide +kernel
theorem dX4_pointIndex_3 : decode cX4_pointIndex 3 = .ok (.imul, 1) := by decide +kernel
theorem dX4_pointIndex_4 : decode cX4_pointIndex 4 = .ok (.iload_n 2, 1) := by decide +kernel
theorem dX4_pointIndex_5 : decode cX4_pointIndex 5 = .ok (.iconst 5, 1) := by decide +kernel
theorem dX4_pointIndex_6 : decode cX4_pointIndex 6 = .ok (.imul, 1) := by decide +kernel
theorem dX4_pointIndex_7 : decode cX4_pointIndex 7 = .ok (.iadd, 1) := by decide +kernel
theorem dX4_pointIndex_8 : decode cX4_pointIndex 8 = .ok (.iload_n 1, 1) := by decide +kernel
theorem dX4_pointIndex_9 : decode cX4_pointIndex 9 = .ok (.iadd, 1) := by decide +kernel
theorem dX4_pointIndex_10 : decode cX4_pointIndex 10 = .ok (.ireturn, 1) := by decide +kernel
theorem dX4_placeIndex_0 : decode cX4_placeIndex 0 = .ok (.lload_n 0, 1) := by decide +kernel
theorem dX4_placeIndex_1 : decode cX4_placeIndex 1 = .ok (.lconst 0, 1) := by decide +kernel
theorem dX4_placeIndex_2 : decode cX4_placeIndex 2 = .ok (.lcmp, 1) := by decide +kernel
theorem dX4_placeIndex_3 : decode cX4_placeIndex 3 = .ok (.ifCond .lt 25, 3) := by decide +kernel
theorem dX4_placeIndex_6 : decode cX4_placeIndex 6 = .ok (.lload_n 0, 1) := by decide +kernel
theorem dX4_placeIndex_7 : decode cX4_placeIndex 7 = .ok (.ldc2_w 308, 3) := by decide +kernel
theorem dX4_placeIndex_10 : decode cX4_placeIndex 10 = .ok (.lcmp, 1) := by decide +kernel
theorem dX4_placeIndex_11 : decode cX4_placeIndex 11 = .ok (.ifCond .ge 17, 3) := by decide +kernel
theorem dX4_placeIndex_14 : decode cX4_placeIndex 14 = .ok (.lload_n 2, 1) := by decide +kernel
theorem dX4_placeIndex_15 : decode cX4_placeIndex 15 = .ok (.lconst 0, 1) := by decide +kernel
theorem dX4_placeIndex_16 : decode cX4_placeIndex 16 = .ok (.lcmp, 1) := by decide +kernel
theorem dX4_placeIndex_17 : decode cX4_placeIndex 17 = .ok (.ifCond .lt 11, 3) := by decide +kernel
theorem dX4_placeIndex_20 : decode cX4_placeIndex 20 = .ok (.lload_n 2, 1) := by decide +kernel
theorem dX4_placeIndex_21 : decode cX4_placeIndex 21 = .ok (.ldc2_w 308, 3) := by decide +kernel
theorem dX4_placeIndex_24 : decode cX4_placeIndex 24 = .ok (.lcmp, 1) := by decide +kernel
theorem dX4_placeIndex_25 : decode cX4_placeIndex 25 = .ok (.ifCond .lt 5, 3) := by decide +kernel
theorem dX4_placeIndex_28 : decode cX4_placeIndex 28 = .ok (.iconst (-1), 1) := by decide +kernel
theorem dX4_placeIndex_29 : decode cX4_placeIndex 29 = .ok (.ireturn, 1) := by decide +kernel
theorem dX4_placeIndex_30 : decode cX4_placeIndex 30 = .ok (.lload_n 2, 1) := by decide +kernel
theorem dX4_placeIndex_31 : decode cX4_placeIndex 31 = .ok (.ldc2_w 308, 3) := by decide +kernel
theorem dX4_placeIndex_34 : decode cX4_placeIndex 34 = .ok (.lmul, 1) := by decide +kernel
theorem dX4_placeIndex_35 : decode cX4_placeIndex 35 = .ok (.lload_n 0, 1) := by decide +kernel
theorem dX4_placeIndex_36 : decode cX4_placeIndex 36 = .ok (.ladd, 1) := by decide +kernel
theorem dX4_placeIndex_37 : decode cX4_placeIndex 37 = .ok (.l2i, 1) := by decide +kernel
theorem dX4_placeIndex_38 : decode cX4_placeIndex 38 = .ok (.ireturn, 1) := by decide +kernel
theorem dX4_saveState_0 : decode cX4_saveState 0 = .ok (.aload_n 0, 1) := by decide +kernel
theorem dX4_saveState_1 : decode cX4_saveState 1 = .ok (.getfield 239, 3) := by decide +kernel
theorem dX4_saveState_4 : decode cX4_saveState 4 = .ok (.bipush 6, 2) := by decide +kernel
theorem dX4_saveState_6 : decode cX4_saveState 6 = .ok (.if_icmp .ne 26, 3) := by decide +kernel
theorem dX4_saveState_9 : decode cX4_saveState 9 = .ok (.aload_n 0, 1) := by decide +kernel
theorem dX4_saveState_10 : decode cX4_saveState 10 = .ok (.aload_n 0, 1) := by decide +kernel
theorem dX4_saveState_11 : decode cX4_saveState 11 = .ok (.getfield 244, 3) := by decide +kernel
theorem dX4_saveState_14 : decode cX4_saveState 14 = .ok (.iconst 1, 1) := by decide +kernel
theorem dX4_saveState_15 : decode cX4_saveState 15 = .ok (.iadd, 1) := by decide +kernel
theorem dX4_saveState_16 : decode cX4_saveState 16 = .ok (.bipush 6, 2) := by decide +kernel
theorem dX4_saveState_18 : decode cX4_saveState 18 = .ok (.irem, 1) := by decide +kernel
theorem dX4_saveState_19 : decode cX4_saveState 19 = .ok (.putfield 244, 3) := by decide +kernel
theorem dX4_saveState_22 : decode cX4_saveState 22 = .ok (.aload_n 0, 1) := by decide +kernel
theorem dX4_saveState_23 : decode cX4_saveState 23 = .ok (.dup, 1) := by decide +kernel
theorem dX4_saveState_24 : decode cX4_saveState 24 = .ok (.getfield 239, 3) := by decide +kernel
theorem dX4_saveState_27 : decode cX4_saveState 27 = .ok (.iconst 1, 1) := by decide +kernel
theorem dX4_saveState_28 : decode cX4_saveState 28 = .ok (.isub, 1) := by decide +kernel
theorem dX4_saveState_29 : decode cX4_saveState 29 = .ok (.putfield 239, 3) := by decide +kernel
theorem dX4_saveState_32 : decode cX4_saveState 32 = .ok (.aload_n 0, 1) := by decide +kernel
theorem dX4_saveState_33 : decode cX4_saveState 33 = .ok (.getfield 24, 3) := by decide +kernel
theorem dX4_saveState_36 : decode cX4_saveState 36 = .ok (.aload_n 0, 1) := by decide +kernel
theorem dX4_saveState_37 : decode cX4_saveState 37 = .ok (.getfield 244, 3) := by decide +kernel
theorem dX4_saveState_40 : decode cX4_saveState 40 = .ok (.aload_n 0, 1) := by decide +kernel
theorem dX4_saveState_41 : decode cX4_saveState 41 = .ok (.getfield 239, 3) := by decide +kernel
theorem dX4_saveState_44 : decode cX4_saveState 44 = .ok (.iadd, 1) := by decide +kernel
theorem dX4_saveState_45 : decode cX4_saveState 45 = .ok (.bipush 6, 2) := by decide +kernel
theorem dX4_saveState_47 : decode cX4_saveState 47 = .ok (.irem, 1) := by decide +kernel
theorem dX4_saveState_48 : decode cX4_saveState 48 = .ok (.aaload, 1) := by decide +kernel
theorem dX4_saveState_49 : decode cX4_saveState 49 = .ok (.aload_n 0, 1) := by decide +kernel
theorem dX4_saveState_50 : decode cX4_saveState 50 = .ok (.getfield 12, 3) := by decide +kernel
theorem dX4_saveState_53 : decode cX4_saveState 53 = .ok (.invokevirtual 230, 3) := by decide +kernel
theorem dX4_saveState_56 : decode cX4_saveState 56 = .ok (.aload_n 0, 1) := by decide +kernel
theorem dX4_saveState_57 : decode cX4_saveState 57 = .ok (.dup, 1) := by decide +kernel
theorem dX4_saveState_58 : decode cX4_saveState 58 = .ok (.getfield 239, 3) := by decide +kernel
theorem dX4_saveState_61 : decode cX4_saveState 61 = .ok (.iconst 1, 1) := by decide +kernel
theorem dX4_saveState_62 : decode cX4_saveState 62 = .ok (.iadd, 1) := by decide +kernel
theorem dX4_saveState_63 : decode cX4_saveState 63 = .ok (.putfield 239, 3) := by decide +kernel
theorem dX4_saveState_66 : decode cX4_saveState 66 = .ok (.return_, 1) := by decide +kernel
theorem dX4_refusal_0 : decode cX4_refusal 0 = .ok (.iload_n 1, 1) := by decide +kernel
theorem dX4_refusal_1 : decode cX4_refusal 1 = .ok (.i2l, 1) := by decide +kernel
theorem dX4_refusal_2 : decode cX4_refusal 2 = .ok (.aload_n 0, 1) := by decide +kernel
theorem dX4_refusal_3 : decode cX4_refusal 3 = .ok (.getfield 12, 3) := by decide +kernel
theorem dX4_refusal_6 : decode cX4_refusal 6 = .ok (.getfield 121, 3) := by decide +kernel
theorem dX4_refusal_9 : decode cX4_refusal 9 = .ok (.i2l, 1) := by decide +kernel
theorem dX4_refusal_10 : decode cX4_refusal 10 = .ok (.ladd, 1) := by decide +kernel
theorem dX4_refusal_11 : decode cX4_refusal 11 = .ok (.lstore_n 3, 1) := by decide +kernel
theorem dX4_refusal_12 : decode cX4_refusal 12 = .ok (.iconst 0, 1) := by decide +kernel
theorem dX4_refusal_13 : decode cX4_refusal 13 = .ok (.istore 5, 2) := by decide +kernel
theorem dX4_refusal_15 : decode cX4_refusal 15 = .ok (.iconst 0, 1) := by decide +kernel
theorem dX4_refusal_16 : decode cX4_refusal 16 = .ok (.istore 6, 2) := by decide +kernel
theorem dX4_refusal_18 : decode cX4_refusal 18 = .ok (.iload 6, 2) := by decide +kernel
theorem dX4_refusal_20 : decode cX4_refusal 20 = .ok (.bipush 25, 2) := by decide +kernel
theorem dX4_refusal_22 : decode cX4_refusal 22 = .ok (.if_icmp .ge 47, 3) := by decide +kernel
theorem dX4_refusal_25 : decode cX4_refusal 25 = .ok (.aload_n 0, 1) := by decide +kernel
theorem dX4_refusal_26 : decode cX4_refusal 26 = .ok (.getfield 34, 3) := by decide +kernel
theorem dX4_refusal_29 : decode cX4_refusal 29 = .ok (.iload 6, 2) := by decide +kernel
theorem dX4_refusal_31 : decode cX4_refusal 31 = .ok (.iaload, 1) := by decide +kernel
theorem dX4_refusal_32 : decode cX4_refusal 32 = .ok (.ifCond .le 17, 3) := by decide +kernel
theorem dX4_refusal_35 : decode cX4_refusal 35 = .ok (.iload 6, 2) := by decide +kernel
theorem dX4_refusal_37 : decode cX4_refusal 37 = .ok (.lload_n 3, 1) := by decide +kernel
theorem dX4_refusal_38 : decode cX4_refusal 38 = .ok (.iload_n 2, 1) := by decide +kernel
theorem dX4_refusal_39 : decode cX4_refusal 39 = .ok (.i2l, 1) := by decide +kernel
theorem dX4_refusal_40 : decode cX4_refusal 40 = .ok (.invokestatic 310, 3) := by decide +kernel
theorem dX4_refusal_43 : decode cX4_refusal 43 = .ok (.iconst (-1), 1) := by decide +kernel
theorem dX4_refusal_44 : decode cX4_refusal 44 = .ok (.if_icmp .ne 5, 3) := by decide +kernel
theorem dX4_refusal_47 : decode cX4_refusal 47 = .ok (.iconst 1, 1) := by decide +kernel
theorem dX4_refusal_48 : decode cX4_refusal 48 = .ok (.ireturn, 1) := by decide +kernel
theorem dX4_refusal_49 : decode cX4_refusal 49 = .ok (.iload 5, 2) := by decide +kernel
theorem dX4_refusal_51 : decode cX4_refusal 51 = .ok (.aload_n 0, 1) := by decide +kernel
theorem dX4_refusal_52 : decode cX4_refusal 52 = .ok (.getfield 34, 3) := by decide +kernel
theorem dX4_refusal_55 : decode cX4_refusal 55 = .ok (.iload 6, 2) := by decide +kernel
theorem dX4_refusal_57 : decode cX4_refusal 57 = .ok (.iaload, 1) := by decide +kernel
theorem dX4_refusal_58 : decode cX4_refusal 58 = .ok (.invokestatic 314, 3) := by decide +kernel
theorem dX4_refusal_61 : decode cX4_refusal 61 = .ok (.istore 5, 2) := by decide +kernel
theorem dX4_refusal_63 : decode cX4_refusal 63 = .ok (.iinc 6 1, 3) := by decide +kernel
theorem dX4_refusal_66 : decode cX4_refusal 66 = .ok (.goto (-48), 3) := by decide +kernel
theorem dX4_refusal_69 : decode cX4_refusal 69 = .ok (.iload 5, 2) := by decide +kernel
theorem dX4_refusal_71 : decode cX4_refusal 71 = .ok (.aload_n 0, 1) := by decide +kernel
theorem dX4_refusal_72 : decode cX4_refusal 72 = .ok (.getfield 12, 3) := by decide +kernel
theorem dX4_refusal_75 : decode cX4_refusal 75 = .ok (.getfield 165, 3) := by decide +kernel
theorem dX4_refusal_78 : decode cX4_refusal 78 = .ok (.iconst 2, 1) := by decide +kernel
theorem dX4_refusal_79 : decode cX4_refusal 79 = .ok (.iaload, 1) := by decide +kernel
theorem dX4_refusal_80 : decode cX4_refusal 80 = .ok (.if_icmp .le 5, 3) := by decide +kernel
theorem dX4_refusal_83 : decode cX4_refusal 83 = .ok (.iconst 2, 1) := by decide +kernel
theorem dX4_refusal_84 : decode cX4_refusal 84 = .ok (.ireturn, 1) := by decide +kernel
theorem dX4_refusal_85 : decode cX4_refusal 85 = .ok (.iload 5, 2) := by decide +kernel
theorem dX4_refusal_87 : decode cX4_refusal 87 = .ok (.ifCond .ne 7, 3) := by decide +kernel
theorem dX4_refusal_90 : decode cX4_refusal 90 = .ok (.iconst 3, 1) := by decide +kernel
theorem dX4_refusal_91 : decode cX4_refusal 91 = .ok (.goto 4, 3) := by decide +kernel
theorem dX4_refusal_94 : decode cX4_refusal 94 = .ok (.iconst 0, 1) := by decide +kernel
theorem dX4_refusal_95 : decode cX4_refusal 95 = .ok (.ireturn, 1) := by decide +kernel
theorem dX4_placeUnder_0 : decode cX4_placeUnder 0 = .ok (.lload_n 1, 1) := by decide +kernel
theorem dX4_placeUnder_1 : decode cX4_placeUnder 1 = .ok (.iload_n 0, 1) := by decide +kernel
theorem dX4_placeUnder_2 : decode cX4_placeUnder 2 = .ok (.iconst 5, 1) := by decide +kernel
theorem dX4_placeUnder_3 : decode cX4_placeUnder 3 = .ok (.irem, 1) := by decide +kernel
theorem dX4_placeUnder_4 : decode cX4_placeUnder 4 = .ok (.i2l, 1) := by decide +kernel
theorem dX4_placeUnder_5 : decode cX4_placeUnder 5 = .ok (.ladd, 1) := by decide +kernel
theorem dX4_placeUnder_6 : decode cX4_placeUnder 6 = .ok (.lload_n 3, 1) := by decide +kernel
theorem dX4_placeUnder_7 : decode cX4_placeUnder 7 = .ok (.iload_n 0, 1) := by decide +kernel
theorem dX4_placeUnder_8 : decode cX4_placeUnder 8 = .ok (.iconst 5, 1) := by decide +kernel
theorem dX4_placeUnder_9 : decode cX4_placeUnder 9 = .ok (.idiv, 1) := by decide +kernel
theorem dX4_placeUnder_10 : decode cX4_placeUnder 10 = .ok (.i2l, 1) := by decide +kernel
theorem dX4_placeUnder_11 : decode cX4_placeUnder 11 = .ok (.ladd, 1) := by decide +kernel
theorem dX4_placeUnder_12 : decode cX4_placeUnder 12 = .ok (.invokestatic 82, 3) := by decide +kernel
theorem dX4_placeUnder_15 : decode cX4_placeUnder 15 = .ok (.ireturn, 1) := by decide +kernel
theorem dX4_pressRelief_0 : decode cX4_pressRelief 0 = .ok (.iload_n 1, 1) := by decide +kernel
theorem dX4_pressRelief_1 : decode cX4_pressRelief 1 = .ok (.i2l, 1) := by decide +kernel
theorem dX4_pressRelief_2 : decode cX4_pressRelief 2 = .ok (.aload_n 0, 1) := by decide +kernel
theorem dX4_pressRelief_3 : decode cX4_pressRelief 3 = .ok (.getfield 12, 3) := by decide +kernel
theorem dX4_pressRelief_6 : decode cX4_pressRelief 6 = .ok (.getfield 121, 3) := by decide +kernel
theorem dX4_pressRelief_9 : decode cX4_pressRelief 9 = .ok (.i2l, 1) := by decide +kernel
theorem dX4_pressRelief_10 : decode cX4_pressRelief 10 = .ok (.ladd, 1) := by decide +kernel
theorem dX4_pressRelief_11 : decode cX4_pressRelief 11 = .ok (.lstore_n 3, 1) := by decide +kernel
theorem dX4_pressRelief_12 : decode cX4_pressRelief 12 = .ok (.aload_n 0, 1) := by decide +kernel
theorem dX4_pressRelief_13 : decode cX4_pressRelief 13 = .ok (.getfield 12, 3) := by decide +kernel
theorem dX4_pressRelief_16 : decode cX4_pressRelief 16 = .ok (.getfield 88, 3) := by decide +kernel
theorem dX4_pressRelief_19 : decode cX4_pressRelief 19 = .ok (.aload_n 0, 1) := by decide +kernel
theorem dX4_pressRelief_20 : decode cX4_pressRelief 20 = .ok (.getfield 34, 3) := by decide +kernel
theorem dX4_pressRelief_23 : decode cX4_pressRelief 23 = .ok (.lload_n 3, 1) := by decide +kernel
theorem dX4_pressRelief_24 : decode cX4_pressRelief 24 = .ok (.iload_n 2, 1) := by decide +kernel
theorem dX4_pressRelief_25 : decode cX4_pressRelief 25 = .ok (.i2l, 1) := by decide +kernel
theorem dX4_pressRelief_26 : decode cX4_pressRelief 26 = .ok (.invokevirtual 317, 3) := by decide +kernel
theorem dX4_pressRelief_29 : decode cX4_pressRelief 29 = .ok (.aload_n 0, 1) := by decide +kernel
theorem dX4_pressRelief_30 : decode cX4_pressRelief 30 = .ok (.getfield 12, 3) := by decide +kernel
theorem dX4_pressRelief_33 : decode cX4_pressRelief 33 = .ok (.aload_n 0, 1) := by decide +kernel
theorem dX4_pressRelief_34 : decode cX4_pressRelief 34 = .ok (.getfield 34, 3) := by decide +kernel
theorem dX4_pressRelief_37 : decode cX4_pressRelief 37 = .ok (.lload_n 3, 1) := by decide +kernel
theorem dX4_pressRelief_38 : decode cX4_pressRelief 38 = .ok (.iload_n 2, 1) := by decide +kernel
theorem dX4_pressRelief_39 : decode cX4_pressRelief 39 = .ok (.i2l, 1) := by decide +kernel
theorem dX4_pressRelief_40 : decode cX4_pressRelief 40 = .ok (.invokevirtual 321, 3) := by decide +kernel
theorem dX4_pressRelief_43 : decode cX4_pressRelief 43 = .ok (.aload_n 0, 1) := by decide +kernel
theorem dX4_pressRelief_44 : decode cX4_pressRelief 44 = .ok (.getfield 48, 3) := by decide +kernel
theorem dX4_pressRelief_47 : decode cX4_pressRelief 47 = .ok (.aload_n 0, 1) := by decide +kernel
theorem dX4_pressRelief_48 : decode cX4_pressRelief 48 = .ok (.getfield 12, 3) := by decide +kernel
theorem dX4_pressRelief_51 : decode cX4_pressRelief 51 = .ok (.getfield 88, 3) := by decide +kernel
theorem dX4_pressRelief_54 : decode cX4_pressRelief 54 = .ok (.aload_n 0, 1) := by decide +kernel
theorem dX4_pressRelief_55 : decode cX4_pressRelief 55 = .ok (.getfield 12, 3) := by decide +kernel
theorem dX4_pressRelief_58 : decode cX4_pressRelief 58 = .ok (.getfield 165, 3) := by decide +kernel
theorem dX4_pressRelief_61 : decode cX4_pressRelief 61 = .ok (.iconst 0, 1) := by decide +kernel
theorem dX4_pressRelief_62 : decode cX4_pressRelief 62 = .ok (.iaload, 1) := by decide +kernel
theorem dX4_pressRelief_63 : decode cX4_pressRelief 63 = .ok (.aload_n 0, 1) := by decide +kernel
theorem dX4_pressRelief_64 : decode cX4_pressRelief 64 = .ok (.getfield 12, 3) := by decide +kernel
theorem dX4_pressRelief_67 : decode cX4_pressRelief 67 = .ok (.getfield 165, 3) := by decide +kernel
theorem dX4_pressRelief_70 : decode cX4_pressRelief 70 = .ok (.iconst 1, 1) := by decide +kernel
theorem dX4_pressRelief_71 : decode cX4_pressRelief 71 = .ok (.iaload, 1) := by decide +kernel
theorem dX4_pressRelief_72 : decode cX4_pressRelief 72 = .ok (.invokevirtual 172, 3) := by decide +kernel
theorem dX4_pressRelief_75 : decode cX4_pressRelief 75 = .ok (.istore 5, 2) := by decide +kernel
theorem dX4_pressRelief_77 : decode cX4_pressRelief 77 = .ok (.aload_n 0, 1) := by decide +kernel
theorem dX4_pressRelief_78 : decode cX4_pressRelief 78 = .ok (.getfield 12, 3) := by decide +kernel
theorem dX4_pressRelief_81 : decode cX4_pressRelief 81 = .ok (.dup, 1) := by decide +kernel
theorem dX4_pressRelief_82 : decode cX4_pressRelief 82 = .ok (.getfield 176, 3) := by decide +kernel
theorem dX4_pressRelief_85 : decode cX4_pressRelief 85 = .ok (.iload 5, 2) := by decide +kernel
theorem dX4_pressRelief_87 : decode cX4_pressRelief 87 = .ok (.iadd, 1) := by decide +kernel
theorem dX4_pressRelief_88 : decode cX4_pressRelief 88 = .ok (.putfield 176, 3) := by decide +kernel
theorem dX4_pressRelief_91 : decode cX4_pressRelief 91 = .ok (.aload_n 0, 1) := by decide +kernel
theorem dX4_pressRelief_92 : decode cX4_pressRelief 92 = .ok (.getfield 12, 3) := by decide +kernel
theorem dX4_pressRelief_95 : decode cX4_pressRelief 95 = .ok (.dup, 1) := by decide +kernel
theorem dX4_pressRelief_96 : decode cX4_pressRelief 96 = .ok (.getfield 234, 3) := by decide +kernel
theorem dX4_pressRelief_99 : decode cX4_pressRelief 99 = .ok (.iconst 1, 1) := by decide +kernel
theorem dX4_pressRelief_100 : decode cX4_pressRelief 100 = .ok (.iadd, 1) := by decide +kernel
theorem dX4_pressRelief_101 : decode cX4_pressRelief 101 = .ok (.putfield 234, 3) := by decide +kernel
theorem dX4_pressRelief_104 : decode cX4_pressRelief 104 = .ok (.aload_n 0, 1) := by decide +kernel
theorem dX4_pressRelief_105 : decode cX4_pressRelief 105 = .ok (.getfield 12, 3) := by decide +kernel
theorem dX4_pressRelief_108 : decode cX4_pressRelief 108 = .ok (.dup, 1) := by decide +kernel
theorem dX4_pressRelief_109 : decode cX4_pressRelief 109 = .ok (.getfield 324, 3) := by decide +kernel
theorem dX4_pressRelief_112 : decode cX4_pressRelief 112 = .ok (.iconst 1, 1) := by decide +kernel
theorem dX4_pressRelief_113 : decode cX4_pressRelief 113 = .ok (.iadd, 1) := by decide +kernel
theorem dX4_pressRelief_114 : decode cX4_pressRelief 114 = .ok (.putfield 324, 3) := by decide +kernel
theorem dX4_pressRelief_117 : decode cX4_pressRelief 117 = .ok (.aload_n 0, 1) := by decide +kernel
theorem dX4_pressRelief_118 : decode cX4_pressRelief 118 = .ok (.getfield 12, 3) := by decide +kernel
theorem dX4_pressRelief_121 : decode cX4_pressRelief 121 = .ok (.invokevirtual 327, 3) := by decide +kernel
theorem dX4_pressRelief_124 : decode cX4_pressRelief 124 = .ok (.iload 5, 2) := by decide +kernel
theorem dX4_pressRelief_126 : decode cX4_pressRelief 126 = .ok (.ireturn, 1) := by decide +kernel
theorem dX4_propertyOf_0 : decode cX4_propertyOf 0 = .ok (.aload_n 0, 1) := by decide +kernel
theorem dX4_propertyOf_1 : decode cX4_propertyOf 1 = .ok (.getfield 12, 3) := by decide +kernel
theorem dX4_propertyOf_4 : decode cX4_propertyOf 4 = .ok (.getfield 88, 3) := by decide +kernel
theorem dX4_propertyOf_7 : decode cX4_propertyOf 7 = .ok (.astore_n 3, 1) := by decide +kernel
theorem dX4_propertyOf_8 : decode cX4_propertyOf 8 = .ok (.iload_n 2, 1) := by decide +kernel
theorem dX4_propertyOf_9 : decode cX4_propertyOf 9 = .ok (.tableswitch 107 0 5 #[39, 46, 53, 60, 66, 90], 39) := by decide +kernel
theorem dX4_propertyOf_48 : decode cX4_propertyOf 48 = .ok (.aload_n 3, 1) := by decide +kernel
theorem dX4_propertyOf_49 : decode cX4_propertyOf 49 = .ok (.getfield 343, 3) := by decide +kernel
theorem dX4_propertyOf_52 : decode cX4_propertyOf 52 = .ok (.iload_n 1, 1) := by decide +kernel
theorem dX4_propertyOf_53 : decode cX4_propertyOf 53 = .ok (.iaload, 1) := by decide +kernel
theorem dX4_propertyOf_54 : decode cX4_propertyOf 54 = .ok (.ireturn, 1) := by decide +kernel
theorem dX4_propertyOf_55 : decode cX4_propertyOf 55 = .ok (.aload_n 3, 1) := by decide +kernel
theorem dX4_propertyOf_56 : decode cX4_propertyOf 56 = .ok (.getfield 346, 3) := by decide +kernel
theorem dX4_propertyOf_59 : decode cX4_propertyOf 59 = .ok (.iload_n 1, 1) := by decide +kernel
theorem dX4_propertyOf_60 : decode cX4_propertyOf 60 = .ok (.iaload, 1) := by decide +kernel
theorem dX4_propertyOf_61 : decode cX4_propertyOf 61 = .ok (.ireturn, 1) := by decide +kernel
theorem dX4_propertyOf_62 : decode cX4_propertyOf 62 = .ok (.aload_n 3, 1) := by decide +kernel
theorem dX4_propertyOf_63 : decode cX4_propertyOf 63 = .ok (.getfield 349, 3) := by decide +kernel
theorem dX4_propertyOf_66 : decode cX4_propertyOf 66 = .ok (.iload_n 1, 1) := by decide +kernel
theorem dX4_propertyOf_67 : decode cX4_propertyOf 67 = .ok (.iaload, 1) := by decide +kernel
theorem dX4_propertyOf_68 : decode cX4_propertyOf 68 = .ok (.ireturn, 1) := by decide +kernel
theorem dX4_propertyOf_69 : decode cX4_propertyOf 69 = .ok (.aload_n 3, 1) := by decide +kernel
theorem dX4_propertyOf_70 : decode cX4_propertyOf 70 = .ok (.iload_n 1, 1) := by decide +kernel
theorem dX4_propertyOf_71 : decode cX4_propertyOf 71 = .ok (.invokevirtual 352, 3) := by decide +kernel
theorem dX4_propertyOf_74 : decode cX4_propertyOf 74 = .ok (.ireturn, 1) := by decide +kernel
theorem dX4_propertyOf_75 : decode cX4_propertyOf 75 = .ok (.aload_n 3, 1) := by decide +kernel
theorem dX4_propertyOf_76 : decode cX4_propertyOf 76 = .ok (.iload_n 1, 1) := by decide +kernel
theorem dX4_propertyOf_77 : decode cX4_propertyOf 77 = .ok (.aload_n 0, 1) := by decide +kernel
theorem dX4_propertyOf_78 : decode cX4_propertyOf 78 = .ok (.getfield 12, 3) := by decide +kernel
theorem dX4_propertyOf_81 : decode cX4_propertyOf 81 = .ok (.getfield 165, 3) := by decide +kernel
theorem dX4_propertyOf_84 : decode cX4_propertyOf 84 = .ok (.iconst 0, 1) := by decide +kernel
theorem dX4_propertyOf_85 : decode cX4_propertyOf 85 = .ok (.iaload, 1) := by decide +kernel
theorem dX4_propertyOf_86 : decode cX4_propertyOf 86 = .ok (.aload_n 0, 1) := by decide +kernel
theorem dX4_propertyOf_87 : decode cX4_propertyOf 87 = .ok (.getfield 12, 3) := by decide +kernel
theorem dX4_propertyOf_90 : decode cX4_propertyOf 90 = .ok (.getfield 165, 3) := by decide +kernel
theorem dX4_propertyOf_93 : decode cX4_propertyOf 93 = .ok (.iconst 1, 1) := by decide +kernel
theorem dX4_propertyOf_94 : decode cX4_propertyOf 94 = .ok (.iaload, 1) := by decide +kernel
theorem dX4_propertyOf_95 : decode cX4_propertyOf 95 = .ok (.invokevirtual 355, 3) := by decide +kernel
theorem dX4_propertyOf_98 : decode cX4_propertyOf 98 = .ok (.ireturn, 1) := by decide +kernel
theorem dX4_propertyOf_99 : decode cX4_propertyOf 99 = .ok (.aload_n 0, 1) := by decide +kernel
theorem dX4_propertyOf_100 : decode cX4_propertyOf 100 = .ok (.getfield 12, 3) := by decide +kernel
theorem dX4_propertyOf_103 : decode cX4_propertyOf 103 = .ok (.iload_n 1, 1) := by decide +kernel
theorem dX4_propertyOf_104 : decode cX4_propertyOf 104 = .ok (.invokevirtual 358, 3) := by decide +kernel
theorem dX4_propertyOf_107 : decode cX4_propertyOf 107 = .ok (.ifCond .eq 7, 3) := by decide +kernel
theorem dX4_propertyOf_110 : decode cX4_propertyOf 110 = .ok (.iconst 1, 1) := by decide +kernel
theorem dX4_propertyOf_111 : decode cX4_propertyOf 111 = .ok (.goto 4, 3) := by decide +kernel
theorem dX4_propertyOf_114 : decode cX4_propertyOf 114 = .ok (.iconst 0, 1) := by decide +kernel
theorem dX4_propertyOf_115 : decode cX4_propertyOf 115 = .ok (.ireturn, 1) := by decide +kernel
theorem dX4_propertyOf_116 : decode cX4_propertyOf 116 = .ok (.aload_n 3, 1) := by decide +kernel
theorem dX4_propertyOf_117 : decode cX4_propertyOf 117 = .ok (.getfield 361, 3) := by decide +kernel
theorem dX4_propertyOf_120 : decode cX4_propertyOf 120 = .ok (.iload_n 1, 1) := by decide +kernel
theorem dX4_propertyOf_121 : decode cX4_propertyOf 121 = .ok (.iaload, 1) := by decide +kernel
theorem dX4_propertyOf_122 : decode cX4_propertyOf 122 = .ok (.ireturn, 1) := by decide +kernel
theorem dX4_numberOf_0 : decode cX4_numberOf 0 = .ok (.iload_n 1, 1) := by decide +kernel
theorem dX4_numberOf_1 : decode cX4_numberOf 1 = .ok (.tableswitch 186 0 12 #[67, 75, 83, 91, 99, 110, 121, 132, 143, 154, 162, 170, 178], 67) := by decide +kernel
theorem dX4_numberOf_68 : decode cX4_numberOf 68 = .ok (.aload_n 0, 1) := by decide +kernel
theorem dX4_numberOf_69 : decode cX4_numberOf 69 = .ok (.getfield 12, 3) := by decide +kernel
theorem dX4_numberOf_72 : decode cX4_numberOf 72 = .ok (.getfield 234, 3) := by decide +kernel
theorem dX4_numberOf_75 : decode cX4_numberOf 75 = .ok (.ireturn, 1) := by decide +kernel
theorem dX4_numberOf_76 : decode cX4_numberOf 76 = .ok (.aload_n 0, 1) := by decide +kernel
theorem dX4_numberOf_77 : decode cX4_numberOf 77 = .ok (.getfield 12, 3) := by decide +kernel
theorem dX4_numberOf_80 : decode cX4_numberOf 80 = .ok (.getfield 324, 3) := by decide +kernel
theorem dX4_numberOf_83 : decode cX4_numberOf 83 = .ok (.ireturn, 1) := by decide +kernel
theorem dX4_numberOf_84 : decode cX4_numberOf 84 = .ok (.aload_n 0, 1) := by decide +kernel
theorem dX4_numberOf_85 : decode cX4_numberOf 85 = .ok (.getfield 12, 3) := by decide +kernel
theorem dX4_numberOf_88 : decode cX4_numberOf 88 = .ok (.getfield 121, 3) := by decide +kernel
theorem dX4_numberOf_91 : decode cX4_numberOf 91 = .ok (.ireturn, 1) := by decide +kernel
theorem dX4_numberOf_92 : decode cX4_numberOf 92 = .ok (.aload_n 0, 1) := by decide +kernel
theorem dX4_numberOf_93 : decode cX4_numberOf 93 = .ok (.getfield 12, 3) := by decide +kernel
theorem dX4_numberOf_96 : decode cX4_numberOf 96 = .ok (.getfield 154, 3) := by decide +kernel
theorem dX4_numberOf_99 : decode cX4_numberOf 99 = .ok (.ireturn, 1) := by decide +kernel
theorem dX4_numberOf_100 : decode cX4_numberOf 100 = .ok (.aload_n 0, 1) := by decide +kernel
theorem dX4_numberOf_101 : decode cX4_numberOf 101 = .ok (.getfield 12, 3) := by decide +kernel
theorem dX4_numberOf_104 : decode cX4_numberOf 104 = .ok (.getfield 88, 3) := by decide +kernel
theorem dX4_numberOf_107 : decode cX4_numberOf 107 = .ok (.invokevirtual 104, 3) := by decide +kernel
theorem dX4_numberOf_110 : decode cX4_numberOf 110 = .ok (.ireturn, 1) := by decide +kernel
theorem dX4_numberOf_111 : decode cX4_numberOf 111 = .ok (.aload_n 0, 1) := by decide +kernel
theorem dX4_numberOf_112 : decode cX4_numberOf 112 = .ok (.getfield 12, 3) := by decide +kernel
theorem dX4_numberOf_115 : decode cX4_numberOf 115 = .ok (.getfield 88, 3) := by decide +kernel
theorem dX4_numberOf_118 : decode cX4_numberOf 118 = .ok (.invokevirtual 364, 3) := by decide +kernel
theorem dX4_numberOf_121 : decode cX4_numberOf 121 = .ok (.ireturn, 1) := by decide +kernel
theorem dX4_numberOf_122 : decode cX4_numberOf 122 = .ok (.aload_n 0, 1) := by decide +kernel
theorem dX4_numberOf_123 : decode cX4_numberOf 123 = .ok (.getfield 12, 3) := by decide +kernel
theorem dX4_numberOf_126 : decode cX4_numberOf 126 = .ok (.getfield 88, 3) := by decide +kernel
theorem dX4_numberOf_129 : decode cX4_numberOf 129 = .ok (.invokevirtual 367, 3) := by decide +kernel
theorem dX4_numberOf_132 : decode cX4_numberOf 132 = .ok (.ireturn, 1) := by decide +kernel
theorem dX4_numberOf_133 : decode cX4_numberOf 133 = .ok (.aload_n 0, 1) := by decide +kernel
theorem dX4_numberOf_134 : decode cX4_numberOf 134 = .ok (.getfield 12, 3) := by decide +kernel
theorem dX4_numberOf_137 : decode cX4_numberOf 137 = .ok (.getfield 88, 3) := by decide +kernel
theorem dX4_numberOf_140 : decode cX4_numberOf 140 = .ok (.invokevirtual 370, 3) := by decide +kernel
theorem dX4_numberOf_143 : decode cX4_numberOf 143 = .ok (.ireturn, 1) := by decide +kernel
theorem dX4_numberOf_144 : decode cX4_numberOf 144 = .ok (.aload_n 0, 1) := by decide +kernel
theorem dX4_numberOf_145 : decode cX4_numberOf 145 = .ok (.getfield 12, 3) := by decide +kernel
theorem dX4_numberOf_148 : decode cX4_numberOf 148 = .ok (.getfield 88, 3) := by decide +kernel
theorem dX4_numberOf_151 : decode cX4_numberOf 151 = .ok (.invokevirtual 373, 3) := by decide +kernel
theorem dX4_numberOf_154 : decode cX4_numberOf 154 = .ok (.ireturn, 1) := by decide +kernel
theorem dX4_numberOf_155 : decode cX4_numberOf 155 = .ok (.aload_n 0, 1) := by decide +kernel
theorem dX4_numberOf_156 : decode cX4_numberOf 156 = .ok (.getfield 12, 3) := by decide +kernel
theorem dX4_numberOf_159 : decode cX4_numberOf 159 = .ok (.getfield 114, 3) := by decide +kernel
theorem dX4_numberOf_162 : decode cX4_numberOf 162 = .ok (.ireturn, 1) := by decide +kernel
theorem dX4_numberOf_163 : decode cX4_numberOf 163 = .ok (.aload_n 0, 1) := by decide +kernel
theorem dX4_numberOf_164 : decode cX4_numberOf 164 = .ok (.getfield 12, 3) := by decide +kernel
theorem dX4_numberOf_167 : decode cX4_numberOf 167 = .ok (.getfield 176, 3) := by decide +kernel
theorem dX4_numberOf_170 : decode cX4_numberOf 170 = .ok (.ireturn, 1) := by decide +kernel
theorem dX4_numberOf_171 : decode cX4_numberOf 171 = .ok (.aload_n 0, 1) := by decide +kernel
theorem dX4_numberOf_172 : decode cX4_numberOf 172 = .ok (.getfield 12, 3) := by decide +kernel
theorem dX4_numberOf_175 : decode cX4_numberOf 175 = .ok (.getfield 118, 3) := by decide +kernel
theorem dX4_numberOf_178 : decode cX4_numberOf 178 = .ok (.ireturn, 1) := by decide +kernel
theorem dX4_numberOf_179 : decode cX4_numberOf 179 = .ok (.aload_n 0, 1) := by decide +kernel
theorem dX4_numberOf_180 : decode cX4_numberOf 180 = .ok (.getfield 12, 3) := by decide +kernel
theorem dX4_numberOf_183 : decode cX4_numberOf 183 = .ok (.getfield 179, 3) := by decide +kernel
theorem dX4_numberOf_186 : decode cX4_numberOf 186 = .ok (.ireturn, 1) := by decide +kernel
theorem dX4_numberOf_187 : decode cX4_numberOf 187 = .ok (.aload_n 0, 1) := by decide +kernel
theorem dX4_numberOf_188 : decode cX4_numberOf 188 = .ok (.getfield 239, 3) := by decide +kernel
theorem dX4_numberOf_191 : decode cX4_numberOf 191 = .ok (.ireturn, 1) := by decide +kernel
end
section
theorem dL_cell_0 : decode cL_cell 0 = .ok (.iload_n 1, 1) := by decide +kernel
theorem dL_cell_1 : decode cL_cell 1 = .ok (.aload_n 0, 1) := by decide +kernel
theorem dL_cell_2 : decode cL_cell 2 = .ok (.arraylength, 1) := by decide +kernel
theorem dL_cell_3 : decode cL_cell 3 = .ok (.if_icmp .ge 9, 3) := by decide +kernel
theorem dL_cell_6 : decode cL_cell 6 = .ok (.aload_n 0, 1) := by decide +kernel
theorem dL_cell_7 : decode cL_cell 7 = .ok (.iload_n 1, 1) := by decide +kernel
theorem dL_cell_8 : decode cL_cell 8 = .ok (.iaload, 1) := by decide +kernel
theorem dL_cell_9 : decode cL_cell 9 = .ok (.goto 15, 3) := by decide +kernel
theorem dL_cell_12 : decode cL_cell 12 = .ok (.sipush 7919, 3) := by decide +kernel
theorem dL_cell_15 : decode cL_cell 15 = .ok (.iload_n 1, 1) := by decide +kernel
theorem dL_cell_16 : decode cL_cell 16 = .ok (.iconst 3, 1) := by decide +kernel
theorem dL_cell_17 : decode cL_cell 17 = .ok (.iadd, 1) := by decide +kernel
theorem dL_cell_18 : decode cL_cell 18 = .ok (.imul, 1) := by decide +kernel
theorem dL_cell_19 : decode cL_cell 19 = .ok (.iload_n 1, 1) := by decide +kernel
theorem dL_cell_20 : decode cL_cell 20 = .ok (.bipush 11, 2) := by decide +kernel
theorem dL_cell_22 : decode cL_cell 22 = .ok (.iadd, 1) := by decide +kernel
theorem dL_cell_23 : decode cL_cell 23 = .ok (.imul, 1) := by decide +kernel
theorem dL_cell_24 : decode cL_cell 24 = .ok (.ireturn, 1) := by decide +kernel
theorem dL_low_0 : decode cL_low 0 = .ok (.iload_n 0, 1) := by decide +kernel
theorem dL_low_1 : decode cL_low 1 = .ok (.ldc 7, 2) := by decide +kernel
theorem dL_low_3 : decode cL_low 3 = .ok (.iand, 1) := by decide +kernel
theorem dL_low_4 : decode cL_low 4 = .ok (.iload_n 1, 1) := by decide +kernel
theorem dL_low_5 : decode cL_low 5 = .ok (.irem, 1) := by decide +kernel
theorem dL_low_6 : decode cL_low 6 = .ok (.ireturn, 1) := by decide +kernel
theorem dL_told_0 : decode cL_told 0 = .ok (.ldc2_w 8, 3) := by decide +kernel
theorem dL_told_3 : decode cL_told 3 = .ok (.lstore_n 1, 1) := by decide +kernel
theorem dL_told_4 : decode cL_told 4 = .ok (.iconst 0, 1) := by decide +kernel
theorem dL_told_5 : decode cL_told 5 = .ok (.istore_n 3, 1) := by decide +kernel
theorem dL_told_6 : decode cL_told 6 = .ok (.iload_n 3, 1) := by decide +kernel
theorem dL_told_7 : decode cL_told 7 = .ok (.bipush 13, 2) := by decide +kernel
theorem dL_told_9 : decode cL_told 9 = .ok (.if_icmp .ge 22, 3) := by decide +kernel
theorem dL_told_12 : decode cL_told 12 = .ok (.ldc2_w 10, 3) := by decide +kernel
theorem dL_told_15 : decode cL_told 15 = .ok (.lload_n 1, 1) := by decide +kernel
theorem dL_told_16 : decode cL_told 16 = .ok (.lmul, 1) := by decide +kernel
theorem dL_told_17 : decode cL_told 17 = .ok (.aload_n 0, 1) := by decide +kernel
theorem dL_told_18 : decode cL_told 18 = .ok (.iload_n 3, 1) := by decide +kernel
theorem dL_told_19 : decode cL_told 19 = .ok (.invokevirtual 12, 3) := by decide +kernel
theorem dL_told_22 : decode cL_told 22 = .ok (.i2l, 1) := by decide +kernel
theorem dL_told_23 : decode cL_told 23 = .ok (.ladd, 1) := by decide +kernel
theorem dL_told_24 : decode cL_told 24 = .ok (.lstore_n 1, 1) := by decide +kernel
theorem dL_told_25 : decode cL_told 25 = .ok (.iinc 3 1, 3) := by decide +kernel
theorem dL_told_28 : decode cL_told 28 = .ok (.goto (-22), 3) := by decide +kernel
theorem dL_told_31 : decode cL_told 31 = .ok (.iconst 0, 1) := by decide +kernel
theorem dL_told_32 : decode cL_told 32 = .ok (.istore_n 3, 1) := by decide +kernel
theorem dL_told_33 : decode cL_told 33 = .ok (.iload_n 3, 1) := by decide +kernel
theorem dL_told_34 : decode cL_told 34 = .ok (.bipush 75, 2) := by decide +kernel
theorem dL_told_36 : decode cL_told 36 = .ok (.if_icmp .ge 34, 3) := by decide +kernel
theorem dL_told_39 : decode cL_told 39 = .ok (.ldc2_w 10, 3) := by decide +kernel
theorem dL_told_42 : decode cL_told 42 = .ok (.lload_n 1, 1) := by decide +kernel
theorem dL_told_43 : decode cL_told 43 = .ok (.lmul, 1) := by decide +kernel
theorem dL_told_44 : decode cL_told 44 = .ok (.aload_n 0, 1) := by decide +kernel
theorem dL_told_45 : decode cL_told 45 = .ok (.iload_n 3, 1) := by decide +kernel
theorem dL_told_46 : decode cL_told 46 = .ok (.bipush 25, 2) := by decide +kernel
theorem dL_told_48 : decode cL_told 48 = .ok (.idiv, 1) := by decide +kernel
theorem dL_told_49 : decode cL_told 49 = .ok (.iload_n 3, 1) := by decide +kernel
theorem dL_told_50 : decode cL_told 50 = .ok (.iconst 5, 1) := by decide +kernel
theorem dL_told_51 : decode cL_told 51 = .ok (.irem, 1) := by decide +kernel
theorem dL_told_52 : decode cL_told 52 = .ok (.iload_n 3, 1) := by decide +kernel
theorem dL_told_53 : decode cL_told 53 = .ok (.iconst 5, 1) := by decide +kernel
theorem dL_told_54 : decode cL_told 54 = .ok (.idiv, 1) := by decide +kernel
theorem dL_told_55 : decode cL_told 55 = .ok (.iconst 5, 1) := by decide +kernel
theorem dL_told_56 : decode cL_told 56 = .ok (.irem, 1) := by decide +kernel
theorem dL_told_57 : decode cL_told 57 = .ok (.iconst 0, 1) := by decide +kernel
theorem dL_told_58 : decode cL_told 58 = .ok (.invokevirtual 18, 3) := by decide +kernel
theorem dL_told_61 : decode cL_told 61 = .ok (.i2l, 1) := by decide +kernel
theorem dL_told_62 : decode cL_told 62 = .ok (.ladd, 1) := by decide +kernel
theorem dL_told_63 : decode cL_told 63 = .ok (.lstore_n 1, 1) := by decide +kernel
theorem dL_told_64 : decode cL_told 64 = .ok (.iinc 3 1, 3) := by decide +kernel
theorem dL_told_67 : decode cL_told 67 = .ok (.goto (-34), 3) := by decide +kernel
theorem dL_told_70 : decode cL_told 70 = .ok (.iconst 0, 1) := by decide +kernel
theorem dL_told_71 : decode cL_told 71 = .ok (.istore_n 3, 1) := by decide +kernel
theorem dL_told_72 : decode cL_told 72 = .ok (.iload_n 3, 1) := by decide +kernel
theorem dL_told_73 : decode cL_told 73 = .ok (.sipush 144, 3) := by decide +kernel
theorem dL_told_76 : decode cL_told 76 = .ok (.if_icmp .ge 88, 3) := by decide +kernel
theorem dL_told_79 : decode cL_told 79 = .ok (.ldc2_w 10, 3) := by decide +kernel
theorem dL_told_82 : decode cL_told 82 = .ok (.ldc2_w 10, 3) := by decide +kernel
theorem dL_told_85 : decode cL_told 85 = .ok (.ldc2_w 10, 3) := by decide +kernel
theorem dL_told_88 : decode cL_told 88 = .ok (.ldc2_w 10, 3) := by decide +kernel
theorem dL_told_91 : decode cL_told 91 = .ok (.lload_n 1, 1) := by decide +kernel
theorem dL_told_92 : decode cL_told 92 = .ok (.lmul, 1) := by decide +kernel
theorem dL_told_93 : decode cL_told 93 = .ok (.aload_n 0, 1) := by decide +kernel
theorem dL_told_94 : decode cL_told 94 = .ok (.iload_n 3, 1) := by decide +kernel
theorem dL_told_95 : decode cL_told 95 = .ok (.bipush 12, 2) := by decide +kernel
theorem dL_told_97 : decode cL_told 97 = .ok (.irem, 1) := by decide +kernel
theorem dL_told_98 : decode cL_told 98 = .ok (.iload_n 3, 1) := by decide +kernel
theorem dL_told_99 : decode cL_told 99 = .ok (.bipush 12, 2) := by decide +kernel
theorem dL_told_101 : decode cL_told 101 = .ok (.idiv, 1) := by decide +kernel
theorem dL_told_102 : decode cL_told 102 = .ok (.iconst 0, 1) := by decide +kernel
theorem dL_told_103 : decode cL_told 103 = .ok (.invokevirtual 22, 3) := by decide +kernel
theorem dL_told_106 : decode cL_told 106 = .ok (.i2l, 1) := by decide +kernel
theorem dL_told_107 : decode cL_told 107 = .ok (.ladd, 1) := by decide +kernel
theorem dL_told_108 : decode cL_told 108 = .ok (.lmul, 1) := by decide +kernel
theorem dL_told_109 : decode cL_told 109 = .ok (.aload_n 0, 1) := by decide +kernel
theorem dL_told_110 : decode cL_told 110 = .ok (.iload_n 3, 1) := by decide +kernel
theorem dL_told_111 : decode cL_told 111 = .ok (.bipush 12, 2) := by decide +kernel
theorem dL_told_113 : decode cL_told 113 = .ok (.irem, 1) := by decide +kernel
theorem dL_told_114 : decode cL_told 114 = .ok (.iload_n 3, 1) := by decide +kernel
theorem dL_told_115 : decode cL_told 115 = .ok (.bipush 12, 2) := by decide +kernel
theorem dL_told_117 : decode cL_told 117 = .ok (.idiv, 1) := by decide +kernel
theorem dL_told_118 : decode cL_told 118 = .ok (.iconst 1, 1) := by decide +kernel
theorem dL_told_119 : decode cL_told 119 = .ok (.invokevirtual 22, 3) := by decide +kernel
theorem dL_told_122 : decode cL_told 122 = .ok (.i2l, 1) := by decide +kernel
theorem dL_told_123 : decode cL_told 123 = .ok (.ladd, 1) := by decide +kernel
theorem dL_told_124 : decode cL_told 124 = .ok (.lmul, 1) := by decide +kernel
theorem dL_told_125 : decode cL_told 125 = .ok (.aload_n 0, 1) := by decide +kernel
theorem dL_told_126 : decode cL_told 126 = .ok (.iload_n 3, 1) := by decide +kernel
theorem dL_told_127 : decode cL_told 127 = .ok (.bipush 12, 2) := by decide +kernel
theorem dL_told_129 : decode cL_told 129 = .ok (.irem, 1) := by decide +kernel
theorem dL_told_130 : decode cL_told 130 = .ok (.iload_n 3, 1) := by decide +kernel
theorem dL_told_131 : decode cL_told 131 = .ok (.bipush 12, 2) := by decide +kernel
theorem dL_told_133 : decode cL_told 133 = .ok (.idiv, 1) := by decide +kernel
theorem dL_told_134 : decode cL_told 134 = .ok (.iconst 2, 1) := by decide +kernel
theorem dL_told_135 : decode cL_told 135 = .ok (.invokevirtual 22, 3) := by decide +kernel
theorem dL_told_138 : decode cL_told 138 = .ok (.i2l, 1) := by decide +kernel
theorem dL_told_139 : decode cL_told 139 = .ok (.ladd, 1) := by decide +kernel
theorem dL_told_140 : decode cL_told 140 = .ok (.lmul, 1) := by decide +kernel
theorem dL_told_141 : decode cL_told 141 = .ok (.aload_n 0, 1) := by decide +kernel
theorem dL_told_142 : decode cL_told 142 = .ok (.iload_n 3, 1) := by decide +kernel
theorem dL_told_143 : decode cL_told 143 = .ok (.bipush 12, 2) := by decide +kernel
theorem dL_told_145 : decode cL_told 145 = .ok (.irem, 1) := by decide +kernel
theorem dL_told_146 : decode cL_told 146 = .ok (.iload_n 3, 1) := by decide +kernel
theorem dL_told_147 : decode cL_told 147 = .ok (.bipush 12, 2) := by decide +kernel
theorem dL_told_149 : decode cL_told 149 = .ok (.idiv, 1) := by decide +kernel
theorem dL_told_150 : decode cL_told 150 = .ok (.bipush 6, 2) := by decide +kernel
theorem dL_told_152 : decode cL_told 152 = .ok (.invokevirtual 22, 3) := by decide +kernel
theorem dL_told_155 : decode cL_told 155 = .ok (.i2l, 1) := by decide +kernel
theorem dL_told_156 : decode cL_told 156 = .ok (.ladd, 1) := by decide +kernel
theorem dL_told_157 : decode cL_told 157 = .ok (.lstore_n 1, 1) := by decide +kernel
theorem dL_told_158 : decode cL_told 158 = .ok (.iinc 3 1, 3) := by decide +kernel
theorem dL_told_161 : decode cL_told 161 = .ok (.goto (-89), 3) := by decide +kernel
theorem dL_told_164 : decode cL_told 164 = .ok (.lload_n 1, 1) := by decide +kernel
theorem dL_told_165 : decode cL_told 165 = .ok (.lreturn, 1) := by decide +kernel
theorem dL_act_0 : decode cL_act 0 = .ok (.iload_n 1, 1) := by decide +kernel
theorem dL_act_1 : decode cL_act 1 = .ok (.iconst 4, 1) := by decide +kernel
theorem dL_act_2 : decode cL_act 2 = .ok (.ishr, 1) := by decide +kernel
theorem dL_act_3 : decode cL_act 3 = .ok (.iconst 3, 1) := by decide +kernel
theorem dL_act_4 : decode cL_act 4 = .ok (.invokestatic 26, 3) := by decide +kernel
theorem dL_act_7 : decode cL_act 7 = .ok (.istore_n 3, 1) := by decide +kernel
theorem dL_act_8 : decode cL_act 8 = .ok (.iload_n 2, 1) := by decide +kernel
theorem dL_act_9 : decode cL_act 9 = .ok (.bipush 12, 2) := by decide +kernel
theorem dL_act_11 : decode cL_act 11 = .ok (.invokestatic 26, 3) := by decide +kernel
theorem dL_act_14 : decode cL_act 14 = .ok (.istore 4, 2) := by decide +kernel
theorem dL_act_16 : decode cL_act 16 = .ok (.iload_n 2, 1) := by decide +kernel
theorem dL_act_17 : decode cL_act 17 = .ok (.iconst 4, 1) := by decide +kernel
theorem dL_act_18 : decode cL_act 18 = .ok (.ishr, 1) := by decide +kernel
theorem dL_act_19 : decode cL_act 19 = .ok (.bipush 12, 2) := by decide +kernel
theorem dL_act_21 : decode cL_act 21 = .ok (.invokestatic 26, 3) := by decide +kernel
theorem dL_act_24 : decode cL_act 24 = .ok (.istore 5, 2) := by decide +kernel
theorem dL_act_26 : decode cL_act 26 = .ok (.iload_n 1, 1) := by decide +kernel
theorem dL_act_27 : decode cL_act 27 = .ok (.bipush 15, 2) := by decide +kernel
theorem dL_act_29 : decode cL_act 29 = .ok (.iand, 1) := by decide +kernel
theorem dL_act_30 : decode cL_act 30 = .ok (.tableswitch 254 0 10 #[58, 79, 84, 134, 147, 221, 231, 231, 231, 231, 231], 58) := by decide +kernel
theorem dL_act_88 : decode cL_act 88 = .ok (.iload_n 2, 1) := by decide +kernel
theorem dL_act_89 : decode cL_act 89 = .ok (.bipush 20, 2) := by decide +kernel
theorem dL_act_91 : decode cL_act 91 = .ok (.ishr, 1) := by decide +kernel
theorem dL_act_92 : decode cL_act 92 = .ok (.iconst 1, 1) := by decide +kernel
theorem dL_act_93 : decode cL_act 93 = .ok (.iand, 1) := by decide +kernel
theorem dL_act_94 : decode cL_act 94 = .ok (.ifCond .ne 10, 3) := by decide +kernel
theorem dL_act_97 : decode cL_act 97 = .ok (.aload_n 0, 1) := by decide +kernel
theorem dL_act_98 : decode cL_act 98 = .ok (.invokevirtual 32, 3) := by decide +kernel
theorem dL_act_101 : decode cL_act 101 = .ok (.goto 7, 3) := by decide +kernel
theorem dL_act_104 : decode cL_act 104 = .ok (.aload_n 0, 1) := by decide +kernel
theorem dL_act_105 : decode cL_act 105 = .ok (.invokevirtual 36, 3) := by decide +kernel
theorem dL_act_108 : decode cL_act 108 = .ok (.ireturn, 1) := by decide +kernel
theorem dL_act_109 : decode cL_act 109 = .ok (.aload_n 0, 1) := by decide +kernel
theorem dL_act_110 : decode cL_act 110 = .ok (.invokevirtual 36, 3) := by decide +kernel
theorem dL_act_113 : decode cL_act 113 = .ok (.ireturn, 1) := by decide +kernel
theorem dL_act_114 : decode cL_act 114 = .ok (.aload_n 0, 1) := by decide +kernel
theorem dL_act_115 : decode cL_act 115 = .ok (.iconst 1, 1) := by decide +kernel
theorem dL_act_116 : decode cL_act 116 = .ok (.iload_n 1, 1) := by decide +kernel
theorem dL_act_117 : decode cL_act 117 = .ok (.bipush 6, 2) := by decide +kernel
theorem dL_act_119 : decode cL_act 119 = .ok (.ishr, 1) := by decide +kernel
theorem dL_act_120 : decode cL_act 120 = .ok (.bipush 9, 2) := by decide +kernel
theorem dL_act_122 : decode cL_act 122 = .ok (.invokestatic 26, 3) := by decide +kernel
theorem dL_act_125 : decode cL_act 125 = .ok (.iadd, 1) := by decide +kernel
theorem dL_act_126 : decode cL_act 126 = .ok (.iload 4, 2) := by decide +kernel
theorem dL_act_128 : decode cL_act 128 = .ok (.iload 5, 2) := by decide +kernel
theorem dL_act_130 : decode cL_act 130 = .ok (.iload 4, 2) := by decide +kernel
theorem dL_act_132 : decode cL_act 132 = .ok (.iload_n 2, 1) := by decide +kernel
theorem dL_act_133 : decode cL_act 133 = .ok (.bipush 8, 2) := by decide +kernel
theorem dL_act_135 : decode cL_act 135 = .ok (.ishr, 1) := by decide +kernel
theorem dL_act_136 : decode cL_act 136 = .ok (.bipush 12, 2) := by decide +kernel
theorem dL_act_138 : decode cL_act 138 = .ok (.iload 4, 2) := by decide +kernel
theorem dL_act_140 : decode cL_act 140 = .ok (.isub, 1) := by decide +kernel
theorem dL_act_141 : decode cL_act 141 = .ok (.invokestatic 26, 3) := by decide +kernel
theorem dL_act_144 : decode cL_act 144 = .ok (.iadd, 1) := by decide +kernel
theorem dL_act_145 : decode cL_act 145 = .ok (.iload 5, 2) := by decide +kernel
theorem dL_act_147 : decode cL_act 147 = .ok (.iload_n 2, 1) := by decide +kernel
theorem dL_act_148 : decode cL_act 148 = .ok (.bipush 12, 2) := by decide +kernel
theorem dL_act_150 : decode cL_act 150 = .ok (.ishr, 1) := by decide +kernel
theorem dL_act_151 : decode cL_act 151 = .ok (.bipush 12, 2) := by decide +kernel
theorem dL_act_153 : decode cL_act 153 = .ok (.iload 5, 2) := by decide +kernel
theorem dL_act_155 : decode cL_act 155 = .ok (.isub, 1) := by decide +kernel
theorem dL_act_156 : decode cL_act 156 = .ok (.invokestatic 26, 3) := by decide +kernel
theorem dL_act_159 : decode cL_act 159 = .ok (.iadd, 1) := by decide +kernel
theorem dL_act_160 : decode cL_act 160 = .ok (.invokevirtual 39, 3) := by decide +kernel
theorem dL_act_163 : decode cL_act 163 = .ok (.ireturn, 1) := by decide +kernel
theorem dL_act_164 : decode cL_act 164 = .ok (.aload_n 0, 1) := by decide +kernel
theorem dL_act_165 : decode cL_act 165 = .ok (.iconst 1, 1) := by decide +kernel
theorem dL_act_166 : decode cL_act 166 = .ok (.iload_n 2, 1) := by decide +kernel
theorem dL_act_167 : decode cL_act 167 = .ok (.bipush 11, 2) := by decide +kernel
theorem dL_act_169 : decode cL_act 169 = .ok (.invokestatic 26, 3) := by decide +kernel
theorem dL_act_172 : decode cL_act 172 = .ok (.iadd, 1) := by decide +kernel
theorem dL_act_173 : decode cL_act 173 = .ok (.invokevirtual 43, 3) := by decide +kernel
theorem dL_act_176 : decode cL_act 176 = .ok (.ireturn, 1) := by decide +kernel
theorem dL_act_177 : decode cL_act 177 = .ok (.iload_n 2, 1) := by decide +kernel
theorem dL_act_178 : decode cL_act 178 = .ok (.iconst 4, 1) := by decide +kernel
theorem dL_act_179 : decode cL_act 179 = .ok (.invokestatic 26, 3) := by decide +kernel
theorem dL_act_182 : decode cL_act 182 = .ok (.istore 6, 2) := by decide +kernel
theorem dL_act_184 : decode cL_act 184 = .ok (.aload_n 0, 1) := by decide +kernel
theorem dL_act_185 : decode cL_act 185 = .ok (.iload 6, 2) := by decide +kernel
theorem dL_act_187 : decode cL_act 187 = .ok (.iload 6, 2) := by decide +kernel
theorem dL_act_189 : decode cL_act 189 = .ok (.ifCond .ne 14, 3) := by decide +kernel
theorem dL_act_192 : decode cL_act 192 = .ok (.iload_n 2, 1) := by decide +kernel
theorem dL_act_193 : decode cL_act 193 = .ok (.iconst 2, 1) := by decide +kernel
theorem dL_act_194 : decode cL_act 194 = .ok (.ishr, 1) := by decide +kernel
theorem dL_act_195 : decode cL_act 195 = .ok (.bipush 100, 2) := by decide +kernel
theorem dL_act_197 : decode cL_act 197 = .ok (.invokestatic 26, 3) := by decide +kernel
theorem dL_act_200 : decode cL_act 200 = .ok (.goto 47, 3) := by decide +kernel
theorem dL_act_203 : decode cL_act 203 = .ok (.iload 6, 2) := by decide +kernel
theorem dL_act_205 : decode cL_act 205 = .ok (.iconst 1, 1) := by decide +kernel
theorem dL_act_206 : decode cL_act 206 = .ok (.if_icmp .ne 14, 3) := by decide +kernel
theorem dL_act_209 : decode cL_act 209 = .ok (.iload_n 2, 1) := by decide +kernel
theorem dL_act_210 : decode cL_act 210 = .ok (.iconst 2, 1) := by decide +kernel
theorem dL_act_211 : decode cL_act 211 = .ok (.ishr, 1) := by decide +kernel
theorem dL_act_212 : decode cL_act 212 = .ok (.bipush 21, 2) := by decide +kernel
theorem dL_act_214 : decode cL_act 214 = .ok (.invokestatic 26, 3) := by decide +kernel
theorem dL_act_217 : decode cL_act 217 = .ok (.goto 30, 3) := by decide +kernel
theorem dL_act_220 : decode cL_act 220 = .ok (.iload 6, 2) := by decide +kernel
theorem dL_act_222 : decode cL_act 222 = .ok (.iconst 2, 1) := by decide +kernel
theorem dL_act_223 : decode cL_act 223 = .ok (.if_icmp .ne 16, 3) := by decide +kernel
theorem dL_act_226 : decode cL_act 226 = .ok (.iconst 1, 1) := by decide +kernel
theorem dL_act_227 : decode cL_act 227 = .ok (.iload_n 2, 1) := by decide +kernel
theorem dL_act_228 : decode cL_act 228 = .ok (.iconst 2, 1) := by decide +kernel
theorem dL_act_229 : decode cL_act 229 = .ok (.ishr, 1) := by decide +kernel
theorem dL_act_230 : decode cL_act 230 = .ok (.bipush 9, 2) := by decide +kernel
theorem dL_act_232 : decode cL_act 232 = .ok (.invokestatic 26, 3) := by decide +kernel
theorem dL_act_235 : decode cL_act 235 = .ok (.iadd, 1) := by decide +kernel
theorem dL_act_236 : decode cL_act 236 = .ok (.goto 11, 3) := by decide +kernel
theorem dL_act_239 : decode cL_act 239 = .ok (.iload_n 2, 1) := by decide +kernel
theorem dL_act_240 : decode cL_act 240 = .ok (.iconst 2, 1) := by decide +kernel
theorem dL_act_241 : decode cL_act 241 = .ok (.ishr, 1) := by decide +kernel
theorem dL_act_242 : decode cL_act 242 = .ok (.bipush 10, 2) := by decide +kernel
theorem dL_act_244 : decode cL_act 244 = .ok (.invokestatic 26, 3) := by decide +kernel
theorem dL_act_247 : decode cL_act 247 = .ok (.invokevirtual 46, 3) := by decide +kernel
theorem dL_act_250 : decode cL_act 250 = .ok (.ireturn, 1) := by decide +kernel
theorem dL_act_251 : decode cL_act 251 = .ok (.aload_n 0, 1) := by decide +kernel
theorem dL_act_252 : decode cL_act 252 = .ok (.iload_n 3, 1) := by decide +kernel
theorem dL_act_253 : decode cL_act 253 = .ok (.iload 4, 2) := by decide +kernel
theorem dL_act_255 : decode cL_act 255 = .ok (.iload 5, 2) := by decide +kernel
theorem dL_act_257 : decode cL_act 257 = .ok (.invokevirtual 49, 3) := by decide +kernel
theorem dL_act_260 : decode cL_act 260 = .ok (.ireturn, 1) := by decide +kernel
theorem dL_act_261 : decode cL_act 261 = .ok (.aload_n 0, 1) := by decide +kernel
theorem dL_act_262 : decode cL_act 262 = .ok (.iload_n 3, 1) := by decide +kernel
theorem dL_act_263 : decode cL_act 263 = .ok (.iload 4, 2) := by decide +kernel
theorem dL_act_265 : decode cL_act 265 = .ok (.iconst 2, 1) := by decide +kernel
theorem dL_act_266 : decode cL_act 266 = .ok (.isub, 1) := by decide +kernel
theorem dL_act_267 : decode cL_act 267 = .ok (.iload 5, 2) := by decide +kernel
theorem dL_act_269 : decode cL_act 269 = .ok (.iconst 2, 1) := by decide +kernel
theorem dL_act_270 : decode cL_act 270 = .ok (.isub, 1) := by decide +kernel
theorem dL_act_271 : decode cL_act 271 = .ok (.iload_n 2, 1) := by decide +kernel
theorem dL_act_272 : decode cL_act 272 = .ok (.bipush 8, 2) := by decide +kernel
theorem dL_act_274 : decode cL_act 274 = .ok (.ishr, 1) := by decide +kernel
theorem dL_act_275 : decode cL_act 275 = .ok (.bipush 8, 2) := by decide +kernel
theorem dL_act_277 : decode cL_act 277 = .ok (.invokestatic 26, 3) := by decide +kernel
theorem dL_act_280 : decode cL_act 280 = .ok (.invokevirtual 52, 3) := by decide +kernel
theorem dL_act_283 : decode cL_act 283 = .ok (.ireturn, 1) := by decide +kernel
theorem dL_act_284 : decode cL_act 284 = .ok (.aload_n 0, 1) := by decide +kernel
theorem dL_act_285 : decode cL_act 285 = .ok (.iload_n 3, 1) := by decide +kernel
theorem dL_act_286 : decode cL_act 286 = .ok (.iload_n 2, 1) := by decide +kernel
theorem dL_act_287 : decode cL_act 287 = .ok (.iconst 5, 1) := by decide +kernel
theorem dL_act_288 : decode cL_act 288 = .ok (.invokestatic 26, 3) := by decide +kernel
theorem dL_act_291 : decode cL_act 291 = .ok (.iload_n 2, 1) := by decide +kernel
theorem dL_act_292 : decode cL_act 292 = .ok (.iconst 3, 1) := by decide +kernel
theorem dL_act_293 : decode cL_act 293 = .ok (.ishr, 1) := by decide +kernel
theorem dL_act_294 : decode cL_act 294 = .ok (.iconst 5, 1) := by decide +kernel
theorem dL_act_295 : decode cL_act 295 = .ok (.invokestatic 26, 3) := by decide +kernel
theorem dL_act_298 : decode cL_act 298 = .ok (.iload_n 2, 1) := by decide +kernel
theorem dL_act_299 : decode cL_act 299 = .ok (.bipush 6, 2) := by decide +kernel
theorem dL_act_301 : decode cL_act 301 = .ok (.ishr, 1) := by decide +kernel
theorem dL_act_302 : decode cL_act 302 = .ok (.bipush 10, 2) := by decide +kernel
theorem dL_act_304 : decode cL_act 304 = .ok (.invokestatic 26, 3) := by decide +kernel
theorem dL_act_307 : decode cL_act 307 = .ok (.invokevirtual 55, 3) := by decide +kernel
theorem dL_act_310 : decode cL_act 310 = .ok (.ireturn, 1) := by decide +kernel
theorem dL_holds_0 : decode cL_holds 0 = .ok (.iconst 0, 1) := by decide +kernel
theorem dL_holds_1 : decode cL_holds 1 = .ok (.istore_n 1, 1) := by decide +kernel
theorem dL_holds_2 : decode cL_holds 2 = .ok (.iconst 0, 1) := by decide +kernel
theorem dL_holds_3 : decode cL_holds 3 = .ok (.istore_n 2, 1) := by decide +kernel
theorem dL_holds_4 : decode cL_holds 4 = .ok (.iconst 0, 1) := by decide +kernel
theorem dL_holds_5 : decode cL_holds 5 = .ok (.istore_n 3, 1) := by decide +kernel
theorem dL_holds_6 : decode cL_holds 6 = .ok (.iconst 0, 1) := by decide +kernel
theorem dL_holds_7 : decode cL_holds 7 = .ok (.istore 4, 2) := by decide +kernel
theorem dL_holds_9 : decode cL_holds 9 = .ok (.iconst 0, 1) := by decide +kernel
theorem dL_holds_10 : decode cL_holds 10 = .ok (.istore 5, 2) := by decide +kernel
theorem dL_holds_12 : decode cL_holds 12 = .ok (.iload 5, 2) := by decide +kernel
theorem dL_holds_14 : decode cL_holds 14 = .ok (.sipush 144, 3) := by decide +kernel
theorem dL_holds_17 : decode cL_holds 17 = .ok (.if_icmp .ge 204, 3) := by decide +kernel
theorem dL_holds_20 : decode cL_holds 20 = .ok (.iload 5, 2) := by decide +kernel
theorem dL_holds_22 : decode cL_holds 22 = .ok (.bipush 12, 2) := by decide +kernel
theorem dL_holds_24 : decode cL_holds 24 = .ok (.irem, 1) := by decide +kernel
theorem dL_holds_25 : decode cL_holds 25 = .ok (.istore 6, 2) := by decide +kernel
theorem dL_holds_27 : decode cL_holds 27 = .ok (.iload 5, 2) := by decide +kernel
theorem dL_holds_29 : decode cL_holds 29 = .ok (.bipush 12, 2) := by decide +kernel
theorem dL_holds_31 : decode cL_holds 31 = .ok (.idiv, 1) := by decide +kernel
theorem dL_holds_32 : decode cL_holds 32 = .ok (.istore 7, 2) := by decide +kernel
theorem dL_holds_34 : decode cL_holds 34 = .ok (.aload_n 0, 1) := by decide +kernel
theorem dL_holds_35 : decode cL_holds 35 = .ok (.iload 6, 2) := by decide +kernel
theorem dL_holds_37 : decode cL_holds 37 = .ok (.iload 7, 2) := by decide +kernel
theorem dL_holds_39 : decode cL_holds 39 = .ok (.iconst 0, 1) := by decide +kernel
theorem dL_holds_40 : decode cL_holds 40 = .ok (.invokevirtual 22, 3) := by decide +kernel
theorem dL_holds_43 : decode cL_holds 43 = .ok (.istore 8, 2) := by decide +kernel
theorem dL_holds_45 : decode cL_holds 45 = .ok (.iload_n 1, 1) := by decide +kernel
theorem dL_holds_46 : decode cL_holds 46 = .ok (.aload_n 0, 1) := by decide +kernel
theorem dL_holds_47 : decode cL_holds 47 = .ok (.iload 6, 2) := by decide +kernel
theorem dL_holds_49 : decode cL_holds 49 = .ok (.iload 7, 2) := by decide +kernel
theorem dL_holds_51 : decode cL_holds 51 = .ok (.iconst 2, 1) := by decide +kernel
theorem dL_holds_52 : decode cL_holds 52 = .ok (.invokevirtual 22, 3) := by decide +kernel
theorem dL_holds_55 : decode cL_holds 55 = .ok (.iadd, 1) := by decide +kernel
theorem dL_holds_56 : decode cL_holds 56 = .ok (.istore_n 1, 1) := by decide +kernel
theorem dL_holds_57 : decode cL_holds 57 = .ok (.iload_n 2, 1) := by decide +kernel
theorem dL_holds_58 : decode cL_holds 58 = .ok (.aload_n 0, 1) := by decide +kernel
theorem dL_holds_59 : decode cL_holds 59 = .ok (.iload 6, 2) := by decide +kernel
theorem dL_holds_61 : decode cL_holds 61 = .ok (.iload 7, 2) := by decide +kernel
theorem dL_holds_63 : decode cL_holds 63 = .ok (.iconst 3, 1) := by decide +kernel
theorem dL_holds_64 : decode cL_holds 64 = .ok (.invokevirtual 22, 3) := by decide +kernel
theorem dL_holds_67 : decode cL_holds 67 = .ok (.iadd, 1) := by decide +kernel
theorem dL_holds_68 : decode cL_holds 68 = .ok (.istore_n 2, 1) := by decide +kernel
theorem dL_holds_69 : decode cL_holds 69 = .ok (.iload_n 3, 1) := by decide +kernel
theorem dL_holds_70 : decode cL_holds 70 = .ok (.aload_n 0, 1) := by decide +kernel
theorem dL_holds_71 : decode cL_holds 71 = .ok (.iload 6, 2) := by decide +kernel
theorem dL_holds_73 : decode cL_holds 73 = .ok (.iload 7, 2) := by decide +kernel
theorem dL_holds_75 : decode cL_holds 75 = .ok (.iconst 1, 1) := by decide +kernel
theorem dL_holds_76 : decode cL_holds 76 = .ok (.invokevirtual 22, 3) := by decide +kernel
theorem dL_holds_79 : decode cL_holds 79 = .ok (.ifCond .le 7, 3) := by decide +kernel
theorem dL_holds_82 : decode cL_holds 82 = .ok (.iconst 1, 1) := by decide +kernel
theorem dL_holds_83 : decode cL_holds 83 = .ok (.goto 4, 3) := by decide +kernel
theorem dL_holds_86 : decode cL_holds 86 = .ok (.iconst 0, 1) := by decide +kernel
theorem dL_holds_87 : decode cL_holds 87 = .ok (.iadd, 1) := by decide +kernel
theorem dL_holds_88 : decode cL_holds 88 = .ok (.istore_n 3, 1) := by decide +kernel
theorem dL_holds_89 : decode cL_holds 89 = .ok (.iload 8, 2) := by decide +kernel
theorem dL_holds_91 : decode cL_holds 91 = .ok (.iload 4, 2) := by decide +kernel
theorem dL_holds_93 : decode cL_holds 93 = .ok (.if_icmp .le 8, 3) := by decide +kernel
theorem dL_holds_96 : decode cL_holds 96 = .ok (.iload 8, 2) := by decide +kernel
theorem dL_holds_98 : decode cL_holds 98 = .ok (.goto 5, 3) := by decide +kernel
theorem dL_holds_101 : decode cL_holds 101 = .ok (.iload 4, 2) := by decide +kernel
theorem dL_holds_103 : decode cL_holds 103 = .ok (.istore 4, 2) := by decide +kernel
theorem dL_holds_105 : decode cL_holds 105 = .ok (.iload 8, 2) := by decide +kernel
theorem dL_holds_107 : decode cL_holds 107 = .ok (.ifCond .lt 106, 3) := by decide +kernel
theorem dL_holds_110 : decode cL_holds 110 = .ok (.iload 8, 2) := by decide +kernel
theorem dL_holds_112 : decode cL_holds 112 = .ok (.bipush 9, 2) := by decide +kernel
theorem dL_holds_114 : decode cL_holds 114 = .ok (.if_icmp .gt 99, 3) := by decide +kernel
theorem dL_holds_117 : decode cL_holds 117 = .ok (.iload 8, 2) := by decide +kernel
theorem dL_holds_119 : decode cL_holds 119 = .ok (.ifCond .le 7, 3) := by decide +kernel
theorem dL_holds_122 : decode cL_holds 122 = .ok (.iconst 1, 1) := by decide +kernel
theorem dL_holds_123 : decode cL_holds 123 = .ok (.goto 4, 3) := by decide +kernel
theorem dL_holds_126 : decode cL_holds 126 = .ok (.iconst 0, 1) := by decide +kernel
theorem dL_holds_127 : decode cL_holds 127 = .ok (.aload_n 0, 1) := by decide +kernel
theorem dL_holds_128 : decode cL_holds 128 = .ok (.iload 6, 2) := by decide +kernel
theorem dL_holds_130 : decode cL_holds 130 = .ok (.iload 7, 2) := by decide +kernel
theorem dL_holds_132 : decode cL_holds 132 = .ok (.bipush 6, 2) := by decide +kernel
theorem dL_holds_134 : decode cL_holds 134 = .ok (.invokevirtual 22, 3) := by decide +kernel
theorem dL_holds_137 : decode cL_holds 137 = .ok (.ifCond .le 7, 3) := by decide +kernel
theorem dL_holds_140 : decode cL_holds 140 = .ok (.iconst 1, 1) := by decide +kernel
theorem dL_holds_141 : decode cL_holds 141 = .ok (.goto 4, 3) := by decide +kernel
theorem dL_holds_144 : decode cL_holds 144 = .ok (.iconst 0, 1) := by decide +kernel
theorem dL_holds_145 : decode cL_holds 145 = .ok (.if_icmp .ne 68, 3) := by decide +kernel
theorem dL_holds_148 : decode cL_holds 148 = .ok (.aload_n 0, 1) := by decide +kernel
theorem dL_holds_149 : decode cL_holds 149 = .ok (.iload 6, 2) := by decide +kernel
theorem dL_holds_151 : decode cL_holds 151 = .ok (.iload 7, 2) := by decide +kernel
theorem dL_holds_153 : decode cL_holds 153 = .ok (.iconst 4, 1) := by decide +kernel
theorem dL_holds_154 : decode cL_holds 154 = .ok (.invokevirtual 22, 3) := by decide +kernel
theorem dL_holds_157 : decode cL_holds 157 = .ok (.aload_n 0, 1) := by decide +kernel
theorem dL_holds_158 : decode cL_holds 158 = .ok (.iconst 0, 1) := by decide +kernel
theorem dL_holds_159 : decode cL_holds 159 = .ok (.invokevirtual 58, 3) := by decide +kernel
theorem dL_holds_162 : decode cL_holds 162 = .ok (.if_icmp .gt 51, 3) := by decide +kernel
theorem dL_holds_165 : decode cL_holds 165 = .ok (.aload_n 0, 1) := by decide +kernel
theorem dL_holds_166 : decode cL_holds 166 = .ok (.iload 6, 2) := by decide +kernel
theorem dL_holds_168 : decode cL_holds 168 = .ok (.iload 7, 2) := by decide +kernel
theorem dL_holds_170 : decode cL_holds 170 = .ok (.iconst 4, 1) := by decide +kernel
theorem dL_holds_171 : decode cL_holds 171 = .ok (.invokevirtual 22, 3) := by decide +kernel
theorem dL_holds_174 : decode cL_holds 174 = .ok (.ifCond .lt 39, 3) := by decide +kernel
theorem dL_holds_177 : decode cL_holds 177 = .ok (.aload_n 0, 1) := by decide +kernel
theorem dL_holds_178 : decode cL_holds 178 = .ok (.iload 6, 2) := by decide +kernel
theorem dL_holds_180 : decode cL_holds 180 = .ok (.iload 7, 2) := by decide +kernel
theorem dL_holds_182 : decode cL_holds 182 = .ok (.iconst 1, 1) := by decide +kernel
theorem dL_holds_183 : decode cL_holds 183 = .ok (.invokevirtual 22, 3) := by decide +kernel
theorem dL_holds_186 : decode cL_holds 186 = .ok (.bipush 9, 2) := by decide +kernel
theorem dL_holds_188 : decode cL_holds 188 = .ok (.if_icmp .gt 25, 3) := by decide +kernel
theorem dL_holds_191 : decode cL_holds 191 = .ok (.aload_n 0, 1) := by decide +kernel
theorem dL_holds_192 : decode cL_holds 192 = .ok (.iload 6, 2) := by decide +kernel
theorem dL_holds_194 : decode cL_holds 194 = .ok (.iload 7, 2) := by decide +kernel
theorem dL_holds_196 : decode cL_holds 196 = .ok (.iconst 5, 1) := by decide +kernel
theorem dL_holds_197 : decode cL_holds 197 = .ok (.invokevirtual 22, 3) := by decide +kernel
theorem dL_holds_200 : decode cL_holds 200 = .ok (.iconst 1, 1) := by decide +kernel
theorem dL_holds_201 : decode cL_holds 201 = .ok (.if_icmp .ne 14, 3) := by decide +kernel
theorem dL_holds_204 : decode cL_holds 204 = .ok (.aload_n 0, 1) := by decide +kernel
theorem dL_holds_205 : decode cL_holds 205 = .ok (.bipush 9, 2) := by decide +kernel
theorem dL_holds_207 : decode cL_holds 207 = .ok (.invokevirtual 12, 3) := by decide +kernel
theorem dL_holds_210 : decode cL_holds 210 = .ok (.ifCond .ne 5, 3) := by decide +kernel
theorem dL_holds_213 : decode cL_holds 213 = .ok (.iconst 0, 1) := by decide +kernel
theorem dL_holds_214 : decode cL_holds 214 = .ok (.ireturn, 1) := by decide +kernel
theorem dL_holds_215 : decode cL_holds 215 = .ok (.iinc 5 1, 3) := by decide +kernel
theorem dL_holds_218 : decode cL_holds 218 = .ok (.goto (-206), 3) := by decide +kernel
theorem dL_holds_221 : decode cL_holds 221 = .ok (.iload_n 1, 1) := by decide +kernel
theorem dL_holds_222 : decode cL_holds 222 = .ok (.aload_n 0, 1) := by decide +kernel
theorem dL_holds_223 : decode cL_holds 223 = .ok (.iconst 4, 1) := by decide +kernel
theorem dL_holds_224 : decode cL_holds 224 = .ok (.invokevirtual 12, 3) := by decide +kernel
theorem dL_holds_227 : decode cL_holds 227 = .ok (.if_icmp .ne 47, 3) := by decide +kernel
theorem dL_holds_230 : decode cL_holds 230 = .ok (.iload_n 2, 1) := by decide +kernel
theorem dL_holds_231 : decode cL_holds 231 = .ok (.aload_n 0, 1) := by decide +kernel
theorem dL_holds_232 : decode cL_holds 232 = .ok (.bipush 6, 2) := by decide +kernel
theorem dL_holds_234 : decode cL_holds 234 = .ok (.invokevirtual 12, 3) := by decide +kernel
theorem dL_holds_237 : decode cL_holds 237 = .ok (.if_icmp .ne 37, 3) := by decide +kernel
theorem dL_holds_240 : decode cL_holds 240 = .ok (.iload_n 2, 1) := by decide +kernel
theorem dL_holds_241 : decode cL_holds 241 = .ok (.aload_n 0, 1) := by decide +kernel
theorem dL_holds_242 : decode cL_holds 242 = .ok (.bipush 7, 2) := by decide +kernel
theorem dL_holds_244 : decode cL_holds 244 = .ok (.invokevirtual 12, 3) := by decide +kernel
theorem dL_holds_247 : decode cL_holds 247 = .ok (.if_icmp .ne 27, 3) := by decide +kernel
theorem dL_holds_250 : decode cL_holds 250 = .ok (.iload_n 3, 1) := by decide +kernel
theorem dL_holds_251 : decode cL_holds 251 = .ok (.aload_n 0, 1) := by decide +kernel
theorem dL_holds_252 : decode cL_holds 252 = .ok (.bipush 8, 2) := by decide +kernel
theorem dL_holds_254 : decode cL_holds 254 = .ok (.invokevirtual 12, 3) := by decide +kernel
theorem dL_holds_257 : decode cL_holds 257 = .ok (.if_icmp .ne 17, 3) := by decide +kernel
theorem dL_holds_260 : decode cL_holds 260 = .ok (.iload 4, 2) := by decide +kernel
theorem dL_holds_262 : decode cL_holds 262 = .ok (.aload_n 0, 1) := by decide +kernel
theorem dL_holds_263 : decode cL_holds 263 = .ok (.iconst 5, 1) := by decide +kernel
theorem dL_holds_264 : decode cL_holds 264 = .ok (.invokevirtual 12, 3) := by decide +kernel
theorem dL_holds_267 : decode cL_holds 267 = .ok (.if_icmp .ne 7, 3) := by decide +kernel
theorem dL_holds_270 : decode cL_holds 270 = .ok (.iconst 1, 1) := by decide +kernel
theorem dL_holds_271 : decode cL_holds 271 = .ok (.goto 4, 3) := by decide +kernel
theorem dL_holds_274 : decode cL_holds 274 = .ok (.iconst 0, 1) := by decide +kernel
theorem dL_holds_275 : decode cL_holds 275 = .ok (.istore 5, 2) := by decide +kernel
theorem dL_holds_277 : decode cL_holds 277 = .ok (.iload 5, 2) := by decide +kernel
theorem dL_holds_279 : decode cL_holds 279 = .ok (.ifCond .eq 52, 3) := by decide +kernel
theorem dL_holds_282 : decode cL_holds 282 = .ok (.aload_n 0, 1) := by decide +kernel
theorem dL_holds_283 : decode cL_holds 283 = .ok (.iconst 2, 1) := by decide +kernel
theorem dL_holds_284 : decode cL_holds 284 = .ok (.invokevirtual 12, 3) := by decide +kernel
theorem dL_holds_287 : decode cL_holds 287 = .ok (.ifCond .lt 44, 3) := by decide +kernel
theorem dL_holds_290 : decode cL_holds 290 = .ok (.aload_n 0, 1) := by decide +kernel
theorem dL_holds_291 : decode cL_holds 291 = .ok (.iconst 2, 1) := by decide +kernel
theorem dL_holds_292 : decode cL_holds 292 = .ok (.invokevirtual 12, 3) := by decide +kernel
theorem dL_holds_295 : decode cL_holds 295 = .ok (.iconst 3, 1) := by decide +kernel
theorem dL_holds_296 : decode cL_holds 296 = .ok (.if_icmp .gt 35, 3) := by decide +kernel
theorem dL_holds_299 : decode cL_holds 299 = .ok (.iload_n 1, 1) := by decide +kernel
theorem dL_holds_300 : decode cL_holds 300 = .ok (.aload_n 0, 1) := by decide +kernel
theorem dL_holds_301 : decode cL_holds 301 = .ok (.bipush 10, 2) := by decide +kernel
theorem dL_holds_303 : decode cL_holds 303 = .ok (.invokevirtual 12, 3) := by decide +kernel
theorem dL_holds_306 : decode cL_holds 306 = .ok (.if_icmp .gt 25, 3) := by decide +kernel
theorem dL_holds_309 : decode cL_holds 309 = .ok (.aload_n 0, 1) := by decide +kernel
theorem dL_holds_310 : decode cL_holds 310 = .ok (.invokevirtual 61, 3) := by decide +kernel
theorem dL_holds_313 : decode cL_holds 313 = .ok (.sipush 144, 3) := by decide +kernel
theorem dL_holds_316 : decode cL_holds 316 = .ok (.iload_n 1, 1) := by decide +kernel
theorem dL_holds_317 : decode cL_holds 317 = .ok (.isub, 1) := by decide +kernel
theorem dL_holds_318 : decode cL_holds 318 = .ok (.i2d, 1) := by decide +kernel
theorem dL_holds_319 : decode cL_holds 319 = .ok (.ldc2_w 65, 3) := by decide +kernel
theorem dL_holds_322 : decode cL_holds 322 = .ok (.ddiv, 1) := by decide +kernel
theorem dL_holds_323 : decode cL_holds 323 = .ok (.dcmp .l, 1) := by decide +kernel
theorem dL_holds_324 : decode cL_holds 324 = .ok (.ifCond .ne 7, 3) := by decide +kernel
theorem dL_holds_327 : decode cL_holds 327 = .ok (.iconst 1, 1) := by decide +kernel
theorem dL_holds_328 : decode cL_holds 328 = .ok (.goto 4, 3) := by decide +kernel
theorem dL_holds_331 : decode cL_holds 331 = .ok (.iconst 0, 1) := by decide +kernel
theorem dL_holds_332 : decode cL_holds 332 = .ok (.ireturn, 1) := by decide +kernel
theorem dL_isSettled_0 : decode cL_isSettled 0 = .ok (.iconst 1, 1) := by decide +kernel
theorem dL_isSettled_1 : decode cL_isSettled 1 = .ok (.istore_n 1, 1) := by decide +kernel
theorem dL_isSettled_2 : decode cL_isSettled 2 = .ok (.iconst 0, 1) := by decide +kernel
theorem dL_isSettled_3 : decode cL_isSettled 3 = .ok (.istore_n 2, 1) := by decide +kernel
theorem dL_isSettled_4 : decode cL_isSettled 4 = .ok (.iload_n 2, 1) := by decide +kernel
theorem dL_isSettled_5 : decode cL_isSettled 5 = .ok (.sipush 144, 3) := by decide +kernel
theorem dL_isSettled_8 : decode cL_isSettled 8 = .ok (.if_icmp .ge 65, 3) := by decide +kernel
theorem dL_isSettled_11 : decode cL_isSettled 11 = .ok (.iload_n 1, 1) := by decide +kernel
theorem dL_isSettled_12 : decode cL_isSettled 12 = .ok (.ifCond .eq 53, 3) := by decide +kernel
theorem dL_isSettled_15 : decode cL_isSettled 15 = .ok (.aload_n 0, 1) := by decide +kernel
theorem dL_isSettled_16 : decode cL_isSettled 16 = .ok (.iload_n 2, 1) := by decide +kernel
theorem dL_isSettled_17 : decode cL_isSettled 17 = .ok (.bipush 12, 2) := by decide +kernel
theorem dL_isSettled_19 : decode cL_isSettled 19 = .ok (.irem, 1) := by decide +kernel
theorem dL_isSettled_20 : decode cL_isSettled 20 = .ok (.iload_n 2, 1) := by decide +kernel
theorem dL_isSettled_21 : decode cL_isSettled 21 = .ok (.bipush 12, 2) := by decide +kernel
theorem dL_isSettled_23 : decode cL_isSettled 23 = .ok (.idiv, 1) := by decide +kernel
theorem dL_isSettled_24 : decode cL_isSettled 24 = .ok (.iconst 2, 1) := by decide +kernel
theorem dL_isSettled_25 : decode cL_isSettled 25 = .ok (.invokevirtual 22, 3) := by decide +kernel
theorem dL_isSettled_28 : decode cL_isSettled 28 = .ok (.iconst 1, 1) := by decide +kernel
theorem dL_isSettled_29 : decode cL_isSettled 29 = .ok (.if_icmp .eq 32, 3) := by decide +kernel
theorem dL_isSettled_32 : decode cL_isSettled 32 = .ok (.aload_n 0, 1) := by decide +kernel
theorem dL_isSettled_33 : decode cL_isSettled 33 = .ok (.iload_n 2, 1) := by decide +kernel
theorem dL_isSettled_34 : decode cL_isSettled 34 = .ok (.bipush 12, 2) := by decide +kernel
theorem dL_isSettled_36 : decode cL_isSettled 36 = .ok (.irem, 1) := by decide +kernel
theorem dL_isSettled_37 : decode cL_isSettled 37 = .ok (.iload_n 2, 1) := by decide +kernel
theorem dL_isSettled_38 : decode cL_isSettled 38 = .ok (.bipush 12, 2) := by decide +kernel
theorem dL_isSettled_40 : decode cL_isSettled 40 = .ok (.idiv, 1) := by decide +kernel
theorem dL_isSettled_41 : decode cL_isSettled 41 = .ok (.iconst 3, 1) := by decide +kernel
theorem dL_isSettled_42 : decode cL_isSettled 42 = .ok (.invokevirtual 22, 3) := by decide +kernel
theorem dL_isSettled_45 : decode cL_isSettled 45 = .ok (.aload_n 0, 1) := by decide +kernel
theorem dL_isSettled_46 : decode cL_isSettled 46 = .ok (.iload_n 2, 1) := by decide +kernel
theorem dL_isSettled_47 : decode cL_isSettled 47 = .ok (.bipush 12, 2) := by decide +kernel
theorem dL_isSettled_49 : decode cL_isSettled 49 = .ok (.irem, 1) := by decide +kernel
theorem dL_isSettled_50 : decode cL_isSettled 50 = .ok (.iload_n 2, 1) := by decide +kernel
theorem dL_isSettled_51 : decode cL_isSettled 51 = .ok (.bipush 12, 2) := by decide +kernel
theorem dL_isSettled_53 : decode cL_isSettled 53 = .ok (.idiv, 1) := by decide +kernel
theorem dL_isSettled_54 : decode cL_isSettled 54 = .ok (.iconst 4, 1) := by decide +kernel
theorem dL_isSettled_55 : decode cL_isSettled 55 = .ok (.invokevirtual 22, 3) := by decide +kernel
theorem dL_isSettled_58 : decode cL_isSettled 58 = .ok (.if_icmp .gt 7, 3) := by decide +kernel
theorem dL_isSettled_61 : decode cL_isSettled 61 = .ok (.iconst 1, 1) := by decide +kernel
theorem dL_isSettled_62 : decode cL_isSettled 62 = .ok (.goto 4, 3) := by decide +kernel
theorem dL_isSettled_65 : decode cL_isSettled 65 = .ok (.iconst 0, 1) := by decide +kernel
theorem dL_isSettled_66 : decode cL_isSettled 66 = .ok (.istore_n 1, 1) := by decide +kernel
theorem dL_isSettled_67 : decode cL_isSettled 67 = .ok (.iinc 2 1, 3) := by decide +kernel
theorem dL_isSettled_70 : decode cL_isSettled 70 = .ok (.goto (-66), 3) := by decide +kernel
theorem dL_isSettled_73 : decode cL_isSettled 73 = .ok (.iload_n 1, 1) := by decide +kernel
theorem dL_isSettled_74 : decode cL_isSettled 74 = .ok (.ireturn, 1) := by decide +kernel
theorem dL_law_0 : decode cL_law 0 = .ok (.new 13, 3) := by decide +kernel
theorem dL_law_3 : decode cL_law 3 = .ok (.dup, 1) := by decide +kernel
theorem dL_law_4 : decode cL_law 4 = .ok (.invokespecial 67, 3) := by decide +kernel
theorem dL_law_7 : decode cL_law 7 = .ok (.astore_n 1, 1) := by decide +kernel
theorem dL_law_8 : decode cL_law 8 = .ok (.iconst 0, 1) := by decide +kernel
theorem dL_law_9 : decode cL_law 9 = .ok (.istore_n 2, 1) := by decide +kernel
theorem dL_law_10 : decode cL_law 10 = .ok (.iload_n 2, 1) := by decide +kernel
theorem dL_law_11 : decode cL_law 11 = .ok (.bipush 26, 2) := by decide +kernel
theorem dL_law_13 : decode cL_law 13 = .ok (.if_icmp .ge 294, 3) := by decide +kernel
theorem dL_law_16 : decode cL_law 16 = .ok (.iload_n 2, 1) := by decide +kernel
theorem dL_law_17 : decode cL_law 17 = .ok (.iconst 4, 1) := by decide +kernel
theorem dL_law_18 : decode cL_law 18 = .ok (.if_icmp .ge 19, 3) := by decide +kernel
theorem dL_law_21 : decode cL_law 21 = .ok (.bipush 11, 2) := by decide +kernel
theorem dL_law_23 : decode cL_law 23 = .ok (.aload_n 0, 1) := by decide +kernel
theorem dL_law_24 : decode cL_law 24 = .ok (.iconst 2, 1) := by decide +kernel
theorem dL_law_25 : decode cL_law 25 = .ok (.iload_n 2, 1) := by decide +kernel
theorem dL_law_26 : decode cL_law 26 = .ok (.imul, 1) := by decide +kernel
theorem dL_law_27 : decode cL_law 27 = .ok (.invokestatic 68, 3) := by decide +kernel
theorem dL_law_30 : decode cL_law 30 = .ok (.bipush 48, 2) := by decide +kernel
theorem dL_law_32 : decode cL_law 32 = .ok (.iand, 1) := by decide +kernel
theorem dL_law_33 : decode cL_law 33 = .ok (.iadd, 1) := by decide +kernel
theorem dL_law_34 : decode cL_law 34 = .ok (.goto 10, 3) := by decide +kernel
theorem dL_law_37 : decode cL_law 37 = .ok (.aload_n 0, 1) := by decide +kernel
theorem dL_law_38 : decode cL_law 38 = .ok (.iconst 2, 1) := by decide +kernel
theorem dL_law_39 : decode cL_law 39 = .ok (.iload_n 2, 1) := by decide +kernel
theorem dL_law_40 : decode cL_law 40 = .ok (.imul, 1) := by decide +kernel
theorem dL_law_41 : decode cL_law 41 = .ok (.invokestatic 68, 3) := by decide +kernel
theorem dL_law_44 : decode cL_law 44 = .ok (.istore_n 3, 1) := by decide +kernel
theorem dL_law_45 : decode cL_law 45 = .ok (.aload_n 0, 1) := by decide +kernel
theorem dL_law_46 : decode cL_law 46 = .ok (.iconst 2, 1) := by decide +kernel
theorem dL_law_47 : decode cL_law 47 = .ok (.iload_n 2, 1) := by decide +kernel
theorem dL_law_48 : decode cL_law 48 = .ok (.imul, 1) := by decide +kernel
theorem dL_law_49 : decode cL_law 49 = .ok (.iconst 1, 1) := by decide +kernel
theorem dL_law_50 : decode cL_law 50 = .ok (.iadd, 1) := by decide +kernel
theorem dL_law_51 : decode cL_law 51 = .ok (.invokestatic 68, 3) := by decide +kernel
theorem dL_law_54 : decode cL_law 54 = .ok (.istore 4, 2) := by decide +kernel
theorem dL_law_56 : decode cL_law 56 = .ok (.aload_n 1, 1) := by decide +kernel
theorem dL_law_57 : decode cL_law 57 = .ok (.bipush 13, 2) := by decide +kernel
theorem dL_law_59 : decode cL_law 59 = .ok (.invokevirtual 12, 3) := by decide +kernel
theorem dL_law_62 : decode cL_law 62 = .ok (.bipush 6, 2) := by decide +kernel
theorem dL_law_64 : decode cL_law 64 = .ok (.if_icmp .ne 13, 3) := by decide +kernel
theorem dL_law_67 : decode cL_law 67 = .ok (.aload_n 1, 1) := by decide +kernel
theorem dL_law_68 : decode cL_law 68 = .ok (.invokevirtual 72, 3) := by decide +kernel
theorem dL_law_71 : decode cL_law 71 = .ok (.pop, 1) := by decide +kernel
theorem dL_law_72 : decode cL_law 72 = .ok (.aload_n 1, 1) := by decide +kernel
theorem dL_law_73 : decode cL_law 73 = .ok (.invokevirtual 72, 3) := by decide +kernel
theorem dL_law_76 : decode cL_law 76 = .ok (.pop, 1) := by decide +kernel
theorem dL_law_77 : decode cL_law 77 = .ok (.aload_n 1, 1) := by decide +kernel
theorem dL_law_78 : decode cL_law 78 = .ok (.bipush 13, 2) := by decide +kernel
theorem dL_law_80 : decode cL_law 80 = .ok (.invokevirtual 12, 3) := by decide +kernel
theorem dL_law_83 : decode cL_law 83 = .ok (.istore 5, 2) := by decide +kernel
theorem dL_law_85 : decode cL_law 85 = .ok (.aload_n 1, 1) := by decide +kernel
theorem dL_law_86 : decode cL_law 86 = .ok (.bipush 10, 2) := by decide +kernel
theorem dL_law_88 : decode cL_law 88 = .ok (.invokevirtual 12, 3) := by decide +kernel
theorem dL_law_91 : decode cL_law 91 = .ok (.istore 6, 2) := by decide +kernel
theorem dL_law_93 : decode cL_law 93 = .ok (.aload_n 1, 1) := by decide +kernel
theorem dL_law_94 : decode cL_law 94 = .ok (.invokestatic 75, 3) := by decide +kernel
theorem dL_law_97 : decode cL_law 97 = .ok (.lstore 7, 2) := by decide +kernel
theorem dL_law_99 : decode cL_law 99 = .ok (.aload_n 1, 1) := by decide +kernel
theorem dL_law_100 : decode cL_law 100 = .ok (.iload_n 3, 1) := by decide +kernel
theorem dL_law_101 : decode cL_law 101 = .ok (.iload 4, 2) := by decide +kernel
theorem dL_law_103 : decode cL_law 103 = .ok (.invokestatic 79, 3) := by decide +kernel
theorem dL_law_106 : decode cL_law 106 = .ok (.istore 9, 2) := by decide +kernel
theorem dL_law_108 : decode cL_law 108 = .ok (.aload_n 1, 1) := by decide +kernel
theorem dL_law_109 : decode cL_law 109 = .ok (.invokestatic 75, 3) := by decide +kernel
theorem dL_law_112 : decode cL_law 112 = .ok (.lstore 10, 2) := by decide +kernel
theorem dL_law_114 : decode cL_law 114 = .ok (.aload_n 1, 1) := by decide +kernel
theorem dL_law_115 : decode cL_law 115 = .ok (.bipush 13, 2) := by decide +kernel
theorem dL_law_117 : decode cL_law 117 = .ok (.invokevirtual 12, 3) := by decide +kernel
theorem dL_law_120 : decode cL_law 120 = .ok (.iload 5, 2) := by decide +kernel
theorem dL_law_122 : decode cL_law 122 = .ok (.iconst 1, 1) := by decide +kernel
theorem dL_law_123 : decode cL_law 123 = .ok (.iadd, 1) := by decide +kernel
theorem dL_law_124 : decode cL_law 124 = .ok (.if_icmp .eq 5, 3) := by decide +kernel
theorem dL_law_127 : decode cL_law 127 = .ok (.iconst 0, 1) := by decide +kernel
theorem dL_law_128 : decode cL_law 128 = .ok (.ireturn, 1) := by decide +kernel
theorem dL_law_129 : decode cL_law 129 = .ok (.iload_n 3, 1) := by decide +kernel
theorem dL_law_130 : decode cL_law 130 = .ok (.bipush 15, 2) := by decide +kernel
theorem dL_law_132 : decode cL_law 132 = .ok (.iand, 1) := by decide +kernel
theorem dL_law_133 : decode cL_law 133 = .ok (.istore 12, 2) := by decide +kernel
theorem dL_law_135 : decode cL_law 135 = .ok (.iload 12, 2) := by decide +kernel
theorem dL_law_137 : decode cL_law 137 = .ok (.iconst 5, 1) := by decide +kernel
theorem dL_law_138 : decode cL_law 138 = .ok (.if_icmp .le 21, 3) := by decide +kernel
theorem dL_law_141 : decode cL_law 141 = .ok (.iload 12, 2) := by decide +kernel
theorem dL_law_143 : decode cL_law 143 = .ok (.bipush 11, 2) := by decide +kernel
theorem dL_law_145 : decode cL_law 145 = .ok (.if_icmp .ge 14, 3) := by decide +kernel
theorem dL_law_148 : decode cL_law 148 = .ok (.iload 9, 2) := by decide +kernel
theorem dL_law_150 : decode cL_law 150 = .ok (.bipush 100, 2) := by decide +kernel
theorem dL_law_152 : decode cL_law 152 = .ok (.if_icmp .lt 7, 3) := by decide +kernel
theorem dL_law_155 : decode cL_law 155 = .ok (.iconst 1, 1) := by decide +kernel
theorem dL_law_156 : decode cL_law 156 = .ok (.goto 4, 3) := by decide +kernel
theorem dL_law_159 : decode cL_law 159 = .ok (.iconst 0, 1) := by decide +kernel
theorem dL_law_160 : decode cL_law 160 = .ok (.istore 13, 2) := by decide +kernel
theorem dL_law_162 : decode cL_law 162 = .ok (.iload 13, 2) := by decide +kernel
theorem dL_law_164 : decode cL_law 164 = .ok (.ifCond .eq 29, 3) := by decide +kernel
theorem dL_law_167 : decode cL_law 167 = .ok (.aload_n 1, 1) := by decide +kernel
theorem dL_law_168 : decode cL_law 168 = .ok (.bipush 10, 2) := by decide +kernel
theorem dL_law_170 : decode cL_law 170 = .ok (.invokevirtual 12, 3) := by decide +kernel
theorem dL_law_173 : decode cL_law 173 = .ok (.iload 6, 2) := by decide +kernel
theorem dL_law_175 : decode cL_law 175 = .ok (.iload 9, 2) := by decide +kernel
theorem dL_law_177 : decode cL_law 177 = .ok (.iadd, 1) := by decide +kernel
theorem dL_law_178 : decode cL_law 178 = .ok (.bipush 100, 2) := by decide +kernel
theorem dL_law_180 : decode cL_law 180 = .ok (.isub, 1) := by decide +kernel
theorem dL_law_181 : decode cL_law 181 = .ok (.if_icmp .ne 50, 3) := by decide +kernel
theorem dL_law_184 : decode cL_law 184 = .ok (.aload_n 1, 1) := by decide +kernel
theorem dL_law_185 : decode cL_law 185 = .ok (.bipush 9, 2) := by decide +kernel
theorem dL_law_187 : decode cL_law 187 = .ok (.invokevirtual 12, 3) := by decide +kernel
theorem dL_law_190 : decode cL_law 190 = .ok (.ifCond .ne 41, 3) := by decide +kernel
theorem dL_law_193 : decode cL_law 193 = .ok (.iload 12, 2) := by decide +kernel
theorem dL_law_195 : decode cL_law 195 = .ok (.iconst 3, 1) := by decide +kernel
theorem dL_law_196 : decode cL_law 196 = .ok (.if_icmp .ne 17, 3) := by decide +kernel
theorem dL_law_199 : decode cL_law 199 = .ok (.aload_n 1, 1) := by decide +kernel
theorem dL_law_200 : decode cL_law 200 = .ok (.bipush 10, 2) := by decide +kernel
theorem dL_law_202 : decode cL_law 202 = .ok (.invokevirtual 12, 3) := by decide +kernel
theorem dL_law_205 : decode cL_law 205 = .ok (.iload 6, 2) := by decide +kernel
theorem dL_law_207 : decode cL_law 207 = .ok (.iload 9, 2) := by decide +kernel
theorem dL_law_209 : decode cL_law 209 = .ok (.iadd, 1) := by decide +kernel
theorem dL_law_210 : decode cL_law 210 = .ok (.if_icmp .ne 21, 3) := by decide +kernel
theorem dL_law_213 : decode cL_law 213 = .ok (.iload 13, 2) := by decide +kernel
theorem dL_law_215 : decode cL_law 215 = .ok (.ifCond .ne 9, 3) := by decide +kernel
theorem dL_law_218 : decode cL_law 218 = .ok (.iload 12, 2) := by decide +kernel
theorem dL_law_220 : decode cL_law 220 = .ok (.iconst 3, 1) := by decide +kernel
theorem dL_law_221 : decode cL_law 221 = .ok (.if_icmp .ne 12, 3) := by decide +kernel
theorem dL_law_224 : decode cL_law 224 = .ok (.aload_n 1, 1) := by decide +kernel
theorem dL_law_225 : decode cL_law 225 = .ok (.invokestatic 83, 3) := by decide +kernel
theorem dL_law_228 : decode cL_law 228 = .ok (.ifCond .ne 5, 3) := by decide +kernel
theorem dL_law_231 : decode cL_law 231 = .ok (.iconst 0, 1) := by decide +kernel
theorem dL_law_232 : decode cL_law 232 = .ok (.ireturn, 1) := by decide +kernel
theorem dL_law_233 : decode cL_law 233 = .ok (.iload_n 3, 1) := by decide +kernel
theorem dL_law_234 : decode cL_law 234 = .ok (.bipush 8, 2) := by decide +kernel
theorem dL_law_236 : decode cL_law 236 = .ok (.ishr, 1) := by decide +kernel
theorem dL_law_237 : decode cL_law 237 = .ok (.iconst 1, 1) := by decide +kernel
theorem dL_law_238 : decode cL_law 238 = .ok (.iand, 1) := by decide +kernel
theorem dL_law_239 : decode cL_law 239 = .ok (.ifCond .ne 46, 3) := by decide +kernel
theorem dL_law_242 : decode cL_law 242 = .ok (.aload_n 1, 1) := by decide +kernel
theorem dL_law_243 : decode cL_law 243 = .ok (.invokevirtual 72, 3) := by decide +kernel
theorem dL_law_246 : decode cL_law 246 = .ok (.iload 5, 2) := by decide +kernel
theorem dL_law_248 : decode cL_law 248 = .ok (.if_icmp .ne 35, 3) := by decide +kernel
theorem dL_law_251 : decode cL_law 251 = .ok (.aload_n 1, 1) := by decide +kernel
theorem dL_law_252 : decode cL_law 252 = .ok (.invokestatic 75, 3) := by decide +kernel
theorem dL_law_255 : decode cL_law 255 = .ok (.lload 7, 2) := by decide +kernel
theorem dL_law_257 : decode cL_law 257 = .ok (.lcmp, 1) := by decide +kernel
theorem dL_law_258 : decode cL_law 258 = .ok (.ifCond .ne 25, 3) := by decide +kernel
theorem dL_law_261 : decode cL_law 261 = .ok (.aload_n 1, 1) := by decide +kernel
theorem dL_law_262 : decode cL_law 262 = .ok (.iload_n 3, 1) := by decide +kernel
theorem dL_law_263 : decode cL_law 263 = .ok (.iload 4, 2) := by decide +kernel
theorem dL_law_265 : decode cL_law 265 = .ok (.invokestatic 79, 3) := by decide +kernel
theorem dL_law_268 : decode cL_law 268 = .ok (.iload 9, 2) := by decide +kernel
theorem dL_law_270 : decode cL_law 270 = .ok (.if_icmp .ne 13, 3) := by decide +kernel
theorem dL_law_273 : decode cL_law 273 = .ok (.aload_n 1, 1) := by decide +kernel
theorem dL_law_274 : decode cL_law 274 = .ok (.invokestatic 75, 3) := by decide +kernel
theorem dL_law_277 : decode cL_law 277 = .ok (.lload 10, 2) := by decide +kernel
theorem dL_law_279 : decode cL_law 279 = .ok (.lcmp, 1) := by decide +kernel
theorem dL_law_280 : decode cL_law 280 = .ok (.ifCond .eq 5, 3) := by decide +kernel
theorem dL_law_283 : decode cL_law 283 = .ok (.iconst 0, 1) := by decide +kernel
theorem dL_law_284 : decode cL_law 284 = .ok (.ireturn, 1) := by decide +kernel
theorem dL_law_285 : decode cL_law 285 = .ok (.iload_n 2, 1) := by decide +kernel
theorem dL_law_286 : decode cL_law 286 = .ok (.iconst 2, 1) := by decide +kernel
theorem dL_law_287 : decode cL_law 287 = .ok (.irem, 1) := by decide +kernel
theorem dL_law_288 : decode cL_law 288 = .ok (.iconst 1, 1) := by decide +kernel
theorem dL_law_289 : decode cL_law 289 = .ok (.if_icmp .ne 12, 3) := by decide +kernel
theorem dL_law_292 : decode cL_law 292 = .ok (.aload_n 1, 1) := by decide +kernel
theorem dL_law_293 : decode cL_law 293 = .ok (.invokestatic 87, 3) := by decide +kernel
theorem dL_law_296 : decode cL_law 296 = .ok (.ifCond .ne 5, 3) := by decide +kernel
theorem dL_law_299 : decode cL_law 299 = .ok (.iconst 0, 1) := by decide +kernel
theorem dL_law_300 : decode cL_law 300 = .ok (.ireturn, 1) := by decide +kernel
theorem dL_law_301 : decode cL_law 301 = .ok (.iinc 2 1, 3) := by decide +kernel
theorem dL_law_304 : decode cL_law 304 = .ok (.goto (-294), 3) := by decide +kernel
theorem dL_law_307 : decode cL_law 307 = .ok (.iconst 1, 1) := by decide +kernel
theorem dL_law_308 : decode cL_law 308 = .ok (.ireturn, 1) := by decide +kernel
end
section
/-! THE WORDS: every good word of the tables, by its place -/
def WW : List Cond := lw_tbl.filter goodWord
theorem ww_mem {w : Cond} (h : w ∈ lw_tbl) (g : goodWord w = true) : w ∈ WW := List.mem_filter.mpr ⟨h, g⟩
theorem ww_in : ∀ w ∈ WW, w ∈ lw_tbl := fun w h => (List.mem_filter.mp h).1
theorem ww_good {w : Cond} (h : w ∈ WW) : (w.onTables && w.keeps) = true ∨ ∃ ty, w = .arrayClass ty := good_of_word (List.mem_filter.mp h).2
theorem ww_t {w : Cond} (h : w ∈ tables_1) : w ∈ lw_tbl := List.mem_append_right _ h
theorem ww_t1 {w : Cond} (i : Nat) (h0 : tables_1_1[i]? = some w) (g : goodWord w = true) : w ∈ WW := ww_mem (ww_t (by have h := List.mem_of_getElem? h0; exact List.mem_append_left _ h)) g
theorem ww_t2 {w : Cond} (i : Nat) (h0 : tables_1_2[i]? = some w) (g : goodWord w = true) : w ∈ WW := ww_mem (ww_t (by have h := List.mem_of_getElem? h0; exact List.mem_append_right _ (List.mem_append_left _ h))) g
theorem ww_t3 {w : Cond} (i : Nat) (h0 : tables_1_3[i]? = some w) (g : goodWord w = true) : w ∈ WW := ww_mem (ww_t (by have h := List.mem_of_getElem? h0; exact List.mem_append_right _ (List.mem_append_right _ (h)))) g
theorem w1_0 : Jvm.Cond.initialized "EmbossPressLaw" ∈ WW := ww_t1 0 (by decide +kernel) (by decide +kernel)
theorem w1_1 : Jvm.Cond.initialized "EmbossPress" ∈ WW := ww_t1 1 (by decide +kernel) (by decide +kernel)
theorem w1_2 : Jvm.Cond.initialized "EmbossPress$State" ∈ WW := ww_t1 2 (by decide +kernel) (by decide +kernel)
theorem w1_3 : Jvm.Cond.initialized "EmbossPress$Sheet" ∈ WW := ww_t1 3 (by decide +kernel) (by decide +kernel)
theorem w1_4 : Jvm.Cond.initialized "EmbossPress$DieText" ∈ WW := ww_t1 4 (by decide +kernel) (by decide +kernel)
theorem w1_5 : Jvm.Cond.initialized "EmbossPress$CrackFinder" ∈ WW := ww_t1 5 (by decide +kernel) (by decide +kernel)
theorem w1_6 : Jvm.Cond.initialized "java/lang/Throwable" ∈ WW := ww_t1 6 (by decide +kernel) (by decide +kernel)
theorem w1_7 : Jvm.Cond.initialized "java/lang/Exception" ∈ WW := ww_t1 7 (by decide +kernel) (by decide +kernel)
theorem w1_8 : Jvm.Cond.initialized "java/lang/RuntimeException" ∈ WW := ww_t1 8 (by decide +kernel) (by decide +kernel)
theorem w1_9 : Jvm.Cond.initialized "java/lang/IllegalArgumentException" ∈ WW := ww_t1 9 (by decide +kernel) (by decide +kernel)
theorem w1_10 : Jvm.Cond.initialized "java/lang/Math" ∈ WW := ww_t1 10 (by decide +kernel) (by decide +kernel)
theorem w1_11 : Jvm.Cond.initialized "java/lang/IllegalStateException" ∈ WW := ww_t1 11 (by decide +kernel) (by decide +kernel)
theorem w1_12 : Jvm.Cond.initialized "java/lang/System" ∈ WW := ww_t1 12 (by decide +kernel) (by decide +kernel)
theorem w1_13 : Jvm.Cond.initialized "java/lang/IndexOutOfBoundsException" ∈ WW := ww_t1 13 (by decide +kernel) (by decide +kernel)
theorem w1_14 : Jvm.Cond.initialized "java/util/Arrays" ∈ WW := ww_t1 14 (by decide +kernel) (by decide +kernel)
theorem w1_15 : Jvm.Cond.classLink "EmbossPressLaw" (13 : Nat) "EmbossPress" ∈ WW := ww_t1 15 (by decide +kernel) (by decide +kernel)
theorem w1_16 : Jvm.Cond.instantiable "EmbossPress" (10 : Nat) ∈ WW := ww_t1 16 (by decide +kernel) (by decide +kernel)
theorem w1_17 : Jvm.Cond.methodLink "EmbossPressLaw" (67 : Nat) ({ cls := "EmbossPress", name := "<init>", desc := "()V" } : Jvm.MethodName) ∈ WW := ww_t1 17 (by decide +kernel) (by decide +kernel)
theorem w1_18 : Jvm.Cond.instanceMethod ({ cls := "EmbossPress", name := "<init>", desc := "()V" } : Jvm.MethodName) ∈ WW := ww_t1 18 (by decide +kernel) (by decide +kernel)
theorem w1_19 : Jvm.Cond.code ({ cls := "EmbossPress", name := "<init>", desc := "()V" } : Jvm.MethodName) prog_1_method_1_code (2 : Nat) (Option.none : Option Jvm.ClassFile.FieldType) ∈ WW := ww_t1 19 (by decide +kernel) (by decide +kernel)
theorem w1_20 : Jvm.Cond.methodLink "EmbossPress" (3 : Nat) ({ cls := "java/lang/Object", name := "<init>", desc := "()V" } : Jvm.MethodName) ∈ WW := ww_t1 20 (by decide +kernel) (by decide +kernel)
theorem w1_21 : Jvm.Cond.instanceMethod ({ cls := "java/lang/Object", name := "<init>", desc := "()V" } : Jvm.MethodName) ∈ WW := ww_t1 21 (by decide +kernel) (by decide +kernel)
theorem w1_22 : Jvm.Cond.code ({ cls := "java/lang/Object", name := "<init>", desc := "()V" } : Jvm.MethodName) object_method_1_code (1 : Nat) (Option.none : Option Jvm.ClassFile.FieldType) ∈ WW := ww_t1 22 (by decide +kernel) (by decide +kernel)
theorem w1_23 : Jvm.Cond.classLink "EmbossPress" (9 : Nat) "EmbossPress$State" ∈ WW := ww_t1 23 (by decide +kernel) (by decide +kernel)
theorem w1_24 : Jvm.Cond.instantiable "EmbossPress$State" (15 : Nat) ∈ WW := ww_t1 24 (by decide +kernel) (by decide +kernel)
theorem w1_26 : Jvm.Cond.instanceMethod ({ cls := "EmbossPress$State", name := "<init>", desc := "()V" } : Jvm.MethodName) ∈ WW := ww_t1 26 (by decide +kernel) (by decide +kernel)
theorem w1_27 : Jvm.Cond.code ({ cls := "EmbossPress$State", name := "<init>", desc := "()V" } : Jvm.MethodName) prog_5_method_1_code (1 : Nat) (Option.none : Option Jvm.ClassFile.FieldType) ∈ WW := ww_t1 27 (by decide +kernel) (by decide +kernel)
theorem w1_28 : Jvm.Cond.methodLink "EmbossPress$State" (3 : Nat) ({ cls := "java/lang/Object", name := "<init>", desc := "()V" } : Jvm.MethodName) ∈ WW := ww_t1 28 (by decide +kernel) (by decide +kernel)
theorem w1_31 : Jvm.Cond.methodLink "EmbossPress$State" (18 : Nat) ({ cls := "[I", name := "clone", desc := "()Ljava/lang/Object;" } : Jvm.MethodName) ∈ WW := ww_t1 31 (by decide +kernel) (by decide +kernel)
theorem w1_33 : Jvm.Cond.native ({ cls := "java/lang/Object", name := "clone", desc := "()Ljava/lang/Object;" } : Jvm.MethodName) ∈ WW := ww_t1 33 (by decide +kernel) (by decide +kernel)
theorem w1_34 : Jvm.Cond.instanceMethod ({ cls := "java/lang/Object", name := "clone", desc := "()Ljava/lang/Object;" } : Jvm.MethodName) ∈ WW := ww_t1 34 (by decide +kernel) (by decide +kernel)
theorem w1_35 : Jvm.Cond.selects "[I" ({ cls := "[I", name := "clone", desc := "()Ljava/lang/Object;" } : Jvm.MethodName) ({ cls := "java/lang/Object", name := "clone", desc := "()Ljava/lang/Object;" } : Jvm.MethodName) ∈ WW := ww_t1 35 (by decide +kernel) (by decide +kernel)
theorem w1_37 : Jvm.Cond.classLink "EmbossPress$State" (19 : Nat) "[I" ∈ WW := ww_t1 37 (by decide +kernel) (by decide +kernel)
theorem w1_38 : Jvm.Cond.classLink "EmbossPress$State" (26 : Nat) "EmbossPress$Sheet" ∈ WW := ww_t1 38 (by decide +kernel) (by decide +kernel)
theorem w1_39 : Jvm.Cond.instantiable "EmbossPress$Sheet" (4 : Nat) ∈ WW := ww_t1 39 (by decide +kernel) (by decide +kernel)
theorem w1_41 : Jvm.Cond.instanceMethod ({ cls := "EmbossPress$Sheet", name := "<init>", desc := "()V" } : Jvm.MethodName) ∈ WW := ww_t1 41 (by decide +kernel) (by decide +kernel)
theorem w1_42 : Jvm.Cond.code ({ cls := "EmbossPress$Sheet", name := "<init>", desc := "()V" } : Jvm.MethodName) prog_4_method_1_code (1 : Nat) (Option.none : Option Jvm.ClassFile.FieldType) ∈ WW := ww_t1 42 (by decide +kernel) (by decide +kernel)
theorem w1_43 : Jvm.Cond.methodLink "EmbossPress$Sheet" (3 : Nat) ({ cls := "java/lang/Object", name := "<init>", desc := "()V" } : Jvm.MethodName) ∈ WW := ww_t1 43 (by decide +kernel) (by decide +kernel)
theorem w1_44 : Jvm.Cond.fieldLink "EmbossPress$Sheet" (9 : Nat) "EmbossPress$Sheet" "depths" "[I" ∈ WW := ww_t1 44 (by decide +kernel) (by decide +kernel)
theorem w1_45 : Jvm.Cond.fieldLink "EmbossPress" (343 : Nat) "EmbossPress$Sheet" "depths" "[I" ∈ WW := ww_t1 45 (by decide +kernel) (by decide +kernel)
theorem w1_46 : Jvm.Cond.fieldLink "EmbossPress$Sheet" (15 : Nat) "EmbossPress$Sheet" "foils" "[I" ∈ WW := ww_t1 46 (by decide +kernel) (by decide +kernel)
theorem w1_47 : Jvm.Cond.fieldLink "EmbossPress$State" (96 : Nat) "EmbossPress$Sheet" "foils" "[I" ∈ WW := ww_t1 47 (by decide +kernel) (by decide +kernel)
theorem w1_48 : Jvm.Cond.fieldLink "EmbossPress" (346 : Nat) "EmbossPress$Sheet" "foils" "[I" ∈ WW := ww_t1 48 (by decide +kernel) (by decide +kernel)
theorem w1_49 : Jvm.Cond.fieldLink "EmbossPress$Sheet" (18 : Nat) "EmbossPress$Sheet" "cracks" "[I" ∈ WW := ww_t1 49 (by decide +kernel) (by decide +kernel)
theorem w1_50 : Jvm.Cond.fieldLink "EmbossPress$CrackFinder" (58 : Nat) "EmbossPress$Sheet" "cracks" "[I" ∈ WW := ww_t1 50 (by decide +kernel) (by decide +kernel)
theorem w1_51 : Jvm.Cond.fieldLink "EmbossPress" (349 : Nat) "EmbossPress$Sheet" "cracks" "[I" ∈ WW := ww_t1 51 (by decide +kernel) (by decide +kernel)
theorem w1_52 : Jvm.Cond.fieldLink "EmbossPress$Sheet" (21 : Nat) "EmbossPress$Sheet" "pressings" "[I" ∈ WW := ww_t1 52 (by decide +kernel) (by decide +kernel)
theorem w1_53 : Jvm.Cond.fieldLink "EmbossPress" (361 : Nat) "EmbossPress$Sheet" "pressings" "[I" ∈ WW := ww_t1 53 (by decide +kernel) (by decide +kernel)
theorem w1_54 : Jvm.Cond.laysFinal "EmbossPress$Sheet" "EmbossPress$Sheet" "depths" "[I" ∈ WW := ww_t1 54 (by decide +kernel) (by decide +kernel)
theorem w1_56 : Jvm.Cond.laysFinal "EmbossPress$Sheet" "EmbossPress$Sheet" "foils" "[I" ∈ WW := ww_t1 56 (by decide +kernel) (by decide +kernel)
theorem w1_58 : Jvm.Cond.laysFinal "EmbossPress$Sheet" "EmbossPress$Sheet" "cracks" "[I" ∈ WW := ww_t1 58 (by decide +kernel) (by decide +kernel)
theorem w1_60 : Jvm.Cond.laysFinal "EmbossPress$Sheet" "EmbossPress$Sheet" "pressings" "[I" ∈ WW := ww_t1 60 (by decide +kernel) (by decide +kernel)
theorem w1_63 : Jvm.Cond.arrayClass Jvm.ClassFile.FieldType.int ∈ WW := ww_t1 63 (by decide +kernel) (by decide +kernel)
theorem w1_64 : Jvm.Cond.fieldLink "EmbossPress$State" (9 : Nat) "EmbossPress$State" "points" "[I" ∈ WW := ww_t1 64 (by decide +kernel) (by decide +kernel)
theorem w1_65 : Jvm.Cond.fieldLink "EmbossPress" (79 : Nat) "EmbossPress$State" "points" "[I" ∈ WW := ww_t1 65 (by decide +kernel) (by decide +kernel)
theorem w1_66 : Jvm.Cond.fieldLink "EmbossPress$State" (23 : Nat) "EmbossPress$State" "settings" "[I" ∈ WW := ww_t1 66 (by decide +kernel) (by decide +kernel)
theorem w1_67 : Jvm.Cond.fieldLink "EmbossPress" (165 : Nat) "EmbossPress$State" "settings" "[I" ∈ WW := ww_t1 67 (by decide +kernel) (by decide +kernel)
theorem w1_68 : Jvm.Cond.fieldLink "EmbossPress$State" (29 : Nat) "EmbossPress$State" "paper" "LEmbossPress$Sheet;" ∈ WW := ww_t1 68 (by decide +kernel) (by decide +kernel)
theorem w1_69 : Jvm.Cond.fieldLink "EmbossPress" (88 : Nat) "EmbossPress$State" "paper" "LEmbossPress$Sheet;" ∈ WW := ww_t1 69 (by decide +kernel) (by decide +kernel)
theorem w1_70 : Jvm.Cond.fieldLink "EmbossPress$State" (47 : Nat) "EmbossPress$State" "slip" "I" ∈ WW := ww_t1 70 (by decide +kernel) (by decide +kernel)
theorem w1_71 : Jvm.Cond.fieldLink "EmbossPress" (121 : Nat) "EmbossPress$State" "slip" "I" ∈ WW := ww_t1 71 (by decide +kernel) (by decide +kernel)
theorem w1_72 : Jvm.Cond.fieldLink "EmbossPress$State" (50 : Nat) "EmbossPress$State" "presses" "I" ∈ WW := ww_t1 72 (by decide +kernel) (by decide +kernel)
theorem w1_73 : Jvm.Cond.fieldLink "EmbossPress" (234 : Nat) "EmbossPress$State" "presses" "I" ∈ WW := ww_t1 73 (by decide +kernel) (by decide +kernel)
theorem w1_74 : Jvm.Cond.fieldLink "EmbossPress$State" (53 : Nat) "EmbossPress$State" "pressesSincePin" "I" ∈ WW := ww_t1 74 (by decide +kernel) (by decide +kernel)
theorem w1_75 : Jvm.Cond.fieldLink "EmbossPress" (324 : Nat) "EmbossPress$State" "pressesSincePin" "I" ∈ WW := ww_t1 75 (by decide +kernel) (by decide +kernel)
theorem w1_76 : Jvm.Cond.fieldLink "EmbossPress$State" (56 : Nat) "EmbossPress$State" "refusals" "I" ∈ WW := ww_t1 76 (by decide +kernel) (by decide +kernel)
theorem w1_77 : Jvm.Cond.fieldLink "EmbossPress" (154 : Nat) "EmbossPress$State" "refusals" "I" ∈ WW := ww_t1 77 (by decide +kernel) (by decide +kernel)
theorem w1_78 : Jvm.Cond.fieldLink "EmbossPress$State" (59 : Nat) "EmbossPress$State" "cracksSoFar" "I" ∈ WW := ww_t1 78 (by decide +kernel) (by decide +kernel)
theorem w1_79 : Jvm.Cond.fieldLink "EmbossPress" (176 : Nat) "EmbossPress$State" "cracksSoFar" "I" ∈ WW := ww_t1 79 (by decide +kernel) (by decide +kernel)
theorem w1_80 : Jvm.Cond.fieldLink "EmbossPress$State" (33 : Nat) "EmbossPress$State" "sheets" "I" ∈ WW := ww_t1 80 (by decide +kernel) (by decide +kernel)
theorem w1_81 : Jvm.Cond.fieldLink "EmbossPress" (118 : Nat) "EmbossPress$State" "sheets" "I" ∈ WW := ww_t1 81 (by decide +kernel) (by decide +kernel)
theorem w1_82 : Jvm.Cond.fieldLink "EmbossPress$State" (62 : Nat) "EmbossPress$State" "folds" "I" ∈ WW := ww_t1 82 (by decide +kernel) (by decide +kernel)
theorem w1_83 : Jvm.Cond.fieldLink "EmbossPress" (179 : Nat) "EmbossPress$State" "folds" "I" ∈ WW := ww_t1 83 (by decide +kernel) (by decide +kernel)
theorem w1_84 : Jvm.Cond.fieldLink "EmbossPress$State" (65 : Nat) "EmbossPress$State" "readyFoil" "I" ∈ WW := ww_t1 84 (by decide +kernel) (by decide +kernel)
theorem w1_85 : Jvm.Cond.fieldLink "EmbossPress" (114 : Nat) "EmbossPress$State" "readyFoil" "I" ∈ WW := ww_t1 85 (by decide +kernel) (by decide +kernel)
theorem w1_86 : Jvm.Cond.fieldLink "EmbossPress$State" (68 : Nat) "EmbossPress$State" "readyLeft" "I" ∈ WW := ww_t1 86 (by decide +kernel) (by decide +kernel)
theorem w1_87 : Jvm.Cond.fieldLink "EmbossPress" (128 : Nat) "EmbossPress$State" "readyLeft" "I" ∈ WW := ww_t1 87 (by decide +kernel) (by decide +kernel)
theorem w1_88 : Jvm.Cond.fieldLink "EmbossPress$State" (71 : Nat) "EmbossPress$State" "readyTop" "I" ∈ WW := ww_t1 88 (by decide +kernel) (by decide +kernel)
theorem w1_89 : Jvm.Cond.fieldLink "EmbossPress" (131 : Nat) "EmbossPress$State" "readyTop" "I" ∈ WW := ww_t1 89 (by decide +kernel) (by decide +kernel)
theorem w1_90 : Jvm.Cond.fieldLink "EmbossPress$State" (74 : Nat) "EmbossPress$State" "readyRight" "I" ∈ WW := ww_t1 90 (by decide +kernel) (by decide +kernel)
theorem w1_91 : Jvm.Cond.fieldLink "EmbossPress" (134 : Nat) "EmbossPress$State" "readyRight" "I" ∈ WW := ww_t1 91 (by decide +kernel) (by decide +kernel)
theorem w1_92 : Jvm.Cond.fieldLink "EmbossPress$State" (77 : Nat) "EmbossPress$State" "readyBottom" "I" ∈ WW := ww_t1 92 (by decide +kernel) (by decide +kernel)
theorem w1_93 : Jvm.Cond.fieldLink "EmbossPress" (137 : Nat) "EmbossPress$State" "readyBottom" "I" ∈ WW := ww_t1 93 (by decide +kernel) (by decide +kernel)
theorem w1_94 : Jvm.Cond.laysFinal "EmbossPress$State" "EmbossPress$State" "points" "[I" ∈ WW := ww_t1 94 (by decide +kernel) (by decide +kernel)
theorem w1_96 : Jvm.Cond.laysFinal "EmbossPress$State" "EmbossPress$State" "settings" "[I" ∈ WW := ww_t1 96 (by decide +kernel) (by decide +kernel)
theorem w1_98 : Jvm.Cond.laysFinal "EmbossPress$State" "EmbossPress$State" "paper" "LEmbossPress$Sheet;" ∈ WW := ww_t1 98 (by decide +kernel) (by decide +kernel)
theorem w1_100 : Jvm.Cond.lays "EmbossPress$State" "EmbossPress$State" "slip" "I" ∈ WW := ww_t1 100 (by decide +kernel) (by decide +kernel)
theorem w1_102 : Jvm.Cond.lays "EmbossPress$State" "EmbossPress$State" "presses" "I" ∈ WW := ww_t1 102 (by decide +kernel) (by decide +kernel)
theorem w1_104 : Jvm.Cond.lays "EmbossPress$State" "EmbossPress$State" "pressesSincePin" "I" ∈ WW := ww_t1 104 (by decide +kernel) (by decide +kernel)
theorem w1_106 : Jvm.Cond.lays "EmbossPress$State" "EmbossPress$State" "refusals" "I" ∈ WW := ww_t1 106 (by decide +kernel) (by decide +kernel)
theorem w1_108 : Jvm.Cond.lays "EmbossPress$State" "EmbossPress$State" "cracksSoFar" "I" ∈ WW := ww_t1 108 (by decide +kernel) (by decide +kernel)
theorem w1_110 : Jvm.Cond.lays "EmbossPress$State" "EmbossPress$State" "sheets" "I" ∈ WW := ww_t1 110 (by decide +kernel) (by decide +kernel)
theorem w1_112 : Jvm.Cond.lays "EmbossPress$State" "EmbossPress$State" "folds" "I" ∈ WW := ww_t1 112 (by decide +kernel) (by decide +kernel)
theorem w1_114 : Jvm.Cond.lays "EmbossPress$State" "EmbossPress$State" "readyFoil" "I" ∈ WW := ww_t1 114 (by decide +kernel) (by decide +kernel)
theorem w1_116 : Jvm.Cond.lays "EmbossPress$State" "EmbossPress$State" "readyLeft" "I" ∈ WW := ww_t1 116 (by decide +kernel) (by decide +kernel)
theorem w1_118 : Jvm.Cond.lays "EmbossPress$State" "EmbossPress$State" "readyTop" "I" ∈ WW := ww_t1 118 (by decide +kernel) (by decide +kernel)
theorem w1_120 : Jvm.Cond.lays "EmbossPress$State" "EmbossPress$State" "readyRight" "I" ∈ WW := ww_t1 120 (by decide +kernel) (by decide +kernel)
theorem w1_122 : Jvm.Cond.lays "EmbossPress$State" "EmbossPress$State" "readyBottom" "I" ∈ WW := ww_t1 122 (by decide +kernel) (by decide +kernel)
theorem w1_126 : Jvm.Cond.classLink "EmbossPress" (27 : Nat) "EmbossPress$DieText" ∈ WW := ww_t1 126 (by decide +kernel) (by decide +kernel)
theorem w1_127 : Jvm.Cond.instantiable "EmbossPress$DieText" (2 : Nat) ∈ WW := ww_t1 127 (by decide +kernel) (by decide +kernel)
theorem w1_129 : Jvm.Cond.instanceMethod ({ cls := "EmbossPress$DieText", name := "<init>", desc := "()V" } : Jvm.MethodName) ∈ WW := ww_t1 129 (by decide +kernel) (by decide +kernel)
theorem w1_130 : Jvm.Cond.code ({ cls := "EmbossPress$DieText", name := "<init>", desc := "()V" } : Jvm.MethodName) prog_3_method_1_code (1 : Nat) (Option.none : Option Jvm.ClassFile.FieldType) ∈ WW := ww_t1 130 (by decide +kernel) (by decide +kernel)
theorem w1_131 : Jvm.Cond.methodLink "EmbossPress$DieText" (3 : Nat) ({ cls := "java/lang/Object", name := "<init>", desc := "()V" } : Jvm.MethodName) ∈ WW := ww_t1 131 (by decide +kernel) (by decide +kernel)
theorem w1_132 : Jvm.Cond.fieldLink "EmbossPress$DieText" (9 : Nat) "EmbossPress$DieText" "codes" "[I" ∈ WW := ww_t1 132 (by decide +kernel) (by decide +kernel)
theorem w1_133 : Jvm.Cond.laysFinal "EmbossPress$DieText" "EmbossPress$DieText" "codes" "[I" ∈ WW := ww_t1 133 (by decide +kernel) (by decide +kernel)
theorem w1_135 : Jvm.Cond.lays "EmbossPress$DieText" "EmbossPress$DieText" "length" "I" ∈ WW := ww_t1 135 (by decide +kernel) (by decide +kernel)
theorem w1_138 : Jvm.Cond.arrayClass Jvm.ClassFile.FieldType.boolean ∈ WW := ww_t1 138 (by decide +kernel) (by decide +kernel)
theorem w1_139 : Jvm.Cond.classLink "EmbossPress" (38 : Nat) "EmbossPress$Sheet" ∈ WW := ww_t1 139 (by decide +kernel) (by decide +kernel)
theorem w1_141 : Jvm.Cond.classLink "EmbossPress" (45 : Nat) "EmbossPress$CrackFinder" ∈ WW := ww_t1 141 (by decide +kernel) (by decide +kernel)
theorem w1_142 : Jvm.Cond.instantiable "EmbossPress$CrackFinder" (4 : Nat) ∈ WW := ww_t1 142 (by decide +kernel) (by decide +kernel)
theorem w1_144 : Jvm.Cond.instanceMethod ({ cls := "EmbossPress$CrackFinder", name := "<init>", desc := "()V" } : Jvm.MethodName) ∈ WW := ww_t1 144 (by decide +kernel) (by decide +kernel)
theorem w1_145 : Jvm.Cond.code ({ cls := "EmbossPress$CrackFinder", name := "<init>", desc := "()V" } : Jvm.MethodName) prog_2_method_1_code (1 : Nat) (Option.none : Option Jvm.ClassFile.FieldType) ∈ WW := ww_t1 145 (by decide +kernel) (by decide +kernel)
theorem w1_146 : Jvm.Cond.methodLink "EmbossPress$CrackFinder" (3 : Nat) ({ cls := "java/lang/Object", name := "<init>", desc := "()V" } : Jvm.MethodName) ∈ WW := ww_t1 146 (by decide +kernel) (by decide +kernel)
theorem w1_147 : Jvm.Cond.fieldLink "EmbossPress$CrackFinder" (9 : Nat) "EmbossPress$CrackFinder" "strains" "[I" ∈ WW := ww_t1 147 (by decide +kernel) (by decide +kernel)
theorem w1_148 : Jvm.Cond.fieldLink "EmbossPress$CrackFinder" (15 : Nat) "EmbossPress$CrackFinder" "beside" "[I" ∈ WW := ww_t1 148 (by decide +kernel) (by decide +kernel)
theorem w1_149 : Jvm.Cond.fieldLink "EmbossPress$CrackFinder" (18 : Nat) "EmbossPress$CrackFinder" "breaking" "[I" ∈ WW := ww_t1 149 (by decide +kernel) (by decide +kernel)
theorem w1_150 : Jvm.Cond.fieldLink "EmbossPress$CrackFinder" (34 : Nat) "EmbossPress$CrackFinder" "breakingCount" "I" ∈ WW := ww_t1 150 (by decide +kernel) (by decide +kernel)
theorem w1_151 : Jvm.Cond.laysFinal "EmbossPress$CrackFinder" "EmbossPress$CrackFinder" "strains" "[I" ∈ WW := ww_t1 151 (by decide +kernel) (by decide +kernel)
theorem w1_153 : Jvm.Cond.laysFinal "EmbossPress$CrackFinder" "EmbossPress$CrackFinder" "beside" "[I" ∈ WW := ww_t1 153 (by decide +kernel) (by decide +kernel)
theorem w1_155 : Jvm.Cond.laysFinal "EmbossPress$CrackFinder" "EmbossPress$CrackFinder" "breaking" "[I" ∈ WW := ww_t1 155 (by decide +kernel) (by decide +kernel)
theorem w1_157 : Jvm.Cond.lays "EmbossPress$CrackFinder" "EmbossPress$CrackFinder" "breakingCount" "I" ∈ WW := ww_t1 157 (by decide +kernel) (by decide +kernel)
theorem w1_160 : Jvm.Cond.fieldLink "EmbossPress" (12 : Nat) "EmbossPress" "now" "LEmbossPress$State;" ∈ WW := ww_t1 160 (by decide +kernel) (by decide +kernel)
theorem w1_161 : Jvm.Cond.fieldLink "EmbossPress" (16 : Nat) "EmbossPress" "slots" "[LEmbossPress$State;" ∈ WW := ww_t1 161 (by decide +kernel) (by decide +kernel)
theorem w1_162 : Jvm.Cond.fieldLink "EmbossPress" (20 : Nat) "EmbossPress" "slotTaken" "[Z" ∈ WW := ww_t1 162 (by decide +kernel) (by decide +kernel)
theorem w1_163 : Jvm.Cond.fieldLink "EmbossPress" (24 : Nat) "EmbossPress" "saved" "[LEmbossPress$State;" ∈ WW := ww_t1 163 (by decide +kernel) (by decide +kernel)
theorem w1_164 : Jvm.Cond.fieldLink "EmbossPress" (244 : Nat) "EmbossPress" "oldestSaved" "I" ∈ WW := ww_t1 164 (by decide +kernel) (by decide +kernel)
theorem w1_165 : Jvm.Cond.fieldLink "EmbossPress" (239 : Nat) "EmbossPress" "savedCount" "I" ∈ WW := ww_t1 165 (by decide +kernel) (by decide +kernel)
theorem w1_166 : Jvm.Cond.fieldLink "EmbossPress" (30 : Nat) "EmbossPress" "buffer" "LEmbossPress$DieText;" ∈ WW := ww_t1 166 (by decide +kernel) (by decide +kernel)
theorem w1_167 : Jvm.Cond.fieldLink "EmbossPress" (34 : Nat) "EmbossPress" "relief" "[I" ∈ WW := ww_t1 167 (by decide +kernel) (by decide +kernel)
theorem w1_168 : Jvm.Cond.fieldLink "EmbossPress" (41 : Nat) "EmbossPress" "trial" "LEmbossPress$Sheet;" ∈ WW := ww_t1 168 (by decide +kernel) (by decide +kernel)
theorem w1_169 : Jvm.Cond.fieldLink "EmbossPress" (48 : Nat) "EmbossPress" "finder" "LEmbossPress$CrackFinder;" ∈ WW := ww_t1 169 (by decide +kernel) (by decide +kernel)
theorem w1_170 : Jvm.Cond.laysFinal "EmbossPress" "EmbossPress" "now" "LEmbossPress$State;" ∈ WW := ww_t1 170 (by decide +kernel) (by decide +kernel)
theorem w1_172 : Jvm.Cond.laysFinal "EmbossPress" "EmbossPress" "slots" "[LEmbossPress$State;" ∈ WW := ww_t1 172 (by decide +kernel) (by decide +kernel)
theorem w1_174 : Jvm.Cond.laysFinal "EmbossPress" "EmbossPress" "slotTaken" "[Z" ∈ WW := ww_t1 174 (by decide +kernel) (by decide +kernel)
theorem w1_176 : Jvm.Cond.laysFinal "EmbossPress" "EmbossPress" "saved" "[LEmbossPress$State;" ∈ WW := ww_t1 176 (by decide +kernel) (by decide +kernel)
theorem w1_178 : Jvm.Cond.lays "EmbossPress" "EmbossPress" "oldestSaved" "I" ∈ WW := ww_t1 178 (by decide +kernel) (by decide +kernel)
theorem w1_180 : Jvm.Cond.lays "EmbossPress" "EmbossPress" "savedCount" "I" ∈ WW := ww_t1 180 (by decide +kernel) (by decide +kernel)
theorem w1_182 : Jvm.Cond.laysFinal "EmbossPress" "EmbossPress" "buffer" "LEmbossPress$DieText;" ∈ WW := ww_t1 182 (by decide +kernel) (by decide +kernel)
theorem w1_184 : Jvm.Cond.laysFinal "EmbossPress" "EmbossPress" "relief" "[I" ∈ WW := ww_t1 184 (by decide +kernel) (by decide +kernel)
theorem w1_186 : Jvm.Cond.laysFinal "EmbossPress" "EmbossPress" "trial" "LEmbossPress$Sheet;" ∈ WW := ww_t1 186 (by decide +kernel) (by decide +kernel)
theorem w1_188 : Jvm.Cond.laysFinal "EmbossPress" "EmbossPress" "finder" "LEmbossPress$CrackFinder;" ∈ WW := ww_t1 188 (by decide +kernel) (by decide +kernel)
theorem w1_191 : Jvm.Cond.methodLink "EmbossPressLaw" (72 : Nat) ({ cls := "EmbossPress", name := "undo", desc := "()I" } : Jvm.MethodName) ∈ WW := ww_t1 191 (by decide +kernel) (by decide +kernel)
theorem w1_192 : Jvm.Cond.instanceMethod ({ cls := "EmbossPress", name := "undo", desc := "()I" } : Jvm.MethodName) ∈ WW := ww_t1 192 (by decide +kernel) (by decide +kernel)
theorem w1_193 : Jvm.Cond.selects "EmbossPress" ({ cls := "EmbossPress", name := "undo", desc := "()I" } : Jvm.MethodName) ({ cls := "EmbossPress", name := "undo", desc := "()I" } : Jvm.MethodName) ∈ WW := ww_t1 193 (by decide +kernel) (by decide +kernel)
theorem w1_194 : Jvm.Cond.code ({ cls := "EmbossPress", name := "undo", desc := "()I" } : Jvm.MethodName) prog_1_method_16_code (1 : Nat) (Option.some Jvm.ClassFile.FieldType.int) ∈ WW := ww_t1 194 (by decide +kernel) (by decide +kernel)
theorem w1_195 : Jvm.Cond.classLink "EmbossPress" (201 : Nat) "java/lang/IllegalStateException" ∈ WW := ww_t1 195 (by decide +kernel) (by decide +kernel)
theorem w1_196 : Jvm.Cond.instantiable "java/lang/IllegalStateException" (6 : Nat) ∈ WW := ww_t1 196 (by decide +kernel) (by decide +kernel)
theorem w1_234 : Jvm.Cond.instantiable "java/lang/Throwable" (6 : Nat) ∈ WW := ww_t1 234 (by decide +kernel) (by decide +kernel)
theorem w1_237 : Jvm.Cond.methodLink "EmbossPress" (205 : Nat) ({ cls := "java/lang/IllegalStateException", name := "<init>", desc := "(Ljava/lang/String;)V" } : Jvm.MethodName) ∈ WW := ww_t1 237 (by decide +kernel) (by decide +kernel)
theorem w2_22 : Jvm.Cond.arrayClass Jvm.ClassFile.FieldType.byte ∈ WW := ww_t2 22 (by decide +kernel) (by decide +kernel)
theorem w2_23 : Jvm.Cond.methodLink "EmbossPress" (230 : Nat) ({ cls := "EmbossPress$State", name := "copyFrom", desc := "(LEmbossPress$State;)V" } : Jvm.MethodName) ∈ WW := ww_t2 23 (by decide +kernel) (by decide +kernel)
theorem w2_24 : Jvm.Cond.instanceMethod ({ cls := "EmbossPress$State", name := "copyFrom", desc := "(LEmbossPress$State;)V" } : Jvm.MethodName) ∈ WW := ww_t2 24 (by decide +kernel) (by decide +kernel)
theorem w2_25 : Jvm.Cond.selects "EmbossPress$State" ({ cls := "EmbossPress$State", name := "copyFrom", desc := "(LEmbossPress$State;)V" } : Jvm.MethodName) ({ cls := "EmbossPress$State", name := "copyFrom", desc := "(LEmbossPress$State;)V" } : Jvm.MethodName) ∈ WW := ww_t2 25 (by decide +kernel) (by decide +kernel)
theorem w2_26 : Jvm.Cond.code ({ cls := "EmbossPress$State", name := "copyFrom", desc := "(LEmbossPress$State;)V" } : Jvm.MethodName) prog_5_method_2_code (2 : Nat) (Option.none : Option Jvm.ClassFile.FieldType) ∈ WW := ww_t2 26 (by decide +kernel) (by decide +kernel)
theorem w2_27 : Jvm.Cond.methodLink "EmbossPress$State" (37 : Nat) ({ cls := "java/lang/System", name := "arraycopy", desc := "(Ljava/lang/Object;ILjava/lang/Object;II)V" } : Jvm.MethodName) ∈ WW := ww_t2 27 (by decide +kernel) (by decide +kernel)
theorem w2_28 : Jvm.Cond.static ({ cls := "java/lang/System", name := "arraycopy", desc := "(Ljava/lang/Object;ILjava/lang/Object;II)V" } : Jvm.MethodName) ∈ WW := ww_t2 28 (by decide +kernel) (by decide +kernel)
theorem w2_29 : Jvm.Cond.native ({ cls := "java/lang/System", name := "arraycopy", desc := "(Ljava/lang/Object;ILjava/lang/Object;II)V" } : Jvm.MethodName) ∈ WW := ww_t2 29 (by decide +kernel) (by decide +kernel)
theorem w2_30 : Jvm.Cond.methodLink "EmbossPress$State" (43 : Nat) ({ cls := "EmbossPress$Sheet", name := "copyFrom", desc := "(LEmbossPress$Sheet;)V" } : Jvm.MethodName) ∈ WW := ww_t2 30 (by decide +kernel) (by decide +kernel)
theorem w2_31 : Jvm.Cond.instanceMethod ({ cls := "EmbossPress$Sheet", name := "copyFrom", desc := "(LEmbossPress$Sheet;)V" } : Jvm.MethodName) ∈ WW := ww_t2 31 (by decide +kernel) (by decide +kernel)
theorem w2_32 : Jvm.Cond.selects "EmbossPress$Sheet" ({ cls := "EmbossPress$Sheet", name := "copyFrom", desc := "(LEmbossPress$Sheet;)V" } : Jvm.MethodName) ({ cls := "EmbossPress$Sheet", name := "copyFrom", desc := "(LEmbossPress$Sheet;)V" } : Jvm.MethodName) ∈ WW := ww_t2 32 (by decide +kernel) (by decide +kernel)
theorem w2_33 : Jvm.Cond.code ({ cls := "EmbossPress$Sheet", name := "copyFrom", desc := "(LEmbossPress$Sheet;)V" } : Jvm.MethodName) prog_4_method_3_code (2 : Nat) (Option.none : Option Jvm.ClassFile.FieldType) ∈ WW := ww_t2 33 (by decide +kernel) (by decide +kernel)
theorem w2_34 : Jvm.Cond.methodLink "EmbossPress$Sheet" (30 : Nat) ({ cls := "EmbossPress$Sheet", name := "copyStrength", desc := "(LEmbossPress$Sheet;)V" } : Jvm.MethodName) ∈ WW := ww_t2 34 (by decide +kernel) (by decide +kernel)
theorem w2_35 : Jvm.Cond.instanceMethod ({ cls := "EmbossPress$Sheet", name := "copyStrength", desc := "(LEmbossPress$Sheet;)V" } : Jvm.MethodName) ∈ WW := ww_t2 35 (by decide +kernel) (by decide +kernel)
theorem w2_36 : Jvm.Cond.selects "EmbossPress$Sheet" ({ cls := "EmbossPress$Sheet", name := "copyStrength", desc := "(LEmbossPress$Sheet;)V" } : Jvm.MethodName) ({ cls := "EmbossPress$Sheet", name := "copyStrength", desc := "(LEmbossPress$Sheet;)V" } : Jvm.MethodName) ∈ WW := ww_t2 36 (by decide +kernel) (by decide +kernel)
theorem w2_37 : Jvm.Cond.code ({ cls := "EmbossPress$Sheet", name := "copyStrength", desc := "(LEmbossPress$Sheet;)V" } : Jvm.MethodName) prog_4_method_4_code (2 : Nat) (Option.none : Option Jvm.ClassFile.FieldType) ∈ WW := ww_t2 37 (by decide +kernel) (by decide +kernel)
theorem w2_38 : Jvm.Cond.methodLink "EmbossPress$Sheet" (34 : Nat) ({ cls := "java/lang/System", name := "arraycopy", desc := "(Ljava/lang/Object;ILjava/lang/Object;II)V" } : Jvm.MethodName) ∈ WW := ww_t2 38 (by decide +kernel) (by decide +kernel)
theorem w2_39 : Jvm.Cond.methodLink "EmbossPressLaw" (12 : Nat) ({ cls := "EmbossPress", name := "count", desc := "(I)I" } : Jvm.MethodName) ∈ WW := ww_t2 39 (by decide +kernel) (by decide +kernel)
theorem w2_40 : Jvm.Cond.instanceMethod ({ cls := "EmbossPress", name := "count", desc := "(I)I" } : Jvm.MethodName) ∈ WW := ww_t2 40 (by decide +kernel) (by decide +kernel)
theorem w2_41 : Jvm.Cond.selects "EmbossPress" ({ cls := "EmbossPress", name := "count", desc := "(I)I" } : Jvm.MethodName) ({ cls := "EmbossPress", name := "count", desc := "(I)I" } : Jvm.MethodName) ∈ WW := ww_t2 41 (by decide +kernel) (by decide +kernel)
theorem w2_42 : Jvm.Cond.code ({ cls := "EmbossPress", name := "count", desc := "(I)I" } : Jvm.MethodName) prog_1_method_19_code (2 : Nat) (Option.some Jvm.ClassFile.FieldType.int) ∈ WW := ww_t2 42 (by decide +kernel) (by decide +kernel)
theorem w2_43 : Jvm.Cond.classLink "EmbossPress" (67 : Nat) "java/lang/IllegalArgumentException" ∈ WW := ww_t2 43 (by decide +kernel) (by decide +kernel)
theorem w2_44 : Jvm.Cond.instantiable "java/lang/IllegalArgumentException" (6 : Nat) ∈ WW := ww_t2 44 (by decide +kernel) (by decide +kernel)
theorem w2_53 : Jvm.Cond.methodLink "EmbossPress" (71 : Nat) ({ cls := "java/lang/IllegalArgumentException", name := "<init>", desc := "(Ljava/lang/String;)V" } : Jvm.MethodName) ∈ WW := ww_t2 53 (by decide +kernel) (by decide +kernel)
theorem w2_59 : Jvm.Cond.methodLink "EmbossPress" (258 : Nat) ({ cls := "EmbossPress", name := "numberOf", desc := "(I)I" } : Jvm.MethodName) ∈ WW := ww_t2 59 (by decide +kernel) (by decide +kernel)
theorem w2_61 : Jvm.Cond.instanceMethod ({ cls := "EmbossPress", name := "numberOf", desc := "(I)I" } : Jvm.MethodName) ∈ WW := ww_t2 61 (by decide +kernel) (by decide +kernel)
theorem w2_62 : Jvm.Cond.code ({ cls := "EmbossPress", name := "numberOf", desc := "(I)I" } : Jvm.MethodName) prog_1_method_49_code (2 : Nat) (Option.some Jvm.ClassFile.FieldType.int) ∈ WW := ww_t2 62 (by decide +kernel) (by decide +kernel)
theorem w2_63 : Jvm.Cond.methodLink "EmbossPress" (104 : Nat) ({ cls := "EmbossPress$Sheet", name := "cracked", desc := "()I" } : Jvm.MethodName) ∈ WW := ww_t2 63 (by decide +kernel) (by decide +kernel)
theorem w2_64 : Jvm.Cond.instanceMethod ({ cls := "EmbossPress$Sheet", name := "cracked", desc := "()I" } : Jvm.MethodName) ∈ WW := ww_t2 64 (by decide +kernel) (by decide +kernel)
theorem w2_65 : Jvm.Cond.selects "EmbossPress$Sheet" ({ cls := "EmbossPress$Sheet", name := "cracked", desc := "()I" } : Jvm.MethodName) ({ cls := "EmbossPress$Sheet", name := "cracked", desc := "()I" } : Jvm.MethodName) ∈ WW := ww_t2 65 (by decide +kernel) (by decide +kernel)
theorem w2_66 : Jvm.Cond.code ({ cls := "EmbossPress$Sheet", name := "cracked", desc := "()I" } : Jvm.MethodName) prog_4_method_12_code (3 : Nat) (Option.some Jvm.ClassFile.FieldType.int) ∈ WW := ww_t2 66 (by decide +kernel) (by decide +kernel)
theorem w2_67 : Jvm.Cond.methodLink "EmbossPress" (364 : Nat) ({ cls := "EmbossPress$Sheet", name := "greatestDepth", desc := "()I" } : Jvm.MethodName) ∈ WW := ww_t2 67 (by decide +kernel) (by decide +kernel)
theorem w2_68 : Jvm.Cond.instanceMethod ({ cls := "EmbossPress$Sheet", name := "greatestDepth", desc := "()I" } : Jvm.MethodName) ∈ WW := ww_t2 68 (by decide +kernel) (by decide +kernel)
theorem w2_69 : Jvm.Cond.selects "EmbossPress$Sheet" ({ cls := "EmbossPress$Sheet", name := "greatestDepth", desc := "()I" } : Jvm.MethodName) ({ cls := "EmbossPress$Sheet", name := "greatestDepth", desc := "()I" } : Jvm.MethodName) ∈ WW := ww_t2 69 (by decide +kernel) (by decide +kernel)
theorem w2_70 : Jvm.Cond.code ({ cls := "EmbossPress$Sheet", name := "greatestDepth", desc := "()I" } : Jvm.MethodName) prog_4_method_14_code (3 : Nat) (Option.some Jvm.ClassFile.FieldType.int) ∈ WW := ww_t2 70 (by decide +kernel) (by decide +kernel)
theorem w2_71 : Jvm.Cond.methodLink "EmbossPress$Sheet" (48 : Nat) ({ cls := "java/lang/Math", name := "max", desc := "(II)I" } : Jvm.MethodName) ∈ WW := ww_t2 71 (by decide +kernel) (by decide +kernel)
theorem w2_72 : Jvm.Cond.static ({ cls := "java/lang/Math", name := "max", desc := "(II)I" } : Jvm.MethodName) ∈ WW := ww_t2 72 (by decide +kernel) (by decide +kernel)
theorem w2_73 : Jvm.Cond.code ({ cls := "java/lang/Math", name := "max", desc := "(II)I" } : Jvm.MethodName) prog_13_method_65_code (2 : Nat) (Option.some Jvm.ClassFile.FieldType.int) ∈ WW := ww_t2 73 (by decide +kernel) (by decide +kernel)
theorem w2_74 : Jvm.Cond.methodLink "EmbossPress" (367 : Nat) ({ cls := "EmbossPress$Sheet", name := "strainByPlaces", desc := "()I" } : Jvm.MethodName) ∈ WW := ww_t2 74 (by decide +kernel) (by decide +kernel)
theorem w2_75 : Jvm.Cond.instanceMethod ({ cls := "EmbossPress$Sheet", name := "strainByPlaces", desc := "()I" } : Jvm.MethodName) ∈ WW := ww_t2 75 (by decide +kernel) (by decide +kernel)
theorem w2_76 : Jvm.Cond.selects "EmbossPress$Sheet" ({ cls := "EmbossPress$Sheet", name := "strainByPlaces", desc := "()I" } : Jvm.MethodName) ({ cls := "EmbossPress$Sheet", name := "strainByPlaces", desc := "()I" } : Jvm.MethodName) ∈ WW := ww_t2 76 (by decide +kernel) (by decide +kernel)
theorem w2_77 : Jvm.Cond.code ({ cls := "EmbossPress$Sheet", name := "strainByPlaces", desc := "()I" } : Jvm.MethodName) prog_4_method_15_code (3 : Nat) (Option.some Jvm.ClassFile.FieldType.int) ∈ WW := ww_t2 77 (by decide +kernel) (by decide +kernel)
theorem w2_78 : Jvm.Cond.methodLink "EmbossPress$Sheet" (61 : Nat) ({ cls := "EmbossPress$Sheet", name := "strainOf", desc := "(I)I" } : Jvm.MethodName) ∈ WW := ww_t2 78 (by decide +kernel) (by decide +kernel)
theorem w2_79 : Jvm.Cond.instanceMethod ({ cls := "EmbossPress$Sheet", name := "strainOf", desc := "(I)I" } : Jvm.MethodName) ∈ WW := ww_t2 79 (by decide +kernel) (by decide +kernel)
theorem w2_80 : Jvm.Cond.selects "EmbossPress$Sheet" ({ cls := "EmbossPress$Sheet", name := "strainOf", desc := "(I)I" } : Jvm.MethodName) ({ cls := "EmbossPress$Sheet", name := "strainOf", desc := "(I)I" } : Jvm.MethodName) ∈ WW := ww_t2 80 (by decide +kernel) (by decide +kernel)
theorem w2_81 : Jvm.Cond.code ({ cls := "EmbossPress$Sheet", name := "strainOf", desc := "(I)I" } : Jvm.MethodName) prog_4_method_7_code (4 : Nat) (Option.some Jvm.ClassFile.FieldType.int) ∈ WW := ww_t2 81 (by decide +kernel) (by decide +kernel)
theorem w2_82 : Jvm.Cond.methodLink "EmbossPress$Sheet" (54 : Nat) ({ cls := "EmbossPress$Sheet", name := "difference", desc := "(II)I" } : Jvm.MethodName) ∈ WW := ww_t2 82 (by decide +kernel) (by decide +kernel)
theorem w2_83 : Jvm.Cond.instanceMethod ({ cls := "EmbossPress$Sheet", name := "difference", desc := "(II)I" } : Jvm.MethodName) ∈ WW := ww_t2 83 (by decide +kernel) (by decide +kernel)
theorem w2_84 : Jvm.Cond.selects "EmbossPress$Sheet" ({ cls := "EmbossPress$Sheet", name := "difference", desc := "(II)I" } : Jvm.MethodName) ({ cls := "EmbossPress$Sheet", name := "difference", desc := "(II)I" } : Jvm.MethodName) ∈ WW := ww_t2 84 (by decide +kernel) (by decide +kernel)
theorem w2_85 : Jvm.Cond.code ({ cls := "EmbossPress$Sheet", name := "difference", desc := "(II)I" } : Jvm.MethodName) prog_4_method_8_code (4 : Nat) (Option.some Jvm.ClassFile.FieldType.int) ∈ WW := ww_t2 85 (by decide +kernel) (by decide +kernel)
theorem w2_86 : Jvm.Cond.methodLink "EmbossPress" (370 : Nat) ({ cls := "EmbossPress$Sheet", name := "strainByPairs", desc := "()I" } : Jvm.MethodName) ∈ WW := ww_t2 86 (by decide +kernel) (by decide +kernel)
theorem w2_87 : Jvm.Cond.instanceMethod ({ cls := "EmbossPress$Sheet", name := "strainByPairs", desc := "()I" } : Jvm.MethodName) ∈ WW := ww_t2 87 (by decide +kernel) (by decide +kernel)
theorem w2_88 : Jvm.Cond.selects "EmbossPress$Sheet" ({ cls := "EmbossPress$Sheet", name := "strainByPairs", desc := "()I" } : Jvm.MethodName) ({ cls := "EmbossPress$Sheet", name := "strainByPairs", desc := "()I" } : Jvm.MethodName) ∈ WW := ww_t2 88 (by decide +kernel) (by decide +kernel)
theorem w2_89 : Jvm.Cond.code ({ cls := "EmbossPress$Sheet", name := "strainByPairs", desc := "()I" } : Jvm.MethodName) prog_4_method_16_code (3 : Nat) (Option.some Jvm.ClassFile.FieldType.int) ∈ WW := ww_t2 89 (by decide +kernel) (by decide +kernel)
theorem w2_90 : Jvm.Cond.methodLink "EmbossPress" (373 : Nat) ({ cls := "EmbossPress$Sheet", name := "foiled", desc := "()I" } : Jvm.MethodName) ∈ WW := ww_t2 90 (by decide +kernel) (by decide +kernel)
theorem w2_91 : Jvm.Cond.instanceMethod ({ cls := "EmbossPress$Sheet", name := "foiled", desc := "()I" } : Jvm.MethodName) ∈ WW := ww_t2 91 (by decide +kernel) (by decide +kernel)
theorem w2_92 : Jvm.Cond.selects "EmbossPress$Sheet" ({ cls := "EmbossPress$Sheet", name := "foiled", desc := "()I" } : Jvm.MethodName) ({ cls := "EmbossPress$Sheet", name := "foiled", desc := "()I" } : Jvm.MethodName) ∈ WW := ww_t2 92 (by decide +kernel) (by decide +kernel)
theorem w2_93 : Jvm.Cond.code ({ cls := "EmbossPress$Sheet", name := "foiled", desc := "()I" } : Jvm.MethodName) prog_4_method_13_code (3 : Nat) (Option.some Jvm.ClassFile.FieldType.int) ∈ WW := ww_t2 93 (by decide +kernel) (by decide +kernel)
theorem w2_94 : Jvm.Cond.methodLink "EmbossPressLaw" (68 : Nat) ({ cls := "EmbossPressLaw", name := "cell", desc := "([II)I" } : Jvm.MethodName) ∈ WW := ww_t2 94 (by decide +kernel) (by decide +kernel)
theorem w2_95 : Jvm.Cond.static ({ cls := "EmbossPressLaw", name := "cell", desc := "([II)I" } : Jvm.MethodName) ∈ WW := ww_t2 95 (by decide +kernel) (by decide +kernel)
theorem w2_96 : Jvm.Cond.code ({ cls := "EmbossPressLaw", name := "cell", desc := "([II)I" } : Jvm.MethodName) method_2_code (2 : Nat) (Option.some Jvm.ClassFile.FieldType.int) ∈ WW := ww_t2 96 (by decide +kernel) (by decide +kernel)
theorem w2_97 : Jvm.Cond.methodLink "EmbossPressLaw" (75 : Nat) ({ cls := "EmbossPressLaw", name := "told", desc := "(LEmbossPress;)J" } : Jvm.MethodName) ∈ WW := ww_t2 97 (by decide +kernel) (by decide +kernel)
theorem w2_98 : Jvm.Cond.static ({ cls := "EmbossPressLaw", name := "told", desc := "(LEmbossPress;)J" } : Jvm.MethodName) ∈ WW := ww_t2 98 (by decide +kernel) (by decide +kernel)
theorem w2_99 : Jvm.Cond.code ({ cls := "EmbossPressLaw", name := "told", desc := "(LEmbossPress;)J" } : Jvm.MethodName) method_4_code (4 : Nat) (Option.some Jvm.ClassFile.FieldType.long) ∈ WW := ww_t2 99 (by decide +kernel) (by decide +kernel)
theorem w2_100 : Jvm.Cond.constantLong "EmbossPressLaw" (8 : Nat) (3 : Int64) ∈ WW := ww_t2 100 (by decide +kernel) (by decide +kernel)
theorem w2_101 : Jvm.Cond.constantLong "EmbossPressLaw" (10 : Nat) (31 : Int64) ∈ WW := ww_t2 101 (by decide +kernel) (by decide +kernel)
theorem w2_102 : Jvm.Cond.methodLink "EmbossPressLaw" (18 : Nat) ({ cls := "EmbossPress", name := "dieOf", desc := "(IIII)I" } : Jvm.MethodName) ∈ WW := ww_t2 102 (by decide +kernel) (by decide +kernel)
theorem w2_103 : Jvm.Cond.instanceMethod ({ cls := "EmbossPress", name := "dieOf", desc := "(IIII)I" } : Jvm.MethodName) ∈ WW := ww_t2 103 (by decide +kernel) (by decide +kernel)
theorem w2_104 : Jvm.Cond.selects "EmbossPress" ({ cls := "EmbossPress", name := "dieOf", desc := "(IIII)I" } : Jvm.MethodName) ({ cls := "EmbossPress", name := "dieOf", desc := "(IIII)I" } : Jvm.MethodName) ∈ WW := ww_t2 104 (by decide +kernel) (by decide +kernel)
theorem w2_105 : Jvm.Cond.code ({ cls := "EmbossPress", name := "dieOf", desc := "(IIII)I" } : Jvm.MethodName) prog_1_method_17_code (5 : Nat) (Option.some Jvm.ClassFile.FieldType.int) ∈ WW := ww_t2 105 (by decide +kernel) (by decide +kernel)
theorem w2_106 : Jvm.Cond.methodLink "EmbossPress" (52 : Nat) ({ cls := "EmbossPress", name := "isDie", desc := "(I)Z" } : Jvm.MethodName) ∈ WW := ww_t2 106 (by decide +kernel) (by decide +kernel)
theorem w2_107 : Jvm.Cond.static ({ cls := "EmbossPress", name := "isDie", desc := "(I)Z" } : Jvm.MethodName) ∈ WW := ww_t2 107 (by decide +kernel) (by decide +kernel)
theorem w2_108 : Jvm.Cond.code ({ cls := "EmbossPress", name := "isDie", desc := "(I)Z" } : Jvm.MethodName) prog_1_method_29_code (1 : Nat) (Option.some Jvm.ClassFile.FieldType.boolean) ∈ WW := ww_t2 108 (by decide +kernel) (by decide +kernel)
theorem w2_109 : Jvm.Cond.methodLink "EmbossPress" (56 : Nat) ({ cls := "EmbossPress", name := "isPoint", desc := "(II)Z" } : Jvm.MethodName) ∈ WW := ww_t2 109 (by decide +kernel) (by decide +kernel)
theorem w2_110 : Jvm.Cond.static ({ cls := "EmbossPress", name := "isPoint", desc := "(II)Z" } : Jvm.MethodName) ∈ WW := ww_t2 110 (by decide +kernel) (by decide +kernel)
theorem w2_111 : Jvm.Cond.code ({ cls := "EmbossPress", name := "isPoint", desc := "(II)Z" } : Jvm.MethodName) prog_1_method_30_code (2 : Nat) (Option.some Jvm.ClassFile.FieldType.boolean) ∈ WW := ww_t2 111 (by decide +kernel) (by decide +kernel)
theorem w2_112 : Jvm.Cond.classLink "EmbossPress" (60 : Nat) "java/lang/IndexOutOfBoundsException" ∈ WW := ww_t2 112 (by decide +kernel) (by decide +kernel)
theorem w2_113 : Jvm.Cond.instantiable "java/lang/IndexOutOfBoundsException" (6 : Nat) ∈ WW := ww_t2 113 (by decide +kernel) (by decide +kernel)
theorem w2_122 : Jvm.Cond.methodLink "EmbossPress" (64 : Nat) ({ cls := "java/lang/IndexOutOfBoundsException", name := "<init>", desc := "(Ljava/lang/String;)V" } : Jvm.MethodName) ∈ WW := ww_t2 122 (by decide +kernel) (by decide +kernel)
theorem w2_128 : Jvm.Cond.methodLink "EmbossPress" (142 : Nat) ({ cls := "EmbossPress", name := "isTurn", desc := "(I)Z" } : Jvm.MethodName) ∈ WW := ww_t2 128 (by decide +kernel) (by decide +kernel)
theorem w2_129 : Jvm.Cond.static ({ cls := "EmbossPress", name := "isTurn", desc := "(I)Z" } : Jvm.MethodName) ∈ WW := ww_t2 129 (by decide +kernel) (by decide +kernel)
theorem w2_130 : Jvm.Cond.code ({ cls := "EmbossPress", name := "isTurn", desc := "(I)Z" } : Jvm.MethodName) prog_1_method_31_code (1 : Nat) (Option.some Jvm.ClassFile.FieldType.boolean) ∈ WW := ww_t2 130 (by decide +kernel) (by decide +kernel)
theorem w2_132 : Jvm.Cond.methodLink "EmbossPress" (247 : Nat) ({ cls := "EmbossPress$State", name := "turnedPoint", desc := "(IIII)I" } : Jvm.MethodName) ∈ WW := ww_t2 132 (by decide +kernel) (by decide +kernel)
theorem w2_133 : Jvm.Cond.instanceMethod ({ cls := "EmbossPress$State", name := "turnedPoint", desc := "(IIII)I" } : Jvm.MethodName) ∈ WW := ww_t2 133 (by decide +kernel) (by decide +kernel)
theorem w2_134 : Jvm.Cond.selects "EmbossPress$State" ({ cls := "EmbossPress$State", name := "turnedPoint", desc := "(IIII)I" } : Jvm.MethodName) ({ cls := "EmbossPress$State", name := "turnedPoint", desc := "(IIII)I" } : Jvm.MethodName) ∈ WW := ww_t2 134 (by decide +kernel) (by decide +kernel)
theorem w2_135 : Jvm.Cond.code ({ cls := "EmbossPress$State", name := "turnedPoint", desc := "(IIII)I" } : Jvm.MethodName) prog_5_method_3_code (9 : Nat) (Option.some Jvm.ClassFile.FieldType.int) ∈ WW := ww_t2 135 (by decide +kernel) (by decide +kernel)
theorem w2_137 : Jvm.Cond.static ({ cls := "EmbossPress", name := "pointIndex", desc := "(III)I" } : Jvm.MethodName) ∈ WW := ww_t2 137 (by decide +kernel) (by decide +kernel)
theorem w2_138 : Jvm.Cond.code ({ cls := "EmbossPress", name := "pointIndex", desc := "(III)I" } : Jvm.MethodName) prog_1_method_35_code (3 : Nat) (Option.some Jvm.ClassFile.FieldType.int) ∈ WW := ww_t2 138 (by decide +kernel) (by decide +kernel)
theorem w2_139 : Jvm.Cond.methodLink "EmbossPressLaw" (22 : Nat) ({ cls := "EmbossPress", name := "place", desc := "(III)I" } : Jvm.MethodName) ∈ WW := ww_t2 139 (by decide +kernel) (by decide +kernel)
theorem w2_140 : Jvm.Cond.instanceMethod ({ cls := "EmbossPress", name := "place", desc := "(III)I" } : Jvm.MethodName) ∈ WW := ww_t2 140 (by decide +kernel) (by decide +kernel)
theorem w2_141 : Jvm.Cond.selects "EmbossPress" ({ cls := "EmbossPress", name := "place", desc := "(III)I" } : Jvm.MethodName) ({ cls := "EmbossPress", name := "place", desc := "(III)I" } : Jvm.MethodName) ∈ WW := ww_t2 141 (by decide +kernel) (by decide +kernel)
theorem w2_142 : Jvm.Cond.code ({ cls := "EmbossPress", name := "place", desc := "(III)I" } : Jvm.MethodName) prog_1_method_18_code (5 : Nat) (Option.some Jvm.ClassFile.FieldType.int) ∈ WW := ww_t2 142 (by decide +kernel) (by decide +kernel)
theorem w2_143 : Jvm.Cond.methodLink "EmbossPress" (82 : Nat) ({ cls := "EmbossPress", name := "placeIndex", desc := "(JJ)I" } : Jvm.MethodName) ∈ WW := ww_t2 143 (by decide +kernel) (by decide +kernel)
theorem w2_144 : Jvm.Cond.static ({ cls := "EmbossPress", name := "placeIndex", desc := "(JJ)I" } : Jvm.MethodName) ∈ WW := ww_t2 144 (by decide +kernel) (by decide +kernel)
theorem w2_145 : Jvm.Cond.code ({ cls := "EmbossPress", name := "placeIndex", desc := "(JJ)I" } : Jvm.MethodName) prog_1_method_36_code (4 : Nat) (Option.some Jvm.ClassFile.FieldType.int) ∈ WW := ww_t2 145 (by decide +kernel) (by decide +kernel)
theorem w2_146 : Jvm.Cond.constantLong "EmbossPress" (308 : Nat) (12 : Int64) ∈ WW := ww_t2 146 (by decide +kernel) (by decide +kernel)
theorem w2_149 : Jvm.Cond.methodLink "EmbossPress" (253 : Nat) ({ cls := "EmbossPress", name := "propertyOf", desc := "(II)I" } : Jvm.MethodName) ∈ WW := ww_t2 149 (by decide +kernel) (by decide +kernel)
theorem w2_151 : Jvm.Cond.instanceMethod ({ cls := "EmbossPress", name := "propertyOf", desc := "(II)I" } : Jvm.MethodName) ∈ WW := ww_t2 151 (by decide +kernel) (by decide +kernel)
theorem w2_152 : Jvm.Cond.code ({ cls := "EmbossPress", name := "propertyOf", desc := "(II)I" } : Jvm.MethodName) prog_1_method_48_code (4 : Nat) (Option.some Jvm.ClassFile.FieldType.int) ∈ WW := ww_t2 152 (by decide +kernel) (by decide +kernel)
theorem w2_153 : Jvm.Cond.methodLink "EmbossPress" (352 : Nat) ({ cls := "EmbossPress$Sheet", name := "strainOf", desc := "(I)I" } : Jvm.MethodName) ∈ WW := ww_t2 153 (by decide +kernel) (by decide +kernel)
theorem w2_154 : Jvm.Cond.methodLink "EmbossPress" (355 : Nat) ({ cls := "EmbossPress$Sheet", name := "bearingOf", desc := "(III)I" } : Jvm.MethodName) ∈ WW := ww_t2 154 (by decide +kernel) (by decide +kernel)
theorem w2_155 : Jvm.Cond.instanceMethod ({ cls := "EmbossPress$Sheet", name := "bearingOf", desc := "(III)I" } : Jvm.MethodName) ∈ WW := ww_t2 155 (by decide +kernel) (by decide +kernel)
theorem w2_156 : Jvm.Cond.selects "EmbossPress$Sheet" ({ cls := "EmbossPress$Sheet", name := "bearingOf", desc := "(III)I" } : Jvm.MethodName) ({ cls := "EmbossPress$Sheet", name := "bearingOf", desc := "(III)I" } : Jvm.MethodName) ∈ WW := ww_t2 156 (by decide +kernel) (by decide +kernel)
theorem w2_157 : Jvm.Cond.code ({ cls := "EmbossPress$Sheet", name := "bearingOf", desc := "(III)I" } : Jvm.MethodName) prog_4_method_10_code (4 : Nat) (Option.some Jvm.ClassFile.FieldType.int) ∈ WW := ww_t2 157 (by decide +kernel) (by decide +kernel)
theorem w2_158 : Jvm.Cond.methodLink "EmbossPress$Sheet" (57 : Nat) ({ cls := "EmbossPress$Sheet", name := "crackedBeside", desc := "(I)I" } : Jvm.MethodName) ∈ WW := ww_t2 158 (by decide +kernel) (by decide +kernel)
theorem w2_159 : Jvm.Cond.instanceMethod ({ cls := "EmbossPress$Sheet", name := "crackedBeside", desc := "(I)I" } : Jvm.MethodName) ∈ WW := ww_t2 159 (by decide +kernel) (by decide +kernel)
theorem w2_160 : Jvm.Cond.selects "EmbossPress$Sheet" ({ cls := "EmbossPress$Sheet", name := "crackedBeside", desc := "(I)I" } : Jvm.MethodName) ({ cls := "EmbossPress$Sheet", name := "crackedBeside", desc := "(I)I" } : Jvm.MethodName) ∈ WW := ww_t2 160 (by decide +kernel) (by decide +kernel)
theorem w2_161 : Jvm.Cond.code ({ cls := "EmbossPress$Sheet", name := "crackedBeside", desc := "(I)I" } : Jvm.MethodName) prog_4_method_9_code (4 : Nat) (Option.some Jvm.ClassFile.FieldType.int) ∈ WW := ww_t2 161 (by decide +kernel) (by decide +kernel)
theorem w2_162 : Jvm.Cond.methodLink "EmbossPress" (358 : Nat) ({ cls := "EmbossPress$State", name := "isFoilReadyOver", desc := "(I)Z" } : Jvm.MethodName) ∈ WW := ww_t2 162 (by decide +kernel) (by decide +kernel)
theorem w2_163 : Jvm.Cond.instanceMethod ({ cls := "EmbossPress$State", name := "isFoilReadyOver", desc := "(I)Z" } : Jvm.MethodName) ∈ WW := ww_t2 163 (by decide +kernel) (by decide +kernel)
theorem w2_164 : Jvm.Cond.selects "EmbossPress$State" ({ cls := "EmbossPress$State", name := "isFoilReadyOver", desc := "(I)Z" } : Jvm.MethodName) ({ cls := "EmbossPress$State", name := "isFoilReadyOver", desc := "(I)Z" } : Jvm.MethodName) ∈ WW := ww_t2 164 (by decide +kernel) (by decide +kernel)
theorem w2_165 : Jvm.Cond.code ({ cls := "EmbossPress$State", name := "isFoilReadyOver", desc := "(I)Z" } : Jvm.MethodName) prog_5_method_6_code (4 : Nat) (Option.some Jvm.ClassFile.FieldType.boolean) ∈ WW := ww_t2 165 (by decide +kernel) (by decide +kernel)
theorem w2_166 : Jvm.Cond.methodLink "EmbossPressLaw" (79 : Nat) ({ cls := "EmbossPressLaw", name := "act", desc := "(LEmbossPress;II)I" } : Jvm.MethodName) ∈ WW := ww_t2 166 (by decide +kernel) (by decide +kernel)
theorem w2_167 : Jvm.Cond.static ({ cls := "EmbossPressLaw", name := "act", desc := "(LEmbossPress;II)I" } : Jvm.MethodName) ∈ WW := ww_t2 167 (by decide +kernel) (by decide +kernel)
theorem w2_168 : Jvm.Cond.code ({ cls := "EmbossPressLaw", name := "act", desc := "(LEmbossPress;II)I" } : Jvm.MethodName) method_5_code (7 : Nat) (Option.some Jvm.ClassFile.FieldType.int) ∈ WW := ww_t2 168 (by decide +kernel) (by decide +kernel)
theorem w2_169 : Jvm.Cond.methodLink "EmbossPressLaw" (26 : Nat) ({ cls := "EmbossPressLaw", name := "low", desc := "(II)I" } : Jvm.MethodName) ∈ WW := ww_t2 169 (by decide +kernel) (by decide +kernel)
theorem w2_170 : Jvm.Cond.static ({ cls := "EmbossPressLaw", name := "low", desc := "(II)I" } : Jvm.MethodName) ∈ WW := ww_t2 170 (by decide +kernel) (by decide +kernel)
theorem w2_171 : Jvm.Cond.code ({ cls := "EmbossPressLaw", name := "low", desc := "(II)I" } : Jvm.MethodName) method_3_code (2 : Nat) (Option.some Jvm.ClassFile.FieldType.int) ∈ WW := ww_t2 171 (by decide +kernel) (by decide +kernel)
theorem w2_172 : Jvm.Cond.constant "EmbossPressLaw" (7 : Nat) (2147483647 : Int32) ∈ WW := ww_t2 172 (by decide +kernel) (by decide +kernel)
theorem w2_173 : Jvm.Cond.methodLink "EmbossPressLaw" (32 : Nat) ({ cls := "EmbossPress", name := "sheet", desc := "()I" } : Jvm.MethodName) ∈ WW := ww_t2 173 (by decide +kernel) (by decide +kernel)
theorem w2_174 : Jvm.Cond.instanceMethod ({ cls := "EmbossPress", name := "sheet", desc := "()I" } : Jvm.MethodName) ∈ WW := ww_t2 174 (by decide +kernel) (by decide +kernel)
theorem w2_175 : Jvm.Cond.selects "EmbossPress" ({ cls := "EmbossPress", name := "sheet", desc := "()I" } : Jvm.MethodName) ({ cls := "EmbossPress", name := "sheet", desc := "()I" } : Jvm.MethodName) ∈ WW := ww_t2 175 (by decide +kernel) (by decide +kernel)
theorem w2_176 : Jvm.Cond.code ({ cls := "EmbossPress", name := "sheet", desc := "()I" } : Jvm.MethodName) prog_1_method_4_code (2 : Nat) (Option.some Jvm.ClassFile.FieldType.int) ∈ WW := ww_t2 176 (by decide +kernel) (by decide +kernel)
theorem w2_177 : Jvm.Cond.methodLink "EmbossPress" (72 : Nat) ({ cls := "EmbossPress", name := "saveState", desc := "()V" } : Jvm.MethodName) ∈ WW := ww_t2 177 (by decide +kernel) (by decide +kernel)
theorem w2_179 : Jvm.Cond.instanceMethod ({ cls := "EmbossPress", name := "saveState", desc := "()V" } : Jvm.MethodName) ∈ WW := ww_t2 179 (by decide +kernel) (by decide +kernel)
theorem w2_180 : Jvm.Cond.code ({ cls := "EmbossPress", name := "saveState", desc := "()V" } : Jvm.MethodName) prog_1_method_37_code (1 : Nat) (Option.none : Option Jvm.ClassFile.FieldType) ∈ WW := ww_t2 180 (by decide +kernel) (by decide +kernel)
theorem w2_181 : Jvm.Cond.methodLink "EmbossPress" (108 : Nat) ({ cls := "EmbossPress$Sheet", name := "makeNew", desc := "()V" } : Jvm.MethodName) ∈ WW := ww_t2 181 (by decide +kernel) (by decide +kernel)
theorem w2_182 : Jvm.Cond.instanceMethod ({ cls := "EmbossPress$Sheet", name := "makeNew", desc := "()V" } : Jvm.MethodName) ∈ WW := ww_t2 182 (by decide +kernel) (by decide +kernel)
theorem w2_183 : Jvm.Cond.selects "EmbossPress$Sheet" ({ cls := "EmbossPress$Sheet", name := "makeNew", desc := "()V" } : Jvm.MethodName) ({ cls := "EmbossPress$Sheet", name := "makeNew", desc := "()V" } : Jvm.MethodName) ∈ WW := ww_t2 183 (by decide +kernel) (by decide +kernel)
theorem w2_184 : Jvm.Cond.code ({ cls := "EmbossPress$Sheet", name := "makeNew", desc := "()V" } : Jvm.MethodName) prog_4_method_2_code (1 : Nat) (Option.none : Option Jvm.ClassFile.FieldType) ∈ WW := ww_t2 184 (by decide +kernel) (by decide +kernel)
theorem w2_185 : Jvm.Cond.methodLink "EmbossPress$Sheet" (24 : Nat) ({ cls := "java/util/Arrays", name := "fill", desc := "([II)V" } : Jvm.MethodName) ∈ WW := ww_t2 185 (by decide +kernel) (by decide +kernel)
theorem w2_186 : Jvm.Cond.static ({ cls := "java/util/Arrays", name := "fill", desc := "([II)V" } : Jvm.MethodName) ∈ WW := ww_t2 186 (by decide +kernel) (by decide +kernel)
theorem w2_187 : Jvm.Cond.code ({ cls := "java/util/Arrays", name := "fill", desc := "([II)V" } : Jvm.MethodName) prog_18_method_103_code (4 : Nat) (Option.none : Option Jvm.ClassFile.FieldType) ∈ WW := ww_t2 187 (by decide +kernel) (by decide +kernel)
theorem w2_188 : Jvm.Cond.methodLink "EmbossPress" (111 : Nat) ({ cls := "EmbossPress$State", name := "unslip", desc := "()V" } : Jvm.MethodName) ∈ WW := ww_t2 188 (by decide +kernel) (by decide +kernel)
theorem w2_189 : Jvm.Cond.instanceMethod ({ cls := "EmbossPress$State", name := "unslip", desc := "()V" } : Jvm.MethodName) ∈ WW := ww_t2 189 (by decide +kernel) (by decide +kernel)
theorem w2_190 : Jvm.Cond.selects "EmbossPress$State" ({ cls := "EmbossPress$State", name := "unslip", desc := "()V" } : Jvm.MethodName) ({ cls := "EmbossPress$State", name := "unslip", desc := "()V" } : Jvm.MethodName) ∈ WW := ww_t2 190 (by decide +kernel) (by decide +kernel)
theorem w2_191 : Jvm.Cond.code ({ cls := "EmbossPress$State", name := "unslip", desc := "()V" } : Jvm.MethodName) prog_5_method_9_code (1 : Nat) (Option.none : Option Jvm.ClassFile.FieldType) ∈ WW := ww_t2 191 (by decide +kernel) (by decide +kernel)
theorem w2_192 : Jvm.Cond.methodLink "EmbossPressLaw" (36 : Nat) ({ cls := "EmbossPress", name := "pin", desc := "()I" } : Jvm.MethodName) ∈ WW := ww_t2 192 (by decide +kernel) (by decide +kernel)
theorem w2_193 : Jvm.Cond.instanceMethod ({ cls := "EmbossPress", name := "pin", desc := "()I" } : Jvm.MethodName) ∈ WW := ww_t2 193 (by decide +kernel) (by decide +kernel)
theorem w2_194 : Jvm.Cond.selects "EmbossPress" ({ cls := "EmbossPress", name := "pin", desc := "()I" } : Jvm.MethodName) ({ cls := "EmbossPress", name := "pin", desc := "()I" } : Jvm.MethodName) ∈ WW := ww_t2 194 (by decide +kernel) (by decide +kernel)
theorem w2_195 : Jvm.Cond.code ({ cls := "EmbossPress", name := "pin", desc := "()I" } : Jvm.MethodName) prog_1_method_5_code (2 : Nat) (Option.some Jvm.ClassFile.FieldType.int) ∈ WW := ww_t2 195 (by decide +kernel) (by decide +kernel)
theorem w2_196 : Jvm.Cond.methodLink "EmbossPressLaw" (39 : Nat) ({ cls := "EmbossPress", name := "foil", desc := "(IIIII)I" } : Jvm.MethodName) ∈ WW := ww_t2 196 (by decide +kernel) (by decide +kernel)
theorem w2_197 : Jvm.Cond.instanceMethod ({ cls := "EmbossPress", name := "foil", desc := "(IIIII)I" } : Jvm.MethodName) ∈ WW := ww_t2 197 (by decide +kernel) (by decide +kernel)
theorem w2_198 : Jvm.Cond.selects "EmbossPress" ({ cls := "EmbossPress", name := "foil", desc := "(IIIII)I" } : Jvm.MethodName) ({ cls := "EmbossPress", name := "foil", desc := "(IIIII)I" } : Jvm.MethodName) ∈ WW := ww_t2 198 (by decide +kernel) (by decide +kernel)
theorem w2_199 : Jvm.Cond.code ({ cls := "EmbossPress", name := "foil", desc := "(IIIII)I" } : Jvm.MethodName) prog_1_method_6_code (6 : Nat) (Option.some Jvm.ClassFile.FieldType.int) ∈ WW := ww_t2 199 (by decide +kernel) (by decide +kernel)
theorem w2_201 : Jvm.Cond.methodLink "EmbossPressLaw" (43 : Nat) ({ cls := "EmbossPress", name := "fold", desc := "(I)I" } : Jvm.MethodName) ∈ WW := ww_t2 201 (by decide +kernel) (by decide +kernel)
theorem w2_202 : Jvm.Cond.instanceMethod ({ cls := "EmbossPress", name := "fold", desc := "(I)I" } : Jvm.MethodName) ∈ WW := ww_t2 202 (by decide +kernel) (by decide +kernel)
theorem w2_203 : Jvm.Cond.selects "EmbossPress" ({ cls := "EmbossPress", name := "fold", desc := "(I)I" } : Jvm.MethodName) ({ cls := "EmbossPress", name := "fold", desc := "(I)I" } : Jvm.MethodName) ∈ WW := ww_t2 203 (by decide +kernel) (by decide +kernel)
theorem w2_204 : Jvm.Cond.code ({ cls := "EmbossPress", name := "fold", desc := "(I)I" } : Jvm.MethodName) prog_1_method_8_code (5 : Nat) (Option.some Jvm.ClassFile.FieldType.int) ∈ WW := ww_t2 204 (by decide +kernel) (by decide +kernel)
theorem w2_205 : Jvm.Cond.methodLink "EmbossPress" (160 : Nat) ({ cls := "EmbossPress", name := "isFoldRow", desc := "(I)Z" } : Jvm.MethodName) ∈ WW := ww_t2 205 (by decide +kernel) (by decide +kernel)
theorem w2_206 : Jvm.Cond.static ({ cls := "EmbossPress", name := "isFoldRow", desc := "(I)Z" } : Jvm.MethodName) ∈ WW := ww_t2 206 (by decide +kernel) (by decide +kernel)
theorem w2_207 : Jvm.Cond.code ({ cls := "EmbossPress", name := "isFoldRow", desc := "(I)Z" } : Jvm.MethodName) prog_1_method_32_code (1 : Nat) (Option.some Jvm.ClassFile.FieldType.boolean) ∈ WW := ww_t2 207 (by decide +kernel) (by decide +kernel)
theorem w2_209 : Jvm.Cond.methodLink "EmbossPress" (168 : Nat) ({ cls := "EmbossPress$CrackFinder", name := "crackAtFold", desc := "(LEmbossPress$Sheet;III)I" } : Jvm.MethodName) ∈ WW := ww_t2 209 (by decide +kernel) (by decide +kernel)
theorem w2_210 : Jvm.Cond.instanceMethod ({ cls := "EmbossPress$CrackFinder", name := "crackAtFold", desc := "(LEmbossPress$Sheet;III)I" } : Jvm.MethodName) ∈ WW := ww_t2 210 (by decide +kernel) (by decide +kernel)
theorem w2_211 : Jvm.Cond.selects "EmbossPress$CrackFinder" ({ cls := "EmbossPress$CrackFinder", name := "crackAtFold", desc := "(LEmbossPress$Sheet;III)I" } : Jvm.MethodName) ({ cls := "EmbossPress$CrackFinder", name := "crackAtFold", desc := "(LEmbossPress$Sheet;III)I" } : Jvm.MethodName) ∈ WW := ww_t2 211 (by decide +kernel) (by decide +kernel)
theorem w2_212 : Jvm.Cond.code ({ cls := "EmbossPress$CrackFinder", name := "crackAtFold", desc := "(LEmbossPress$Sheet;III)I" } : Jvm.MethodName) prog_2_method_3_code (9 : Nat) (Option.some Jvm.ClassFile.FieldType.int) ∈ WW := ww_t2 212 (by decide +kernel) (by decide +kernel)
theorem w2_214 : Jvm.Cond.methodLink "EmbossPress$CrackFinder" (46 : Nat) ({ cls := "EmbossPress$Sheet", name := "difference", desc := "(II)I" } : Jvm.MethodName) ∈ WW := ww_t2 214 (by decide +kernel) (by decide +kernel)
theorem w2_215 : Jvm.Cond.methodLink "EmbossPress$CrackFinder" (50 : Nat) ({ cls := "EmbossPress$Sheet", name := "bearingOf", desc := "(III)I" } : Jvm.MethodName) ∈ WW := ww_t2 215 (by decide +kernel) (by decide +kernel)
theorem w2_216 : Jvm.Cond.methodLink "EmbossPress$CrackFinder" (54 : Nat) ({ cls := "EmbossPress$CrackFinder", name := "noteIfWhole", desc := "(LEmbossPress$Sheet;I)V" } : Jvm.MethodName) ∈ WW := ww_t2 216 (by decide +kernel) (by decide +kernel)
theorem w2_218 : Jvm.Cond.instanceMethod ({ cls := "EmbossPress$CrackFinder", name := "noteIfWhole", desc := "(LEmbossPress$Sheet;I)V" } : Jvm.MethodName) ∈ WW := ww_t2 218 (by decide +kernel) (by decide +kernel)
theorem w2_219 : Jvm.Cond.code ({ cls := "EmbossPress$CrackFinder", name := "noteIfWhole", desc := "(LEmbossPress$Sheet;I)V" } : Jvm.MethodName) prog_2_method_5_code (3 : Nat) (Option.none : Option Jvm.ClassFile.FieldType) ∈ WW := ww_t2 219 (by decide +kernel) (by decide +kernel)
theorem w2_220 : Jvm.Cond.methodLink "EmbossPress$CrackFinder" (38 : Nat) ({ cls := "EmbossPress$CrackFinder", name := "crackFound", desc := "(LEmbossPress$Sheet;)I" } : Jvm.MethodName) ∈ WW := ww_t2 220 (by decide +kernel) (by decide +kernel)
theorem w2_222 : Jvm.Cond.instanceMethod ({ cls := "EmbossPress$CrackFinder", name := "crackFound", desc := "(LEmbossPress$Sheet;)I" } : Jvm.MethodName) ∈ WW := ww_t2 222 (by decide +kernel) (by decide +kernel)
theorem w2_223 : Jvm.Cond.code ({ cls := "EmbossPress$CrackFinder", name := "crackFound", desc := "(LEmbossPress$Sheet;)I" } : Jvm.MethodName) prog_2_method_6_code (3 : Nat) (Option.some Jvm.ClassFile.FieldType.int) ∈ WW := ww_t2 223 (by decide +kernel) (by decide +kernel)
theorem w2_224 : Jvm.Cond.methodLink "EmbossPress$CrackFinder" (61 : Nat) ({ cls := "EmbossPress$CrackFinder", name := "weakenBeside", desc := "(I)V" } : Jvm.MethodName) ∈ WW := ww_t2 224 (by decide +kernel) (by decide +kernel)
theorem w2_226 : Jvm.Cond.instanceMethod ({ cls := "EmbossPress$CrackFinder", name := "weakenBeside", desc := "(I)V" } : Jvm.MethodName) ∈ WW := ww_t2 226 (by decide +kernel) (by decide +kernel)
theorem w2_227 : Jvm.Cond.code ({ cls := "EmbossPress$CrackFinder", name := "weakenBeside", desc := "(I)V" } : Jvm.MethodName) prog_2_method_7_code (3 : Nat) (Option.none : Option Jvm.ClassFile.FieldType) ∈ WW := ww_t2 227 (by decide +kernel) (by decide +kernel)
theorem w2_228 : Jvm.Cond.methodLink "EmbossPress" (172 : Nat) ({ cls := "EmbossPress$CrackFinder", name := "crackAll", desc := "(LEmbossPress$Sheet;II)I" } : Jvm.MethodName) ∈ WW := ww_t2 228 (by decide +kernel) (by decide +kernel)
theorem w2_229 : Jvm.Cond.instanceMethod ({ cls := "EmbossPress$CrackFinder", name := "crackAll", desc := "(LEmbossPress$Sheet;II)I" } : Jvm.MethodName) ∈ WW := ww_t2 229 (by decide +kernel) (by decide +kernel)
theorem w2_230 : Jvm.Cond.selects "EmbossPress$CrackFinder" ({ cls := "EmbossPress$CrackFinder", name := "crackAll", desc := "(LEmbossPress$Sheet;II)I" } : Jvm.MethodName) ({ cls := "EmbossPress$CrackFinder", name := "crackAll", desc := "(LEmbossPress$Sheet;II)I" } : Jvm.MethodName) ∈ WW := ww_t2 230 (by decide +kernel) (by decide +kernel)
theorem w2_231 : Jvm.Cond.code ({ cls := "EmbossPress$CrackFinder", name := "crackAll", desc := "(LEmbossPress$Sheet;II)I" } : Jvm.MethodName) prog_2_method_2_code (6 : Nat) (Option.some Jvm.ClassFile.FieldType.int) ∈ WW := ww_t2 231 (by decide +kernel) (by decide +kernel)
theorem w2_232 : Jvm.Cond.methodLink "EmbossPress$CrackFinder" (21 : Nat) ({ cls := "EmbossPress$Sheet", name := "strainOf", desc := "(I)I" } : Jvm.MethodName) ∈ WW := ww_t2 232 (by decide +kernel) (by decide +kernel)
theorem w2_233 : Jvm.Cond.methodLink "EmbossPress$CrackFinder" (27 : Nat) ({ cls := "EmbossPress$Sheet", name := "crackedBeside", desc := "(I)I" } : Jvm.MethodName) ∈ WW := ww_t2 233 (by decide +kernel) (by decide +kernel)
theorem w2_234 : Jvm.Cond.methodLink "EmbossPress$CrackFinder" (30 : Nat) ({ cls := "EmbossPress$CrackFinder", name := "findOverstrained", desc := "(LEmbossPress$Sheet;II)V" } : Jvm.MethodName) ∈ WW := ww_t2 234 (by decide +kernel) (by decide +kernel)
theorem w2_236 : Jvm.Cond.instanceMethod ({ cls := "EmbossPress$CrackFinder", name := "findOverstrained", desc := "(LEmbossPress$Sheet;II)V" } : Jvm.MethodName) ∈ WW := ww_t2 236 (by decide +kernel) (by decide +kernel)
theorem w2_237 : Jvm.Cond.code ({ cls := "EmbossPress$CrackFinder", name := "findOverstrained", desc := "(LEmbossPress$Sheet;II)V" } : Jvm.MethodName) prog_2_method_4_code (5 : Nat) (Option.none : Option Jvm.ClassFile.FieldType) ∈ WW := ww_t2 237 (by decide +kernel) (by decide +kernel)
theorem w2_238 : Jvm.Cond.methodLink "EmbossPressLaw" (46 : Nat) ({ cls := "EmbossPress", name := "set", desc := "(II)I" } : Jvm.MethodName) ∈ WW := ww_t2 238 (by decide +kernel) (by decide +kernel)
theorem w2_239 : Jvm.Cond.instanceMethod ({ cls := "EmbossPress", name := "set", desc := "(II)I" } : Jvm.MethodName) ∈ WW := ww_t2 239 (by decide +kernel) (by decide +kernel)
theorem w3_0 : Jvm.Cond.selects "EmbossPress" ({ cls := "EmbossPress", name := "set", desc := "(II)I" } : Jvm.MethodName) ({ cls := "EmbossPress", name := "set", desc := "(II)I" } : Jvm.MethodName) ∈ WW := ww_t3 0 (by decide +kernel) (by decide +kernel)
theorem w3_1 : Jvm.Cond.code ({ cls := "EmbossPress", name := "set", desc := "(II)I" } : Jvm.MethodName) prog_1_method_9_code (4 : Nat) (Option.some Jvm.ClassFile.FieldType.int) ∈ WW := ww_t3 1 (by decide +kernel) (by decide +kernel)
theorem w3_2 : Jvm.Cond.methodLink "EmbossPress" (182 : Nat) ({ cls := "EmbossPress", name := "isSetting", desc := "(I)Z" } : Jvm.MethodName) ∈ WW := ww_t3 2 (by decide +kernel) (by decide +kernel)
theorem w3_3 : Jvm.Cond.static ({ cls := "EmbossPress", name := "isSetting", desc := "(I)Z" } : Jvm.MethodName) ∈ WW := ww_t3 3 (by decide +kernel) (by decide +kernel)
theorem w3_4 : Jvm.Cond.code ({ cls := "EmbossPress", name := "isSetting", desc := "(I)Z" } : Jvm.MethodName) prog_1_method_33_code (1 : Nat) (Option.some Jvm.ClassFile.FieldType.boolean) ∈ WW := ww_t3 4 (by decide +kernel) (by decide +kernel)
theorem w3_6 : Jvm.Cond.fieldLink "EmbossPress" (187 : Nat) "EmbossPress" "LEAST_VALUES" "[I" ∈ WW := ww_t3 6 (by decide +kernel) (by decide +kernel)
theorem w3_8 : Jvm.Cond.fieldLink "EmbossPress" (190 : Nat) "EmbossPress" "GREATEST_VALUES" "[I" ∈ WW := ww_t3 8 (by decide +kernel) (by decide +kernel)
theorem w3_11 : Jvm.Cond.methodLink "EmbossPressLaw" (49 : Nat) ({ cls := "EmbossPress", name := "cast", desc := "(III)I" } : Jvm.MethodName) ∈ WW := ww_t3 11 (by decide +kernel) (by decide +kernel)
theorem w3_12 : Jvm.Cond.instanceMethod ({ cls := "EmbossPress", name := "cast", desc := "(III)I" } : Jvm.MethodName) ∈ WW := ww_t3 12 (by decide +kernel) (by decide +kernel)
theorem w3_13 : Jvm.Cond.selects "EmbossPress" ({ cls := "EmbossPress", name := "cast", desc := "(III)I" } : Jvm.MethodName) ({ cls := "EmbossPress", name := "cast", desc := "(III)I" } : Jvm.MethodName) ∈ WW := ww_t3 13 (by decide +kernel) (by decide +kernel)
theorem w3_14 : Jvm.Cond.code ({ cls := "EmbossPress", name := "cast", desc := "(III)I" } : Jvm.MethodName) prog_1_method_3_code (7 : Nat) (Option.some Jvm.ClassFile.FieldType.int) ∈ WW := ww_t3 14 (by decide +kernel) (by decide +kernel)
theorem w3_16 : Jvm.Cond.methodLink "EmbossPress" (91 : Nat) ({ cls := "EmbossPress$Sheet", name := "depthAt", desc := "(II)I" } : Jvm.MethodName) ∈ WW := ww_t3 16 (by decide +kernel) (by decide +kernel)
theorem w3_17 : Jvm.Cond.instanceMethod ({ cls := "EmbossPress$Sheet", name := "depthAt", desc := "(II)I" } : Jvm.MethodName) ∈ WW := ww_t3 17 (by decide +kernel) (by decide +kernel)
theorem w3_18 : Jvm.Cond.selects "EmbossPress$Sheet" ({ cls := "EmbossPress$Sheet", name := "depthAt", desc := "(II)I" } : Jvm.MethodName) ({ cls := "EmbossPress$Sheet", name := "depthAt", desc := "(II)I" } : Jvm.MethodName) ∈ WW := ww_t3 18 (by decide +kernel) (by decide +kernel)
theorem w3_19 : Jvm.Cond.code ({ cls := "EmbossPress$Sheet", name := "depthAt", desc := "(II)I" } : Jvm.MethodName) prog_4_method_5_code (4 : Nat) (Option.some Jvm.ClassFile.FieldType.int) ∈ WW := ww_t3 19 (by decide +kernel) (by decide +kernel)
theorem w3_21 : Jvm.Cond.methodLink "EmbossPress" (75 : Nat) ({ cls := "EmbossPress", name := "pointIndex", desc := "(III)I" } : Jvm.MethodName) ∈ WW := ww_t3 21 (by decide +kernel) (by decide +kernel)
theorem w3_22 : Jvm.Cond.methodLink "EmbossPress" (95 : Nat) ({ cls := "java/lang/Math", name := "min", desc := "(II)I" } : Jvm.MethodName) ∈ WW := ww_t3 22 (by decide +kernel) (by decide +kernel)
theorem w3_23 : Jvm.Cond.static ({ cls := "java/lang/Math", name := "min", desc := "(II)I" } : Jvm.MethodName) ∈ WW := ww_t3 23 (by decide +kernel) (by decide +kernel)
theorem w3_24 : Jvm.Cond.code ({ cls := "java/lang/Math", name := "min", desc := "(II)I" } : Jvm.MethodName) prog_13_method_69_code (2 : Nat) (Option.some Jvm.ClassFile.FieldType.int) ∈ WW := ww_t3 24 (by decide +kernel) (by decide +kernel)
theorem w3_25 : Jvm.Cond.methodLink "EmbossPress" (100 : Nat) ({ cls := "EmbossPress$State", name := "raisedPoints", desc := "(I)I" } : Jvm.MethodName) ∈ WW := ww_t3 25 (by decide +kernel) (by decide +kernel)
theorem w3_26 : Jvm.Cond.instanceMethod ({ cls := "EmbossPress$State", name := "raisedPoints", desc := "(I)I" } : Jvm.MethodName) ∈ WW := ww_t3 26 (by decide +kernel) (by decide +kernel)
theorem w3_27 : Jvm.Cond.selects "EmbossPress$State" ({ cls := "EmbossPress$State", name := "raisedPoints", desc := "(I)I" } : Jvm.MethodName) ({ cls := "EmbossPress$State", name := "raisedPoints", desc := "(I)I" } : Jvm.MethodName) ∈ WW := ww_t3 27 (by decide +kernel) (by decide +kernel)
theorem w3_28 : Jvm.Cond.code ({ cls := "EmbossPress$State", name := "raisedPoints", desc := "(I)I" } : Jvm.MethodName) prog_5_method_5_code (4 : Nat) (Option.some Jvm.ClassFile.FieldType.int) ∈ WW := ww_t3 28 (by decide +kernel) (by decide +kernel)
theorem w3_29 : Jvm.Cond.methodLink "EmbossPressLaw" (52 : Nat) ({ cls := "EmbossPress", name := "press", desc := "(IIII)I" } : Jvm.MethodName) ∈ WW := ww_t3 29 (by decide +kernel) (by decide +kernel)
theorem w3_30 : Jvm.Cond.instanceMethod ({ cls := "EmbossPress", name := "press", desc := "(IIII)I" } : Jvm.MethodName) ∈ WW := ww_t3 30 (by decide +kernel) (by decide +kernel)
theorem w3_31 : Jvm.Cond.selects "EmbossPress" ({ cls := "EmbossPress", name := "press", desc := "(IIII)I" } : Jvm.MethodName) ({ cls := "EmbossPress", name := "press", desc := "(IIII)I" } : Jvm.MethodName) ∈ WW := ww_t3 31 (by decide +kernel) (by decide +kernel)
theorem w3_32 : Jvm.Cond.code ({ cls := "EmbossPress", name := "press", desc := "(IIII)I" } : Jvm.MethodName) prog_1_method_7_code (6 : Nat) (Option.some Jvm.ClassFile.FieldType.int) ∈ WW := ww_t3 32 (by decide +kernel) (by decide +kernel)
theorem w3_34 : Jvm.Cond.methodLink "EmbossPress" (147 : Nat) ({ cls := "EmbossPress$State", name := "turnDie", desc := "(II[I)V" } : Jvm.MethodName) ∈ WW := ww_t3 34 (by decide +kernel) (by decide +kernel)
theorem w3_35 : Jvm.Cond.instanceMethod ({ cls := "EmbossPress$State", name := "turnDie", desc := "(II[I)V" } : Jvm.MethodName) ∈ WW := ww_t3 35 (by decide +kernel) (by decide +kernel)
theorem w3_36 : Jvm.Cond.selects "EmbossPress$State" ({ cls := "EmbossPress$State", name := "turnDie", desc := "(II[I)V" } : Jvm.MethodName) ({ cls := "EmbossPress$State", name := "turnDie", desc := "(II[I)V" } : Jvm.MethodName) ∈ WW := ww_t3 36 (by decide +kernel) (by decide +kernel)
theorem w3_37 : Jvm.Cond.code ({ cls := "EmbossPress$State", name := "turnDie", desc := "(II[I)V" } : Jvm.MethodName) prog_5_method_4_code (6 : Nat) (Option.none : Option Jvm.ClassFile.FieldType) ∈ WW := ww_t3 37 (by decide +kernel) (by decide +kernel)
theorem w3_38 : Jvm.Cond.methodLink "EmbossPress$State" (84 : Nat) ({ cls := "EmbossPress$State", name := "turnedPoint", desc := "(IIII)I" } : Jvm.MethodName) ∈ WW := ww_t3 38 (by decide +kernel) (by decide +kernel)
theorem w3_39 : Jvm.Cond.methodLink "EmbossPress" (151 : Nat) ({ cls := "EmbossPress", name := "refusal", desc := "(II)I" } : Jvm.MethodName) ∈ WW := ww_t3 39 (by decide +kernel) (by decide +kernel)
theorem w3_41 : Jvm.Cond.instanceMethod ({ cls := "EmbossPress", name := "refusal", desc := "(II)I" } : Jvm.MethodName) ∈ WW := ww_t3 41 (by decide +kernel) (by decide +kernel)
theorem w3_42 : Jvm.Cond.code ({ cls := "EmbossPress", name := "refusal", desc := "(II)I" } : Jvm.MethodName) prog_1_method_38_code (7 : Nat) (Option.some Jvm.ClassFile.FieldType.int) ∈ WW := ww_t3 42 (by decide +kernel) (by decide +kernel)
theorem w3_43 : Jvm.Cond.methodLink "EmbossPress" (310 : Nat) ({ cls := "EmbossPress", name := "placeUnder", desc := "(IJJ)I" } : Jvm.MethodName) ∈ WW := ww_t3 43 (by decide +kernel) (by decide +kernel)
theorem w3_44 : Jvm.Cond.static ({ cls := "EmbossPress", name := "placeUnder", desc := "(IJJ)I" } : Jvm.MethodName) ∈ WW := ww_t3 44 (by decide +kernel) (by decide +kernel)
theorem w3_45 : Jvm.Cond.code ({ cls := "EmbossPress", name := "placeUnder", desc := "(IJJ)I" } : Jvm.MethodName) prog_1_method_39_code (5 : Nat) (Option.some Jvm.ClassFile.FieldType.int) ∈ WW := ww_t3 45 (by decide +kernel) (by decide +kernel)
theorem w3_46 : Jvm.Cond.methodLink "EmbossPress" (314 : Nat) ({ cls := "java/lang/Math", name := "max", desc := "(II)I" } : Jvm.MethodName) ∈ WW := ww_t3 46 (by decide +kernel) (by decide +kernel)
theorem w3_47 : Jvm.Cond.methodLink "EmbossPress" (157 : Nat) ({ cls := "EmbossPress", name := "pressRelief", desc := "(II)I" } : Jvm.MethodName) ∈ WW := ww_t3 47 (by decide +kernel) (by decide +kernel)
theorem w3_49 : Jvm.Cond.instanceMethod ({ cls := "EmbossPress", name := "pressRelief", desc := "(II)I" } : Jvm.MethodName) ∈ WW := ww_t3 49 (by decide +kernel) (by decide +kernel)
theorem w3_50 : Jvm.Cond.code ({ cls := "EmbossPress", name := "pressRelief", desc := "(II)I" } : Jvm.MethodName) prog_1_method_40_code (6 : Nat) (Option.some Jvm.ClassFile.FieldType.int) ∈ WW := ww_t3 50 (by decide +kernel) (by decide +kernel)
theorem w3_51 : Jvm.Cond.methodLink "EmbossPress" (317 : Nat) ({ cls := "EmbossPress$Sheet", name := "emboss", desc := "([IJJ)V" } : Jvm.MethodName) ∈ WW := ww_t3 51 (by decide +kernel) (by decide +kernel)
theorem w3_52 : Jvm.Cond.instanceMethod ({ cls := "EmbossPress$Sheet", name := "emboss", desc := "([IJJ)V" } : Jvm.MethodName) ∈ WW := ww_t3 52 (by decide +kernel) (by decide +kernel)
theorem w3_53 : Jvm.Cond.selects "EmbossPress$Sheet" ({ cls := "EmbossPress$Sheet", name := "emboss", desc := "([IJJ)V" } : Jvm.MethodName) ({ cls := "EmbossPress$Sheet", name := "emboss", desc := "([IJJ)V" } : Jvm.MethodName) ∈ WW := ww_t3 53 (by decide +kernel) (by decide +kernel)
theorem w3_54 : Jvm.Cond.code ({ cls := "EmbossPress$Sheet", name := "emboss", desc := "([IJJ)V" } : Jvm.MethodName) prog_4_method_6_code (8 : Nat) (Option.none : Option Jvm.ClassFile.FieldType) ∈ WW := ww_t3 54 (by decide +kernel) (by decide +kernel)
theorem w3_56 : Jvm.Cond.methodLink "EmbossPress" (321 : Nat) ({ cls := "EmbossPress$State", name := "stickFoil", desc := "([IJJ)V" } : Jvm.MethodName) ∈ WW := ww_t3 56 (by decide +kernel) (by decide +kernel)
theorem w3_57 : Jvm.Cond.instanceMethod ({ cls := "EmbossPress$State", name := "stickFoil", desc := "([IJJ)V" } : Jvm.MethodName) ∈ WW := ww_t3 57 (by decide +kernel) (by decide +kernel)
theorem w3_58 : Jvm.Cond.selects "EmbossPress$State" ({ cls := "EmbossPress$State", name := "stickFoil", desc := "([IJJ)V" } : Jvm.MethodName) ({ cls := "EmbossPress$State", name := "stickFoil", desc := "([IJJ)V" } : Jvm.MethodName) ∈ WW := ww_t3 58 (by decide +kernel) (by decide +kernel)
theorem w3_59 : Jvm.Cond.code ({ cls := "EmbossPress$State", name := "stickFoil", desc := "([IJJ)V" } : Jvm.MethodName) prog_5_method_7_code (8 : Nat) (Option.none : Option Jvm.ClassFile.FieldType) ∈ WW := ww_t3 59 (by decide +kernel) (by decide +kernel)
theorem w3_61 : Jvm.Cond.methodLink "EmbossPress$State" (92 : Nat) ({ cls := "EmbossPress$State", name := "isFoilReadyOver", desc := "(I)Z" } : Jvm.MethodName) ∈ WW := ww_t3 61 (by decide +kernel) (by decide +kernel)
theorem w3_62 : Jvm.Cond.methodLink "EmbossPress" (327 : Nat) ({ cls := "EmbossPress$State", name := "slipIfDue", desc := "()V" } : Jvm.MethodName) ∈ WW := ww_t3 62 (by decide +kernel) (by decide +kernel)
theorem w3_63 : Jvm.Cond.instanceMethod ({ cls := "EmbossPress$State", name := "slipIfDue", desc := "()V" } : Jvm.MethodName) ∈ WW := ww_t3 63 (by decide +kernel) (by decide +kernel)
theorem w3_64 : Jvm.Cond.selects "EmbossPress$State" ({ cls := "EmbossPress$State", name := "slipIfDue", desc := "()V" } : Jvm.MethodName) ({ cls := "EmbossPress$State", name := "slipIfDue", desc := "()V" } : Jvm.MethodName) ∈ WW := ww_t3 64 (by decide +kernel) (by decide +kernel)
theorem w3_65 : Jvm.Cond.code ({ cls := "EmbossPress$State", name := "slipIfDue", desc := "()V" } : Jvm.MethodName) prog_5_method_8_code (2 : Nat) (Option.none : Option Jvm.ClassFile.FieldType) ∈ WW := ww_t3 65 (by decide +kernel) (by decide +kernel)
theorem w3_66 : Jvm.Cond.methodLink "EmbossPress$State" (99 : Nat) ({ cls := "java/lang/Math", name := "min", desc := "(II)I" } : Jvm.MethodName) ∈ WW := ww_t3 66 (by decide +kernel) (by decide +kernel)
theorem w3_67 : Jvm.Cond.methodLink "EmbossPressLaw" (55 : Nat) ({ cls := "EmbossPress", name := "point", desc := "(IIII)I" } : Jvm.MethodName) ∈ WW := ww_t3 67 (by decide +kernel) (by decide +kernel)
theorem w3_68 : Jvm.Cond.instanceMethod ({ cls := "EmbossPress", name := "point", desc := "(IIII)I" } : Jvm.MethodName) ∈ WW := ww_t3 68 (by decide +kernel) (by decide +kernel)
theorem w3_69 : Jvm.Cond.selects "EmbossPress" ({ cls := "EmbossPress", name := "point", desc := "(IIII)I" } : Jvm.MethodName) ({ cls := "EmbossPress", name := "point", desc := "(IIII)I" } : Jvm.MethodName) ∈ WW := ww_t3 69 (by decide +kernel) (by decide +kernel)
theorem w3_70 : Jvm.Cond.code ({ cls := "EmbossPress", name := "point", desc := "(IIII)I" } : Jvm.MethodName) prog_1_method_2_code (7 : Nat) (Option.some Jvm.ClassFile.FieldType.int) ∈ WW := ww_t3 70 (by decide +kernel) (by decide +kernel)
theorem w3_72 : Jvm.Cond.methodLink "EmbossPressLaw" (87 : Nat) ({ cls := "EmbossPressLaw", name := "holds", desc := "(LEmbossPress;)Z" } : Jvm.MethodName) ∈ WW := ww_t3 72 (by decide +kernel) (by decide +kernel)
theorem w3_73 : Jvm.Cond.static ({ cls := "EmbossPressLaw", name := "holds", desc := "(LEmbossPress;)Z" } : Jvm.MethodName) ∈ WW := ww_t3 73 (by decide +kernel) (by decide +kernel)
theorem w3_74 : Jvm.Cond.code ({ cls := "EmbossPressLaw", name := "holds", desc := "(LEmbossPress;)Z" } : Jvm.MethodName) method_6_code (9 : Nat) (Option.some Jvm.ClassFile.FieldType.boolean) ∈ WW := ww_t3 74 (by decide +kernel) (by decide +kernel)
theorem w3_75 : Jvm.Cond.methodLink "EmbossPressLaw" (58 : Nat) ({ cls := "EmbossPress", name := "setting", desc := "(I)I" } : Jvm.MethodName) ∈ WW := ww_t3 75 (by decide +kernel) (by decide +kernel)
theorem w3_76 : Jvm.Cond.instanceMethod ({ cls := "EmbossPress", name := "setting", desc := "(I)I" } : Jvm.MethodName) ∈ WW := ww_t3 76 (by decide +kernel) (by decide +kernel)
theorem w3_77 : Jvm.Cond.selects "EmbossPress" ({ cls := "EmbossPress", name := "setting", desc := "(I)I" } : Jvm.MethodName) ({ cls := "EmbossPress", name := "setting", desc := "(I)I" } : Jvm.MethodName) ∈ WW := ww_t3 77 (by decide +kernel) (by decide +kernel)
theorem w3_78 : Jvm.Cond.code ({ cls := "EmbossPress", name := "setting", desc := "(I)I" } : Jvm.MethodName) prog_1_method_20_code (2 : Nat) (Option.some Jvm.ClassFile.FieldType.int) ∈ WW := ww_t3 78 (by decide +kernel) (by decide +kernel)
theorem w3_79 : Jvm.Cond.methodLink "EmbossPressLaw" (61 : Nat) ({ cls := "EmbossPress", name := "wholeShare", desc := "()D" } : Jvm.MethodName) ∈ WW := ww_t3 79 (by decide +kernel) (by decide +kernel)
theorem w3_80 : Jvm.Cond.instanceMethod ({ cls := "EmbossPress", name := "wholeShare", desc := "()D" } : Jvm.MethodName) ∈ WW := ww_t3 80 (by decide +kernel) (by decide +kernel)
theorem w3_81 : Jvm.Cond.selects "EmbossPress" ({ cls := "EmbossPress", name := "wholeShare", desc := "()D" } : Jvm.MethodName) ({ cls := "EmbossPress", name := "wholeShare", desc := "()D" } : Jvm.MethodName) ∈ WW := ww_t3 81 (by decide +kernel) (by decide +kernel)
theorem w3_82 : Jvm.Cond.code ({ cls := "EmbossPress", name := "wholeShare", desc := "()D" } : Jvm.MethodName) prog_1_method_27_code (1 : Nat) (Option.some Jvm.ClassFile.FieldType.double) ∈ WW := ww_t3 82 (by decide +kernel) (by decide +kernel)
theorem w3_83 : Jvm.Cond.constantDouble "EmbossPress" (276 : Nat) (4639270566145032192 : UInt64) ∈ WW := ww_t3 83 (by decide +kernel) (by decide +kernel)
theorem w3_84 : Jvm.Cond.constantDouble "EmbossPressLaw" (65 : Nat) (4639270566145032192 : UInt64) ∈ WW := ww_t3 84 (by decide +kernel) (by decide +kernel)
theorem w3_85 : Jvm.Cond.methodLink "EmbossPressLaw" (83 : Nat) ({ cls := "EmbossPressLaw", name := "isSettled", desc := "(LEmbossPress;)Z" } : Jvm.MethodName) ∈ WW := ww_t3 85 (by decide +kernel) (by decide +kernel)
theorem w3_86 : Jvm.Cond.static ({ cls := "EmbossPressLaw", name := "isSettled", desc := "(LEmbossPress;)Z" } : Jvm.MethodName) ∈ WW := ww_t3 86 (by decide +kernel) (by decide +kernel)
theorem w3_87 : Jvm.Cond.code ({ cls := "EmbossPressLaw", name := "isSettled", desc := "(LEmbossPress;)Z" } : Jvm.MethodName) method_7_code (3 : Nat) (Option.some Jvm.ClassFile.FieldType.boolean) ∈ WW := ww_t3 87 (by decide +kernel) (by decide +kernel)
theorem wp_0 : Cond.selects "java/lang/Throwable" (⟨"java/lang/Throwable", "fillInStackTrace", "(I)Ljava/lang/Throwable;"⟩ : MethodName) (⟨"java/lang/Throwable", "fillInStackTrace", "(I)Ljava/lang/Throwable;"⟩ : MethodName) ∈ WW := ww_mem (List.mem_of_getElem? (i := 0) (by decide +kernel)) (by decide +kernel)
theorem wp_1 : Cond.selects "EmbossPress" (⟨"EmbossPress", "numberOf", "(I)I"⟩ : MethodName) (⟨"EmbossPress", "numberOf", "(I)I"⟩ : MethodName) ∈ WW := ww_mem (List.mem_of_getElem? (i := 1) (by decide +kernel)) (by decide +kernel)
theorem wp_2 : Cond.selects "EmbossPress" (⟨"EmbossPress", "propertyOf", "(II)I"⟩ : MethodName) (⟨"EmbossPress", "propertyOf", "(II)I"⟩ : MethodName) ∈ WW := ww_mem (List.mem_of_getElem? (i := 2) (by decide +kernel)) (by decide +kernel)
theorem wp_3 : Cond.selects "EmbossPress" (⟨"EmbossPress", "saveState", "()V"⟩ : MethodName) (⟨"EmbossPress", "saveState", "()V"⟩ : MethodName) ∈ WW := ww_mem (List.mem_of_getElem? (i := 3) (by decide +kernel)) (by decide +kernel)
theorem wp_4 : Cond.selects "EmbossPress$CrackFinder" (⟨"EmbossPress$CrackFinder", "noteIfWhole", "(LEmbossPress$Sheet;I)V"⟩ : MethodName) (⟨"EmbossPress$CrackFinder", "noteIfWhole", "(LEmbossPress$Sheet;I)V"⟩ : MethodName) ∈ WW := ww_mem (List.mem_of_getElem? (i := 4) (by decide +kernel)) (by decide +kernel)
theorem wp_5 : Cond.selects "EmbossPress$CrackFinder" (⟨"EmbossPress$CrackFinder", "crackFound", "(LEmbossPress$Sheet;)I"⟩ : MethodName) (⟨"EmbossPress$CrackFinder", "crackFound", "(LEmbossPress$Sheet;)I"⟩ : MethodName) ∈ WW := ww_mem (List.mem_of_getElem? (i := 5) (by decide +kernel)) (by decide +kernel)
theorem wp_6 : Cond.selects "EmbossPress$CrackFinder" (⟨"EmbossPress$CrackFinder", "weakenBeside", "(I)V"⟩ : MethodName) (⟨"EmbossPress$CrackFinder", "weakenBeside", "(I)V"⟩ : MethodName) ∈ WW := ww_mem (List.mem_of_getElem? (i := 6) (by decide +kernel)) (by decide +kernel)
theorem wp_7 : Cond.selects "EmbossPress$CrackFinder" (⟨"EmbossPress$CrackFinder", "findOverstrained", "(LEmbossPress$Sheet;II)V"⟩ : MethodName) (⟨"EmbossPress$CrackFinder", "findOverstrained", "(LEmbossPress$Sheet;II)V"⟩ : MethodName) ∈ WW := ww_mem (List.mem_of_getElem? (i := 7) (by decide +kernel)) (by decide +kernel)
theorem wp_8 : Cond.selects "EmbossPress" (⟨"EmbossPress", "refusal", "(II)I"⟩ : MethodName) (⟨"EmbossPress", "refusal", "(II)I"⟩ : MethodName) ∈ WW := ww_mem (List.mem_of_getElem? (i := 8) (by decide +kernel)) (by decide +kernel)
theorem wp_9 : Cond.selects "EmbossPress" (⟨"EmbossPress", "pressRelief", "(II)I"⟩ : MethodName) (⟨"EmbossPress", "pressRelief", "(II)I"⟩ : MethodName) ∈ WW := ww_mem (List.mem_of_getElem? (i := 9) (by decide +kernel)) (by decide +kernel)
end
section
/-! THE WORLD: 88 cells at addresses E.1 i; what they hold is told by M : cell -> place -> whole number.
sheets j < 10: 5j the object, 5j+1 depths, 5j+2 foils, 5j+3 cracks, 5j+4 pressings (0 now, 1 2 slots, 3..8 saved, 9 trial)
states j < 9: 50+3j the object, +1 points, +2 settings; 77 EmbossPress, 78 slots, 79 slotTaken, 80 saved, 81 DieText, 82 codes, 83 relief,
84 finder, 85 strains, 86 beside, 87 breaking. No cells: E.1 200, 201, 202 the static arrays, E.1 203 the script, of E.2.2.2.1 numbers E.2.2.2.2 -/
abbrev ewM : Type := Nat → Int → Int
abbrev ewE : Type := (Nat → Nat) × va_G × (Nat → ClassId) × Nat × (Nat → Int32)
def vI (a : Int) : Value := .int (Int32.ofInt a)
def vJ (a : Int) : Value := .long (Int64.ofInt a)
def vR (E : ewE) (o : Nat) : Value := .ref (E.1 o)
def ew_arr (E : ewE) (t n : Nat) (f : Int → Int) : va_E := .inl (E.2.2.1 t, n, .inl (fun k => Int32.ofInt (f k)))
def ew_cell (E : ewE) (i : Nat) (f : Int → Int) : va_E :=
  if i < 50 then
    if i % 5 = 0 then .inr (5, [vR E (i + 1), vR E (i + 2), vR E (i + 3), vR E (i + 4)]) else ew_arr E 0 144 f
  else if i < 77 then
    if (i - 50) % 3 = 0 then .inr (6, [vR E (i + 1), vR E (i + 2), vR E (5 * ((i - 50) / 3)), vI (f 3), vI (f 4), vI (f 5), vI (f 6), vI (f 7), vI (f 8), vI (f 9), vI (f 10), vI (f 11), vI (f 12), vI (f 13), vI (f 14)])
    else if (i - 50) % 3 = 1 then ew_arr E 0 75 f else ew_arr E 0 4 f
  else if i = 77 then .inr (7, [vR E 50, vR E 78, vR E 79, vR E 80, vI (f 4), vI (f 5), vR E 81, vR E 83, vR E 45, vR E 84])
  else if i = 78 then .inl (E.2.2.1 3, 2, .inr (.inr (.inr (.inr (fun k => some (E.1 (53 + 3 * k)))))))
  else if i = 79 then ew_arr E 1 2 f
  else if i = 80 then .inl (E.2.2.1 3, 6, .inr (.inr (.inr (.inr (fun k => some (E.1 (59 + 3 * k)))))))
  else if i = 81 then .inr (4, [vR E 82, vI (f 1)])
  else if i = 82 then ew_arr E 0 40 f
  else if i = 83 then ew_arr E 0 25 f
  else if i = 84 then .inr (3, [vR E 85, vR E 86, vR E 87, vI (f 3)])
  else ew_arr E 0 144 f
def ew_ws (E : ewE) (M : ewM) : va_W := (List.range 88).map (fun i => (E.1 i, ew_cell E i (M i)))
def mu (M : ewM) (o : Nat) (k x : Int) : ewM := fun a => if a = o then (fun b => if b = k then x else M a b) else M a
theorem mu_at (M : ewM) (o : Nat) (k x : Int) : mu M o k x o = fun b => if b = k then x else M o b := by unfold mu; rw [if_pos rfl]
theorem mu_ne (M : ewM) {o a : Nat} (k x : Int) (h : a ≠ o) : mu M o k x a = M a := by unfold mu; rw [if_neg h]
theorem mu_eq (M : ewM) (o : Nat) (k x : Int) : mu M o k x o k = x := by rw [mu_at]; exact if_pos rfl
theorem mu_nk (M : ewM) (o : Nat) {k b : Int} (x : Int) (h : b ≠ k) : mu M o k x o b = M o b := by rw [mu_at]; exact if_neg h
def ew_S (M : ewM) : Prop := ∀ (i : Nat) (k : Int), i < 88 → ¬ (i = 88 ∧ k = 13) → -2147483648 ≤ M i k ∧ M i k < 2147483648
theorem ew_Smu {M : ewM} (h : ew_S M) {o : Nat} {k x : Int} (h1 : -2147483648 ≤ x) (h2 : x < 2147483648) : ew_S (mu M o k x) := by
  intro i b hi hb
  unfold mu
  split
  · next he =>
    subst he
    show _ ≤ (if b = k then x else M i b) ∧ (if b = k then x else M i b) < _
    split
    · exact ⟨h1, h2⟩
    · exact h i b hi hb
  · exact h i b hi hb
theorem ew_get {E : ewE} {M : ewM} {i : Nat} (h : i < 88) : (ew_ws E M)[i]? = some (E.1 i, ew_cell E i (M i)) := by
  unfold ew_ws
  rw [List.getElem?_map, List.getElem?_range h]
  rfl
theorem ew_set {E : ewE} {M : ewM} {i : Nat} {k x : Int} {e : va_E} (he : ew_cell E i (fun b => if b = k then x else M i b) = e) : (ew_ws E M).set i (E.1 i, e) = ew_ws E (mu M i k x) := by
  apply List.ext_getElem?
  intro j
  unfold ew_ws
  rw [List.getElem?_set, List.getElem?_map, List.getElem?_map]
  by_cases hij : i = j
  · subst hij
    rw [if_pos rfl]
    simp only [List.length_map, List.length_range]
    by_cases hl : i < 88
    · rw [if_pos hl, List.getElem?_range hl]
      show some (E.1 i, e) = some (E.1 i, ew_cell E i (mu M i k x i))
      rw [mu_at, he]
    · rw [if_neg hl, List.getElem?_eq_none (by rw [List.length_range]; omega)]
      rfl
  · rw [if_neg hij]
    by_cases hl : j < 88
    · rw [List.getElem?_range hl]
      show some (E.1 j, ew_cell E j (M j)) = some (E.1 j, ew_cell E j (mu M i k x j))
      rw [mu_ne M k x (fun h => hij h.symm)]
    · rw [List.getElem?_eq_none (by rw [List.length_range]; omega)]
      rfl
/-- an array of ints (t 0) or booleans (t 1) of n places at o -/
def ewA (o t n : Nat) : Prop := o < 88 ∧ o ≠ 88 ∧ ∀ (E : ewE) (f : Int → Int), ew_cell E o f = ew_arr E t n f
/-- an object of class ci at o, its int field k -/
def ewF (o ci k : Nat) : Prop := o < 88 ∧ ∀ (E : ewE) (f : Int → Int), ∃ fs : List Value, ew_cell E o f = .inr (ci, fs) ∧ fs[k]? = some (vI (f k)) ∧ ∀ x : Int, ew_cell E o (fun b => if b = (k : Int) then x else f b) = .inr (ci, fs.set k (vI x))
/-- .. its field k that holds the cell t -/
def ewR (o ci k t : Nat) : Prop := o < 88 ∧ ∀ (E : ewE) (f : Int → Int), ∃ fs : List Value, ew_cell E o f = .inr (ci, fs) ∧ fs[k]? = some (vR E t)
def ewO (o ci : Nat) : Prop := o < 88 ∧ ∀ (E : ewE) (f : Int → Int), ∃ fs : List Value, ew_cell E o f = .inr (ci, fs)
theorem ewF.o {o ci k : Nat} (h : ewF o ci k) : ewO o ci := ⟨h.1, fun E f => by obtain ⟨fs, h1, -⟩ := h.2 E f; exact ⟨fs, h1⟩⟩
theorem ewR.o {o ci k t : Nat} (h : ewR o ci k t) : ewO o ci := ⟨h.1, fun E f => by obtain ⟨fs, h1, -⟩ := h.2 E f; exact ⟨fs, h1⟩⟩
-- sheets
theorem ewA_sheet {j r : Nat} (hj : j < 10) (h1 : 1 ≤ r) (h4 : r ≤ 4) : ewA (5 * j + r) 0 144 := by
  refine ⟨by omega, by omega, fun E f => ?_⟩
  unfold ew_cell
  rw [if_pos (by omega), if_neg (by omega)]
theorem ew_sheet (E : ewE) (f : Int → Int) {j : Nat} (hj : j < 10) : ew_cell E (5 * j) f = .inr (5, [vR E (5 * j + 1), vR E (5 * j + 2), vR E (5 * j + 3), vR E (5 * j + 4)]) := by
  unfold ew_cell
  rw [if_pos (by omega), if_pos (by omega)]
theorem ewO_sheet {j : Nat} (hj : j < 10) : ewO (5 * j) 5 := ⟨by omega, fun E f => ⟨_, ew_sheet E f hj⟩⟩
theorem ewR_s0 {j : Nat} (hj : j < 10) : ewR (5 * j) 5 0 (5 * j + 1) := ⟨by omega, fun E f => ⟨_, ew_sheet E f hj, rfl⟩⟩
theorem ewR_s1 {j : Nat} (hj : j < 10) : ewR (5 * j) 5 1 (5 * j + 2) := ⟨by omega, fun E f => ⟨_, ew_sheet E f hj, rfl⟩⟩
theorem ewR_s2 {j : Nat} (hj : j < 10) : ewR (5 * j) 5 2 (5 * j + 3) := ⟨by omega, fun E f => ⟨_, ew_sheet E f hj, rfl⟩⟩
theorem ewR_s3 {j : Nat} (hj : j < 10) : ewR (5 * j) 5 3 (5 * j + 4) := ⟨by omega, fun E f => ⟨_, ew_sheet E f hj, rfl⟩⟩
-- states
theorem ew_state (E : ewE) (f : Int → Int) {j : Nat} (hj : j < 9) : ew_cell E (50 + 3 * j) f = .inr (6, [vR E (50 + 3 * j + 1), vR E (50 + 3 * j + 2), vR E (5 * j), vI (f 3), vI (f 4), vI (f 5), vI (f 6), vI (f 7), vI (f 8), vI (f 9), vI (f 10), vI (f 11), vI (f 12), vI (f 13), vI (f 14)]) := by
  unfold ew_cell
  rw [if_neg (by omega), if_pos (by omega), if_pos (by omega), show (50 + 3 * j - 50) / 3 = j by omega]
theorem ewO_state {j : Nat} (hj : j < 9) : ewO (50 + 3 * j) 6 := ⟨by omega, fun E f => ⟨_, ew_state E f hj⟩⟩
theorem ewR_t0 {j : Nat} (hj : j < 9) : ewR (50 + 3 * j) 6 0 (50 + 3 * j + 1) := ⟨by omega, fun E f => ⟨_, ew_state E f hj, rfl⟩⟩
theorem ewR_t1 {j : Nat} (hj : j < 9) : ewR (50 + 3 * j) 6 1 (50 + 3 * j + 2) := ⟨by omega, fun E f => ⟨_, ew_state E f hj, rfl⟩⟩
theorem ewR_t2 {j : Nat} (hj : j < 9) : ewR (50 + 3 * j) 6 2 (5 * j) := ⟨by omega, fun E f => ⟨_, ew_state E f hj, rfl⟩⟩
theorem ewF_t {j k : Nat} (hj : j < 9) (h3 : 3 ≤ k) (h14 : k ≤ 14) : ewF (50 + 3 * j) 6 k := by
  refine ⟨by omega, fun E f => ⟨_, ew_state E f hj, ?_, fun x => ?_⟩⟩
  · rcases (show k = 3 ∨ k = 4 ∨ k = 5 ∨ k = 6 ∨ k = 7 ∨ k = 8 ∨ k = 9 ∨ k = 10 ∨ k = 11 ∨ k = 12 ∨ k = 13 ∨ k = 14 by omega) with rfl | rfl | rfl | rfl | rfl | rfl | rfl | rfl | rfl | rfl | rfl | rfl <;> rfl
  · rw [ew_state E _ hj]
    rcases (show k = 3 ∨ k = 4 ∨ k = 5 ∨ k = 6 ∨ k = 7 ∨ k = 8 ∨ k = 9 ∨ k = 10 ∨ k = 11 ∨ k = 12 ∨ k = 13 ∨ k = 14 by omega) with rfl | rfl | rfl | rfl | rfl | rfl | rfl | rfl | rfl | rfl | rfl | rfl <;> rfl
theorem ewA_points {j : Nat} (hj : j < 9) : ewA (50 + 3 * j + 1) 0 75 := by
  refine ⟨by omega, by omega, fun E f => ?_⟩
  unfold ew_cell
  rw [if_neg (by omega), if_pos (by omega), if_neg (by omega), if_pos (by omega)]
theorem ewA_settings {j : Nat} (hj : j < 9) : ewA (50 + 3 * j + 2) 0 4 := by
  refine ⟨by omega, by omega, fun E f => ?_⟩
  unfold ew_cell
  rw [if_neg (by omega), if_pos (by omega), if_neg (by omega), if_neg (by omega)]
-- the single ones
theorem ewR_c {o ci k t : Nat} (ho : o < 88) (h : ∀ (E : ewE) (f : Int → Int), ∃ fs : List Value, ew_cell E o f = .inr (ci, fs) ∧ fs[k]? = some (vR E t)) : ewR o ci k t := ⟨ho, h⟩
theorem ewR_x0 : ewR 77 7 0 50 := ⟨by decide, fun E f => ⟨_, rfl, rfl⟩⟩
theorem ewR_x1 : ewR 77 7 1 78 := ⟨by decide, fun E f => ⟨_, rfl, rfl⟩⟩
theorem ewR_x2 : ewR 77 7 2 79 := ⟨by decide, fun E f => ⟨_, rfl, rfl⟩⟩
theorem ewR_x3 : ewR 77 7 3 80 := ⟨by decide, fun E f => ⟨_, rfl, rfl⟩⟩
theorem ewR_x6 : ewR 77 7 6 81 := ⟨by decide, fun E f => ⟨_, rfl, rfl⟩⟩
theorem ewR_x7 : ewR 77 7 7 83 := ⟨by decide, fun E f => ⟨_, rfl, rfl⟩⟩
theorem ewR_x8 : ewR 77 7 8 45 := ⟨by decide, fun E f => ⟨_, rfl, rfl⟩⟩
theorem ewR_x9 : ewR 77 7 9 84 := ⟨by decide, fun E f => ⟨_, rfl, rfl⟩⟩
theorem ewF_x4 : ewF 77 7 4 := ⟨by decide, fun E f => ⟨_, rfl, rfl, fun x => rfl⟩⟩
theorem ewF_x5 : ewF 77 7 5 := ⟨by decide, fun E f => ⟨_, rfl, rfl, fun x => rfl⟩⟩
theorem ewR_d0 : ewR 81 4 0 82 := ⟨by decide, fun E f => ⟨_, rfl, rfl⟩⟩
theorem ewF_d1 : ewF 81 4 1 := ⟨by decide, fun E f => ⟨_, rfl, rfl, fun x => rfl⟩⟩
theorem ewR_k0 : ewR 84 3 0 85 := ⟨by decide, fun E f => ⟨_, rfl, rfl⟩⟩
theorem ewR_k1 : ewR 84 3 1 86 := ⟨by decide, fun E f => ⟨_, rfl, rfl⟩⟩
theorem ewR_k2 : ewR 84 3 2 87 := ⟨by decide, fun E f => ⟨_, rfl, rfl⟩⟩
theorem ewF_k3 : ewF 84 3 3 := ⟨by decide, fun E f => ⟨_, rfl, rfl, fun x => rfl⟩⟩
theorem ewA_79 : ewA 79 1 2 := ⟨by decide, by decide, fun E f => rfl⟩
theorem ewA_82 : ewA 82 0 40 := ⟨by decide, by decide, fun E f => rfl⟩
theorem ewA_83 : ewA 83 0 25 := ⟨by decide, by decide, fun E f => rfl⟩
theorem ewA_85 : ewA 85 0 144 := ⟨by decide, by decide, fun E f => rfl⟩
theorem ewA_86 : ewA 86 0 144 := ⟨by decide, by decide, fun E f => rfl⟩
theorem ewA_87 : ewA 87 0 144 := ⟨by decide, by decide, fun E f => rfl⟩
-- numbers
theorem e32 {a : Int} (h1 : -2147483648 ≤ a) (h2 : a < 2147483648) : (Int32.ofInt a).toInt = a := Int32.toInt_ofInt_of_le h1 h2
theorem e64 {a : Int} (h1 : -9223372036854775808 ≤ a) (h2 : a < 9223372036854775808) : (Int64.ofInt a).toInt = a := Int64.toInt_ofInt_of_le h1 h2
theorem e32_le {a b : Int} (h1 : -2147483648 ≤ a) (h2 : a < 2147483648) (h3 : -2147483648 ≤ b) (h4 : b < 2147483648) : Int32.ofInt a ≤ Int32.ofInt b ↔ a ≤ b := by rw [Int32.le_iff_toInt_le, e32 h1 h2, e32 h3 h4]
theorem e32_lt {a b : Int} (h1 : -2147483648 ≤ a) (h2 : a < 2147483648) (h3 : -2147483648 ≤ b) (h4 : b < 2147483648) : Int32.ofInt a < Int32.ofInt b ↔ a < b := by rw [Int32.lt_iff_toInt_lt, e32 h1 h2, e32 h3 h4]
theorem e32_eq {a b : Int} (h1 : -2147483648 ≤ a) (h2 : a < 2147483648) (h3 : -2147483648 ≤ b) (h4 : b < 2147483648) : Int32.ofInt a = Int32.ofInt b ↔ a = b := by rw [← Int32.toInt_inj, e32 h1 h2, e32 h3 h4]
theorem e32_clamp {a : Int} (h1 : 0 ≤ a) (h2 : a < 2147483648) : ((Int32.ofInt a).toNatClampNeg : Int) = a := by
  show (((Int32.ofInt a).toInt.toNat : Nat) : Int) = a
  rw [e32 (by omega) h2]
  omega
theorem e32_in {a : Int} {n : Nat} (h1 : 0 ≤ a) (h2 : a < n) (hn : n < 2147483648) : vp_in (Int32.ofInt a) n := by
  have hc := e32_clamp h1 (by omega)
  rintro (h | h)
  · rw [Int32.lt_iff_toInt_lt, e32 (by omega) (by omega)] at h
    have : (0 : Int32).toInt = 0 := rfl
    omega
  · omega
theorem e32_div {a b : Int} (h1 : 0 ≤ a) (h2 : a < 2147483648) (h3 : 0 < b) (h4 : b < 2147483648) : Int32.ofInt a / Int32.ofInt b = Int32.ofInt (a / b) := by
  have e1 : Int32.minValue.toInt = -2147483648 := by decide
  have e2 : Int32.maxValue.toInt = 2147483647 := by decide
  rw [← Int32.ofInt_tdiv (by omega) (by omega) (by omega) (by omega), Int.tdiv_eq_ediv_of_nonneg h1]
theorem e32_rem {a b : Int} (h1 : 0 ≤ a) (h2 : a < 2147483648) (h3 : 0 < b) (h4 : b < 2147483648) : Int32.ofInt a - Int32.ofInt a / Int32.ofInt b * Int32.ofInt b = Int32.ofInt (a % b) := by
  rw [e32_div h1 h2 h3 h4, ← Int32.ofInt_mul, ← Int32.ofInt_sub]
  congr 1
  have := Int.emod_add_mul_ediv a b
  rw [Int.mul_comm] at this
  omega
theorem e32_l {a : Int} (h1 : -2147483648 ≤ a) (h2 : a < 2147483648) : (Int32.ofInt a).toInt64 = Int64.ofInt a := by
  have e1 : Int32.minValue.toInt = -2147483648 := by decide
  have e2 : Int32.maxValue.toInt = 2147483647 := by decide
  exact Int32.toInt64_ofInt (by omega) (by omega)
theorem e64_eq {a b : Int} (h1 : -9223372036854775808 ≤ a) (h2 : a < 9223372036854775808) (h3 : -9223372036854775808 ≤ b) (h4 : b < 9223372036854775808) : Int64.ofInt a = Int64.ofInt b ↔ a = b := by rw [← Int64.toInt_inj, e64 h1 h2, e64 h3 h4]
theorem e64_lt {a b : Int} (h1 : -9223372036854775808 ≤ a) (h2 : a < 9223372036854775808) (h3 : -9223372036854775808 ≤ b) (h4 : b < 9223372036854775808) : Int64.ofInt a < Int64.ofInt b ↔ a < b := by rw [Int64.lt_iff_toInt_lt, e64 h1 h2, e64 h3 h4]
end
section
/-! THE JUDGEMENT: jJ pc L S M: from every frame at pc with the locals L, the stack S, over a heap that holds the world M, the machine comes to Q -/
def ew_ty (E : ewE) : List (ClassId × FieldType) := [(E.2.2.1 0, .int), (E.2.2.1 1, .boolean), (E.2.2.1 2, .int), (E.2.2.1 3, .object "EmbossPress$State")]
def NWL : List Cond := [Jvm.Cond.fieldLinkNest "EmbossPress$State" (15 : Nat) "EmbossPress" "FIRST_VALUES" "[I" "EmbossPress",
  Jvm.Cond.methodLinkNest "EmbossPress" (11 : Nat) ({ cls := "EmbossPress$State", name := "<init>", desc := "()V" } : Jvm.MethodName) "EmbossPress",
  Jvm.Cond.methodLinkNest "EmbossPress$State" (28 : Nat) ({ cls := "EmbossPress$Sheet", name := "<init>", desc := "()V" } : Jvm.MethodName) "EmbossPress",
  Jvm.Cond.methodLinkNest "EmbossPress" (29 : Nat) ({ cls := "EmbossPress$DieText", name := "<init>", desc := "()V" } : Jvm.MethodName) "EmbossPress",
  Jvm.Cond.methodLinkNest "EmbossPress" (40 : Nat) ({ cls := "EmbossPress$Sheet", name := "<init>", desc := "()V" } : Jvm.MethodName) "EmbossPress",
  Jvm.Cond.methodLinkNest "EmbossPress" (47 : Nat) ({ cls := "EmbossPress$CrackFinder", name := "<init>", desc := "()V" } : Jvm.MethodName) "EmbossPress",
  Jvm.Cond.methodLinkNest "EmbossPress$CrackFinder" (42 : Nat) ({ cls := "EmbossPress", name := "placeIndex", desc := "(JJ)I" } : Jvm.MethodName) "EmbossPress",
  Jvm.Cond.methodLinkNest "EmbossPress$State" (80 : Nat) ({ cls := "EmbossPress", name := "pointIndex", desc := "(III)I" } : Jvm.MethodName) "EmbossPress",
  Jvm.Cond.methodLinkNest "EmbossPress$Sheet" (44 : Nat) ({ cls := "EmbossPress", name := "placeUnder", desc := "(IJJ)I" } : Jvm.MethodName) "EmbossPress",
  Jvm.Cond.methodLinkNest "EmbossPress$Sheet" (40 : Nat) ({ cls := "EmbossPress", name := "placeIndex", desc := "(JJ)I" } : Jvm.MethodName) "EmbossPress",
  Jvm.Cond.methodLinkNest "EmbossPress$State" (88 : Nat) ({ cls := "EmbossPress", name := "placeUnder", desc := "(IJJ)I" } : Jvm.MethodName) "EmbossPress"]
/-- the links between nest mates: they hold in every warmed state -/
def ew_N (U : State) : Prop := (∀ w ∈ NWL, va_Nw w U) ∧ True ∧ True
theorem ew_N.moved {s U : State} (hW : s.WarmedH U.vm) (h : ew_N s) : ew_N U := by
  refine ⟨fun w hw => ?_, trivial, trivial⟩
  have h1 := h.1 w hw
  simp only [NWL, List.mem_cons, List.not_mem_nil, or_false] at hw
  rcases hw with rfl | rfl | rfl | rfl | rfl | rfl | rfl | rfl | rfl | rfl | rfl
  · exact va_Nw.warmF hW h1
  · exact va_Nw.warmM hW h1
  · exact va_Nw.warmM hW h1
  · exact va_Nw.warmM hW h1
  · exact va_Nw.warmM hW h1
  · exact va_Nw.warmM hW h1
  · exact va_Nw.warmM hW h1
  · exact va_Nw.warmM hW h1
  · exact va_Nw.warmM hW h1
  · exact va_Nw.warmM hW h1
  · exact va_Nw.warmM hW h1
theorem ew_N.same {u U : State} (hv : u.vm = U.vm) (h : ew_N u) : ew_N U := ⟨fun w hw => va_Nw.same ((show ∀ w ∈ NWL, w.onTables = true by decide +kernel) w hw) hv (h.1 w hw), trivial, trivial⟩
def ew_A (E : ewE) (sz : Nat) : Nat → Prop := fun q => (∃ i : Nat, i < 88 ∧ q = E.1 i) ∨ sz ≤ q
def g_first (k : Nat) : Int := if k = 0 then 12 else if k = 1 then 3 else if k = 2 then 9 else 0
def g_least (k : Nat) : Int := if k = 2 then 1 else 0
def g_great (k : Nat) : Int := if k = 0 then 99 else if k = 1 then 20 else 9
/-- the script, at E.1 203: no cell of the world -/
def ew_X (E : ewE) (A : Nat → Prop) (U : State) (H : Heap) : Prop := va_X (E.1 203) E.2.2.2.1 E.2.2.2.2 U H ∧ E.1 203 < H.size ∧ ¬ A (E.1 203) ∧ E.2.2.2.1 ≤ 260
theorem ew_X.mv {E : ewE} {A B : Nat → Prop} {u U : State} {H H1 : Heap} (h : ew_X E A u H) (hvm : u.vm.Alike U.vm) (hq : ∀ a : Nat, a < H.size → ¬ A a → H1[a]? = H[a]?) (hAB : ∀ q, B q → A q) : ew_X E B U H1 := by
  have h1 := hq _ h.2.1 h.2.2.1
  refine ⟨va_X.moved hvm (h.1.kept h1), ?_, fun hb => h.2.2.1 (hAB _ hb), h.2.2.2⟩
  obtain ⟨scr, hs, -⟩ := h.1
  rw [hs] at h1
  exact (Array.getElem?_eq_some_iff.mp h1).1
/-- the three static arrays of EmbossPress, at E.1 200, 201, 202, and the script: no cells of the world -/
def ew_G (E : ewE) (A : Nat → Prop) (U : State) (H : Heap) : Prop :=
  ((va_Z "EmbossPress" "FIRST_VALUES" "[I" (vR E 200) A U H ∧ va_T .int (E.1 200) 4 (fun k => vI (g_first k)) A U H) ∧ ew_X E A U H) ∧
  (va_Z "EmbossPress" "LEAST_VALUES" "[I" (vR E 201) A U H ∧ va_T .int (E.1 201) 4 (fun k => vI (g_least k)) A U H) ∧
  (va_Z "EmbossPress" "GREATEST_VALUES" "[I" (vR E 202) A U H ∧ va_T .int (E.1 202) 4 (fun k => vI (g_great k)) A U H)
theorem ew_G.mv {E : ewE} {A B : Nat → Prop} {u U : State} {H H1 : Heap} (h : ew_G E A u H) (hvm : u.vm.Alike U.vm) (hq : ∀ a : Nat, a < H.size → ¬ A a → H1[a]? = H[a]?) (hAB : ∀ q, B q → A q) : ew_G E B U H1 :=
  ⟨⟨⟨((h.1.1.1.moved hvm).kept hq).narrow hAB, ((h.1.1.2.moved hvm).kept hq).narrow hAB⟩, h.1.2.mv hvm hq hAB⟩, ⟨((h.2.1.1.moved hvm).kept hq).narrow hAB, ((h.2.1.2.moved hvm).kept hq).narrow hAB⟩, ⟨((h.2.2.1.moved hvm).kept hq).narrow hAB, ((h.2.2.2.moved hvm).kept hq).narrow hAB⟩⟩
def ew_B (E : ewE) (M : ewM) (U : State) : Prop := va_P E.2.1 vwCl (ew_ws E M) U.heap ∧ va_K E.2.1 vwCl (ew_ty E) U ∧ va_D (fun _ => True) (ew_ws E M) ∧ ew_S M ∧ ew_N U ∧ ew_G E (ew_A E U.heap.size) U U.heap
def ew_I (E : ewE) (A : Nat → Prop) (s : State) (M : ewM) (H : Heap) (locs : List Loc) : Prop := va_P E.2.1 vwCl (ew_ws E M) H ∧ va_D A (ew_ws E M) ∧ va_S A s.heap H locs ∧ ew_S M
def jC (p : Program) (e : Env) (R : Room) (s : State) (m : MethodId) (args : Array Value) (meth : Method) (c : Code) (E : ewE) (A : Nat → Prop) (cc : ByteArray) (nL : Nat) (own : String) (ret : Option FieldType) : Prop :=
  p.tables.exec = Jvm.exec ∧ c.code = cc ∧ c.maxLocals = nL ∧ s.vm.findClass own = some m.cls ∧ (∀ w ∈ WW, w.before args s = true) ∧ va_K E.2.1 vwCl (ew_ty E) s ∧ meth.locks = false ∧ meth.sig.returnType = ret ∧ (∀ q : Nat, s.heap.size ≤ q → A q) ∧ (∀ i : Nat, i < 88 → A (E.1 i)) ∧ ew_N s ∧ ew_G E A s s.heap
def jJ (p : Program) (l : Launch) (e : Env) (R : Room) (s : State) (m : MethodId) (args : Array Value) (below : List Frame) (meth : Method) (c : Code) (E : ewE) (A : Nat → Prop) (nL : Nat) (cells slots : Nat) (Q : State → Prop) (pc : Nat) (L : List (Nat × Value)) (S : List Value) (M : ewM) : Prop :=
  ∀ (ls : Array Slot) (H : Heap) (locs : List Loc), lv_has ls nL L → ew_I E A s M H locs → W p l e R s m args below meth c H locs cells slots Q (F0 m pc ls S)
def ewK (ci : Nat) (C : String) (T : u_T) (N : Nat) (ty : Nat → FieldType) : Prop := vwCl[ci]? = some (C, T, N) ∧ (∀ w ∈ u_ws C T N, w ∈ WW) ∧ (∀ k, k < N → parseFieldDescriptor (T k).2.2.1 = some (ty k)) ∧ ∀ a, a < N → ∀ b, b < N → a ≠ b → (T a).2.1 ≠ (T b).2.1
/-- a field's link: own's pool entry idx is field k of class ci, of type ty -/
def ewL (own : String) (idx ci k : Nat) (ty : FieldType) : Prop := ∃ (C : String) (T : u_T) (N : Nat) (tys : Nat → FieldType), ewK ci C T N tys ∧ k < N ∧ (T k).2.2.2 = false ∧ tys k = ty ∧ Cond.fieldLink own idx (T k).1 (T k).2.1 (T k).2.2.1 ∈ WW
def ewLr (own : String) (idx ci k : Nat) : Prop := ∃ (C : String) (T : u_T) (N : Nat) (tys : Nat → FieldType), ewK ci C T N tys ∧ k < N ∧ Cond.fieldLink own idx (T k).1 (T k).2.1 (T k).2.2.1 ∈ WW
theorem ewL.r {own : String} {idx ci k : Nat} {ty : FieldType} (h : ewL own idx ci k ty) : ewLr own idx ci k := by
  obtain ⟨C, T, N, tys, h1, h2, -, -, h3⟩ := h
  exact ⟨C, T, N, tys, h1, h2, h3⟩
def vpush (v : Option Value) (S : List Value) : List Value := match v with
  | none => S
  | some x => x :: S
theorem vpush_eq (v : Option Value) (S : List Value) : v.toList ++ S = vpush v S := by cases v <;> rfl
section JW
variable {p : Program} {l : Launch} {e : Env} {R : Room} {s : State} {m : MethodId} {args : Array Value} {below : List Frame} {meth : Method} {c : Code} {E : ewE} {A : Nat → Prop} {cc : ByteArray} {nL : Nat} {own : String} {ret : Option FieldType} {cells slots : Nat} {Q : State → Prop} {pc : Nat} {L L' : List (Nat × Value)} {S : List Value} {M : ewM}
theorem ew_A_in {sz : Nat} (hs : ∀ q : Nat, s.heap.size ≤ q → A q) (hi : ∀ i : Nat, i < 88 → A (E.1 i)) (h : s.heap.size ≤ sz) : ∀ q : Nat, ew_A E sz q → A q := by
  rintro q (⟨i, h1, rfl⟩ | hq)
  · exact hi i h1
  · exact hs q (Nat.le_trans h hq)
theorem jw_G {H : Heap} {locs : List Loc} {U : State} (hC : jC p e R s m args meth c E A cc nL own ret) (hI : ew_I E A s M H locs) (hU : U.heap = H) (hW : s.WarmedH U.vm) : ew_G E (ew_A E U.heap.size) U U.heap :=
  ew_G.mv hC.2.2.2.2.2.2.2.2.2.2.2 hW.alike (fun a h1 h2 => by rw [hU]; exact hI.2.2.1.2.1 a h1 h2) (ew_A_in hC.2.2.2.2.2.2.2.2.1 hC.2.2.2.2.2.2.2.2.2.1 (by rw [hU]; exact hI.2.2.1.1))
theorem jw_iconst (hC : jC p e R s m args meth c E A cc nL own ret) {n : Int} (hd : decode cc pc = .ok (.iconst n, 1)) (k : jJ p l e R s m args below meth c E A nL cells slots Q (pc + 1) L (vI n :: S) M) : jJ p l e R s m args below meth c E A nL cells slots Q pc L S M := by
  intro ls H locs hl hI
  exact lv_iconst hC.1 hC.2.1 hd rfl (k ls H locs hl hI)
theorem jw_bipush (hC : jC p e R s m args meth c E A cc nL own ret) {n : Int} (hd : decode cc pc = .ok (.bipush n, 2)) (hv : (Int8.ofInt n).toInt32 = Int32.ofInt n) (k : jJ p l e R s m args below meth c E A nL cells slots Q (pc + 2) L (vI n :: S) M) : jJ p l e R s m args below meth c E A nL cells slots Q pc L S M := by
  intro ls H locs hl hI
  exact lv_bipush hC.1 hC.2.1 hd hv (k ls H locs hl hI)
theorem jw_sipush (hC : jC p e R s m args meth c E A cc nL own ret) {n : Int} (hd : decode cc pc = .ok (.sipush n, 3)) (hv : (Int16.ofInt n).toInt32 = Int32.ofInt n) (k : jJ p l e R s m args below meth c E A nL cells slots Q (pc + 3) L (vI n :: S) M) : jJ p l e R s m args below meth c E A nL cells slots Q pc L S M := by
  intro ls H locs hl hI
  exact lv_sipush hC.1 hC.2.1 hd hv (k ls H locs hl hI)
theorem jw_ldc (hC : jC p e R s m args meth c E A cc nL own ret) {n : Int} {idx : Nat} (hd : decode cc pc = .ok (.ldc idx, 2)) (hw : Cond.constant own idx (Int32.ofInt n) ∈ WW) (k : jJ p l e R s m args below meth c E A nL cells slots Q (pc + 2) L (vI n :: S) M) : jJ p l e R s m args below meth c E A nL cells slots Q pc L S M := by
  intro ls H locs hl hI
  exact lv_ldc hC.1 hC.2.1 hC.2.2.2.1 (hC.2.2.2.2.1 _ hw) hd (k ls H locs hl hI)
theorem jw_ldc2 (hC : jC p e R s m args meth c E A cc nL own ret) {n : Int} {idx : Nat} (hd : decode cc pc = .ok (.ldc2_w idx, 3)) (hw : Cond.constantLong own idx (Int64.ofInt n) ∈ WW) (k : jJ p l e R s m args below meth c E A nL cells slots Q (pc + 3) L (vJ n :: S) M) : jJ p l e R s m args below meth c E A nL cells slots Q pc L S M := by
  intro ls H locs hl hI
  exact lv_ldc2 hC.1 hC.2.1 hC.2.2.2.1 (hC.2.2.2.2.1 _ hw) hd (k ls H locs hl hI)
theorem jw_lconst (hC : jC p e R s m args meth c E A cc nL own ret) {n : Fin 2} {v : Int} (hd : decode cc pc = .ok (.lconst n, 1)) (hv : Int64.ofNat (n : Nat) = Int64.ofInt v) (k : jJ p l e R s m args below meth c E A nL cells slots Q (pc + 1) L (vJ v :: S) M) : jJ p l e R s m args below meth c E A nL cells slots Q pc L S M := by
  intro ls H locs hl hI
  exact lv_lconst hC.1 hC.2.1 hd hv (k ls H locs hl hI)
theorem jw_iload_n (hC : jC p e R s m args meth c E A cc nL own ret) {kk : Fin 4} {i : Nat} {x : Int} (hd : decode cc pc = .ok (.iload_n kk, 1)) (j : Nat) (hi : (kk : Nat) = i) (hj : L[j]? = some (i, vI x)) (k : jJ p l e R s m args below meth c E A nL cells slots Q (pc + 1) L (vI x :: S) M) : jJ p l e R s m args below meth c E A nL cells slots Q pc L S M := by
  intro ls H locs hl hI
  exact lv_iload_n hC.1 hC.2.1 hd hi (lv_at hl j hj) (k ls H locs hl hI)
theorem jw_iload (hC : jC p e R s m args meth c E A cc nL own ret) {i : Nat} {x : Int} (hd : decode cc pc = .ok (.iload i, 2)) (j : Nat) (hj : L[j]? = some (i, vI x)) (k : jJ p l e R s m args below meth c E A nL cells slots Q (pc + 2) L (vI x :: S) M) : jJ p l e R s m args below meth c E A nL cells slots Q pc L S M := by
  intro ls H locs hl hI
  exact lv_iload hC.1 hC.2.1 hd (lv_at hl j hj) (k ls H locs hl hI)
theorem jw_istore_n (hC : jC p e R s m args meth c E A cc nL own ret) {kk : Fin 4} {i : Nat} {x : Int} (hd : decode cc pc = .ok (.istore_n kk, 1)) (hi : (kk : Nat) = i) (hn : i < nL) (hf : (i, Value.int (Int32.ofInt x)) :: L.filter (fun q => !(q.1 == i) && !(q.1 + 1 == i && q.2.category == 2)) = L') (k : jJ p l e R s m args below meth c E A nL cells slots Q (pc + 1) L' S M) : jJ p l e R s m args below meth c E A nL cells slots Q pc L (vI x :: S) M := by
  intro ls H locs hl hI
  exact lv_istore_n hC.1 hC.2.1 hd hi hl hn hf (fun ls2 hl2 => k ls2 H locs hl2 hI)
theorem jw_istore (hC : jC p e R s m args meth c E A cc nL own ret) {i : Nat} {x : Int} (hd : decode cc pc = .ok (.istore i, 2)) (hn : i < nL) (hf : (i, Value.int (Int32.ofInt x)) :: L.filter (fun q => !(q.1 == i) && !(q.1 + 1 == i && q.2.category == 2)) = L') (k : jJ p l e R s m args below meth c E A nL cells slots Q (pc + 2) L' S M) : jJ p l e R s m args below meth c E A nL cells slots Q pc L (vI x :: S) M := by
  intro ls H locs hl hI
  exact lv_istore hC.1 hC.2.1 hd hl hn hf (fun ls2 hl2 => k ls2 H locs hl2 hI)
theorem jw_lload_n (hC : jC p e R s m args meth c E A cc nL own ret) {kk : Fin 4} {i : Nat} {x : Int} (hd : decode cc pc = .ok (.lload_n kk, 1)) (j : Nat) (hi : (kk : Nat) = i) (hj : L[j]? = some (i, vJ x)) (k : jJ p l e R s m args below meth c E A nL cells slots Q (pc + 1) L (vJ x :: S) M) : jJ p l e R s m args below meth c E A nL cells slots Q pc L S M := by
  intro ls H locs hl hI
  exact lv_lload_n hC.1 hC.2.1 hd hi (lv_at hl j hj) (k ls H locs hl hI)
theorem jw_lload (hC : jC p e R s m args meth c E A cc nL own ret) {i : Nat} {x : Int} (hd : decode cc pc = .ok (.lload i, 2)) (j : Nat) (hj : L[j]? = some (i, vJ x)) (k : jJ p l e R s m args below meth c E A nL cells slots Q (pc + 2) L (vJ x :: S) M) : jJ p l e R s m args below meth c E A nL cells slots Q pc L S M := by
  intro ls H locs hl hI
  exact lv_lload hC.1 hC.2.1 hd (lv_at hl j hj) (k ls H locs hl hI)
theorem jw_lstore_n (hC : jC p e R s m args meth c E A cc nL own ret) {kk : Fin 4} {i : Nat} {x : Int} (hd : decode cc pc = .ok (.lstore_n kk, 1)) (hi : (kk : Nat) = i) (hn : i + 1 < nL) (hf : (i, Value.long (Int64.ofInt x)) :: L.filter (fun q => !(q.1 == i) && (!(q.1 == i + 1) && !(q.1 + 1 == i && q.2.category == 2))) = L') (k : jJ p l e R s m args below meth c E A nL cells slots Q (pc + 1) L' S M) : jJ p l e R s m args below meth c E A nL cells slots Q pc L (vJ x :: S) M := by
  intro ls H locs hl hI
  exact lv_lstore_n hC.1 hC.2.1 hd hi hl hn hf (fun ls2 hl2 => k ls2 H locs hl2 hI)
theorem jw_lstore (hC : jC p e R s m args meth c E A cc nL own ret) {i : Nat} {x : Int} (hd : decode cc pc = .ok (.lstore i, 2)) (hn : i + 1 < nL) (hf : (i, Value.long (Int64.ofInt x)) :: L.filter (fun q => !(q.1 == i) && (!(q.1 == i + 1) && !(q.1 + 1 == i && q.2.category == 2))) = L') (k : jJ p l e R s m args below meth c E A nL cells slots Q (pc + 2) L' S M) : jJ p l e R s m args below meth c E A nL cells slots Q pc L (vJ x :: S) M := by
  intro ls H locs hl hI
  exact lv_lstore hC.1 hC.2.1 hd hl hn hf (fun ls2 hl2 => k ls2 H locs hl2 hI)
theorem jw_aload_n (hC : jC p e R s m args meth c E A cc nL own ret) {kk : Fin 4} {i : Nat} {x : Nat} (hd : decode cc pc = .ok (.aload_n kk, 1)) (j : Nat) (hi : (kk : Nat) = i) (hj : L[j]? = some (i, vR E x)) (k : jJ p l e R s m args below meth c E A nL cells slots Q (pc + 1) L (vR E x :: S) M) : jJ p l e R s m args below meth c E A nL cells slots Q pc L S M := by
  intro ls H locs hl hI
  exact lv_aload_n hC.1 hC.2.1 hd hi (lv_at hl j hj) (k ls H locs hl hI)
theorem jw_aload (hC : jC p e R s m args meth c E A cc nL own ret) {i : Nat} {x : Nat} (hd : decode cc pc = .ok (.aload i, 2)) (j : Nat) (hj : L[j]? = some (i, vR E x)) (k : jJ p l e R s m args below meth c E A nL cells slots Q (pc + 2) L (vR E x :: S) M) : jJ p l e R s m args below meth c E A nL cells slots Q pc L S M := by
  intro ls H locs hl hI
  exact lv_aload hC.1 hC.2.1 hd (lv_at hl j hj) (k ls H locs hl hI)
theorem jw_astore_n (hC : jC p e R s m args meth c E A cc nL own ret) {kk : Fin 4} {i : Nat} {x : Nat} (hd : decode cc pc = .ok (.astore_n kk, 1)) (hi : (kk : Nat) = i) (hn : i < nL) (hf : (i, Value.ref (E.1 x)) :: L.filter (fun q => !(q.1 == i) && !(q.1 + 1 == i && q.2.category == 2)) = L') (k : jJ p l e R s m args below meth c E A nL cells slots Q (pc + 1) L' S M) : jJ p l e R s m args below meth c E A nL cells slots Q pc L (vR E x :: S) M := by
  intro ls H locs hl hI
  exact lv_astore_n hC.1 hC.2.1 hd hi hl hn hf (fun ls2 hl2 => k ls2 H locs hl2 hI)
theorem jw_astore (hC : jC p e R s m args meth c E A cc nL own ret) {i : Nat} {x : Nat} (hd : decode cc pc = .ok (.astore i, 2)) (hn : i < nL) (hf : (i, Value.ref (E.1 x)) :: L.filter (fun q => !(q.1 == i) && !(q.1 + 1 == i && q.2.category == 2)) = L') (k : jJ p l e R s m args below meth c E A nL cells slots Q (pc + 2) L' S M) : jJ p l e R s m args below meth c E A nL cells slots Q pc L (vR E x :: S) M := by
  intro ls H locs hl hI
  exact lv_astore hC.1 hC.2.1 hd hl hn hf (fun ls2 hl2 => k ls2 H locs hl2 hI)
theorem jw_iinc (hC : jC p e R s m args meth c E A cc nL own ret) {i : Nat} {n x : Int} (hd : decode cc pc = .ok (.iinc i n, 3)) (j : Nat) (hj : L[j]? = some (i, vI x)) (hn : i < nL) (hf : (i, Value.int (Int32.ofInt (x + n))) :: L.filter (fun q => !(q.1 == i) && !(q.1 + 1 == i && q.2.category == 2)) = L') (k : jJ p l e R s m args below meth c E A nL cells slots Q (pc + 3) L' S M) : jJ p l e R s m args below meth c E A nL cells slots Q pc L S M := by
  intro ls H locs hl hI
  exact lv_iinc hC.1 hC.2.1 hd hl hj (Int32.ofInt_add x n).symm hn hf (fun ls2 hl2 => k ls2 H locs hl2 hI)
theorem jw_iadd (hC : jC p e R s m args meth c E A cc nL own ret) {x y : Int} (hd : decode cc pc = .ok (.iadd, 1)) (k : jJ p l e R s m args below meth c E A nL cells slots Q (pc + 1) L (vI (x + y) :: S) M) : jJ p l e R s m args below meth c E A nL cells slots Q pc L (vI y :: vI x :: S) M := by
  intro ls H locs hl hI
  have k := k ls H locs hl hI
  unfold vI at k ⊢
  rw [Int32.ofInt_add] at k
  exact lv_iadd hC.1 hC.2.1 hd k
theorem jw_isub (hC : jC p e R s m args meth c E A cc nL own ret) {x y : Int} (hd : decode cc pc = .ok (.isub, 1)) (k : jJ p l e R s m args below meth c E A nL cells slots Q (pc + 1) L (vI (x - y) :: S) M) : jJ p l e R s m args below meth c E A nL cells slots Q pc L (vI y :: vI x :: S) M := by
  intro ls H locs hl hI
  have k := k ls H locs hl hI
  unfold vI at k ⊢
  rw [Int32.ofInt_sub] at k
  exact lv_isub hC.1 hC.2.1 hd k
theorem jw_imul (hC : jC p e R s m args meth c E A cc nL own ret) {x y : Int} (hd : decode cc pc = .ok (.imul, 1)) (k : jJ p l e R s m args below meth c E A nL cells slots Q (pc + 1) L (vI (x * y) :: S) M) : jJ p l e R s m args below meth c E A nL cells slots Q pc L (vI y :: vI x :: S) M := by
  intro ls H locs hl hI
  have k := k ls H locs hl hI
  unfold vI at k ⊢
  rw [Int32.ofInt_mul] at k
  exact lv_imul hC.1 hC.2.1 hd k
theorem jw_ladd (hC : jC p e R s m args meth c E A cc nL own ret) {x y : Int} (hd : decode cc pc = .ok (.ladd, 1)) (k : jJ p l e R s m args below meth c E A nL cells slots Q (pc + 1) L (vJ (x + y) :: S) M) : jJ p l e R s m args below meth c E A nL cells slots Q pc L (vJ y :: vJ x :: S) M := by
  intro ls H locs hl hI
  have k := k ls H locs hl hI
  unfold vJ at k ⊢
  rw [Int64.ofInt_add] at k
  exact lv_ladd hC.1 hC.2.1 hd k
theorem jw_lsub (hC : jC p e R s m args meth c E A cc nL own ret) {x y : Int} (hd : decode cc pc = .ok (.lsub, 1)) (k : jJ p l e R s m args below meth c E A nL cells slots Q (pc + 1) L (vJ (x - y) :: S) M) : jJ p l e R s m args below meth c E A nL cells slots Q pc L (vJ y :: vJ x :: S) M := by
  intro ls H locs hl hI
  have k := k ls H locs hl hI
  unfold vJ at k ⊢
  rw [Int64.ofInt_sub] at k
  exact lv_lsub hC.1 hC.2.1 hd k
theorem jw_lmul (hC : jC p e R s m args meth c E A cc nL own ret) {x y : Int} (hd : decode cc pc = .ok (.lmul, 1)) (k : jJ p l e R s m args below meth c E A nL cells slots Q (pc + 1) L (vJ (x * y) :: S) M) : jJ p l e R s m args below meth c E A nL cells slots Q pc L (vJ y :: vJ x :: S) M := by
  intro ls H locs hl hI
  have k := k ls H locs hl hI
  unfold vJ at k ⊢
  rw [Int64.ofInt_mul] at k
  exact lv_lmul hC.1 hC.2.1 hd k
theorem jw_idiv (hC : jC p e R s m args meth c E A cc nL own ret) {x y : Int} (hd : decode cc pc = .ok (.idiv, 1)) (h1 : 0 ≤ x) (h2 : x < 2147483648) (h3 : 0 < y) (h4 : y < 2147483648) (k : jJ p l e R s m args below meth c E A nL cells slots Q (pc + 1) L (vI (x / y) :: S) M) : jJ p l e R s m args below meth c E A nL cells slots Q pc L (vI y :: vI x :: S) M := by
  intro ls H locs hl hI
  have k := k ls H locs hl hI
  have hne : ¬ Int32.ofInt y = 0 := fun h => by
    have h5 := (e32_eq (b := 0) (by omega) h4 (by decide) (by decide)).mp h
    omega
  unfold vI at k ⊢
  rw [← e32_div h1 h2 h3 h4] at k
  exact lv_idiv hC.1 hC.2.1 hd hne k
theorem jw_irem (hC : jC p e R s m args meth c E A cc nL own ret) {x y : Int} (hd : decode cc pc = .ok (.irem, 1)) (h1 : 0 ≤ x) (h2 : x < 2147483648) (h3 : 0 < y) (h4 : y < 2147483648) (k : jJ p l e R s m args below meth c E A nL cells slots Q (pc + 1) L (vI (x % y) :: S) M) : jJ p l e R s m args below meth c E A nL cells slots Q pc L (vI y :: vI x :: S) M := by
  intro ls H locs hl hI
  have k := k ls H locs hl hI
  have hne : ¬ Int32.ofInt y = 0 := fun h => by
    have h5 := (e32_eq (b := 0) (by omega) h4 (by decide) (by decide)).mp h
    omega
  unfold vI at k ⊢
  rw [← e32_rem h1 h2 h3 h4] at k
  exact lv_irem hC.1 hC.2.1 hd hne k
theorem jw_ineg (hC : jC p e R s m args meth c E A cc nL own ret) {x : Int} (hd : decode cc pc = .ok (.ineg, 1)) (k : jJ p l e R s m args below meth c E A nL cells slots Q (pc + 1) L (vI (-x) :: S) M) : jJ p l e R s m args below meth c E A nL cells slots Q pc L (vI x :: S) M := by
  intro ls H locs hl hI
  have k := k ls H locs hl hI
  unfold vI at k ⊢
  rw [Int32.ofInt_neg] at k
  exact lv_ineg hC.1 hC.2.1 hd k
theorem jw_i2l (hC : jC p e R s m args meth c E A cc nL own ret) {x : Int} (hd : decode cc pc = .ok (.i2l, 1)) (h1 : -2147483648 ≤ x) (h2 : x < 2147483648) (k : jJ p l e R s m args below meth c E A nL cells slots Q (pc + 1) L (vJ x :: S) M) : jJ p l e R s m args below meth c E A nL cells slots Q pc L (vI x :: S) M := by
  intro ls H locs hl hI
  exact lv_i2l hC.1 hC.2.1 hd (e32_l h1 h2) (k ls H locs hl hI)
theorem jw_l2i (hC : jC p e R s m args meth c E A cc nL own ret) {x : Int} (hd : decode cc pc = .ok (.l2i, 1)) (k : jJ p l e R s m args below meth c E A nL cells slots Q (pc + 1) L (vI x :: S) M) : jJ p l e R s m args below meth c E A nL cells slots Q pc L (vJ x :: S) M := by
  intro ls H locs hl hI
  exact lv_l2i hC.1 hC.2.1 hd Int64.toInt32_ofInt (k ls H locs hl hI)
theorem jw_goto (hC : jC p e R s m args meth c E A cc nL own ret) {off : Int} {tgt : Nat} (hd : decode cc pc = .ok (.goto off, 3)) (ht : (pc : Int) + off = (tgt : Int)) (k : jJ p l e R s m args below meth c E A nL cells slots Q tgt L S M) : jJ p l e R s m args below meth c E A nL cells slots Q pc L S M := by
  intro ls H locs hl hI
  exact lv_goto hC.1 hC.2.1 hd ht (k ls H locs hl hI)
theorem jw_dupi (hC : jC p e R s m args meth c E A cc nL own ret) {x : Int} (hd : decode cc pc = .ok (.dup, 1)) (k : jJ p l e R s m args below meth c E A nL cells slots Q (pc + 1) L (vI x :: vI x :: S) M) : jJ p l e R s m args below meth c E A nL cells slots Q pc L (vI x :: S) M := by
  intro ls H locs hl hI
  exact lv_dup hC.1 hC.2.1 hd rfl (k ls H locs hl hI)
theorem jw_dupr (hC : jC p e R s m args meth c E A cc nL own ret) {x : Nat} (hd : decode cc pc = .ok (.dup, 1)) (k : jJ p l e R s m args below meth c E A nL cells slots Q (pc + 1) L (vR E x :: vR E x :: S) M) : jJ p l e R s m args below meth c E A nL cells slots Q pc L (vR E x :: S) M := by
  intro ls H locs hl hI
  exact lv_dup hC.1 hC.2.1 hd rfl (k ls H locs hl hI)
theorem jw_dup2 (hC : jC p e R s m args meth c E A cc nL own ret) {x : Nat} {y : Int} (hd : decode cc pc = .ok (.dup2, 1)) (k : jJ p l e R s m args below meth c E A nL cells slots Q (pc + 1) L (vI y :: vR E x :: vI y :: vR E x :: S) M) : jJ p l e R s m args below meth c E A nL cells slots Q pc L (vI y :: vR E x :: S) M := by
  intro ls H locs hl hI
  exact lv_dup2_11 hC.1 hC.2.1 hd rfl rfl (k ls H locs hl hI)
theorem jw_icmp_eq (hC : jC p e R s m args meth c E A cc nL own ret) {x y off : Int} {tgt : Nat} (hd : decode cc pc = .ok (.if_icmp .eq off, 3)) (ht : (pc : Int) + off = (tgt : Int)) (h1 : -2147483648 ≤ x) (h2 : x < 2147483648) (h3 : -2147483648 ≤ y) (h4 : y < 2147483648) (kt : x = y → jJ p l e R s m args below meth c E A nL cells slots Q tgt L S M) (kf : ¬ x = y → jJ p l e R s m args below meth c E A nL cells slots Q (pc + 3) L S M) : jJ p l e R s m args below meth c E A nL cells slots Q pc L (vI y :: vI x :: S) M := by
  intro ls H locs hl hI
  exact lv_icmp_eq hC.1 hC.2.1 hd ht (fun h => kt ((e32_eq h1 h2 h3 h4).mp h) ls H locs hl hI) (fun h => kf (fun h9 => h ((e32_eq h1 h2 h3 h4).mpr h9)) ls H locs hl hI)
theorem jw_if_eq (hC : jC p e R s m args meth c E A cc nL own ret) {x off : Int} {tgt : Nat} (hd : decode cc pc = .ok (.ifCond .eq off, 3)) (ht : (pc : Int) + off = (tgt : Int)) (h1 : -2147483648 ≤ x) (h2 : x < 2147483648) (kt : x = 0 → jJ p l e R s m args below meth c E A nL cells slots Q tgt L S M) (kf : ¬ x = 0 → jJ p l e R s m args below meth c E A nL cells slots Q (pc + 3) L S M) : jJ p l e R s m args below meth c E A nL cells slots Q pc L (vI x :: S) M := by
  intro ls H locs hl hI
  exact lv_if_eq hC.1 hC.2.1 hd ht (fun h => kt ((e32_eq (b := 0) h1 h2 (by decide) (by decide)).mp h) ls H locs hl hI) (fun h => kf (fun h9 => h ((e32_eq (b := 0) h1 h2 (by decide) (by decide)).mpr h9)) ls H locs hl hI)
theorem jw_icmp_ne (hC : jC p e R s m args meth c E A cc nL own ret) {x y off : Int} {tgt : Nat} (hd : decode cc pc = .ok (.if_icmp .ne off, 3)) (ht : (pc : Int) + off = (tgt : Int)) (h1 : -2147483648 ≤ x) (h2 : x < 2147483648) (h3 : -2147483648 ≤ y) (h4 : y < 2147483648) (kt : ¬ x = y → jJ p l e R s m args below meth c E A nL cells slots Q tgt L S M) (kf : x = y → jJ p l e R s m args below meth c E A nL cells slots Q (pc + 3) L S M) : jJ p l e R s m args below meth c E A nL cells slots Q pc L (vI y :: vI x :: S) M := by
  intro ls H locs hl hI
  exact lv_icmp_ne hC.1 hC.2.1 hd ht (fun h => kt (fun h9 => h ((e32_eq h1 h2 h3 h4).mpr h9)) ls H locs hl hI) (fun h => kf ((e32_eq h1 h2 h3 h4).mp h) ls H locs hl hI)
theorem jw_if_ne (hC : jC p e R s m args meth c E A cc nL own ret) {x off : Int} {tgt : Nat} (hd : decode cc pc = .ok (.ifCond .ne off, 3)) (ht : (pc : Int) + off = (tgt : Int)) (h1 : -2147483648 ≤ x) (h2 : x < 2147483648) (kt : ¬ x = 0 → jJ p l e R s m args below meth c E A nL cells slots Q tgt L S M) (kf : x = 0 → jJ p l e R s m args below meth c E A nL cells slots Q (pc + 3) L S M) : jJ p l e R s m args below meth c E A nL cells slots Q pc L (vI x :: S) M := by
  intro ls H locs hl hI
  exact lv_if_ne hC.1 hC.2.1 hd ht (fun h => kt (fun h9 => h ((e32_eq (b := 0) h1 h2 (by decide) (by decide)).mpr h9)) ls H locs hl hI) (fun h => kf ((e32_eq (b := 0) h1 h2 (by decide) (by decide)).mp h) ls H locs hl hI)
theorem jw_icmp_lt (hC : jC p e R s m args meth c E A cc nL own ret) {x y off : Int} {tgt : Nat} (hd : decode cc pc = .ok (.if_icmp .lt off, 3)) (ht : (pc : Int) + off = (tgt : Int)) (h1 : -2147483648 ≤ x) (h2 : x < 2147483648) (h3 : -2147483648 ≤ y) (h4 : y < 2147483648) (kt : x < y → jJ p l e R s m args below meth c E A nL cells slots Q tgt L S M) (kf : y ≤ x → jJ p l e R s m args below meth c E A nL cells slots Q (pc + 3) L S M) : jJ p l e R s m args below meth c E A nL cells slots Q pc L (vI y :: vI x :: S) M := by
  intro ls H locs hl hI
  exact lv_icmp_lt hC.1 hC.2.1 hd ht (fun h => kt ((e32_lt h1 h2 h3 h4).mp h) ls H locs hl hI) (fun h => kf (by have h8 := mt (e32_lt h1 h2 h3 h4).mpr h; omega) ls H locs hl hI)
theorem jw_if_lt (hC : jC p e R s m args meth c E A cc nL own ret) {x off : Int} {tgt : Nat} (hd : decode cc pc = .ok (.ifCond .lt off, 3)) (ht : (pc : Int) + off = (tgt : Int)) (h1 : -2147483648 ≤ x) (h2 : x < 2147483648) (kt : x < 0 → jJ p l e R s m args below meth c E A nL cells slots Q tgt L S M) (kf : 0 ≤ x → jJ p l e R s m args below meth c E A nL cells slots Q (pc + 3) L S M) : jJ p l e R s m args below meth c E A nL cells slots Q pc L (vI x :: S) M := by
  intro ls H locs hl hI
  exact lv_if_lt hC.1 hC.2.1 hd ht (fun h => kt ((e32_lt (b := 0) h1 h2 (by decide) (by decide)).mp h) ls H locs hl hI) (fun h => kf (by have h8 := mt (e32_lt (b := 0) h1 h2 (by decide) (by decide)).mpr h; omega) ls H locs hl hI)
theorem jw_icmp_ge (hC : jC p e R s m args meth c E A cc nL own ret) {x y off : Int} {tgt : Nat} (hd : decode cc pc = .ok (.if_icmp .ge off, 3)) (ht : (pc : Int) + off = (tgt : Int)) (h1 : -2147483648 ≤ x) (h2 : x < 2147483648) (h3 : -2147483648 ≤ y) (h4 : y < 2147483648) (kt : y ≤ x → jJ p l e R s m args below meth c E A nL cells slots Q tgt L S M) (kf : x < y → jJ p l e R s m args below meth c E A nL cells slots Q (pc + 3) L S M) : jJ p l e R s m args below meth c E A nL cells slots Q pc L (vI y :: vI x :: S) M := by
  intro ls H locs hl hI
  exact lv_icmp_ge hC.1 hC.2.1 hd ht (fun h => kt ((e32_le h3 h4 h1 h2).mp h) ls H locs hl hI) (fun h => kf (by have h8 := mt (e32_le h3 h4 h1 h2).mpr h; omega) ls H locs hl hI)
theorem jw_if_ge (hC : jC p e R s m args meth c E A cc nL own ret) {x off : Int} {tgt : Nat} (hd : decode cc pc = .ok (.ifCond .ge off, 3)) (ht : (pc : Int) + off = (tgt : Int)) (h1 : -2147483648 ≤ x) (h2 : x < 2147483648) (kt : 0 ≤ x → jJ p l e R s m args below meth c E A nL cells slots Q tgt L S M) (kf : x < 0 → jJ p l e R s m args below meth c E A nL cells slots Q (pc + 3) L S M) : jJ p l e R s m args below meth c E A nL cells slots Q pc L (vI x :: S) M := by
  intro ls H locs hl hI
  exact lv_if_ge hC.1 hC.2.1 hd ht (fun h => kt ((e32_le (a := 0) (by decide) (by decide) h1 h2).mp h) ls H locs hl hI) (fun h => kf (by have h8 := mt (e32_le (a := 0) (by decide) (by decide) h1 h2).mpr h; omega) ls H locs hl hI)
theorem jw_icmp_gt (hC : jC p e R s m args meth c E A cc nL own ret) {x y off : Int} {tgt : Nat} (hd : decode cc pc = .ok (.if_icmp .gt off, 3)) (ht : (pc : Int) + off = (tgt : Int)) (h1 : -2147483648 ≤ x) (h2 : x < 2147483648) (h3 : -2147483648 ≤ y) (h4 : y < 2147483648) (kt : y < x → jJ p l e R s m args below meth c E A nL cells slots Q tgt L S M) (kf : x ≤ y → jJ p l e R s m args below meth c E A nL cells slots Q (pc + 3) L S M) : jJ p l e R s m args below meth c E A nL cells slots Q pc L (vI y :: vI x :: S) M := by
  intro ls H locs hl hI
  exact lv_icmp_gt hC.1 hC.2.1 hd ht (fun h => kt ((e32_lt h3 h4 h1 h2).mp h) ls H locs hl hI) (fun h => kf (by have h8 := mt (e32_lt h3 h4 h1 h2).mpr h; omega) ls H locs hl hI)
theorem jw_if_gt (hC : jC p e R s m args meth c E A cc nL own ret) {x off : Int} {tgt : Nat} (hd : decode cc pc = .ok (.ifCond .gt off, 3)) (ht : (pc : Int) + off = (tgt : Int)) (h1 : -2147483648 ≤ x) (h2 : x < 2147483648) (kt : 0 < x → jJ p l e R s m args below meth c E A nL cells slots Q tgt L S M) (kf : x ≤ 0 → jJ p l e R s m args below meth c E A nL cells slots Q (pc + 3) L S M) : jJ p l e R s m args below meth c E A nL cells slots Q pc L (vI x :: S) M := by
  intro ls H locs hl hI
  exact lv_if_gt hC.1 hC.2.1 hd ht (fun h => kt ((e32_lt (a := 0) (by decide) (by decide) h1 h2).mp h) ls H locs hl hI) (fun h => kf (by have h8 := mt (e32_lt (a := 0) (by decide) (by decide) h1 h2).mpr h; omega) ls H locs hl hI)
theorem jw_icmp_le (hC : jC p e R s m args meth c E A cc nL own ret) {x y off : Int} {tgt : Nat} (hd : decode cc pc = .ok (.if_icmp .le off, 3)) (ht : (pc : Int) + off = (tgt : Int)) (h1 : -2147483648 ≤ x) (h2 : x < 2147483648) (h3 : -2147483648 ≤ y) (h4 : y < 2147483648) (kt : x ≤ y → jJ p l e R s m args below meth c E A nL cells slots Q tgt L S M) (kf : y < x → jJ p l e R s m args below meth c E A nL cells slots Q (pc + 3) L S M) : jJ p l e R s m args below meth c E A nL cells slots Q pc L (vI y :: vI x :: S) M := by
  intro ls H locs hl hI
  exact lv_icmp_le hC.1 hC.2.1 hd ht (fun h => kt ((e32_le h1 h2 h3 h4).mp h) ls H locs hl hI) (fun h => kf (by have h8 := mt (e32_le h1 h2 h3 h4).mpr h; omega) ls H locs hl hI)
theorem jw_if_le (hC : jC p e R s m args meth c E A cc nL own ret) {x off : Int} {tgt : Nat} (hd : decode cc pc = .ok (.ifCond .le off, 3)) (ht : (pc : Int) + off = (tgt : Int)) (h1 : -2147483648 ≤ x) (h2 : x < 2147483648) (kt : x ≤ 0 → jJ p l e R s m args below meth c E A nL cells slots Q tgt L S M) (kf : 0 < x → jJ p l e R s m args below meth c E A nL cells slots Q (pc + 3) L S M) : jJ p l e R s m args below meth c E A nL cells slots Q pc L (vI x :: S) M := by
  intro ls H locs hl hI
  exact lv_if_le hC.1 hC.2.1 hd ht (fun h => kt ((e32_le (b := 0) h1 h2 (by decide) (by decide)).mp h) ls H locs hl hI) (fun h => kf (by have h8 := mt (e32_le (b := 0) h1 h2 (by decide) (by decide)).mpr h; omega) ls H locs hl hI)
def lcm (x y : Int) : Int := if y < x then 1 else if x = y then 0 else -1
theorem lcm_lt {x y : Int} : lcm x y < 0 ↔ x < y := by unfold lcm; split <;> (try split) <;> constructor <;> intro h <;> omega
theorem lcm_ge {x y : Int} : 0 ≤ lcm x y ↔ y ≤ x := by unfold lcm; split <;> (try split) <;> constructor <;> intro h <;> omega
theorem lcm_eq {x y : Int} : lcm x y = 0 ↔ x = y := by unfold lcm; split <;> (try split) <;> constructor <;> intro h <;> omega
theorem lcm_gt {x y : Int} : 0 < lcm x y ↔ y < x := by unfold lcm; split <;> (try split) <;> constructor <;> intro h <;> omega
theorem lcm_le {x y : Int} : lcm x y ≤ 0 ↔ x ≤ y := by unfold lcm; split <;> (try split) <;> constructor <;> intro h <;> omega
theorem lcm_b1 {x y : Int} : -2147483648 ≤ lcm x y := by unfold lcm; split <;> (try split) <;> omega
theorem lcm_b2 {x y : Int} : lcm x y < 2147483648 := by unfold lcm; split <;> (try split) <;> omega
theorem lg_cm {x y : Int} (h1 : -9223372036854775808 ≤ x) (h2 : x < 9223372036854775808) (h3 : -9223372036854775808 ≤ y) (h4 : y < 9223372036854775808) : lg_cmp (Int64.ofInt x) (Int64.ofInt y) = Int32.ofInt (lcm x y) := by
  unfold lg_cmp lcm
  by_cases hg : y < x
  · rw [if_pos ((e64_lt h3 h4 h1 h2).mpr hg), if_pos hg]; rfl
  · rw [if_neg (mt (e64_lt h3 h4 h1 h2).mp hg), if_neg hg]
    by_cases he : x = y
    · rw [if_pos ((e64_eq h1 h2 h3 h4).mpr he), if_pos he]; rfl
    · rw [if_neg (mt (e64_eq h1 h2 h3 h4).mp he), if_neg he]; rfl
theorem jw_lcmp (hC : jC p e R s m args meth c E A cc nL own ret) {x y : Int} (hd : decode cc pc = .ok (.lcmp, 1)) (h1 : -9223372036854775808 ≤ x) (h2 : x < 9223372036854775808) (h3 : -9223372036854775808 ≤ y) (h4 : y < 9223372036854775808) (k : jJ p l e R s m args below meth c E A nL cells slots Q (pc + 1) L (vI (lcm x y) :: S) M) : jJ p l e R s m args below meth c E A nL cells slots Q pc L (vJ y :: vJ x :: S) M := by
  intro ls H locs hl hI
  have k := k ls H locs hl hI
  unfold vI at k
  rw [← lg_cm h1 h2 h3 h4] at k
  exact W.lcmp hC.1 hC.2.1 hd k
theorem jw_max (hC : jC p e R s m args meth c E A cc nL own ret) {x y : Int} {idx : Nat} (hd : decode cc pc = .ok (.invokestatic idx, 3)) (h1 : -2147483648 ≤ x) (h2 : x < 2147483648) (h3 : -2147483648 ≤ y) (h4 : y < 2147483648) (w1 : Cond.methodLink own idx Lib.Math.max.name ∈ WW) (w2 : Cond.static Lib.Math.max.name ∈ WW) (w3 : Cond.initialized "java/lang/Math" ∈ WW) (w4 : Cond.code Lib.Math.max.name Lib.Math.max.code 2 (some .int) ∈ WW) (hR : 1 ≤ R.frames ∧ (S.map fun v => v.category).sum + 13 ≤ R.locals) (hcs : cells ≤ R.cells ∧ slots ≤ R.slots) (k : jJ p l e R s m args below meth c E A nL cells slots Q (pc + 3) L (vI (max x y) :: S) M) : jJ p l e R s m args below meth c E A nL cells slots Q pc L (vI y :: vI x :: S) M := by
  intro ls H locs hl hI
  have k := k ls H locs hl hI
  have e9 : Int32.ofInt (max x y) = if Int32.ofInt x < Int32.ofInt y then Int32.ofInt y else Int32.ofInt x := by
    have h9 := e32_lt h1 h2 h3 h4
    by_cases h : x < y
    · rw [if_pos (h9.mpr h)]; congr 1; omega
    · rw [if_neg (mt h9.mp h)]; congr 1; omega
  unfold vI at k ⊢
  rw [e9] at k
  exact va_mmax hC.1 hC.2.1 (hC.2.2.1.trans hl.1.symm) hC.2.2.2.1 (hC.2.2.2.2.1 _ w1) (hC.2.2.2.2.1 _ w2) (hC.2.2.2.2.1 _ w3) (hC.2.2.2.2.1 _ w4) hR.1 hR.2 hcs.1 hcs.2 hd k
theorem jw_min (hC : jC p e R s m args meth c E A cc nL own ret) {x y : Int} {idx : Nat} (hd : decode cc pc = .ok (.invokestatic idx, 3)) (h1 : -2147483648 ≤ x) (h2 : x < 2147483648) (h3 : -2147483648 ≤ y) (h4 : y < 2147483648) (w1 : Cond.methodLink own idx Lib.Math.min.name ∈ WW) (w2 : Cond.static Lib.Math.min.name ∈ WW) (w3 : Cond.initialized "java/lang/Math" ∈ WW) (w4 : Cond.code Lib.Math.min.name Lib.Math.min.code 2 (some .int) ∈ WW) (hR : 1 ≤ R.frames ∧ (S.map fun v => v.category).sum + 13 ≤ R.locals) (hcs : cells ≤ R.cells ∧ slots ≤ R.slots) (k : jJ p l e R s m args below meth c E A nL cells slots Q (pc + 3) L (vI (min x y) :: S) M) : jJ p l e R s m args below meth c E A nL cells slots Q pc L (vI y :: vI x :: S) M := by
  intro ls H locs hl hI
  have k := k ls H locs hl hI
  have e9 : Int32.ofInt (min x y) = if Int32.ofInt y < Int32.ofInt x then Int32.ofInt y else Int32.ofInt x := by
    have h9 := e32_lt h3 h4 h1 h2
    by_cases h : y < x
    · rw [if_pos (h9.mpr h)]; congr 1; omega
    · rw [if_neg (mt h9.mp h)]; congr 1; omega
  unfold vI at k ⊢
  rw [e9] at k
  exact va_mmin hC.1 hC.2.1 (hC.2.2.1.trans hl.1.symm) hC.2.2.2.1 (hC.2.2.2.2.1 _ w1) (hC.2.2.2.2.1 _ w2) (hC.2.2.2.2.1 _ w3) (hC.2.2.2.2.1 _ w4) hR.1 hR.2 hcs.1 hcs.2 hd k
theorem jw_geti (hC : jC p e R s m args meth c E A cc nL own ret) {idx ci kf o : Nat} {kI : Int} (hL : ewLr own idx ci kf) (hF : ewF o ci kf) (hkI : (kf : Int) = kI) (hd : decode cc pc = .ok (.getfield idx, 3)) (h13 : ¬ (o = 88 ∧ kI = 13)) (k : -2147483648 ≤ M o kI → M o kI < 2147483648 → jJ p l e R s m args below meth c E A nL cells slots Q (pc + 3) L (vI (M o kI) :: S) M) : jJ p l e R s m args below meth c E A nL cells slots Q pc L (vR E o :: S) M := by
  subst hkI
  intro ls H locs hl hI
  obtain ⟨C, T, N, tys, ⟨k1, k2, k3, k4⟩, hk, hw⟩ := hL
  obtain ⟨ho, hs⟩ := hF
  obtain ⟨fs, f1, f2, -⟩ := hs E (M o)
  exact va_get hC.1 hC.2.1 hC.2.2.2.2.1 k2 hC.2.2.2.1 hC.2.2.2.2.2.1 hI.1 o ((ew_get ho).trans (by rw [f1])) k1 kf hk (hC.2.2.2.2.1 _ hw) (fun _ h9 => h9) f2 hd (k (hI.2.2.2 o kf ho h13).1 (hI.2.2.2 o kf ho h13).2 ls H locs hl hI)
theorem jw_getr (hC : jC p e R s m args meth c E A cc nL own ret) {idx ci kf o t : Nat} (hL : ewLr own idx ci kf) (hF : ewR o ci kf t) (hd : decode cc pc = .ok (.getfield idx, 3)) (k : jJ p l e R s m args below meth c E A nL cells slots Q (pc + 3) L (vR E t :: S) M) : jJ p l e R s m args below meth c E A nL cells slots Q pc L (vR E o :: S) M := by
  intro ls H locs hl hI
  obtain ⟨C, T, N, tys, ⟨k1, k2, k3, k4⟩, hk, hw⟩ := hL
  obtain ⟨ho, hs⟩ := hF
  obtain ⟨fs, f1, f2⟩ := hs E (M o)
  exact va_get hC.1 hC.2.1 hC.2.2.2.2.1 k2 hC.2.2.2.1 hC.2.2.2.2.2.1 hI.1 o ((ew_get ho).trans (by rw [f1])) k1 kf hk (hC.2.2.2.2.1 _ hw) (fun _ h9 => h9) f2 hd (k ls H locs hl hI)
theorem jw_puti (hC : jC p e R s m args meth c E A cc nL own ret) {idx ci kf o : Nat} {x kI : Int} (hL : ewL own idx ci kf .int) (hF : ewF o ci kf) (hkI : (kf : Int) = kI) (hd : decode cc pc = .ok (.putfield idx, 3)) (h1 : -2147483648 ≤ x) (h2 : x < 2147483648) (k : jJ p l e R s m args below meth c E A nL cells slots Q (pc + 3) L S (mu M o kI x)) : jJ p l e R s m args below meth c E A nL cells slots Q pc L (vI x :: vR E o :: S) M := by
  subst hkI
  intro ls H locs hl hI
  obtain ⟨C, T, N, tys, ⟨k1, k2, k3, k4⟩, hk, hfin, hty, hw⟩ := hL
  obtain ⟨ho, hs⟩ := hF
  obtain ⟨fs, f1, f2, f3⟩ := hs E (M o)
  obtain ⟨hP, hD, hS, hS4⟩ := hI
  refine va_put (ty := .int) (v := vI x) hC.1 hC.2.1 hC.2.2.2.2.1 k2 tys k3 k4 hC.2.2.2.1 hC.2.2.2.2.2.1 hP hD hS o ((ew_get ho).trans (by rw [f1])) k1 kf hk (hC.2.2.2.2.1 _ hw) (fun _ h9 => h9) hfin ((k3 kf hk).trans (by rw [hty])) rfl rfl (List.getElem?_eq_some_iff.mp f2).1 hd (fun H1 locs1 hP hD hS => ?_)
  rw [ew_set (f3 x)] at hP hD
  exact k ls H1 locs1 hl ⟨hP, hD, hS, (ew_Smu hS4 h1 h2)⟩
theorem jw_putz (hC : jC p e R s m args meth c E A cc nL own ret) {idx ci kf o : Nat} {x kI : Int} (hL : ewL own idx ci kf .boolean) (hF : ewF o ci kf) (hkI : (kf : Int) = kI) (hd : decode cc pc = .ok (.putfield idx, 3)) (hz : x = 0 ∨ x = 1) (k : jJ p l e R s m args below meth c E A nL cells slots Q (pc + 3) L S (mu M o kI x)) : jJ p l e R s m args below meth c E A nL cells slots Q pc L (vI x :: vR E o :: S) M := by
  subst hkI
  intro ls H locs hl hI
  obtain ⟨C, T, N, tys, ⟨k1, k2, k3, k4⟩, hk, hfin, hty, hw⟩ := hL
  obtain ⟨ho, hs⟩ := hF
  obtain ⟨fs, f1, f2, f3⟩ := hs E (M o)
  obtain ⟨hP, hD, hS, hS4⟩ := hI
  refine va_put (ty := .boolean) (v := vI x) hC.1 hC.2.1 hC.2.2.2.2.1 k2 tys k3 k4 hC.2.2.2.1 hC.2.2.2.2.2.1 hP hD hS o ((ew_get ho).trans (by rw [f1])) k1 kf hk (hC.2.2.2.2.1 _ hw) (fun _ h9 => h9) hfin ((k3 kf hk).trans (by rw [hty])) (by rcases hz with rfl | rfl <;> rfl) (by rcases hz with rfl | rfl <;> rfl) (List.getElem?_eq_some_iff.mp f2).1 hd (fun H1 locs1 hP hD hS => ?_)
  rw [ew_set (f3 x)] at hP hD
  exact k ls H1 locs1 hl ⟨hP, hD, hS, (ew_Smu hS4 (by omega) (by omega))⟩
theorem jw_iald (hC : jC p e R s m args meth c E A cc nL own ret) {o n : Nat} {i : Int} (hA : ewA o 0 n) (hd : decode cc pc = .ok (.iaload, 1)) (h0 : 0 ≤ i) (hn : i < n) (hN : n < 2147483648) (k : -2147483648 ≤ M o i → M o i < 2147483648 → jJ p l e R s m args below meth c E A nL cells slots Q (pc + 1) L (vI (M o i) :: S) M) : jJ p l e R s m args below meth c E A nL cells slots Q pc L (vI i :: vR E o :: S) M := by
  intro ls H locs hl hI
  obtain ⟨ho, h88, hs⟩ := hA
  have hn9 : n < 2147483648 := hN
  have hcl := e32_clamp (a := i) h0 (by omega)
  have hin := e32_in h0 hn hn9
  refine va_iald hC.1 hC.2.1 hC.2.2.2.2.2.1 hI.1 o 0 ((ew_get ho).trans (by rw [hs]; rfl)) rfl hin hd ?_
  have k := k (hI.2.2.2 o i ho (fun h => h88 h.1)).1 (hI.2.2.2 o i ho (fun h => h88 h.1)).2 ls H locs hl hI
  unfold vI at k
  rw [← hcl] at k
  exact k
theorem jw_zald (hC : jC p e R s m args meth c E A cc nL own ret) {o n : Nat} {i : Int} (hA : ewA o 1 n) (hd : decode cc pc = .ok (.baload, 1)) (h0 : 0 ≤ i) (hn : i < n) (hN : n < 2147483648) (k : -2147483648 ≤ M o i → M o i < 2147483648 → jJ p l e R s m args below meth c E A nL cells slots Q (pc + 1) L (vI (M o i) :: S) M) : jJ p l e R s m args below meth c E A nL cells slots Q pc L (vI i :: vR E o :: S) M := by
  intro ls H locs hl hI
  obtain ⟨ho, h88, hs⟩ := hA
  have hn9 : n < 2147483648 := hN
  have hcl := e32_clamp (a := i) h0 (by omega)
  have hin := e32_in h0 hn hn9
  refine va_zald hC.1 hC.2.1 hC.2.2.2.2.2.1 hI.1 o 1 ((ew_get ho).trans (by rw [hs]; rfl)) rfl hin hd ?_
  have k := k (hI.2.2.2 o i ho (fun h => h88 h.1)).1 (hI.2.2.2 o i ho (fun h => h88 h.1)).2 ls H locs hl hI
  unfold vI at k
  rw [← hcl] at k
  exact k
theorem jw_iast (hC : jC p e R s m args meth c E A cc nL own ret) {o n : Nat} {i x : Int} (hA : ewA o 0 n) (hd : decode cc pc = .ok (.iastore, 1)) (h0 : 0 ≤ i) (hn : i < n) (hN : n < 2147483648) (h1 : -2147483648 ≤ x) (h2 : x < 2147483648) (k : jJ p l e R s m args below meth c E A nL cells slots Q (pc + 1) L S (mu M o i x)) : jJ p l e R s m args below meth c E A nL cells slots Q pc L (vI x :: vI i :: vR E o :: S) M := by
  intro ls H locs hl hI
  obtain ⟨ho, h88, hs⟩ := hA
  have hn9 : n < 2147483648 := hN
  have hcl := e32_clamp (a := i) h0 (by omega)
  have hin := e32_in h0 hn hn9
  obtain ⟨hP, hD, hS, hS4⟩ := hI
  have he : ew_cell E o (fun b => if b = i then x else M o b) = .inl (E.2.2.1 0, n, .inl (upd (fun k => Int32.ofInt (M o k)) (Int32.ofInt i).toNatClampNeg (Int32.ofInt x))) := by
    rw [hs]
    unfold ew_arr
    refine congrArg (fun z => Sum.inl (E.2.2.1 0, n, Sum.inl z)) (funext fun q => ?_)
    show Int32.ofInt (if (q : Int) = i then x else M o q) = if q = (Int32.ofInt i).toNatClampNeg then Int32.ofInt x else Int32.ofInt (M o q)
    by_cases hq : q = (Int32.ofInt i).toNatClampNeg
    · rw [if_pos hq, if_pos (by omega)]
    · rw [if_neg hq, if_neg (by omega)]
  refine va_iast hC.1 hC.2.1 hC.2.2.2.2.2.1 hP hD hS o 0 ((ew_get ho).trans (by rw [hs]; rfl)) rfl hin hd (fun H1 locs1 hP hD hS => ?_)
  rw [ew_set he] at hP hD
  exact k ls H1 locs1 hl ⟨hP, hD, hS, (ew_Smu hS4 h1 h2)⟩
theorem jw_zast (hC : jC p e R s m args meth c E A cc nL own ret) {o n : Nat} {i x : Int} (hA : ewA o 1 n) (hd : decode cc pc = .ok (.bastore, 1)) (h0 : 0 ≤ i) (hn : i < n) (hN : n < 2147483648) (hz : x = 0 ∨ x = 1) (k : jJ p l e R s m args below meth c E A nL cells slots Q (pc + 1) L S (mu M o i x)) : jJ p l e R s m args below meth c E A nL cells slots Q pc L (vI x :: vI i :: vR E o :: S) M := by
  intro ls H locs hl hI
  obtain ⟨ho, h88, hs⟩ := hA
  have hn9 : n < 2147483648 := hN
  have hcl := e32_clamp (a := i) h0 (by omega)
  have hin := e32_in h0 hn hn9
  obtain ⟨hP, hD, hS, hS4⟩ := hI
  have he : ew_cell E o (fun b => if b = i then x else M o b) = .inl (E.2.2.1 1, n, .inl (upd (fun k => Int32.ofInt (M o k)) (Int32.ofInt i).toNatClampNeg (vp_nar .boolean (Int32.ofInt x)))) := by
    rw [hs]
    unfold ew_arr
    have hz9 : vp_nar .boolean (Int32.ofInt x) = Int32.ofInt x := by rcases hz with rfl | rfl <;> rfl
    rw [hz9]
    refine congrArg (fun z => Sum.inl (E.2.2.1 1, n, Sum.inl z)) (funext fun q => ?_)
    show Int32.ofInt (if (q : Int) = i then x else M o q) = if q = (Int32.ofInt i).toNatClampNeg then Int32.ofInt x else Int32.ofInt (M o q)
    by_cases hq : q = (Int32.ofInt i).toNatClampNeg
    · rw [if_pos hq, if_pos (by omega)]
    · rw [if_neg hq, if_neg (by omega)]
  refine va_zast hC.1 hC.2.1 hC.2.2.2.2.2.1 hP hD hS o 1 ((ew_get ho).trans (by rw [hs]; rfl)) rfl hin hd (fun H1 locs1 hP hD hS => ?_)
  rw [ew_set he] at hP hD
  exact k ls H1 locs1 hl ⟨hP, hD, hS, (ew_Smu hS4 (by omega) (by omega))⟩
def ct_Q (E : ewE) (A : Nat → Prop) (post : Option Value → ewM → Prop) : Array Value → State → Outcome → State → Prop := fun _ st oc t => (∃ (v : Option Value) (M1 : ewM), oc = .returned v ∧ post v M1 ∧ ew_B E M1 t) ∧ va_F A st t
abbrev ct_rm (d : Nat) : Room := { frames := d, cells := 0, slots := 0, locals := 40 * d }
/-- a contract: from the world M the method y of these arguments comes back, and 'post' tells answer and world; it makes nothing -/
def Ct (l : Launch) (E : ewE) (y : MethodName) (cd : Cond) (d : Nat) (As : List Value) (M : ewM) (post : Option Value → ewM → Prop) : Prop :=
  ∀ sz : Nat, Met l y (cd :: WW) (ct_rm d) (va_Pc As (fun U => U.heap.size = sz ∧ ew_B E M U)) (ct_Q E (ew_A E sz) post) 0 0 (ew_A E sz)
theorem jw_iret (hC : jC p e R s m args meth c E A cc nL own (some .int)) {post : Option Value → ewM → Prop} {x : Int} (hd : decode cc pc = .ok (.ireturn, 1)) (h : post (some (vI x)) M) : jJ p l e R s m args below meth c E A nL cells slots (MQ below (ct_Q E A post) args s cells slots A) pc L [vI x] M := by
  intro ls H locs hl hI
  exact W.iret hC.1 hC.2.1 hC.2.2.2.2.2.2.2.1 (fun t ht hW => ⟨⟨_, M, rfl, h, ⟨by rw [ht]; exact hI.1, va_K.moved hW.alike hC.2.2.2.2.2.1, hI.2.1.weaken (fun _ _ _ _ => trivial), hI.2.2.2, hC.2.2.2.2.2.2.2.2.2.2.1.moved hW, jw_G hC hI ht hW⟩⟩, hI.2.2.1.F ht⟩) hI.2.2.1.2.2 hd hC.2.2.2.2.2.2.1
theorem jw_zret (hC : jC p e R s m args meth c E A cc nL own (some .boolean)) {post : Option Value → ewM → Prop} {x : Int} (hz : x = 0 ∨ x = 1) (hd : decode cc pc = .ok (.ireturn, 1)) (h : post (some (vI x)) M) : jJ p l e R s m args below meth c E A nL cells slots (MQ below (ct_Q E A post) args s cells slots A) pc L [vI x] M := by
  intro ls H locs hl hI
  exact W.zret hC.1 hC.2.1 hC.2.2.2.2.2.2.2.1 (by rcases hz with rfl | rfl <;> rfl) (fun t ht hW => ⟨⟨_, M, rfl, h, ⟨by rw [ht]; exact hI.1, va_K.moved hW.alike hC.2.2.2.2.2.1, hI.2.1.weaken (fun _ _ _ _ => trivial), hI.2.2.2, hC.2.2.2.2.2.2.2.2.2.2.1.moved hW, jw_G hC hI ht hW⟩⟩, hI.2.2.1.F ht⟩) hI.2.2.1.2.2 hd hC.2.2.2.2.2.2.1
theorem jw_lret (hC : jC p e R s m args meth c E A cc nL own (some .long)) {post : Option Value → ewM → Prop} {x : Int} (hd : decode cc pc = .ok (.lreturn, 1)) (h : post (some (vJ x)) M) : jJ p l e R s m args below meth c E A nL cells slots (MQ below (ct_Q E A post) args s cells slots A) pc L [vJ x] M := by
  intro ls H locs hl hI
  exact W.lret hC.1 hC.2.1 hC.2.2.2.2.2.2.2.1 (fun t ht hW => ⟨⟨_, M, rfl, h, ⟨by rw [ht]; exact hI.1, va_K.moved hW.alike hC.2.2.2.2.2.1, hI.2.1.weaken (fun _ _ _ _ => trivial), hI.2.2.2, hC.2.2.2.2.2.2.2.2.2.2.1.moved hW, jw_G hC hI ht hW⟩⟩, hI.2.2.1.F ht⟩) hI.2.2.1.2.2 hd hC.2.2.2.2.2.2.1
theorem jw_dret (hC : jC p e R s m args meth c E A cc nL own (some .double)) {post : Option Value → ewM → Prop} {x : UInt64} (hd : decode cc pc = .ok (.dreturn, 1)) (h : post (some (Value.double x)) M) : jJ p l e R s m args below meth c E A nL cells slots (MQ below (ct_Q E A post) args s cells slots A) pc L [Value.double x] M := by
  intro ls H locs hl hI
  exact W.dret hC.1 hC.2.1 hC.2.2.2.2.2.2.2.1 (fun t ht hW => ⟨⟨_, M, rfl, h, ⟨by rw [ht]; exact hI.1, va_K.moved hW.alike hC.2.2.2.2.2.1, hI.2.1.weaken (fun _ _ _ _ => trivial), hI.2.2.2, hC.2.2.2.2.2.2.2.2.2.2.1.moved hW, jw_G hC hI ht hW⟩⟩, hI.2.2.1.F ht⟩) hI.2.2.1.2.2 hd hC.2.2.2.2.2.2.1
theorem jw_vret (hC : jC p e R s m args meth c E A cc nL own none) {post : Option Value → ewM → Prop}  (hd : decode cc pc = .ok (.return_, 1)) (h : post none M) : jJ p l e R s m args below meth c E A nL cells slots (MQ below (ct_Q E A post) args s cells slots A) pc L [] M := by
  intro ls H locs hl hI
  exact W.vret hC.1 hC.2.1 hC.2.2.2.2.2.2.2.1 (fun t ht hW => ⟨⟨_, M, rfl, h, ⟨by rw [ht]; exact hI.1, va_K.moved hW.alike hC.2.2.2.2.2.1, hI.2.1.weaken (fun _ _ _ _ => trivial), hI.2.2.2, hC.2.2.2.2.2.2.2.2.2.2.1.moved hW, jw_G hC hI ht hW⟩⟩, hI.2.2.1.F ht⟩) hI.2.2.1.2.2 hd hC.2.2.2.2.2.2.1

theorem ew_DA {E : ewE} {A : Nat → Prop} {M : ewM} (h : va_D (fun _ => True) (ew_ws E M)) (hA : ∀ i : Nat, i < 88 → A (E.1 i)) : va_D A (ew_ws E M) := by
  refine h.weaken (fun k q hk _ => ?_)
  have hk0 : k < 88 := by
    have := (List.getElem?_eq_some_iff.mp hk).1
    unfold ew_ws at this
    rwa [List.length_map, List.length_range] at this
  rw [ew_get hk0] at hk
  cases hk
  exact hA k hk0
/-- what a virtual call's place says: own's pool entry idx is y of the class C, its code, its number of arguments -/
def ewV (own : String) (idx : Nat) (C : String) (y : MethodName) (bytes : ByteArray) (maxL : Nat) (rt : Option FieldType) (n ci : Nat) : Prop :=
  Cond.methodLink own idx y ∈ WW ∧ Cond.instanceMethod y ∈ WW ∧ Cond.selects C y y ∈ WW ∧ Cond.initialized C ∈ WW ∧ Cond.code y bytes maxL rt ∈ WW ∧ (y.cls = C ∧ y.cls ≠ "java/lang/invoke/MethodHandle" ∧ y.cls ≠ "java/lang/invoke/VarHandle" ∧ (parseMethodDescriptor y.desc).map (fun d => d.parameters.length) = some n) ∧ ∃ (T : u_T) (N : Nat), vwCl[ci]? = some (C, T, N)
/-- .. a static call's -/
def ewSt (own : String) (idx : Nat) (y : MethodName) (bytes : ByteArray) (maxL : Nat) (rt : Option FieldType) (n : Nat) : Prop :=
  Cond.methodLink own idx y ∈ WW ∧ Cond.static y ∈ WW ∧ Cond.initialized y.cls ∈ WW ∧ Cond.code y bytes maxL rt ∈ WW ∧ y.cls ≠ "java/lang/invoke/MethodHandle" ∧ y.cls ≠ "java/lang/invoke/VarHandle" ∧ (parseMethodDescriptor y.desc).map (fun d => d.parameters.length) = some n
/-- behind a call of a contract's method -/
theorem jw_run (hC : jC p e R s m args meth c E A cc nL own ret) {S0 : List Value} {ls : Array Slot} {H : Heap} {locs : List Loc} {post : Option Value → ewM → Prop} {a : Array Value}
    (hl : lv_has ls nL L) (hI : ew_I E A s M H locs) (hr : va_Run p l e R s m args below meth c H locs cells slots 0 0 (F0 m pc ls S0) S (ct_Q E (ew_A E H.size) post a) (ew_A E H.size))
    (k : ∀ (v : Option Value) (M1 : ewM), post v M1 → jJ p l e R s m args below meth c E A nL cells slots Q (pc + 3) L (vpush v S) M1) : W p l e R s m args below meth c H locs cells slots Q (F0 m pc ls S0) := by
  intro T hT X
  obtain ⟨v, st0, t, T', Lc, h0, X', hL, e1, e2, ⟨⟨v1, M1, hv, hp, hB⟩, hz, hk⟩, st⟩ := hr T hT X
  cases hv
  rw [h0] at hz hk
  obtain ⟨hP, hD, hS, hS4⟩ := hI
  have hAA : ∀ q : Nat, ew_A E H.size q → A q := by
    rintro q (⟨i, hi, rfl⟩ | hq)
    · exact hC.2.2.2.2.2.2.2.2.2.1 i hi
    · exact hC.2.2.2.2.2.2.2.2.1 q (Nat.le_trans hS.1 hq)
  have hI1 : ew_I E A s M1 T'.heap (locs ++ Lc) := by
    refine ⟨by rw [e1]; exact hB.1, ew_DA hB.2.2.1 hC.2.2.2.2.2.2.2.2.2.1, ⟨by rw [e1]; exact Nat.le_trans hS.1 hz, fun q h1 h2 => ?_, fun q hq => ?_⟩, hB.2.2.2.1⟩
    · rw [e1, hk q (Nat.lt_of_lt_of_le h1 hS.1) (fun z => h2 (hAA q z))]
      exact hS.2.1 q h1 h2
    · rcases List.mem_append.mp hq with h | h
      · exact hS.2.2 q h
      · exact hAA _ (hL q h)
  have k := k v M1 hp ls T'.heap (locs ++ Lc) hl hI1
  rw [← vpush_eq] at k
  obtain ⟨t2, a1, b1⟩ := k T' rfl X'
  exact ⟨t2, st t2 a1, b1⟩
theorem jw_blind {sz : Nat} {As : List Value} : FrameBlind (va_Pc As (fun U => U.heap.size = sz ∧ ew_B E M U)) := by
  intro a U g mk q
  obtain ⟨q0, q1, qP, qK, qD, qS, qN, qG⟩ := q
  exact ⟨q0, q1, qP, va_K.moved (u := U) (U := U.calling g mk a) (Vm.Alike.refl U.vm) qK, qD, qS, ew_N.same (u := U) (U := U.calling g mk a) rfl qN, ew_G.mv (u := U) (U := U.calling g mk a) qG (Vm.Alike.refl U.vm) (fun _ _ _ => rfl) (fun _ h => h)⟩
theorem jw_pre (hC : jC p e R s m args meth c E A cc nL own ret) {H : Heap} {locs : List Loc} (hI : ew_I E A s M H locs) {As : List Value} : ∀ U : State, U.heap = H → s.WarmedH U.vm → va_Pc As (fun U => U.heap.size = H.size ∧ ew_B E M U) As.toArray U := by
  intro U hU hW
  exact ⟨rfl, by rw [hU], by rw [hU]; exact hI.1, va_K.moved hW.alike hC.2.2.2.2.2.1, hI.2.1.weaken (fun _ _ _ _ => trivial), hI.2.2.2, hC.2.2.2.2.2.2.2.2.2.2.1.moved hW, jw_G hC hI hU hW⟩
theorem jw_callV (hC : jC p e R s m args meth c E A cc nL own ret) {S0 As : List Value} {idx o ci maxL d n : Nat} {C : String} {y : MethodName} {bytes : ByteArray} {rt : Option FieldType} {post : Option Value → ewM → Prop}
    (hM : Ct l E y (.code y bytes maxL rt) d (vR E o :: As) M post) (hV : ewV own idx C y bytes maxL rt n ci) (hO : ewO o ci) (hd : decode cc pc = .ok (.invokevirtual idx, 3)) (hst : S0 = As.reverse ++ vR E o :: S) (hn : As.length = n)
    (hR : d + 1 ≤ R.frames ∧ 8 + (maxL + 11) + 40 * d ≤ R.locals) (hcs : cells ≤ R.cells ∧ slots ≤ R.slots) (hS : (S.map fun v => v.category).sum ≤ 8)
    (k : ∀ (v : Option Value) (M1 : ewM), post v M1 → jJ p l e R s m args below meth c E A nL cells slots Q (pc + 3) L (vpush v S) M1) : jJ p l e R s m args below meth c E A nL cells slots Q pc L S0 M := by
  intro ls H locs hl hI
  obtain ⟨w1, w2, w3, w4, w5, hd1, T, N, hcl⟩ := hV
  have hG : GoodIn WW (wsV own idx C y (Cond.code y bytes maxL rt :: WW)) := by
    intro w hw
    have hm : w ∈ WW := by
      simp only [wsV, List.cons_append, List.nil_append, List.mem_cons] at hw
      rcases hw with rfl | rfl | rfl | rfl | rfl | hw
      · exact w1
      · exact w2
      · exact w3
      · exact w4
      · exact w5
      · exact hw
    exact ⟨hm, ww_good hm⟩
  have cw := cwV (R := R) (rm := ct_rm d) (mc := 0) (ms := 0) n hC.2.2.2.2.1 hG rfl rfl rfl hd1 hR
  obtain ⟨ho, hs⟩ := hO
  obtain ⟨fs, f1⟩ := hs E (M o)
  have hrec : ∃ cell : Cell, H[E.1 o]? = some cell ∧ cell.vm.isStatics = false ∧ s.vm.findClass C = some cell.cls := va_recv hC.2.2.2.2.2.1 hI.1 hcl ((ew_get ho).trans (by rw [f1]))
  exact jw_run hC hl hI (va_runV (As := As) (rest := S) ⟨hC.1, hC.2.1, hC.2.2.1, hC.2.2.2.1, hC.2.2.2.2.1⟩ (hM H.size) cw ⟨jw_blind, hrec, jw_pre hC hI⟩ rfl hn hl.1 hst (lv_room hS) hd hcs) k
theorem jw_callS (hC : jC p e R s m args meth c E A cc nL own ret) {S0 As : List Value} {idx maxL d n : Nat} {y : MethodName} {bytes : ByteArray} {rt : Option FieldType} {post : Option Value → ewM → Prop}
    (hM : Ct l E y (.code y bytes maxL rt) d As M post) (hV : ewSt own idx y bytes maxL rt n) (hd : decode cc pc = .ok (.invokestatic idx, 3)) (hst : S0 = As.reverse ++ S) (hn : As.length = n)
    (hR : d + 1 ≤ R.frames ∧ 8 + (maxL + 11) + 40 * d ≤ R.locals) (hcs : cells ≤ R.cells ∧ slots ≤ R.slots) (hS : (S.map fun v => v.category).sum ≤ 8)
    (k : ∀ (v : Option Value) (M1 : ewM), post v M1 → jJ p l e R s m args below meth c E A nL cells slots Q (pc + 3) L (vpush v S) M1) : jJ p l e R s m args below meth c E A nL cells slots Q pc L S0 M := by
  intro ls H locs hl hI
  obtain ⟨w1, w2, w4, w5, hd1⟩ := hV
  have hG : GoodIn WW (va_wsS own idx y (Cond.code y bytes maxL rt :: WW)) := by
    intro w hw
    have hm : w ∈ WW := by
      simp only [va_wsS, List.cons_append, List.nil_append, List.mem_cons] at hw
      rcases hw with rfl | rfl | rfl | rfl | hw
      · exact w1
      · exact w2
      · exact w4
      · exact w5
      · exact hw
    exact ⟨hm, ww_good hm⟩
  have cw := va_cwS (R := R) (rm := ct_rm d) (mc := 0) (ms := 0) n hC.2.2.2.2.1 hG rfl rfl rfl hd1 hR
  exact jw_run hC hl hI (va_runS (As := As) (rest := S) ⟨hC.1, hC.2.1, hC.2.2.1, hC.2.2.2.1, hC.2.2.2.2.1⟩ (hM H.size) cw ⟨jw_blind, jw_pre hC hI⟩ rfl hn hl.1 hst (lv_room hS) hd hcs) k
/-- a static call of a nest mate's private method -/
def ewSn (own : String) (idx : Nat) (y : MethodName) (bytes : ByteArray) (maxL : Nat) (rt : Option FieldType) (n : Nat) : Prop :=
  Cond.methodLinkNest own idx y "EmbossPress" ∈ NWL ∧ Cond.static y ∈ WW ∧ Cond.initialized y.cls ∈ WW ∧ Cond.code y bytes maxL rt ∈ WW ∧ y.cls ≠ "java/lang/invoke/MethodHandle" ∧ y.cls ≠ "java/lang/invoke/VarHandle" ∧ (parseMethodDescriptor y.desc).map (fun d => d.parameters.length) = some n
theorem jw_callSn (hC : jC p e R s m args meth c E A cc nL own ret) {S0 As : List Value} {idx maxL d n : Nat} {y : MethodName} {bytes : ByteArray} {rt : Option FieldType} {post : Option Value → ewM → Prop}
    (hM : Ct l E y (.code y bytes maxL rt) d As M post) (hV : ewSn own idx y bytes maxL rt n) (hd : decode cc pc = .ok (.invokestatic idx, 3)) (hst : S0 = As.reverse ++ S) (hn : As.length = n)
    (hR : d + 1 ≤ R.frames ∧ 8 + (maxL + 11) + 40 * d ≤ R.locals) (hcs : cells ≤ R.cells ∧ slots ≤ R.slots) (hS : (S.map fun v => v.category).sum ≤ 8)
    (k : ∀ (v : Option Value) (M1 : ewM), post v M1 → jJ p l e R s m args below meth c E A nL cells slots Q (pc + 3) L (vpush v S) M1) : jJ p l e R s m args below meth c E A nL cells slots Q pc L S0 M := by
  intro ls H locs hl hI
  obtain ⟨w1, w2, w4, w5, hd1⟩ := hV
  have hG : GoodIn WW (Cond.code y bytes maxL rt :: WW) := by
    intro w hw
    have hm : w ∈ WW := by
      rcases List.mem_cons.mp hw with rfl | hw
      · exact w5
      · exact hw
    exact ⟨hm, ww_good hm⟩
  have cw := va_cnB (R := R) (rm := ct_rm d) (mc := 0) (ms := 0) n hC.2.2.2.2.1 hG rfl rfl rfl (hC.2.2.2.2.2.2.2.2.2.2.1.1 _ w1) (hC.2.2.2.2.1 _ w4) hd1 hR
  exact jw_run hC hl hI (va_runSN (As := As) (rest := S) ⟨hC.1, hC.2.1, hC.2.2.1, hC.2.2.2.1, hC.2.2.2.2.1⟩ (hM H.size) ⟨cw, hC.2.2.2.2.1 _ w2, trivial⟩ ⟨jw_blind, jw_pre hC hI⟩ rfl hn hl.1 hst (lv_room hS) hd hcs) k
theorem jw_loc (is : List Nat) (hf : lv_pick L is = L') (k : jJ p l e R s m args below meth c E A nL cells slots Q pc L' S M) : jJ p l e R s m args below meth c E A nL cells slots Q pc L S M := fun ls H locs hl hI => k ls H locs (lv_sub hl is hf) hI
theorem jw_S (k : ew_S M → jJ p l e R s m args below meth c E A nL cells slots Q pc L S M) : jJ p l e R s m args below meth c E A nL cells slots Q pc L S M := fun ls H locs hl hI => k hI.2.2.2 ls H locs hl hI
theorem jw_if {q : Prop} (h : Decidable q) {L2 : List (Nat × Value)} {S2 : List Value} (kt : q → jJ p l e R s m args below meth c E A nL cells slots Q pc L S M) (kf : ¬ q → jJ p l e R s m args below meth c E A nL cells slots Q pc L2 S2 M) : jJ p l e R s m args below meth c E A nL cells slots Q pc (if q then L else L2) (if q then S else S2) M := by
  by_cases hq : q
  · rw [if_pos hq, if_pos hq]; exact kt hq
  · rw [if_neg hq, if_neg hq]; exact kf hq
end JW
/-- a contract, by the walk of the method's body -/
theorem ct_of {l : Launch} {E : ewE} {y : MethodName} {cc : ByteArray} {nL d : Nat} {ret : Option FieldType} {As : List Value} {L0 : List (Nat × Value)} {M : ewM} {post : Option Value → ewM → Prop} (hy : plainName y.cls = true) (hL0 : lv_args 0 As = L0) (hlen : (lg_sl As).length ≤ nL)
    (body : ∀ (p : Program) (e : Env) (s : State) (m : MethodId) (args : Array Value) (below : List Frame) (meth : Method) (c : Code) (A : Nat → Prop), jC p e (ct_rm d) s m args meth c E A cc nL y.cls ret → jJ p l e (ct_rm d) s m args below meth c E A nL 0 0 (MQ below (ct_Q E A post) args s 0 0 A) 0 L0 [] M) : Ct l E y (.code y cc nL ret) d As M post := by
  intro sz
  refine Met.ofW (cc := cc) (maxL := nL) (ret := ret) hy rfl ?_
  intro p e s m args below meth c s₁ B hml hv
  obtain ⟨rfl, hsz, hP, hK, hD, hS, hN, hG⟩ := hv
  subst hsz
  have hts := atoms_spec (ws := Cond.code y cc nL ret :: WW) B.pre
  have hC : jC p e (ct_rm d) s m As.toArray meth c E (ew_A E s.heap.size) cc nL y.cls ret := ⟨B.exec, B.bytes, hml, findClass_of_methodNamed B.named, fun w h => hts w (List.mem_cons_of_mem _ h), hK, B.notSynchronized, B.returns, fun q h => Or.inr h, fun i hi => Or.inl ⟨i, hi, rfl⟩, hN, hG⟩
  have hl := lv_entry As (n := nL) hlen
  rw [lg_entry_eq]
  rw [hL0] at hl
  exact body p e s m As.toArray below meth c (ew_A E s.heap.size) hC _ s.heap [] hl ⟨hP, ew_DA hD (fun i hi => Or.inl ⟨i, hi, rfl⟩), va_S.rf, hS⟩
end
section
/-! THE PLACES: field links and call links, each with its class and number -/
theorem eK_X0 : ewK 3 RX0 TX0 4 tyX0 := ⟨rfl, fun w h => ww_mem ((show ∀ w ∈ u_ws RX0 TX0 4, w ∈ lw_tbl by decide +kernel) w h) ((show ∀ w ∈ u_ws RX0 TX0 4, goodWord w = true by decide +kernel) w h), tyX0_ok, nmX0⟩
theorem eK_X1 : ewK 4 RX1 TX1 2 tyX1 := ⟨rfl, fun w h => ww_mem ((show ∀ w ∈ u_ws RX1 TX1 2, w ∈ lw_tbl by decide +kernel) w h) ((show ∀ w ∈ u_ws RX1 TX1 2, goodWord w = true by decide +kernel) w h), tyX1_ok, nmX1⟩
theorem eK_X2 : ewK 5 RX2 TX2 4 tyX2 := ⟨rfl, fun w h => ww_mem ((show ∀ w ∈ u_ws RX2 TX2 4, w ∈ lw_tbl by decide +kernel) w h) ((show ∀ w ∈ u_ws RX2 TX2 4, goodWord w = true by decide +kernel) w h), tyX2_ok, nmX2⟩
theorem eK_X3 : ewK 6 RX3 TX3 15 tyX3 := ⟨rfl, fun w h => ww_mem ((show ∀ w ∈ u_ws RX3 TX3 15, w ∈ lw_tbl by decide +kernel) w h) ((show ∀ w ∈ u_ws RX3 TX3 15, goodWord w = true by decide +kernel) w h), tyX3_ok, nmX3⟩
theorem eK_X4 : ewK 7 RX4 TX4 10 tyX4 := ⟨rfl, fun w h => ww_mem ((show ∀ w ∈ u_ws RX4 TX4 10, w ∈ lw_tbl by decide +kernel) w h) ((show ∀ w ∈ u_ws RX4 TX4 10, goodWord w = true by decide +kernel) w h), tyX4_ok, nmX4⟩
theorem fL_X4_12 : ewLr "EmbossPress" 12 7 0 := ⟨_, _, _, _, eK_X4, by decide, w1_160⟩
theorem fL_X4_16 : ewLr "EmbossPress" 16 7 1 := ⟨_, _, _, _, eK_X4, by decide, w1_161⟩
theorem fL_X4_20 : ewLr "EmbossPress" 20 7 2 := ⟨_, _, _, _, eK_X4, by decide, w1_162⟩
theorem fL_X4_24 : ewLr "EmbossPress" 24 7 3 := ⟨_, _, _, _, eK_X4, by decide, w1_163⟩
theorem fL_X4_30 : ewLr "EmbossPress" 30 7 6 := ⟨_, _, _, _, eK_X4, by decide, w1_166⟩
theorem fL_X4_34 : ewLr "EmbossPress" 34 7 7 := ⟨_, _, _, _, eK_X4, by decide, w1_167⟩
theorem fL_X4_41 : ewLr "EmbossPress" 41 7 8 := ⟨_, _, _, _, eK_X4, by decide, w1_168⟩
theorem fL_X4_48 : ewLr "EmbossPress" 48 7 9 := ⟨_, _, _, _, eK_X4, by decide, w1_169⟩
theorem fL_X4_79 : ewLr "EmbossPress" 79 6 0 := ⟨_, _, _, _, eK_X3, by decide, w1_65⟩
theorem fL_X4_88 : ewLr "EmbossPress" 88 6 2 := ⟨_, _, _, _, eK_X3, by decide, w1_69⟩
theorem fL_X4_114 : ewL "EmbossPress" 114 6 10 .int := ⟨_, _, _, _, eK_X3, by decide, rfl, rfl, w1_85⟩
theorem fL_X4_118 : ewL "EmbossPress" 118 6 8 .int := ⟨_, _, _, _, eK_X3, by decide, rfl, rfl, w1_81⟩
theorem fL_X4_121 : ewL "EmbossPress" 121 6 3 .int := ⟨_, _, _, _, eK_X3, by decide, rfl, rfl, w1_71⟩
theorem fL_X4_128 : ewL "EmbossPress" 128 6 11 .int := ⟨_, _, _, _, eK_X3, by decide, rfl, rfl, w1_87⟩
theorem fL_X4_131 : ewL "EmbossPress" 131 6 12 .int := ⟨_, _, _, _, eK_X3, by decide, rfl, rfl, w1_89⟩
theorem fL_X4_134 : ewL "EmbossPress" 134 6 13 .int := ⟨_, _, _, _, eK_X3, by decide, rfl, rfl, w1_91⟩
theorem fL_X4_137 : ewL "EmbossPress" 137 6 14 .int := ⟨_, _, _, _, eK_X3, by decide, rfl, rfl, w1_93⟩
theorem fL_X4_154 : ewL "EmbossPress" 154 6 6 .int := ⟨_, _, _, _, eK_X3, by decide, rfl, rfl, w1_77⟩
theorem fL_X4_165 : ewLr "EmbossPress" 165 6 1 := ⟨_, _, _, _, eK_X3, by decide, w1_67⟩
theorem fL_X4_176 : ewL "EmbossPress" 176 6 7 .int := ⟨_, _, _, _, eK_X3, by decide, rfl, rfl, w1_79⟩
theorem fL_X4_179 : ewL "EmbossPress" 179 6 9 .int := ⟨_, _, _, _, eK_X3, by decide, rfl, rfl, w1_83⟩
theorem fL_X4_234 : ewL "EmbossPress" 234 6 4 .int := ⟨_, _, _, _, eK_X3, by decide, rfl, rfl, w1_73⟩
theorem fL_X4_239 : ewL "EmbossPress" 239 7 5 .int := ⟨_, _, _, _, eK_X4, by decide, rfl, rfl, w1_165⟩
theorem fL_X4_244 : ewL "EmbossPress" 244 7 4 .int := ⟨_, _, _, _, eK_X4, by decide, rfl, rfl, w1_164⟩
theorem fL_X4_324 : ewL "EmbossPress" 324 6 5 .int := ⟨_, _, _, _, eK_X3, by decide, rfl, rfl, w1_75⟩
theorem fL_X4_343 : ewLr "EmbossPress" 343 5 0 := ⟨_, _, _, _, eK_X2, by decide, w1_45⟩
theorem fL_X4_346 : ewLr "EmbossPress" 346 5 1 := ⟨_, _, _, _, eK_X2, by decide, w1_48⟩
theorem fL_X4_349 : ewLr "EmbossPress" 349 5 2 := ⟨_, _, _, _, eK_X2, by decide, w1_51⟩
theorem fL_X4_361 : ewLr "EmbossPress" 361 5 3 := ⟨_, _, _, _, eK_X2, by decide, w1_53⟩
theorem fL_X0_9 : ewLr "EmbossPress$CrackFinder" 9 3 0 := ⟨_, _, _, _, eK_X0, by decide, w1_147⟩
theorem fL_X0_15 : ewLr "EmbossPress$CrackFinder" 15 3 1 := ⟨_, _, _, _, eK_X0, by decide, w1_148⟩
theorem fL_X0_18 : ewLr "EmbossPress$CrackFinder" 18 3 2 := ⟨_, _, _, _, eK_X0, by decide, w1_149⟩
theorem fL_X0_34 : ewL "EmbossPress$CrackFinder" 34 3 3 .int := ⟨_, _, _, _, eK_X0, by decide, rfl, rfl, w1_150⟩
theorem fL_X0_58 : ewLr "EmbossPress$CrackFinder" 58 5 2 := ⟨_, _, _, _, eK_X2, by decide, w1_50⟩
theorem fL_X1_9 : ewLr "EmbossPress$DieText" 9 4 0 := ⟨_, _, _, _, eK_X1, by decide, w1_132⟩
theorem fL_X2_9 : ewLr "EmbossPress$Sheet" 9 5 0 := ⟨_, _, _, _, eK_X2, by decide, w1_44⟩
theorem fL_X2_15 : ewLr "EmbossPress$Sheet" 15 5 1 := ⟨_, _, _, _, eK_X2, by decide, w1_46⟩
theorem fL_X2_18 : ewLr "EmbossPress$Sheet" 18 5 2 := ⟨_, _, _, _, eK_X2, by decide, w1_49⟩
theorem fL_X2_21 : ewLr "EmbossPress$Sheet" 21 5 3 := ⟨_, _, _, _, eK_X2, by decide, w1_52⟩
theorem fL_X3_9 : ewLr "EmbossPress$State" 9 6 0 := ⟨_, _, _, _, eK_X3, by decide, w1_64⟩
theorem fL_X3_23 : ewLr "EmbossPress$State" 23 6 1 := ⟨_, _, _, _, eK_X3, by decide, w1_66⟩
theorem fL_X3_29 : ewLr "EmbossPress$State" 29 6 2 := ⟨_, _, _, _, eK_X3, by decide, w1_68⟩
theorem fL_X3_33 : ewL "EmbossPress$State" 33 6 8 .int := ⟨_, _, _, _, eK_X3, by decide, rfl, rfl, w1_80⟩
theorem fL_X3_47 : ewL "EmbossPress$State" 47 6 3 .int := ⟨_, _, _, _, eK_X3, by decide, rfl, rfl, w1_70⟩
theorem fL_X3_50 : ewL "EmbossPress$State" 50 6 4 .int := ⟨_, _, _, _, eK_X3, by decide, rfl, rfl, w1_72⟩
theorem fL_X3_53 : ewL "EmbossPress$State" 53 6 5 .int := ⟨_, _, _, _, eK_X3, by decide, rfl, rfl, w1_74⟩
theorem fL_X3_56 : ewL "EmbossPress$State" 56 6 6 .int := ⟨_, _, _, _, eK_X3, by decide, rfl, rfl, w1_76⟩
theorem fL_X3_59 : ewL "EmbossPress$State" 59 6 7 .int := ⟨_, _, _, _, eK_X3, by decide, rfl, rfl, w1_78⟩
theorem fL_X3_62 : ewL "EmbossPress$State" 62 6 9 .int := ⟨_, _, _, _, eK_X3, by decide, rfl, rfl, w1_82⟩
theorem fL_X3_65 : ewL "EmbossPress$State" 65 6 10 .int := ⟨_, _, _, _, eK_X3, by decide, rfl, rfl, w1_84⟩
theorem fL_X3_68 : ewL "EmbossPress$State" 68 6 11 .int := ⟨_, _, _, _, eK_X3, by decide, rfl, rfl, w1_86⟩
theorem fL_X3_71 : ewL "EmbossPress$State" 71 6 12 .int := ⟨_, _, _, _, eK_X3, by decide, rfl, rfl, w1_88⟩
theorem fL_X3_74 : ewL "EmbossPress$State" 74 6 13 .int := ⟨_, _, _, _, eK_X3, by decide, rfl, rfl, w1_90⟩
theorem fL_X3_77 : ewL "EmbossPress$State" 77 6 14 .int := ⟨_, _, _, _, eK_X3, by decide, rfl, rfl, w1_92⟩
theorem fL_X3_96 : ewLr "EmbossPress$State" 96 5 1 := ⟨_, _, _, _, eK_X2, by decide, w1_47⟩
theorem sN_X3_80 : ewSn "EmbossPress$State" 80 yX4_pointIndex cX4_pointIndex 3 (some .int) 3 := ⟨by decide +kernel, w2_137, w1_1, w2_138, by decide +kernel, by decide +kernel, by decide +kernel⟩
theorem sN_X0_42 : ewSn "EmbossPress$CrackFinder" 42 yX4_placeIndex cX4_placeIndex 4 (some .int) 2 := ⟨by decide +kernel, w2_144, w1_1, w2_145, by decide +kernel, by decide +kernel, by decide +kernel⟩
theorem sN_X2_40 : ewSn "EmbossPress$Sheet" 40 yX4_placeIndex cX4_placeIndex 4 (some .int) 2 := ⟨by decide +kernel, w2_144, w1_1, w2_145, by decide +kernel, by decide +kernel, by decide +kernel⟩
theorem sN_X2_44 : ewSn "EmbossPress$Sheet" 44 yX4_placeUnder cX4_placeUnder 5 (some .int) 3 := ⟨by decide +kernel, w3_44, w1_1, w3_45, by decide +kernel, by decide +kernel, by decide +kernel⟩
theorem sN_X3_88 : ewSn "EmbossPress$State" 88 yX4_placeUnder cX4_placeUnder 5 (some .int) 3 := ⟨by decide +kernel, w3_44, w1_1, w3_45, by decide +kernel, by decide +kernel, by decide +kernel⟩
theorem sS_X4_52 : ewSt "EmbossPress" 52 yX4_isDie cX4_isDie 1 (some .boolean) 1 := ⟨w2_106, w2_107, w1_1, w2_108, by decide +kernel, by decide +kernel, by decide +kernel⟩
theorem sS_X4_56 : ewSt "EmbossPress" 56 yX4_isPoint cX4_isPoint 2 (some .boolean) 2 := ⟨w2_109, w2_110, w1_1, w2_111, by decide +kernel, by decide +kernel, by decide +kernel⟩
theorem sV_X4_72 : ewV "EmbossPress" 72 "EmbossPress" yX4_saveState cX4_saveState 1 none 0 7 := ⟨w2_177, w2_179, wp_3, w1_1, w2_180, by decide +kernel, _, _, rfl⟩
theorem sS_X4_75 : ewSt "EmbossPress" 75 yX4_pointIndex cX4_pointIndex 3 (some .int) 3 := ⟨w3_21, w2_137, w1_1, w2_138, by decide +kernel, by decide +kernel, by decide +kernel⟩
theorem sS_X4_82 : ewSt "EmbossPress" 82 yX4_placeIndex cX4_placeIndex 4 (some .int) 2 := ⟨w2_143, w2_144, w1_1, w2_145, by decide +kernel, by decide +kernel, by decide +kernel⟩
theorem sV_X4_91 : ewV "EmbossPress" 91 "EmbossPress$Sheet" yX2_depthAt cX2_depthAt 4 (some .int) 2 5 := ⟨w3_16, w3_17, w3_18, w1_3, w3_19, by decide +kernel, _, _, rfl⟩
theorem sS_X4_95 : ewSt "EmbossPress" 95 yJ9_min_7cf53 cJ9_min_7cf53 2 (some .int) 2 := ⟨w3_22, w3_23, w1_10, w3_24, by decide +kernel, by decide +kernel, by decide +kernel⟩
theorem sV_X4_100 : ewV "EmbossPress" 100 "EmbossPress$State" yX3_raisedPoints cX3_raisedPoints 4 (some .int) 1 6 := ⟨w3_25, w3_26, w3_27, w1_2, w3_28, by decide +kernel, _, _, rfl⟩
theorem sV_X4_104 : ewV "EmbossPress" 104 "EmbossPress$Sheet" yX2_cracked cX2_cracked 3 (some .int) 0 5 := ⟨w2_63, w2_64, w2_65, w1_3, w2_66, by decide +kernel, _, _, rfl⟩
theorem sV_X4_108 : ewV "EmbossPress" 108 "EmbossPress$Sheet" yX2_makeNew cX2_makeNew 1 none 0 5 := ⟨w2_181, w2_182, w2_183, w1_3, w2_184, by decide +kernel, _, _, rfl⟩
theorem sV_X4_111 : ewV "EmbossPress" 111 "EmbossPress$State" yX3_unslip cX3_unslip 1 none 0 6 := ⟨w2_188, w2_189, w2_190, w1_2, w2_191, by decide +kernel, _, _, rfl⟩
theorem sS_X4_142 : ewSt "EmbossPress" 142 yX4_isTurn cX4_isTurn 1 (some .boolean) 1 := ⟨w2_128, w2_129, w1_1, w2_130, by decide +kernel, by decide +kernel, by decide +kernel⟩
theorem sV_X4_147 : ewV "EmbossPress" 147 "EmbossPress$State" yX3_turnDie cX3_turnDie 6 none 3 6 := ⟨w3_34, w3_35, w3_36, w1_2, w3_37, by decide +kernel, _, _, rfl⟩
theorem sV_X4_151 : ewV "EmbossPress" 151 "EmbossPress" yX4_refusal cX4_refusal 7 (some .int) 2 7 := ⟨w3_39, w3_41, wp_8, w1_1, w3_42, by decide +kernel, _, _, rfl⟩
theorem sV_X4_157 : ewV "EmbossPress" 157 "EmbossPress" yX4_pressRelief cX4_pressRelief 6 (some .int) 2 7 := ⟨w3_47, w3_49, wp_9, w1_1, w3_50, by decide +kernel, _, _, rfl⟩
theorem sS_X4_160 : ewSt "EmbossPress" 160 yX4_isFoldRow cX4_isFoldRow 1 (some .boolean) 1 := ⟨w2_205, w2_206, w1_1, w2_207, by decide +kernel, by decide +kernel, by decide +kernel⟩
theorem sV_X4_168 : ewV "EmbossPress" 168 "EmbossPress$CrackFinder" yX0_crackAtFold cX0_crackAtFold 9 (some .int) 4 3 := ⟨w2_209, w2_210, w2_211, w1_5, w2_212, by decide +kernel, _, _, rfl⟩
theorem sV_X4_172 : ewV "EmbossPress" 172 "EmbossPress$CrackFinder" yX0_crackAll cX0_crackAll 6 (some .int) 3 3 := ⟨w2_228, w2_229, w2_230, w1_5, w2_231, by decide +kernel, _, _, rfl⟩
theorem sS_X4_182 : ewSt "EmbossPress" 182 yX4_isSetting cX4_isSetting 1 (some .boolean) 1 := ⟨w3_2, w3_3, w1_1, w3_4, by decide +kernel, by decide +kernel, by decide +kernel⟩
theorem sV_X4_230 : ewV "EmbossPress" 230 "EmbossPress$State" yX3_copyFrom cX3_copyFrom 2 none 1 6 := ⟨w2_23, w2_24, w2_25, w1_2, w2_26, by decide +kernel, _, _, rfl⟩
theorem sV_X4_247 : ewV "EmbossPress" 247 "EmbossPress$State" yX3_turnedPoint cX3_turnedPoint 9 (some .int) 4 6 := ⟨w2_132, w2_133, w2_134, w1_2, w2_135, by decide +kernel, _, _, rfl⟩
theorem sV_X4_253 : ewV "EmbossPress" 253 "EmbossPress" yX4_propertyOf cX4_propertyOf 4 (some .int) 2 7 := ⟨w2_149, w2_151, wp_2, w1_1, w2_152, by decide +kernel, _, _, rfl⟩
theorem sV_X4_258 : ewV "EmbossPress" 258 "EmbossPress" yX4_numberOf cX4_numberOf 2 (some .int) 1 7 := ⟨w2_59, w2_61, wp_1, w1_1, w2_62, by decide +kernel, _, _, rfl⟩
theorem sS_X4_310 : ewSt "EmbossPress" 310 yX4_placeUnder cX4_placeUnder 5 (some .int) 3 := ⟨w3_43, w3_44, w1_1, w3_45, by decide +kernel, by decide +kernel, by decide +kernel⟩
theorem sS_X4_314 : ewSt "EmbossPress" 314 yJ9_max_7cf53 cJ9_max_7cf53 2 (some .int) 2 := ⟨w3_46, w2_72, w1_10, w2_73, by decide +kernel, by decide +kernel, by decide +kernel⟩
theorem sV_X4_317 : ewV "EmbossPress" 317 "EmbossPress$Sheet" yX2_emboss cX2_emboss 8 none 3 5 := ⟨w3_51, w3_52, w3_53, w1_3, w3_54, by decide +kernel, _, _, rfl⟩
theorem sV_X4_321 : ewV "EmbossPress" 321 "EmbossPress$State" yX3_stickFoil cX3_stickFoil 8 none 3 6 := ⟨w3_56, w3_57, w3_58, w1_2, w3_59, by decide +kernel, _, _, rfl⟩
theorem sV_X4_327 : ewV "EmbossPress" 327 "EmbossPress$State" yX3_slipIfDue cX3_slipIfDue 2 none 0 6 := ⟨w3_62, w3_63, w3_64, w1_2, w3_65, by decide +kernel, _, _, rfl⟩
theorem sV_X4_352 : ewV "EmbossPress" 352 "EmbossPress$Sheet" yX2_strainOf cX2_strainOf 4 (some .int) 1 5 := ⟨w2_153, w2_79, w2_80, w1_3, w2_81, by decide +kernel, _, _, rfl⟩
theorem sV_X4_355 : ewV "EmbossPress" 355 "EmbossPress$Sheet" yX2_bearingOf cX2_bearingOf 4 (some .int) 3 5 := ⟨w2_154, w2_155, w2_156, w1_3, w2_157, by decide +kernel, _, _, rfl⟩
theorem sV_X4_358 : ewV "EmbossPress" 358 "EmbossPress$State" yX3_isFoilReadyOver cX3_isFoilReadyOver 4 (some .boolean) 1 6 := ⟨w2_162, w2_163, w2_164, w1_2, w2_165, by decide +kernel, _, _, rfl⟩
theorem sV_X4_364 : ewV "EmbossPress" 364 "EmbossPress$Sheet" yX2_greatestDepth cX2_greatestDepth 3 (some .int) 0 5 := ⟨w2_67, w2_68, w2_69, w1_3, w2_70, by decide +kernel, _, _, rfl⟩
theorem sV_X4_367 : ewV "EmbossPress" 367 "EmbossPress$Sheet" yX2_strainByPlaces cX2_strainByPlaces 3 (some .int) 0 5 := ⟨w2_74, w2_75, w2_76, w1_3, w2_77, by decide +kernel, _, _, rfl⟩
theorem sV_X4_370 : ewV "EmbossPress" 370 "EmbossPress$Sheet" yX2_strainByPairs cX2_strainByPairs 3 (some .int) 0 5 := ⟨w2_86, w2_87, w2_88, w1_3, w2_89, by decide +kernel, _, _, rfl⟩
theorem sV_X4_373 : ewV "EmbossPress" 373 "EmbossPress$Sheet" yX2_foiled cX2_foiled 3 (some .int) 0 5 := ⟨w2_90, w2_91, w2_92, w1_3, w2_93, by decide +kernel, _, _, rfl⟩
theorem sV_X0_21 : ewV "EmbossPress$CrackFinder" 21 "EmbossPress$Sheet" yX2_strainOf cX2_strainOf 4 (some .int) 1 5 := ⟨w2_232, w2_79, w2_80, w1_3, w2_81, by decide +kernel, _, _, rfl⟩
theorem sV_X0_27 : ewV "EmbossPress$CrackFinder" 27 "EmbossPress$Sheet" yX2_crackedBeside cX2_crackedBeside 4 (some .int) 1 5 := ⟨w2_233, w2_159, w2_160, w1_3, w2_161, by decide +kernel, _, _, rfl⟩
theorem sV_X0_30 : ewV "EmbossPress$CrackFinder" 30 "EmbossPress$CrackFinder" yX0_findOverstrained cX0_findOverstrained 5 none 3 3 := ⟨w2_234, w2_236, wp_7, w1_5, w2_237, by decide +kernel, _, _, rfl⟩
theorem sV_X0_38 : ewV "EmbossPress$CrackFinder" 38 "EmbossPress$CrackFinder" yX0_crackFound cX0_crackFound 3 (some .int) 1 3 := ⟨w2_220, w2_222, wp_5, w1_5, w2_223, by decide +kernel, _, _, rfl⟩
theorem sV_X0_46 : ewV "EmbossPress$CrackFinder" 46 "EmbossPress$Sheet" yX2_difference cX2_difference 4 (some .int) 2 5 := ⟨w2_214, w2_83, w2_84, w1_3, w2_85, by decide +kernel, _, _, rfl⟩
theorem sV_X0_50 : ewV "EmbossPress$CrackFinder" 50 "EmbossPress$Sheet" yX2_bearingOf cX2_bearingOf 4 (some .int) 3 5 := ⟨w2_215, w2_155, w2_156, w1_3, w2_157, by decide +kernel, _, _, rfl⟩
theorem sV_X0_54 : ewV "EmbossPress$CrackFinder" 54 "EmbossPress$CrackFinder" yX0_noteIfWhole cX0_noteIfWhole 3 none 2 3 := ⟨w2_216, w2_218, wp_4, w1_5, w2_219, by decide +kernel, _, _, rfl⟩
theorem sV_X0_61 : ewV "EmbossPress$CrackFinder" 61 "EmbossPress$CrackFinder" yX0_weakenBeside cX0_weakenBeside 3 none 1 3 := ⟨w2_224, w2_226, wp_6, w1_5, w2_227, by decide +kernel, _, _, rfl⟩
theorem sS_X2_24 : ewSt "EmbossPress$Sheet" 24 yJ7_fill_53178 cJ7_fill_53178 4 none 2 := ⟨w2_185, w2_186, w1_14, w2_187, by decide +kernel, by decide +kernel, by decide +kernel⟩
theorem sV_X2_30 : ewV "EmbossPress$Sheet" 30 "EmbossPress$Sheet" yX2_copyStrength cX2_copyStrength 2 none 1 5 := ⟨w2_34, w2_35, w2_36, w1_3, w2_37, by decide +kernel, _, _, rfl⟩
theorem sS_X2_48 : ewSt "EmbossPress$Sheet" 48 yJ9_max_7cf53 cJ9_max_7cf53 2 (some .int) 2 := ⟨w2_71, w2_72, w1_10, w2_73, by decide +kernel, by decide +kernel, by decide +kernel⟩
theorem sV_X2_54 : ewV "EmbossPress$Sheet" 54 "EmbossPress$Sheet" yX2_difference cX2_difference 4 (some .int) 2 5 := ⟨w2_82, w2_83, w2_84, w1_3, w2_85, by decide +kernel, _, _, rfl⟩
theorem sV_X2_57 : ewV "EmbossPress$Sheet" 57 "EmbossPress$Sheet" yX2_crackedBeside cX2_crackedBeside 4 (some .int) 1 5 := ⟨w2_158, w2_159, w2_160, w1_3, w2_161, by decide +kernel, _, _, rfl⟩
theorem sV_X2_61 : ewV "EmbossPress$Sheet" 61 "EmbossPress$Sheet" yX2_strainOf cX2_strainOf 4 (some .int) 1 5 := ⟨w2_78, w2_79, w2_80, w1_3, w2_81, by decide +kernel, _, _, rfl⟩
theorem sV_X3_43 : ewV "EmbossPress$State" 43 "EmbossPress$Sheet" yX2_copyFrom cX2_copyFrom 2 none 1 5 := ⟨w2_30, w2_31, w2_32, w1_3, w2_33, by decide +kernel, _, _, rfl⟩
theorem sV_X3_84 : ewV "EmbossPress$State" 84 "EmbossPress$State" yX3_turnedPoint cX3_turnedPoint 9 (some .int) 4 6 := ⟨w3_38, w2_133, w2_134, w1_2, w2_135, by decide +kernel, _, _, rfl⟩
theorem sV_X3_92 : ewV "EmbossPress$State" 92 "EmbossPress$State" yX3_isFoilReadyOver cX3_isFoilReadyOver 4 (some .boolean) 1 6 := ⟨w3_61, w2_163, w2_164, w1_2, w2_165, by decide +kernel, _, _, rfl⟩
theorem sS_X3_99 : ewSt "EmbossPress$State" 99 yJ9_min_7cf53 cJ9_min_7cf53 2 (some .int) 2 := ⟨w3_66, w3_23, w1_10, w3_24, by decide +kernel, by decide +kernel, by decide +kernel⟩
theorem sV_L_12 : ewV "EmbossPressLaw" 12 "EmbossPress" yX4_count cX4_count 2 (some .int) 1 7 := ⟨w2_39, w2_40, w2_41, w1_1, w2_42, by decide +kernel, _, _, rfl⟩
theorem sV_L_18 : ewV "EmbossPressLaw" 18 "EmbossPress" yX4_dieOf cX4_dieOf 5 (some .int) 4 7 := ⟨w2_102, w2_103, w2_104, w1_1, w2_105, by decide +kernel, _, _, rfl⟩
theorem sV_L_22 : ewV "EmbossPressLaw" 22 "EmbossPress" yX4_place cX4_place 5 (some .int) 3 7 := ⟨w2_139, w2_140, w2_141, w1_1, w2_142, by decide +kernel, _, _, rfl⟩
theorem sS_L_26 : ewSt "EmbossPressLaw" 26 yL_low cL_low 2 (some .int) 2 := ⟨w2_169, w2_170, w1_0, w2_171, by decide +kernel, by decide +kernel, by decide +kernel⟩
theorem sV_L_32 : ewV "EmbossPressLaw" 32 "EmbossPress" yX4_sheet cX4_sheet 2 (some .int) 0 7 := ⟨w2_173, w2_174, w2_175, w1_1, w2_176, by decide +kernel, _, _, rfl⟩
theorem sV_L_36 : ewV "EmbossPressLaw" 36 "EmbossPress" yX4_pin cX4_pin 2 (some .int) 0 7 := ⟨w2_192, w2_193, w2_194, w1_1, w2_195, by decide +kernel, _, _, rfl⟩
theorem sV_L_39 : ewV "EmbossPressLaw" 39 "EmbossPress" yX4_foil cX4_foil 6 (some .int) 5 7 := ⟨w2_196, w2_197, w2_198, w1_1, w2_199, by decide +kernel, _, _, rfl⟩
theorem sV_L_43 : ewV "EmbossPressLaw" 43 "EmbossPress" yX4_fold cX4_fold 5 (some .int) 1 7 := ⟨w2_201, w2_202, w2_203, w1_1, w2_204, by decide +kernel, _, _, rfl⟩
theorem sV_L_46 : ewV "EmbossPressLaw" 46 "EmbossPress" yX4_set cX4_set 4 (some .int) 2 7 := ⟨w2_238, w2_239, w3_0, w1_1, w3_1, by decide +kernel, _, _, rfl⟩
theorem sV_L_49 : ewV "EmbossPressLaw" 49 "EmbossPress" yX4_cast cX4_cast 7 (some .int) 3 7 := ⟨w3_11, w3_12, w3_13, w1_1, w3_14, by decide +kernel, _, _, rfl⟩
theorem sV_L_52 : ewV "EmbossPressLaw" 52 "EmbossPress" yX4_press cX4_press 6 (some .int) 4 7 := ⟨w3_29, w3_30, w3_31, w1_1, w3_32, by decide +kernel, _, _, rfl⟩
theorem sV_L_55 : ewV "EmbossPressLaw" 55 "EmbossPress" yX4_point cX4_point 7 (some .int) 4 7 := ⟨w3_67, w3_68, w3_69, w1_1, w3_70, by decide +kernel, _, _, rfl⟩
theorem sV_L_58 : ewV "EmbossPressLaw" 58 "EmbossPress" yX4_setting cX4_setting 2 (some .int) 1 7 := ⟨w3_75, w3_76, w3_77, w1_1, w3_78, by decide +kernel, _, _, rfl⟩
theorem sV_L_61 : ewV "EmbossPressLaw" 61 "EmbossPress" yX4_wholeShare cX4_wholeShare 1 (some .double) 0 7 := ⟨w3_79, w3_80, w3_81, w1_1, w3_82, by decide +kernel, _, _, rfl⟩
theorem sS_L_68 : ewSt "EmbossPressLaw" 68 yL_cell cL_cell 2 (some .int) 2 := ⟨w2_94, w2_95, w1_0, w2_96, by decide +kernel, by decide +kernel, by decide +kernel⟩
theorem sV_L_72 : ewV "EmbossPressLaw" 72 "EmbossPress" yX4_undo cX4_undo 1 (some .int) 0 7 := ⟨w1_191, w1_192, w1_193, w1_1, w1_194, by decide +kernel, _, _, rfl⟩
theorem sS_L_75 : ewSt "EmbossPressLaw" 75 yL_told cL_told 4 (some .long) 1 := ⟨w2_97, w2_98, w1_0, w2_99, by decide +kernel, by decide +kernel, by decide +kernel⟩
theorem sS_L_79 : ewSt "EmbossPressLaw" 79 yL_act cL_act 7 (some .int) 3 := ⟨w2_166, w2_167, w1_0, w2_168, by decide +kernel, by decide +kernel, by decide +kernel⟩
theorem sS_L_83 : ewSt "EmbossPressLaw" 83 yL_isSettled cL_isSettled 3 (some .boolean) 1 := ⟨w3_85, w3_86, w1_0, w3_87, by decide +kernel, by decide +kernel, by decide +kernel⟩
theorem sS_L_87 : ewSt "EmbossPressLaw" 87 yL_holds cL_holds 9 (some .boolean) 1 := ⟨w3_72, w3_73, w1_0, w3_74, by decide +kernel, by decide +kernel, by decide +kernel⟩
end
section
/-! PURE WORDS: what the methods tell, of numbers alone -/
def pD (f : Int → Int) : Prop := ∀ k : Int, 0 ≤ f k ∧ f k ≤ 9
def pC (f : Int → Int) : Prop := ∀ k : Int, 0 ≤ f k ∧ f k ≤ 1
def f_diff (f : Int → Int) (a b : Int) : Int := if f a - f b < 0 then -(f a - f b) else f a - f b
def f_s1 (f : Int → Int) (p : Int) : Int := if 0 < p % 12 then f_diff f p (p - 1) else 0
def f_s2 (f : Int → Int) (p : Int) : Int := if p % 12 < 11 then f_diff f p (p + 1) else 0
def f_s3 (f : Int → Int) (p : Int) : Int := if 12 ≤ p then f_diff f p (p - 12) else 0
def f_s4 (f : Int → Int) (p : Int) : Int := if p < 132 then f_diff f p (p + 12) else 0
def f_str (f : Int → Int) (p : Int) : Int := f_s1 f p + f_s2 f p + f_s3 f p + f_s4 f p
def f_b1 (f : Int → Int) (p : Int) : Int := if 0 < p % 12 then f (p - 1) else 0
def f_b2 (f : Int → Int) (p : Int) : Int := if p % 12 < 11 then f (p + 1) else 0
def f_b3 (f : Int → Int) (p : Int) : Int := if 12 ≤ p then f (p - 12) else 0
def f_b4 (f : Int → Int) (p : Int) : Int := if p < 132 then f (p + 12) else 0
def f_cb (f : Int → Int) (p : Int) : Int := f_b1 f p + f_b2 f p + f_b3 f p + f_b4 f p
def f_bear (c : Int → Int) (p bears takes : Int) : Int := max 0 (bears - takes * f_cb c p)
/-- the sum over the first n places -/
def f_sum (g : Int → Int) : Nat → Int
  | 0 => 0
  | n + 1 => f_sum g n + g n
/-- the greatest over the first n places, at least 0 -/
def f_max (g : Int → Int) : Nat → Int
  | 0 => 0
  | n + 1 => max (f_max g n) (g n)
theorem f_sum_cast (g : Int → Int) {n : Nat} {k : Int} (h0 : 0 ≤ k) (h : k = n) : f_sum g (k + 1).toNat = f_sum g k.toNat + g k := by
  subst h
  rw [show ((n : Int) + 1).toNat = n + 1 by omega, show ((n : Int)).toNat = n by omega]
  rfl
theorem f_sum_s (g : Int → Int) {k : Int} (h0 : 0 ≤ k) : f_sum g (k + 1).toNat = f_sum g k.toNat + g k := f_sum_cast g (n := k.toNat) h0 (by omega)
theorem f_max_s (g : Int → Int) {k : Int} (h0 : 0 ≤ k) : f_max g (k + 1).toNat = max (f_max g k.toNat) (g k) := by
  rw [show (k + 1).toNat = k.toNat + 1 by omega]
  show max (f_max g k.toNat) (g (k.toNat : Int)) = _
  rw [show (k.toNat : Int) = k by omega]
theorem f_sum_le {g : Int → Int} {a b : Int} (hg : ∀ k : Int, 0 ≤ k → k < 144 → a ≤ g k ∧ g k ≤ b) : ∀ n : Nat, n ≤ 144 → a * n ≤ f_sum g n ∧ f_sum g n ≤ b * n := by
  intro n
  induction n with
  | zero => intro _; exact ⟨by show a * 0 ≤ 0; omega, by show 0 ≤ b * 0; omega⟩
  | succ n ih =>
    intro hn
    have h1 := ih (by omega)
    have h2 := hg n (by omega) (by omega)
    have e1 : a * ((n + 1 : Nat) : Int) = a * n + a := by rw [show ((n + 1 : Nat) : Int) = (n : Int) + 1 by omega, Int.mul_add, Int.mul_one]
    have e2 : b * ((n + 1 : Nat) : Int) = b * n + b := by rw [show ((n + 1 : Nat) : Int) = (n : Int) + 1 by omega, Int.mul_add, Int.mul_one]
    rw [e1, e2]
    show _ ≤ f_sum g n + g n ∧ f_sum g n + g n ≤ _
    omega
theorem f_diff_b {f : Int → Int} (h : pD f) (a b : Int) : 0 ≤ f_diff f a b ∧ f_diff f a b ≤ 9 := by
  have h1 := h a
  have h2 := h b
  unfold f_diff
  split <;> omega
theorem f_s1_b {f : Int → Int} (h : pD f) (p : Int) : 0 ≤ f_s1 f p ∧ f_s1 f p ≤ 9 := by unfold f_s1; have := f_diff_b h p (p - 1); split <;> omega
theorem f_s2_b {f : Int → Int} (h : pD f) (p : Int) : 0 ≤ f_s2 f p ∧ f_s2 f p ≤ 9 := by unfold f_s2; have := f_diff_b h p (p + 1); split <;> omega
theorem f_s3_b {f : Int → Int} (h : pD f) (p : Int) : 0 ≤ f_s3 f p ∧ f_s3 f p ≤ 9 := by unfold f_s3; have := f_diff_b h p (p - 12); split <;> omega
theorem f_s4_b {f : Int → Int} (h : pD f) (p : Int) : 0 ≤ f_s4 f p ∧ f_s4 f p ≤ 9 := by unfold f_s4; have := f_diff_b h p (p + 12); split <;> omega
theorem f_str_b {f : Int → Int} (h : pD f) (p : Int) : 0 ≤ f_str f p ∧ f_str f p ≤ 36 := by
  have h1 := f_s1_b h p
  have h2 := f_s2_b h p
  have h3 := f_s3_b h p
  have h4 := f_s4_b h p
  unfold f_str
  omega
theorem f_b1_b {f : Int → Int} (h : pC f) (p : Int) : 0 ≤ f_b1 f p ∧ f_b1 f p ≤ 1 := by unfold f_b1; have := h (p - 1); split <;> omega
theorem f_b2_b {f : Int → Int} (h : pC f) (p : Int) : 0 ≤ f_b2 f p ∧ f_b2 f p ≤ 1 := by unfold f_b2; have := h (p + 1); split <;> omega
theorem f_b3_b {f : Int → Int} (h : pC f) (p : Int) : 0 ≤ f_b3 f p ∧ f_b3 f p ≤ 1 := by unfold f_b3; have := h (p - 12); split <;> omega
theorem f_b4_b {f : Int → Int} (h : pC f) (p : Int) : 0 ≤ f_b4 f p ∧ f_b4 f p ≤ 1 := by unfold f_b4; have := h (p + 12); split <;> omega
theorem f_cb_b {f : Int → Int} (h : pC f) (p : Int) : 0 ≤ f_cb f p ∧ f_cb f p ≤ 4 := by
  have h1 := f_b1_b h p
  have h2 := f_b2_b h p
  have h3 := f_b3_b h p
  have h4 := f_b4_b h p
  unfold f_cb
  omega
/-- what a crack takes from what a place bears: bounds of the product -/
theorem f_tk_b {t c : Int} (h1 : 0 ≤ t) (h2 : t ≤ 20) (h3 : 0 ≤ c) (h4 : c ≤ 4) : 0 ≤ t * c ∧ t * c ≤ 80 := by
  refine ⟨Int.mul_nonneg h1 h3, ?_⟩
  have h5 : t * c ≤ 20 * 4 := Int.mul_le_mul h2 h4 h3 (by decide)
  omega
/-- the least bearing with which no place would crack, over the first n places -/
def f_least (d c : Int → Int) (t : Int) : Nat → Int
  | 0 => 0
  | n + 1 => if c n = 0 ∧ 0 < f_str d n then max (f_least d c t n) (f_str d n + t * f_cb c n) else f_least d c t n
theorem f_least_s (d c : Int → Int) (t : Int) {k : Int} (h0 : 0 ≤ k) : f_least d c t (k + 1).toNat = if c k = 0 ∧ 0 < f_str d k then max (f_least d c t k.toNat) (f_str d k + t * f_cb c k) else f_least d c t k.toNat := by
  rw [show (k + 1).toNat = k.toNat + 1 by omega]
  show (if c (k.toNat : Int) = 0 ∧ 0 < f_str d (k.toNat : Int) then max (f_least d c t k.toNat) (f_str d (k.toNat : Int) + t * f_cb c (k.toNat : Int)) else f_least d c t k.toNat) = _
  rw [show (k.toNat : Int) = k by omega]
/-- the place of a column and a row, -1 off the sheet -/
def f_pl (c r : Int) : Int := if 0 ≤ c ∧ c < 12 ∧ 0 ≤ r ∧ r < 12 then r * 12 + c else -1
def f_pu (i left top : Int) : Int := f_pl (left + i % 5) (top + i / 5)
theorem f_pl_b (c r : Int) : -1 ≤ f_pl c r ∧ f_pl c r < 144 := by unfold f_pl; split <;> omega
theorem f_pu_b (i left top : Int) : -1 ≤ f_pu i left top ∧ f_pu i left top < 144 := f_pl_b _ _
/-- the depths behind the first n points of the relief r at (left, top) -/
def f_emb (r : Int → Int) (left top : Int) (f : Int → Int) : Nat → Int → Int
  | 0 => f
  | n + 1 => if 0 < r n ∧ f_pu n left top ≠ -1 then fun b => if b = f_pu n left top then max (f_emb r left top f n (f_pu n left top)) (r n) else f_emb r left top f n b else f_emb r left top f n
theorem f_emb_s (r : Int → Int) (left top : Int) (f : Int → Int) {k : Int} (h0 : 0 ≤ k) : f_emb r left top f (k + 1).toNat = if 0 < r k ∧ f_pu k left top ≠ -1 then fun b => if b = f_pu k left top then max (f_emb r left top f k.toNat (f_pu k left top)) (r k) else f_emb r left top f k.toNat b else f_emb r left top f k.toNat := by
  have e1 : (k + 1).toNat = k.toNat + 1 := by omega
  have e2 : (k.toNat : Int) = k := by omega
  rw [e1, f_emb, e2]
theorem f_emb_D {r f : Int → Int} (hr : pD r) (hf : pD f) (left top : Int) : ∀ n : Nat, pD (f_emb r left top f n) := by
  intro n
  induction n with
  | zero => exact hf
  | succ n ih =>
    rw [f_emb]
    split
    · intro b
      dsimp only
      have h1 := ih (f_pu n left top)
      have h2 := hr n
      have h3 := ih b
      split <;> omega
    · exact ih
end
section
/-! MORE ROWS: whole arrays -/
def mset (M : ewM) (o : Nat) (f : Int → Int) : ewM := fun a => if a = o then f else M a
theorem mset_at (M : ewM) (o : Nat) (f : Int → Int) : mset M o f o = f := by unfold mset; rw [if_pos rfl]
theorem mset_ne (M : ewM) {o a : Nat} (f : Int → Int) (h : a ≠ o) : mset M o f a = M a := by unfold mset; rw [if_neg h]
theorem mset_S {M : ewM} {o : Nat} {f : Int → Int} (h : ew_S M) (hf : ∀ k : Int, -2147483648 ≤ f k ∧ f k < 2147483648) : ew_S (mset M o f) := by
  intro i k hi hk
  by_cases h9 : i = o
  · subst h9; rw [mset_at]; exact hf k
  · rw [mset_ne M f h9]; exact h i k hi hk
theorem mset_set (M : ewM) (o : Nat) (f g : Int → Int) : mset (mset M o f) o g = mset M o g := by
  funext a
  unfold mset
  split <;> rfl
theorem ew_len {E : ewE} {M : ewM} {k : Nat} {q : Nat × va_E} (h : (ew_ws E M)[k]? = some q) : k < 88 ∧ q = (E.1 k, ew_cell E k (M k)) := by
  have hk0 : k < 88 := by
    have := (List.getElem?_eq_some_iff.mp h).1
    unfold ew_ws at this
    rwa [List.length_map, List.length_range] at this
  rw [ew_get hk0] at h
  cases h
  exact ⟨hk0, rfl⟩
theorem ew_Dc {E : ewE} {A : Nat → Prop} {M M2 : ewM} (h : va_D A (ew_ws E M)) : va_D A (ew_ws E M2) := by
  refine ⟨fun i j p q hi hj hpq => ?_, fun k q hk => ?_⟩
  · obtain ⟨h1, rfl⟩ := ew_len hi
    obtain ⟨h2, rfl⟩ := ew_len hj
    exact h.1 i j _ _ (ew_get h1) (ew_get h2) hpq
  · obtain ⟨h1, rfl⟩ := ew_len hk
    exact h.2 k (E.1 k, ew_cell E k (M k)) (ew_get h1)
theorem arrV_cg {c : ClassId} {n : Nat} {f g : Nat → Value} (h : ∀ j, j < n → f j = g j) : arrV c n f = arrV c n g := by
  unfold arrV
  congr 1
  exact congrArg Array.ofFn (funext fun j => h j.1 j.2)
theorem ew_Px {E : ewE} {M : ewM} {H : Heap} {o t n : Nat} {g : Int → Int} (hP : va_P E.2.1 vwCl (ew_ws E M) H) (hA : ewA o t n) (hg : ∀ k : Int, 0 ≤ k → k < n → M o k = g k) : va_P E.2.1 vwCl (ew_ws E (mset M o g)) H := by
  intro k q hk
  obtain ⟨h1, rfl⟩ := ew_len hk
  have h2 := hP k _ (ew_get h1)
  by_cases h9 : k = o
  · subst h9
    rw [mset_at, hA.2.2]
    rw [hA.2.2] at h2
    refine h2.trans (congrArg some ?_)
    show arrV _ n (fun j => .int (Int32.ofInt (M k j))) = arrV _ n (fun j => .int (Int32.ofInt (g j)))
    exact arrV_cg fun j hj => by rw [hg j (by omega) (by omega)]
  · rw [mset_ne M g h9]
    exact h2
section JW2
variable {p : Program} {l : Launch} {e : Env} {R : Room} {s : State} {m : MethodId} {args : Array Value} {below : List Frame} {meth : Method} {c : Code} {E : ewE} {A : Nat → Prop} {cc : ByteArray} {nL : Nat} {own : String} {ret : Option FieldType} {cells slots : Nat} {Q : State → Prop} {pc : Nat} {L L' : List (Nat × Value)} {S : List Value} {M : ewM}
/-- an array, told by other words that agree in its places -/
theorem jw_ext {o t n : Nat} {g : Int → Int} (hA : ewA o t n) (hg : ∀ k : Int, 0 ≤ k → k < n → M o k = g k) (hb : ∀ k : Int, -2147483648 ≤ g k ∧ g k < 2147483648) (k : jJ p l e R s m args below meth c E A nL cells slots Q pc L S (mset M o g)) : jJ p l e R s m args below meth c E A nL cells slots Q pc L S M :=
  fun ls H locs hl hI => k ls H locs hl ⟨ew_Px hI.1 hA hg, ew_Dc hI.2.1, hI.2.2.1, mset_S hI.2.2.2 hb⟩
/-- the same world under another name -/
theorem jw_M {M2 : ewM} (h : M = M2) (k : jJ p l e R s m args below meth c E A nL cells slots Q pc L S M2) : jJ p l e R s m args below meth c E A nL cells slots Q pc L S M := h ▸ k
/-- the static System.arraycopy of a whole array of ints -/
theorem jw_copy (hC : jC p e R s m args meth c E A cc nL own ret) {idx o1 o2 n : Nat} (h1 : ewA o1 0 n) (h2 : ewA o2 0 n) (hn : n < 2147483648) (hd : decode cc pc = .ok (.invokestatic idx, 3)) (w1 : Cond.methodLink own idx arraycopyName ∈ WW) (w2 : Cond.native arraycopyName ∈ WW) (w3 : Cond.static arraycopyName ∈ WW) (w4 : Cond.initialized "java/lang/System" ∈ WW)
    (hR : 1 ≤ R.frames ∧ (S.map fun v => v.category).sum + (nativeFrameWords "java/lang/System" "arraycopy" 5 + 11) ≤ R.locals)
    (k : jJ p l e R s m args below meth c E A nL cells slots Q (pc + 3) L S (mset M o2 (M o1))) : jJ p l e R s m args below meth c E A nL cells slots Q pc L (vI n :: vI 0 :: vR E o2 :: vI 0 :: vR E o1 :: S) M := by
  intro ls H locs hl hI
  obtain ⟨hP, hD, hS, hS4⟩ := hI
  have hcn : (Int32.ofInt (n : Int)).toNatClampNeg = n := by have := e32_clamp (a := (n : Int)) (by omega) (by omega); omega
  have hc0 : (Int32.ofInt 0).toNatClampNeg = 0 := rfl
  have hz : ¬ Int32.ofInt 0 < 0 := by decide
  have hnz : ¬ Int32.ofInt (n : Int) < 0 := by
    intro h
    have := (e32_lt (a := (n : Int)) (b := 0) (by omega) (by omega) (by decide) (by decide)).mp h
    omega
  refine va_copyi hC.1 hC.2.1 (hC.2.2.1.trans hl.1.symm) hC.2.2.2.1 (hC.2.2.2.2.1 _ w1) (hC.2.2.2.2.1 _ w2) (hC.2.2.2.2.1 _ w3) (hC.2.2.2.2.1 _ w4) hC.2.2.2.2.2.1 hP hD hS o1 o2 0 0 (ty := .int) ((ew_get h1.1).trans (by rw [h1.2.2]; rfl)) ((ew_get h2.1).trans (by rw [h2.2.2]; rfl)) rfl rfl rfl hz hz hnz (by rw [hcn, hc0]; omega) (by rw [hcn, hc0]; omega) (fun _ _ => rfl) hR.1 hR.2 hd (fun H1 locs1 hP hD hS => ?_)
  have hP2 : va_P E.2.1 vwCl (ew_ws E (mset M o2 (M o1))) H1 := by
    intro i q hk
    obtain ⟨h3, rfl⟩ := ew_len hk
    by_cases h9 : i = o2
    · subst h9
      have hl9 : i < (ew_ws E M).length := by unfold ew_ws; rw [List.length_map, List.length_range]; exact h3
      have h4 := hP i (E.1 i, _) (List.getElem?_set_self hl9)
      rw [mset_at, h2.2.2]
      refine h4.trans (congrArg some ?_)
      show arrV (E.2.2.1 0) n (fun j => .int (va_cpy (fun k => Int32.ofInt (M o1 k)) (fun k => Int32.ofInt (M i k)) (Int32.ofInt 0).toNatClampNeg (Int32.ofInt 0).toNatClampNeg (Int32.ofInt (n : Int)).toNatClampNeg j)) = arrV (E.2.2.1 0) n (fun j => .int (Int32.ofInt (M o1 j)))
      refine arrV_cg fun j hj => ?_
      rw [hcn, hc0]
      unfold va_cpy
      rw [if_pos (by omega)]
      simp
    · rw [mset_ne M _ h9]
      exact hP i _ ((List.getElem?_set_ne (Ne.symm h9)).trans (ew_get h3))
  exact k ls H1 locs1 hl ⟨hP2, ew_Dc (M := M) (by
    refine ⟨fun i j x y hi hj hxy => ?_, fun k q hk => ?_⟩
    · obtain ⟨g1, rfl⟩ := ew_len hi
      obtain ⟨g2, rfl⟩ := ew_len hj
      have hl9 : ∀ {i : Nat}, i < 88 → i < (ew_ws E M).length := fun h => by unfold ew_ws; rw [List.length_map, List.length_range]; exact h
      have key : ∀ {i : Nat}, i < 88 → ∃ z : va_E, ((ew_ws E M).set o2 (E.1 o2, .inl (E.2.2.1 0, n, .inl (va_cpy (fun k => Int32.ofInt (M o1 k)) (fun k => Int32.ofInt (M o2 k)) (Int32.ofInt 0).toNatClampNeg (Int32.ofInt 0).toNatClampNeg (Int32.ofInt (n : Int)).toNatClampNeg))))[i]? = some (E.1 i, z) := by
        intro i hi
        by_cases h9 : i = o2
        · subst h9; exact ⟨_, List.getElem?_set_self (hl9 hi)⟩
        · exact ⟨_, (List.getElem?_set_ne (Ne.symm h9)).trans (ew_get hi)⟩
      obtain ⟨z1, k1⟩ := key g1
      obtain ⟨z2, k2⟩ := key g2
      exact hD.1 i j _ _ k1 k2 hxy
    · obtain ⟨g1, rfl⟩ := ew_len hk
      exact hC.2.2.2.2.2.2.2.2.2.1 k g1), hS, mset_S hS4 (fun k => hS4 o1 k h1.1 (fun h => h1.2.1 h.1))⟩
end JW2
end
section
/-! STILL MORE ROWS: numbers that may wrap, lengths, any remainder -/
/-- a whole number as an int holds it -/
def wr (x : Int) : Int := (Int32.ofInt x).toInt
theorem wr_of {x : Int} (h1 : -2147483648 ≤ x) (h2 : x < 2147483648) : wr x = x := e32 h1 h2
theorem wr_b1 (x : Int) : -2147483648 ≤ wr x := by have := Int32.le_toInt (Int32.ofInt x); unfold wr; omega
theorem wr_b2 (x : Int) : wr x < 2147483648 := by have := Int32.toInt_lt (Int32.ofInt x); unfold wr; omega
theorem vI_wr (x : Int) : vI (wr x) = vI x := by unfold vI wr; rw [Int32.ofInt_toInt]
theorem mu_mset (M : ewM) (o : Nat) (f : Int → Int) (k x : Int) : mu (mset M o f) o k x = mset M o (fun b => if b = k then x else f b) := by
  funext a
  unfold mu mset
  split <;> rfl
/-- the pressings behind the first n points -/
def f_prs (r : Int → Int) (left top : Int) (f : Int → Int) : Nat → Int → Int
  | 0 => f
  | n + 1 => if 0 < r n ∧ f_pu n left top ≠ -1 then fun b => if b = f_pu n left top then wr (f_prs r left top f n (f_pu n left top) + 1) else f_prs r left top f n b else f_prs r left top f n
theorem f_prs_s (r : Int → Int) (left top : Int) (f : Int → Int) {k : Int} (h0 : 0 ≤ k) : f_prs r left top f (k + 1).toNat = if 0 < r k ∧ f_pu k left top ≠ -1 then fun b => if b = f_pu k left top then wr (f_prs r left top f k.toNat (f_pu k left top) + 1) else f_prs r left top f k.toNat b else f_prs r left top f k.toNat := by
  have e1 : (k + 1).toNat = k.toNat + 1 := by omega
  have e2 : (k.toNat : Int) = k := by omega
  rw [e1, f_prs, e2]
/-- a point turned back by q quarters: its column, its row -/
def f_ta (q c r : Int) : Int := if q = 0 then c else if q = 1 then r else if q = 2 then 4 - c else 4 - r
def f_tb (q c r : Int) : Int := if q = 0 then r else if q = 1 then 4 - c else if q = 2 then 4 - r else c
theorem f_ta_s {q c r : Int} (h0 : 0 ≤ q) (h3 : q < 3) : f_ta (q + 1) c r = f_tb q c r ∧ f_tb (q + 1) c r = 4 - f_ta q c r := by
  rcases (show q = 0 ∨ q = 1 ∨ q = 2 by omega) with rfl | rfl | rfl <;> simp [f_ta, f_tb] <;> omega
theorem f_t_b {q c r : Int} (hc : 0 ≤ c ∧ c < 5) (hr : 0 ≤ r ∧ r < 5) : (0 ≤ f_ta q c r ∧ f_ta q c r < 5) ∧ 0 ≤ f_tb q c r ∧ f_tb q c r < 5 := by
  unfold f_ta f_tb
  repeat' split
  all_goals omega
def f_tc (t c r : Int) : Int := if 4 ≤ t then 4 - f_ta (t % 4) c r else f_ta (t % 4) c r
def f_tr (t c r : Int) : Int := f_tb (t % 4) c r
/-- a die's point (c, r) as it is turned -/
def f_tp (P : Int → Int) (die c r t : Int) : Int := P (die * 25 + f_tr t c r * 5 + f_tc t c r)
/-- a die's relief as it is turned -/
def f_rel (P : Int → Int) (die t : Int) : Int → Int := fun k => f_tp P die (k % 5) (k / 5) t
theorem f_rel_D {P : Int → Int} (h : pD P) (die t : Int) : pD (f_rel P die t) := fun k => h _
abbrev f_ov (st : Int → Int) (p : Int) : Prop := st 10 ≠ 0 ∧ st 11 ≤ p % 12 ∧ p % 12 ≤ st 13 ∧ st 12 ≤ p / 12 ∧ p / 12 ≤ st 14
/-- the foils behind the first n points -/
def f_stk (st r : Int → Int) (left top : Int) (f : Int → Int) : Nat → Int → Int
  | 0 => f
  | n + 1 => if 0 < r n ∧ f_pu n left top ≠ -1 ∧ f_ov st (f_pu n left top) then fun b => if b = f_pu n left top then st 10 else f_stk st r left top f n b else f_stk st r left top f n
theorem f_stk_s (st r : Int → Int) (left top : Int) (f : Int → Int) {k : Int} (h0 : 0 ≤ k) : f_stk st r left top f (k + 1).toNat = if 0 < r k ∧ f_pu k left top ≠ -1 ∧ f_ov st (f_pu k left top) then fun b => if b = f_pu k left top then st 10 else f_stk st r left top f k.toNat b else f_stk st r left top f k.toNat := by
  have e1 : (k + 1).toNat = k.toNat + 1 := by omega
  have e2 : (k.toNat : Int) = k := by omega
  rw [e1, f_stk, e2]
/-- the slip behind a press -/
def f_sl (every since slip : Int) : Int := if 0 < every ∧ since.tmod every = 0 then min (slip + 1) 3 else slip
theorem mu_as (M : ewM) (o : Nat) (k x : Int) : mu M o k x = mset M o (fun b => if b = k then x else M o b) := by
  funext a
  unfold mu mset
  split
  · next h => subst h; rfl
  · rfl
theorem mset_id {M : ewM} {o : Nat} {f : Int → Int} (h : ∀ k : Int, f k = M o k) : mset M o f = M := by
  funext a
  unfold mset
  split
  · next h9 => subst h9; exact funext h
  · rfl
section JW3
variable {p : Program} {l : Launch} {e : Env} {R : Room} {s : State} {m : MethodId} {args : Array Value} {below : List Frame} {meth : Method} {c : Code} {E : ewE} {A : Nat → Prop} {cc : ByteArray} {nL : Nat} {own : String} {ret : Option FieldType} {cells slots : Nat} {Q : State → Prop} {pc : Nat} {L L' : List (Nat × Value)} {S : List Value} {M : ewM}
theorem jw_iastw (hC : jC p e R s m args meth c E A cc nL own ret) {o n : Nat} {i x : Int} (hA : ewA o 0 n) (hd : decode cc pc = .ok (.iastore, 1)) (h0 : 0 ≤ i) (hn : i < n) (hN : n < 2147483648) (k : jJ p l e R s m args below meth c E A nL cells slots Q (pc + 1) L S (mu M o i (wr x))) : jJ p l e R s m args below meth c E A nL cells slots Q pc L (vI x :: vI i :: vR E o :: S) M := by
  rw [← vI_wr x]
  exact jw_iast hC hA hd h0 hn hN (wr_b1 x) (wr_b2 x) k
theorem jw_putiw (hC : jC p e R s m args meth c E A cc nL own ret) {idx ci kf o : Nat} {x kI : Int} (hL : ewL own idx ci kf .int) (hF : ewF o ci kf) (hkI : (kf : Int) = kI) (hd : decode cc pc = .ok (.putfield idx, 3)) (k : jJ p l e R s m args below meth c E A nL cells slots Q (pc + 3) L S (mu M o kI (wr x))) : jJ p l e R s m args below meth c E A nL cells slots Q pc L (vI x :: vR E o :: S) M := by
  rw [← vI_wr x]
  exact jw_puti hC hL hF hkI hd (wr_b1 x) (wr_b2 x) k
theorem jw_alen (hC : jC p e R s m args meth c E A cc nL own ret) {o t n : Nat} (hA : ewA o t n) (ht : t = 0 ∨ t = 1) (hd : decode cc pc = .ok (.arraylength, 1)) (k : jJ p l e R s m args below meth c E A nL cells slots Q (pc + 1) L (vI n :: S) M) : jJ p l e R s m args below meth c E A nL cells slots Q pc L (vR E o :: S) M := by
  intro ls H locs hl hI
  obtain ⟨ho, h88, hs⟩ := hA
  rcases ht with rfl | rfl
  · exact va_alen (x := (n, .inl (fun k => Int32.ofInt (M o k)))) hC.1 hC.2.1 hC.2.2.2.2.2.1 hI.1 o 0 ((ew_get ho).trans (by rw [hs]; rfl)) (ty := .int) rfl Int32.ofInt_eq_ofNat.symm hd (k ls H locs hl hI)
  · exact va_alen (x := (n, .inl (fun k => Int32.ofInt (M o k)))) hC.1 hC.2.1 hC.2.2.2.2.2.1 hI.1 o 1 ((ew_get ho).trans (by rw [hs]; rfl)) (ty := .boolean) rfl Int32.ofInt_eq_ofNat.symm hd (k ls H locs hl hI)
theorem e32_tmod {a b : Int} (h1 : -2147483648 ≤ a) (h2 : a < 2147483648) (h3 : 0 < b) (h4 : b < 2147483648) : Int32.ofInt a - Int32.ofInt a / Int32.ofInt b * Int32.ofInt b = Int32.ofInt (a.tmod b) := by
  have e1 : Int32.minValue.toInt = -2147483648 := by decide
  have e2 : Int32.maxValue.toInt = 2147483647 := by decide
  rw [← Int32.ofInt_tdiv (by omega) (by omega) (by omega) (by omega), ← Int32.ofInt_mul, ← Int32.ofInt_sub]
  congr 1
  have := Int.mul_tdiv_add_tmod a b
  rw [Int.mul_comm] at this
  omega
theorem jw_iremt (hC : jC p e R s m args meth c E A cc nL own ret) {x y : Int} (hd : decode cc pc = .ok (.irem, 1)) (h1 : -2147483648 ≤ x) (h2 : x < 2147483648) (h3 : 0 < y) (h4 : y < 2147483648) (k : -2147483648 ≤ x.tmod y → x.tmod y < 2147483648 → jJ p l e R s m args below meth c E A nL cells slots Q (pc + 1) L (vI (x.tmod y) :: S) M) : jJ p l e R s m args below meth c E A nL cells slots Q pc L (vI y :: vI x :: S) M := by
  intro ls H locs hl hI
  have b1 := Int.tmod_lt_of_pos x h3
  have b2 := Int.lt_tmod_of_pos x h3
  have k := k (by omega) (by omega) ls H locs hl hI
  have hne : ¬ Int32.ofInt y = 0 := fun h => by
    have h5 := (e32_eq (b := 0) (by omega) h4 (by decide) (by decide)).mp h
    omega
  unfold vI at k ⊢
  rw [← e32_tmod h1 h2 h3 h4] at k
  exact lv_irem hC.1 hC.2.1 hd hne k
theorem jw_aald_slots (hC : jC p e R s m args meth c E A cc nL own ret) {i : Int} (q : Nat) (hq : i = q) (hn : q < 2) (hd : decode cc pc = .ok (.aaload, 1)) (k : jJ p l e R s m args below meth c E A nL cells slots Q (pc + 1) L (vR E (53 + 3 * q) :: S) M) : jJ p l e R s m args below meth c E A nL cells slots Q pc L (vI i :: vR E 78 :: S) M := by
  intro ls H locs hl hI
  have hcl := e32_clamp (a := i) (by omega) (by omega)
  have hcl : (Int32.ofInt i).toNatClampNeg = q := by omega
  have hin := e32_in (a := i) (n := 2) (by omega) (by omega) (by decide)
  refine va_aldq hC.1 hC.2.1 hC.2.2.2.2.2.1 hI.1 78 3 (C := "EmbossPress$State") (ew_get (by decide)) rfl hin hd ?_
  rw [hcl]
  exact k ls H locs hl hI
theorem jw_aald_saved (hC : jC p e R s m args meth c E A cc nL own ret) {i : Int} (q : Nat) (hq : i = q) (hn : q < 6) (hd : decode cc pc = .ok (.aaload, 1)) (k : jJ p l e R s m args below meth c E A nL cells slots Q (pc + 1) L (vR E (59 + 3 * q) :: S) M) : jJ p l e R s m args below meth c E A nL cells slots Q pc L (vI i :: vR E 80 :: S) M := by
  intro ls H locs hl hI
  have hcl := e32_clamp (a := i) (by omega) (by omega)
  have hcl : (Int32.ofInt i).toNatClampNeg = q := by omega
  have hin := e32_in (a := i) (n := 6) (by omega) (by omega) (by decide)
  refine va_aldq hC.1 hC.2.1 hC.2.2.2.2.2.1 hI.1 80 3 (C := "EmbossPress$State") (ew_get (by decide)) rfl hin hd ?_
  rw [hcl]
  exact k ls H locs hl hI
theorem jw_gets_least (hC : jC p e R s m args meth c E A cc nL own ret) {idx : Nat} (hw : Cond.fieldLink own idx "EmbossPress" "LEAST_VALUES" "[I" ∈ WW) (hd : decode cc pc = .ok (.getstatic idx, 3)) (k : jJ p l e R s m args below meth c E A nL cells slots Q (pc + 3) L (vR E 201 :: S) M) : jJ p l e R s m args below meth c E A nL cells slots Q pc L S M := by
  intro ls H locs hl hI
  exact va_gets hC.1 hC.2.1 hC.2.2.2.2.2.2.2.2.2.2.2.2.1.1 hI.2.2.1 hC.2.2.2.1 (hC.2.2.2.2.1 _ hw) (fun _ h => h) hd (k ls H locs hl hI)
theorem jw_ild_least (hC : jC p e R s m args meth c E A cc nL own ret) {i : Int} (h0 : 0 ≤ i) (h1 : i < 4) (hd : decode cc pc = .ok (.iaload, 1)) (k : jJ p l e R s m args below meth c E A nL cells slots Q (pc + 1) L (vI (g_least i.toNat) :: S) M) : jJ p l e R s m args below meth c E A nL cells slots Q pc L (vI i :: vR E 201 :: S) M := by
  intro ls H locs hl hI
  have hcl := e32_clamp (a := i) h0 (by omega)
  have hcl : (Int32.ofInt i).toNatClampNeg = i.toNat := by omega
  exact va_ti hC.1 hC.2.1 hC.2.2.2.2.2.2.2.2.2.2.2.2.1.2 hI.2.2.1 (e32_in (n := 4) h0 (by omega) (by decide)) (by rw [hcl]) hd (k ls H locs hl hI)
theorem jw_gets_great (hC : jC p e R s m args meth c E A cc nL own ret) {idx : Nat} (hw : Cond.fieldLink own idx "EmbossPress" "GREATEST_VALUES" "[I" ∈ WW) (hd : decode cc pc = .ok (.getstatic idx, 3)) (k : jJ p l e R s m args below meth c E A nL cells slots Q (pc + 3) L (vR E 202 :: S) M) : jJ p l e R s m args below meth c E A nL cells slots Q pc L S M := by
  intro ls H locs hl hI
  exact va_gets hC.1 hC.2.1 hC.2.2.2.2.2.2.2.2.2.2.2.2.2.1 hI.2.2.1 hC.2.2.2.1 (hC.2.2.2.2.1 _ hw) (fun _ h => h) hd (k ls H locs hl hI)
theorem jw_ild_great (hC : jC p e R s m args meth c E A cc nL own ret) {i : Int} (h0 : 0 ≤ i) (h1 : i < 4) (hd : decode cc pc = .ok (.iaload, 1)) (k : jJ p l e R s m args below meth c E A nL cells slots Q (pc + 1) L (vI (g_great i.toNat) :: S) M) : jJ p l e R s m args below meth c E A nL cells slots Q pc L (vI i :: vR E 202 :: S) M := by
  intro ls H locs hl hI
  have hcl := e32_clamp (a := i) h0 (by omega)
  have hcl : (Int32.ofInt i).toNatClampNeg = i.toNat := by omega
  exact va_ti hC.1 hC.2.1 hC.2.2.2.2.2.2.2.2.2.2.2.2.2.2 hI.2.2.1 (e32_in (n := 4) h0 (by omega) (by decide)) (by rw [hcl]) hd (k ls H locs hl hI)
end JW3
end
section
/-! CRACKS: the pure side -/
def f_ind (P : Int → Bool) : Int → Int := fun q => if P q = true then 1 else 0
theorem f_sum_cg {f g : Int → Int} : ∀ n : Nat, (∀ k : Int, 0 ≤ k → k < n → f k = g k) → f_sum f n = f_sum g n := by
  intro n
  induction n with
  | zero => intro _; rfl
  | succ n ih =>
    intro h
    show f_sum f n + f n = f_sum g n + g n
    rw [ih (fun k h1 h2 => h k h1 (by omega)), h n (by omega) (by omega)]
theorem f_sum_up {f g : Int → Int} {p : Int} : ∀ n : Nat, 0 ≤ p → (∀ k : Int, 0 ≤ k → k < n → k ≠ p → g k = f k) → (p < n → f_sum g n = f_sum f n + (g p - f p)) ∧ ((n : Int) ≤ p → f_sum g n = f_sum f n) := by
  intro n
  induction n with
  | zero => intro h0 _; exact ⟨fun h => by omega, fun _ => rfl⟩
  | succ n ih =>
    intro h0 h
    obtain ⟨h1, h2⟩ := ih h0 (fun k k1 k2 k3 => h k k1 (by omega) k3)
    refine ⟨fun hp => ?_, fun hp => ?_⟩
    · show f_sum g n + g n = f_sum f n + f n + (g p - f p)
      by_cases he : p = n
      · rw [h2 (by omega), ← he]; omega
      · rw [h1 (by omega), h n (by omega) (by omega) (fun e => he e.symm)]; omega
    · show f_sum g n + g n = f_sum f n + f n
      rw [h2 (by omega), h n (by omega) (by omega) (by omega)]
theorem f_sum_le' {f g : Int → Int} : ∀ n : Nat, (∀ k : Int, 0 ≤ k → k < n → f k ≤ g k) → f_sum f n ≤ f_sum g n := by
  intro n
  induction n with
  | zero => intro _; exact Int.le_refl _
  | succ n ih =>
    intro h
    have h1 := ih (fun k k1 k2 => h k k1 (by omega))
    have h2 := h n (by omega) (by omega)
    show f_sum f n + f n ≤ f_sum g n + g n
    omega
theorem f_ind_b (P : Int → Bool) (q : Int) : 0 ≤ f_ind P q ∧ f_ind P q ≤ 1 := by unfold f_ind; split <;> omega
/-- br lists, without doubles, the m places of the sheet that P tells -/
def f_ls (P : Int → Bool) (br : Int → Int) (m : Int) : Prop :=
  m = f_sum (f_ind P) 144 ∧ (∀ i : Int, 0 ≤ i → i < m → 0 ≤ br i ∧ br i < 144 ∧ P (br i) = true) ∧ (∀ i j : Int, 0 ≤ i → i < m → 0 ≤ j → j < m → br i = br j → i = j) ∧ ∀ q : Int, 0 ≤ q → q < 144 → P q = true → ∃ i : Int, 0 ≤ i ∧ i < m ∧ br i = q
theorem f_ls_m {P : Int → Bool} {br : Int → Int} {m : Int} (h : f_ls P br m) : 0 ≤ m ∧ m ≤ 144 := by
  have := f_sum_le (g := f_ind P) (a := 0) (b := 1) (fun k _ _ => f_ind_b P k) 144 (by decide)
  rw [h.1]
  omega
theorem f_sum_0 : ∀ n : Nat, f_sum (fun _ => 0) n = 0 := by
  intro n
  induction n with
  | zero => rfl
  | succ n ih => show f_sum (fun _ => 0) n + 0 = 0; rw [ih]; rfl
theorem f_ls_0 {P : Int → Bool} {br : Int → Int} (h : ∀ q : Int, 0 ≤ q → q < 144 → P q = false) : f_ls P br 0 := by
  refine ⟨?_, fun i _ _ => by omega, fun i j _ _ => by omega, fun q h1 h2 h3 => by rw [h q h1 h2] at h3; cases h3⟩
  rw [f_sum_cg (g := fun _ => 0) 144 (fun k k1 k2 => by unfold f_ind; rw [h k k1 k2]; rfl), f_sum_0]
theorem f_ls_cg {P P2 : Int → Bool} {br : Int → Int} {m : Int} (h : f_ls P br m) (hp : ∀ q : Int, 0 ≤ q → q < 144 → P2 q = P q) : f_ls P2 br m := by
  obtain ⟨h1, h2, h3, h4⟩ := h
  refine ⟨?_, fun i i1 i2 => ?_, h3, fun q q1 q2 q3 => h4 q q1 q2 (by rw [← hp q q1 q2]; exact q3)⟩
  · rw [h1]
    exact (f_sum_cg 144 (fun k k1 k2 => by unfold f_ind; rw [hp k k1 k2])).symm
  · have := h2 i i1 i2
    exact ⟨this.1, this.2.1, by rw [hp _ this.1 this.2.1]; exact this.2.2⟩
theorem f_ls_s {P P2 : Int → Bool} {br : Int → Int} {m p : Int} (h : f_ls P br m) (h0 : 0 ≤ p) (h1 : p < 144) (hp : P p = false) (h2 : P2 p = true) (hp2 : ∀ q : Int, 0 ≤ q → q < 144 → q ≠ p → P2 q = P q) : f_ls P2 (fun b => if b = m then p else br b) (m + 1) := by
  have hm := f_ls_m h
  obtain ⟨g1, g2, g3, g4⟩ := h
  refine ⟨?_, fun i i1 i2 => ?_, fun i j i1 i2 j1 j2 hij => ?_, fun q q1 q2 q3 => ?_⟩
  · have := (f_sum_up (f := f_ind P) (g := f_ind P2) 144 h0 (fun k k1 k2 k3 => by unfold f_ind; rw [hp2 k k1 (by omega) k3])).1 (by omega)
    rw [this, g1]
    unfold f_ind
    rw [hp, h2]
    simp
  · dsimp only
    by_cases hi : i = m
    · rw [if_pos hi]; exact ⟨h0, h1, h2⟩
    · rw [if_neg hi]
      have := g2 i i1 (by omega)
      refine ⟨this.1, this.2.1, ?_⟩
      by_cases he : br i = p
      · rw [he]; exact h2
      · rw [hp2 _ this.1 this.2.1 he]; exact this.2.2
  · dsimp only at hij
    have key : ∀ i : Int, 0 ≤ i → i < m → br i ≠ p := by
      intro i i1 i2 he
      have := (g2 i i1 i2).2.2
      rw [he, hp] at this
      cases this
    by_cases hi : i = m
    · by_cases hj : j = m
      · omega
      · rw [if_pos hi, if_neg hj] at hij
        exact absurd hij.symm (key j j1 (by omega))
    · by_cases hj : j = m
      · rw [if_neg hi, if_pos hj] at hij
        exact absurd hij (key i i1 (by omega))
      · rw [if_neg hi, if_neg hj] at hij
        exact g3 i j i1 (by omega) j1 (by omega) hij
  · by_cases he : q = p
    · exact ⟨m, by omega, by omega, by dsimp only; rw [if_pos rfl, he]⟩
    · obtain ⟨i, i1, i2, i3⟩ := g4 q q1 q2 (by rw [← hp2 q q1 q2 he]; exact q3)
      exact ⟨i, i1, by omega, by dsimp only; rw [if_neg (by omega), i3]⟩
/-- the cracks behind the first n of a list of places -/
def f_crk (br c : Int → Int) : Nat → Int → Int
  | 0 => c
  | n + 1 => fun b => if b = br n then 1 else f_crk br c n b
def f_w1 (s : Int → Int) (p : Int) : Int → Int := if 0 < p % 12 then fun q => if q = p - 1 then wr (s (p - 1) + 1) else s q else s
def f_w2 (s : Int → Int) (p : Int) : Int → Int := if p % 12 < 11 then fun q => if q = p + 1 then wr (s (p + 1) + 1) else s q else s
def f_w3 (s : Int → Int) (p : Int) : Int → Int := if 12 ≤ p then fun q => if q = p - 12 then wr (s (p - 12) + 1) else s q else s
def f_w4 (s : Int → Int) (p : Int) : Int → Int := if p < 132 then fun q => if q = p + 12 then wr (s (p + 12) + 1) else s q else s
/-- the counts of cracked neighbours, when p cracks -/
def f_weak (s : Int → Int) (p : Int) : Int → Int := f_w4 (f_w3 (f_w2 (f_w1 s p) p) p) p
def f_bes (br s : Int → Int) : Nat → Int → Int
  | 0 => s
  | n + 1 => f_weak (f_bes br s n) (br n)
theorem f_crk_s (br c : Int → Int) {k : Int} (h0 : 0 ≤ k) : f_crk br c (k + 1).toNat = fun b => if b = br k then 1 else f_crk br c k.toNat b := by
  rw [show (k + 1).toNat = k.toNat + 1 by omega, f_crk, show (k.toNat : Int) = k by omega]
theorem f_bes_s (br s : Int → Int) {k : Int} (h0 : 0 ≤ k) : f_bes br s (k + 1).toNat = f_weak (f_bes br s k.toNat) (br k) := by
  rw [show (k + 1).toNat = k.toNat + 1 by omega, f_bes, show (k.toNat : Int) = k by omega]
theorem f_crk_in {br c : Int → Int} {q : Int} : ∀ n : Nat, (∃ i : Int, 0 ≤ i ∧ i < n ∧ br i = q) → f_crk br c n q = 1 := by
  intro n
  induction n with
  | zero => rintro ⟨i, h1, h2, -⟩; omega
  | succ n ih =>
    rintro ⟨i, h1, h2, h3⟩
    show (if q = br n then 1 else f_crk br c n q) = 1
    by_cases hq : q = br n
    · rw [if_pos hq]
    · rw [if_neg hq]
      refine ih ⟨i, h1, ?_, h3⟩
      by_cases hi : i = n
      · subst hi; exact absurd h3.symm hq
      · omega
theorem f_crk_out {br c : Int → Int} {q : Int} : ∀ n : Nat, (∀ i : Int, 0 ≤ i → i < n → br i ≠ q) → f_crk br c n q = c q := by
  intro n
  induction n with
  | zero => intro _; rfl
  | succ n ih =>
    intro h
    show (if q = br n then 1 else f_crk br c n q) = c q
    rw [if_neg (fun e => h n (by omega) (by omega) e.symm)]
    exact ih (fun i i1 i2 => h i i1 (by omega))
theorem f_crk_C {br c : Int → Int} (hc : pC c) : ∀ n : Nat, pC (f_crk br c n) := by
  intro n
  induction n with
  | zero => exact hc
  | succ n ih =>
    intro b
    have := ih b
    show 0 ≤ (if b = br n then 1 else f_crk br c n b) ∧ (if b = br n then 1 else f_crk br c n b) ≤ 1
    split <;> omega
/-- the places that P tells crack -/
def f_brk (P : Int → Bool) (c : Int → Int) : Int → Int := fun q => if 0 ≤ q ∧ q < 144 ∧ P q = true then 1 else c q
theorem f_crk_eq {P : Int → Bool} {br c : Int → Int} {m : Int} (h : f_ls P br m) : f_crk br c m.toNat = f_brk P c := by
  have hm := f_ls_m h
  obtain ⟨h1, h2, h3, h4⟩ := h
  funext q
  unfold f_brk
  by_cases hq : 0 ≤ q ∧ q < 144 ∧ P q = true
  · rw [if_pos hq]
    obtain ⟨i, i1, i2, i3⟩ := h4 q hq.1 hq.2.1 hq.2.2
    exact f_crk_in _ ⟨i, i1, by omega, i3⟩
  · rw [if_neg hq]
    refine f_crk_out _ (fun i i1 i2 he => hq ?_)
    have := h2 i i1 (by omega)
    rw [he] at this
    exact this
theorem f_weak_q {s c : Int → Int} {p q : Int} (hp : 0 ≤ p) (hp2 : p < 144) (hq : 0 ≤ q) (hq2 : q < 144) (hs : ∀ k : Int, 0 ≤ k → k < 144 → s k = f_cb c k) (hc : pC c) (h0 : c p = 0) : f_weak s p q = f_cb (fun b => if b = p then 1 else c b) q := by
  have hb := f_cb_b hc
  have hw : ∀ k : Int, 0 ≤ k → k < 144 → wr (s k + 1) = s k + 1 := fun k k1 k2 => by have := hs k k1 k2; have := hb k; exact wr_of (by omega) (by omega)
  have e1 : ∀ x : Int, f_w1 s p x = if x = p - 1 ∧ 0 < p % 12 then s x + 1 else s x := by
    intro x
    unfold f_w1
    by_cases h : 0 < p % 12
    · rw [if_pos h]
      by_cases hx : x = p - 1
      · subst hx; rw [if_pos rfl, if_pos ⟨rfl, h⟩, hw _ (by omega) (by omega)]
      · rw [if_neg hx, if_neg (fun z => hx z.1)]
    · rw [if_neg h, if_neg (fun z => h z.2)]
  have e2 : ∀ x : Int, f_w2 (f_w1 s p) p x = if x = p + 1 ∧ p % 12 < 11 then s x + 1 else f_w1 s p x := by
    intro x
    unfold f_w2
    by_cases h : p % 12 < 11
    · rw [if_pos h]
      by_cases hx : x = p + 1
      · subst hx; rw [if_pos rfl, if_pos ⟨rfl, h⟩, e1, if_neg (by omega), hw _ (by omega) (by omega)]
      · rw [if_neg hx, if_neg (fun z => hx z.1)]
    · rw [if_neg h, if_neg (fun z => h z.2)]
  have e3 : ∀ x : Int, f_w3 (f_w2 (f_w1 s p) p) p x = if x = p - 12 ∧ 12 ≤ p then s x + 1 else f_w2 (f_w1 s p) p x := by
    intro x
    unfold f_w3
    by_cases h : 12 ≤ p
    · rw [if_pos h]
      by_cases hx : x = p - 12
      · subst hx; rw [if_pos rfl, if_pos ⟨rfl, h⟩, e2, if_neg (by omega), e1, if_neg (by omega), hw _ (by omega) (by omega)]
      · rw [if_neg hx, if_neg (fun z => hx z.1)]
    · rw [if_neg h, if_neg (fun z => h z.2)]
  have e4 : f_weak s p q = if q = p + 12 ∧ p < 132 then s q + 1 else f_w3 (f_w2 (f_w1 s p) p) p q := by
    unfold f_weak f_w4
    by_cases h : p < 132
    · rw [if_pos h]
      by_cases hx : q = p + 12
      · subst hx; rw [if_pos rfl, if_pos ⟨rfl, h⟩, e3, if_neg (by omega), e2, if_neg (by omega), e1, if_neg (by omega), hw _ (by omega) (by omega)]
      · rw [if_neg hx, if_neg (fun z => hx z.1)]
    · rw [if_neg h, if_neg (fun z => h z.2)]
  rw [e4, e3, e2, e1, hs q hq hq2]
  unfold f_cb f_b1 f_b2 f_b3 f_b4
  have c1 : ∀ x : Int, (if x = p then 1 else c x) = c x + (if x = p then 1 else 0) := by
    intro x
    by_cases hx : x = p
    · rw [if_pos hx, if_pos hx, hx, h0]; rfl
    · rw [if_neg hx, if_neg hx]; omega
  simp only [c1]
  by_cases a1 : 0 < q % 12 <;> by_cases a2 : q % 12 < 11 <;> by_cases a3 : 12 ≤ q <;> by_cases a4 : q < 132 <;> simp only [a1, a2, a3, a4, if_true, if_false] <;> repeat' split
  all_goals omega
theorem f_bes_q {br s c : Int → Int} (hs : ∀ k : Int, 0 ≤ k → k < 144 → s k = f_cb c k) (hc : pC c) : ∀ n : Nat, (∀ i : Int, 0 ≤ i → i < n → 0 ≤ br i ∧ br i < 144 ∧ c (br i) = 0) → (∀ i j : Int, 0 ≤ i → i < n → 0 ≤ j → j < n → br i = br j → i = j) → ∀ q : Int, 0 ≤ q → q < 144 → f_bes br s n q = f_cb (f_crk br c n) q := by
  intro n
  induction n with
  | zero => intro _ _; exact hs
  | succ n ih =>
    intro h1 h2 q q1 q2
    have ih := ih (fun i i1 i2 => h1 i i1 (by omega)) (fun i j i1 i2 j1 j2 => h2 i j i1 (by omega) j1 (by omega))
    have hn := h1 n (by omega) (by omega)
    show f_weak (f_bes br s n) (br n) q = f_cb (fun b => if b = br n then 1 else f_crk br c n b) q
    exact f_weak_q hn.1 hn.2.1 q1 q2 ih (f_crk_C hc n) (by
      rw [f_crk_out n (fun i i1 i2 he => by
        have := h2 i n i1 (by omega) (by omega) (by omega) he
        omega)]
      exact hn.2.2)
/-- the places that are strained more than they bear, and haven't cracked -/
def f_ovr (d : Int → Int) (b t : Int) (c : Int → Int) : Int → Bool := fun q => decide (c q = 0) && decide (f_bear c q b t < f_str d q)
def f_rnd (d : Int → Int) (b t : Int) (c : Int → Int) : Int → Int := f_brk (f_ovr d b t c) c
/-- n rounds of cracks -/
def f_it (d : Int → Int) (b t : Int) (c : Int → Int) : Nat → Int → Int
  | 0 => c
  | n + 1 => f_rnd d b t (f_it d b t c n)
theorem f_brk_C {P : Int → Bool} {c : Int → Int} (hc : pC c) : pC (f_brk P c) := by
  intro q
  have := hc q
  unfold f_brk
  split <;> omega
theorem f_it_C {d : Int → Int} {b t : Int} {c : Int → Int} (hc : pC c) : ∀ n : Nat, pC (f_it d b t c n) := by
  intro n
  induction n with
  | zero => exact hc
  | succ n ih => exact f_brk_C ih
theorem f_it_s (d : Int → Int) (b t : Int) (c : Int → Int) {k : Int} (h0 : 0 ≤ k) : f_it d b t c (k + 1).toNat = f_rnd d b t (f_it d b t c k.toNat) := by
  rw [show (k + 1).toNat = k.toNat + 1 by omega]
  rfl
/-- what the sum of the cracks grows by -/
theorem f_brk_sum {P : Int → Bool} {c : Int → Int} (h : ∀ q : Int, 0 ≤ q → q < 144 → P q = true → c q = 0) : f_sum (f_brk P c) 144 = f_sum c 144 + f_sum (f_ind P) 144 := by
  have key : ∀ n : Nat, n ≤ 144 → f_sum (f_brk P c) n = f_sum c n + f_sum (f_ind P) n := by
    intro n
    induction n with
    | zero => intro _; rfl
    | succ n ih =>
      intro hn
      show f_sum (f_brk P c) n + f_brk P c n = f_sum c n + c n + (f_sum (f_ind P) n + f_ind P n)
      rw [ih (by omega)]
      unfold f_brk f_ind
      by_cases hp : P n = true
      · rw [if_pos ⟨by omega, by omega, hp⟩, if_pos hp, h n (by omega) (by omega) hp]; omega
      · rw [if_neg (fun z => hp z.2.2), if_neg hp]; omega
  exact key 144 (by decide)
theorem f_ovr_0 {d : Int → Int} {b t : Int} {c : Int → Int} {q : Int} (h : f_ovr d b t c q = true) : c q = 0 := by
  unfold f_ovr at h
  simp only [Bool.and_eq_true, decide_eq_true_eq] at h
  exact h.1
theorem f_rnd_sum (d : Int → Int) (b t : Int) (c : Int → Int) : f_sum (f_rnd d b t c) 144 = f_sum c 144 + f_sum (f_ind (f_ovr d b t c)) 144 := f_brk_sum (fun _ _ _ h => f_ovr_0 h)
/-- a sum of none: none is told -/
theorem f_ind_0 {P : Int → Bool} : ∀ n : Nat, f_sum (f_ind P) n = 0 → ∀ q : Int, 0 ≤ q → q < n → P q = false := by
  intro n
  induction n with
  | zero => intro _ q h1 h2; omega
  | succ n ih =>
    intro h q h1 h2
    have h3 : f_sum (f_ind P) n + f_ind P n = 0 := h
    have h4 : 0 ≤ f_sum (f_ind P) n := by
      have := f_sum_le' (f := fun _ => 0) (g := f_ind P) n (fun k _ _ => (f_ind_b P k).1)
      rw [f_sum_0] at this
      exact this
    have h5 := f_ind_b P n
    by_cases hq : q = n
    · have h6 : f_ind P n = 0 := by omega
      rw [hq]
      unfold f_ind at h6
      cases hp : P n with
      | false => rfl
      | true => rw [hp] at h6; simp at h6
    · exact ih (by omega) q h1 (by omega)
theorem f_rnd_fix {d : Int → Int} {b t : Int} {c : Int → Int} (h : f_sum (f_ind (f_ovr d b t c)) 144 = 0) : f_rnd d b t c = c := by
  funext q
  unfold f_rnd f_brk
  rw [if_neg]
  rintro ⟨h1, h2, h3⟩
  rw [f_ind_0 144 h q h1 (by omega)] at h3
  cases h3
theorem f_it_fix {d : Int → Int} {b t : Int} {c : Int → Int} {n : Nat} (h : f_sum (f_ind (f_ovr d b t (f_it d b t c n))) 144 = 0) : ∀ k : Nat, f_it d b t c (n + k) = f_it d b t c n := by
  intro k
  induction k with
  | zero => rfl
  | succ k ih =>
    show f_rnd d b t (f_it d b t c (n + k)) = _
    rw [ih]
    exact f_rnd_fix h
/-- the sum of the cracks over the sheet is at most 144 -/
theorem f_sum_C {c : Int → Int} (h : pC c) : 0 ≤ f_sum c 144 ∧ f_sum c 144 ≤ 144 := by
  have := f_sum_le (g := c) (a := 0) (b := 1) (fun k _ _ => h k) 144 (by decide)
  omega
/-- the place's own way of telling that it is strained too much -/
theorem f_ovr_eq {d : Int → Int} {b t : Int} {c : Int → Int} (hd : pD d) {q : Int} : f_ovr d b t c q = (decide (c q = 0) && (decide (0 < f_str d q) && decide (b - t * f_cb c q < f_str d q))) := by
  unfold f_ovr f_bear
  have := f_str_b hd q
  congr 1
  by_cases h1 : 0 < f_str d q <;> by_cases h2 : b - t * f_cb c q < f_str d q <;> simp [h1, h2] <;> omega
end
section
/-! SWITCHES; what a state of the class is good for; what a press tells -/
section JW4
variable {p : Program} {l : Launch} {e : Env} {R : Room} {s : State} {m : MethodId} {args : Array Value} {below : List Frame} {meth : Method} {c : Code} {E : ewE} {A : Nat → Prop} {cc : ByteArray} {nL : Nat} {own : String} {ret : Option FieldType} {cells slots : Nat} {Q : State → Prop} {pc : Nat} {L L' : List (Nat × Value)} {S : List Value} {M : ewM}
theorem jw_tabIn (hC : jC p e R s m args meth c E A cc nL own ret) {dflt lo hi off x : Int} {offs : Array Int} {len tgt : Nat} (hd : decode cc pc = .ok (.tableswitch dflt lo hi offs, len)) (h1 : lo ≤ x) (h2 : x ≤ hi) (h3 : -2147483648 ≤ x) (h4 : x < 2147483648) (ho : offs[(x - lo).toNat]? = some off) (ht : (pc : Int) + off = (tgt : Int)) (k : jJ p l e R s m args below meth c E A nL cells slots Q tgt L S M) : jJ p l e R s m args below meth c E A nL cells slots Q pc L (vI x :: S) M := by
  intro ls H locs hl hI
  have e9 := e32 h3 h4
  exact lv_tableIn hC.1 hC.2.1 hd (by rw [e9]; omega) (by rw [e9]; omega) (by rw [e9]; exact ho) ht (k ls H locs hl hI)
theorem jw_tabOut (hC : jC p e R s m args meth c E A cc nL own ret) {dflt lo hi x : Int} {offs : Array Int} {len tgt : Nat} (hd : decode cc pc = .ok (.tableswitch dflt lo hi offs, len)) (h1 : x < lo ∨ hi < x) (h3 : -2147483648 ≤ x) (h4 : x < 2147483648) (ht : (pc : Int) + dflt = (tgt : Int)) (k : jJ p l e R s m args below meth c E A nL cells slots Q tgt L S M) : jJ p l e R s m args below meth c E A nL cells slots Q pc L (vI x :: S) M := by
  intro ls H locs hl hI
  have e9 := e32 h3 h4
  exact lv_tableOut hC.1 hC.2.1 hd (by rw [e9]; exact h1) ht (k ls H locs hl hI)
end JW4
/-- what the state j of the class keeps to -/
def stW (M : ewM) (j : Nat) : Prop := pD (M (5 * j + 1)) ∧ pC (M (5 * j + 3)) ∧ pD (M (50 + 3 * j + 1)) ∧ (0 ≤ M (50 + 3 * j + 2) 0 ∧ M (50 + 3 * j + 2) 0 ≤ 99) ∧ (0 ≤ M (50 + 3 * j + 2) 1 ∧ M (50 + 3 * j + 2) 1 ≤ 20) ∧ (1 ≤ M (50 + 3 * j + 2) 2 ∧ M (50 + 3 * j + 2) 2 ≤ 9) ∧ (0 ≤ M (50 + 3 * j + 2) 3 ∧ M (50 + 3 * j + 2) 3 ≤ 9) ∧ (0 ≤ M (50 + 3 * j) 3 ∧ M (50 + 3 * j) 3 ≤ 3)
def st0 (M : ewM) : Prop := pD (M 1) ∧ pC (M 3) ∧ pD (M 51) ∧ (0 ≤ M 52 0 ∧ M 52 0 ≤ 99) ∧ (0 ≤ M 52 1 ∧ M 52 1 ≤ 20) ∧ (1 ≤ M 52 2 ∧ M 52 2 ≤ 9) ∧ (0 ≤ M 52 3 ∧ M 52 3 ≤ 9) ∧ (0 ≤ M 50 3 ∧ M 50 3 ≤ 3)
theorem st0_of {M : ewM} (h : stW M 0) : st0 M := h
/-- the looks change no more than the trial sheet, the relief and the finder -/
def lk (M M1 : ewM) : Prop := ∀ o : Nat, (o < 45 ∨ (49 < o ∧ (o < 83 ∨ 87 < o))) → M1 o = M o
theorem lk_rfl {M : ewM} : lk M M := fun _ _ => rfl
theorem lk_tr {M M1 M2 : ewM} (h : lk M M1) (h2 : lk M1 M2) : lk M M2 := fun o ho => (h2 o ho).trans (h o ho)
theorem lk_st0 {M M1 : ewM} (h : lk M M1) (h0 : st0 M) : st0 M1 := by
  obtain ⟨a1, a2, a3, a4, a5, a6, a7, a8⟩ := h0
  refine ⟨?_, ?_, ?_, ?_, ?_, ?_, ?_, ?_⟩
  all_goals first | rw [h 1 (by decide)] | rw [h 3 (by decide)] | rw [h 51 (by decide)] | rw [h 52 (by decide)] | rw [h 50 (by decide)]
  all_goals assumption
/-- does one of the first n points lie off the sheet? -/
def f_off (r : Int → Int) (left top : Int) : Nat → Bool
  | 0 => false
  | n + 1 => f_off r left top n || (decide (0 < r n) && decide (f_pu n left top = -1))
theorem f_off_s (r : Int → Int) (left top : Int) {k : Int} (h : 0 ≤ k) : f_off r left top (k + 1).toNat = (f_off r left top k.toNat || (decide (0 < r k) && decide (f_pu k left top = -1))) := by
  rw [show (k + 1).toNat = k.toNat + 1 by omega, f_off, show (k.toNat : Int) = k by omega]
theorem f_off_le {r : Int → Int} {left top : Int} {n : Nat} (h : f_off r left top n = true) : ∀ k : Nat, f_off r left top (n + k) = true := by
  intro k
  induction k with
  | zero => exact h
  | succ k ih =>
    show (f_off r left top (n + k) || _) = true
    rw [ih]
    rfl
/-- why a press of the relief r is refused, 0 if it isn't -/
def f_rsn (r : Int → Int) (left top deep : Int) : Int := if f_off r left top 25 = true then 1 else if deep < f_max r 25 then 2 else if f_max r 25 = 0 then 3 else 0
theorem f_rsn_b (r : Int → Int) (left top deep : Int) : 0 ≤ f_rsn r left top deep ∧ f_rsn r left top deep ≤ 3 := by
  unfold f_rsn
  repeat' split
  all_goals omega
theorem f_max_D {r : Int → Int} (h : pD r) : ∀ n : Nat, 0 ≤ f_max r n ∧ f_max r n ≤ 9 := by
  intro n
  induction n with
  | zero => exact ⟨Int.le_refl _, by show (0 : Int) ≤ 9; decide⟩
  | succ n ih =>
    have := h n
    show 0 ≤ max (f_max r n) (r n) ∧ max (f_max r n) (r n) ≤ 9
    omega
/-- how many places the relief r would crack -/
def f_cks (r : Int → Int) (left top : Int) (d c : Int → Int) (b t : Int) : Int := f_sum (f_it (f_emb r left top d 25) b t c 144) 144 - f_sum c 144
theorem f_it_le {d : Int → Int} {b t : Int} {c : Int → Int} : ∀ n : Nat, f_sum c 144 ≤ f_sum (f_it d b t c n) 144 := by
  intro n
  induction n with
  | zero => exact Int.le_refl _
  | succ n ih =>
    have h1 := f_rnd_sum d b t (f_it d b t c n)
    have h2 := f_sum_le' (f := fun _ => 0) (g := f_ind (f_ovr d b t (f_it d b t c n))) 144 (fun k _ _ => (f_ind_b _ k).1)
    rw [f_sum_0] at h2
    show f_sum c 144 ≤ f_sum (f_rnd d b t (f_it d b t c n)) 144
    omega
theorem f_cks_b {r : Int → Int} {left top : Int} {d c : Int → Int} {b t : Int} (hc : pC c) : 0 ≤ f_cks r left top d c b t ∧ f_cks r left top d c b t ≤ 144 := by
  have h1 := f_it_le (d := f_emb r left top d 25) (b := b) (t := t) (c := c) 144
  have h2 := f_sum_C (f_it_C hc (d := f_emb r left top d 25) (b := b) (t := t) 144)
  have h3 := f_sum_C hc
  unfold f_cks
  omega
/-- what a press would answer -/
def f_ans (r : Int → Int) (left top : Int) (d c : Int → Int) (b t deep : Int) : Int := if f_rsn r left top deep = 0 then 100 + f_cks r left top d c b t else f_rsn r left top deep
/-- the same of the world M -/
def a_ans (M : ewM) (r : Int → Int) (x y : Int) : Int := f_ans r (x + M 50 3) y (M 1) (M 3) (M 52 0) (M 52 1) (M 52 2)
theorem lk_ans {M M1 : ewM} (h : lk M M1) (r : Int → Int) (x y : Int) : a_ans M1 r x y = a_ans M r x y := by
  unfold a_ans
  rw [h 1 (by decide), h 3 (by decide), h 52 (by decide), h 50 (by decide)]
/-- the least answer of a press that isn't refused, over the first n places; and the place where it is -/
def f_ln (ans : Int → Int) : Nat → Int
  | 0 => 1000000
  | n + 1 => if 100 ≤ ans n ∧ ans n < f_ln ans n then ans n else f_ln ans n
def f_bs (ans : Int → Int) : Nat → Int
  | 0 => -1
  | n + 1 => if 100 ≤ ans n ∧ ans n < f_ln ans n then 100 * ((n : Int) / 12) + (n : Int) % 12 else f_bs ans n
theorem f_ln_s (ans : Int → Int) {k : Int} (h : 0 ≤ k) : f_ln ans (k + 1).toNat = (if 100 ≤ ans k ∧ ans k < f_ln ans k.toNat then ans k else f_ln ans k.toNat) ∧ f_bs ans (k + 1).toNat = if 100 ≤ ans k ∧ ans k < f_ln ans k.toNat then 100 * (k / 12) + k % 12 else f_bs ans k.toNat := by
  rw [show (k + 1).toNat = k.toNat + 1 by omega, f_ln, f_bs, show (k.toNat : Int) = k by omega]
  exact ⟨rfl, rfl⟩
/-- nothing is less than 100 -/
theorem f_bs_100 {ans : Int → Int} {n : Nat} (h : f_ln ans n ≤ 100) : ∀ k : Nat, f_bs ans (n + k) = f_bs ans n ∧ f_ln ans (n + k) = f_ln ans n := by
  intro k
  induction k with
  | zero => exact ⟨rfl, rfl⟩
  | succ k ih =>
    have e9 : ¬ (100 ≤ ans ((n + k : Nat) : Int) ∧ ans ((n + k : Nat) : Int) < f_ln ans (n + k)) := by rw [ih.2]; omega
    rw [show n + (k + 1) = (n + k) + 1 from rfl, f_bs, f_ln, if_neg e9, if_neg e9]
    exact ih
/-- how strong the paper had to be -/
def f_need (r : Int → Int) (left top : Int) (d c : Int → Int) (t deep : Int) : Int := if f_rsn r left top deep = 0 then (if 99 < f_least (f_emb r left top d 25) c t 144 then -1 else f_least (f_emb r left top d 25) c t 144) else -1
theorem f_least_b {d c : Int → Int} {t : Int} (hd : pD d) (hc : pC c) (ht : 0 ≤ t ∧ t ≤ 20) : ∀ n : Nat, 0 ≤ f_least d c t n ∧ f_least d c t n ≤ 116 := by
  intro n
  induction n with
  | zero => exact ⟨Int.le_refl _, by show (0 : Int) ≤ 116; decide⟩
  | succ n ih =>
    have h1 := f_str_b hd n
    have h2 := f_cb_b hc n
    have h3 := f_tk_b ht.1 ht.2 h2.1 h2.2
    rw [f_least]
    split <;> omega
/-- the least turn by which the die a is as the die o -/
def f_eqt (P : Int → Int) (a t o : Int) : Nat → Bool
  | 0 => true
  | n + 1 => f_eqt P a t o n && decide (f_tp P a ((n : Int) % 5) ((n : Int) / 5) t = f_tp P o ((n : Int) % 5) ((n : Int) / 5) 0)
theorem f_eqt_s (P : Int → Int) (a t o : Int) {k : Int} (h : 0 ≤ k) : f_eqt P a t o (k + 1).toNat = (f_eqt P a t o k.toNat && decide (f_tp P a (k % 5) (k / 5) t = f_tp P o (k % 5) (k / 5) 0)) := by
  rw [show (k + 1).toNat = k.toNat + 1 by omega, f_eqt, show (k.toNat : Int) = k by omega]
theorem f_eqt_le {P : Int → Int} {a t o : Int} {n : Nat} (h : f_eqt P a t o n = false) : ∀ k : Nat, f_eqt P a t o (n + k) = false := by
  intro k
  induction k with
  | zero => exact h
  | succ k ih =>
    show (f_eqt P a t o (n + k) && _) = false
    rw [ih]
    rfl
/-- the first turn from t on, at most n of them, that does; -1 if none -/
def f_lt (P : Int → Int) (a o : Int) : Nat → Int → Int
  | 0, _ => -1
  | n + 1, t => if f_eqt P a t o 25 = true then t else f_lt P a o n (t + 1)
end
section
/-! THE SHEET: its methods -/
set_option maxRecDepth 100000 in
set_option maxHeartbeats 4000000 in
theorem c_X2_difference (l : Launch) (E : ewE) (M : ewM) (j : Nat) (hj : j < 10) (a b : Int) (ha : 0 ≤ a ∧ a < 144) (hb : 0 ≤ b ∧ b < 144) (hD : pD (M (5 * j + 1))) : Ct l E yX2_difference (.code yX2_difference cX2_difference 4 (some .int)) 1 [vR E (5 * j), vI a, vI b] M (fun v M1 => v = some (vI (f_diff (M (5 * j + 1)) a b)) ∧ M = M1) := by
  refine ct_of (L0 := [(0, vR E (5 * j)), (1, vI a), (2, vI b)]) (by decide +kernel) rfl (Nat.le_of_ble_eq_true rfl) ?_
  intro zp ze zs zm za zb zt zc zA hC
  have h1 := hD a
  have h2 := hD b
  refine jw_aload_n hC dX2_difference_0 0 rfl rfl ?_
  refine jw_getr hC fL_X2_9 (ewR_s0 (j := j) (by omega)) dX2_difference_1 ?_
  refine jw_iload_n hC dX2_difference_4 1 rfl rfl ?_
  refine jw_iald hC (ewA_sheet (j := j) (r := 1) (by omega) (by decide) (by decide)) dX2_difference_5 (by omega) (by omega) (by decide) (fun b5 c5 => ?_)
  refine jw_aload_n hC dX2_difference_6 0 rfl rfl ?_
  refine jw_getr hC fL_X2_9 (ewR_s0 (j := j) (by omega)) dX2_difference_7 ?_
  refine jw_iload_n hC dX2_difference_10 2 rfl rfl ?_
  refine jw_iald hC (ewA_sheet (j := j) (r := 1) (by omega) (by decide) (by decide)) dX2_difference_11 (by omega) (by omega) (by decide) (fun b11 c11 => ?_)
  refine jw_isub hC dX2_difference_12 ?_
  refine jw_istore_n (L' := [(3, _), (0, _), (1, _), (2, _)]) hC dX2_difference_13 rfl (by decide) rfl ?_
  refine jw_iload_n hC dX2_difference_14 0 rfl rfl ?_
  refine jw_if_ge (tgt := 23) hC dX2_difference_15 (by decide) (by omega) (by omega) (fun h15 => ?_) (fun h15 => ?_)
  · skip
    refine jw_iload_n hC dX2_difference_23 0 rfl rfl ?_
    refine jw_iret hC dX2_difference_24 ?_
    refine ⟨?_, rfl⟩
    unfold f_diff
    first | rw [if_pos (by omega)] | rw [if_neg (by omega)]
  · skip
    refine jw_iload_n hC dX2_difference_18 0 rfl rfl ?_
    refine jw_ineg hC dX2_difference_19 ?_
    refine jw_goto (tgt := 24) hC dX2_difference_20 (by decide) ?_
    refine jw_iret hC dX2_difference_24 ?_
    refine ⟨?_, rfl⟩
    unfold f_diff
    first | rw [if_pos (by omega)] | rw [if_neg (by omega)]
set_option maxRecDepth 100000 in
set_option maxHeartbeats 4000000 in
theorem c_X2_strainOf (l : Launch) (E : ewE) (M : ewM) (j : Nat) (hj : j < 10) (p : Int) (hp : 0 ≤ p ∧ p < 144) (hD : pD (M (5 * j + 1))) : Ct l E yX2_strainOf (.code yX2_strainOf cX2_strainOf 4 (some .int)) 2 [vR E (5 * j), vI p] M (fun v M1 => v = some (vI (f_str (M (5 * j + 1)) p)) ∧ M = M1) := by
  refine ct_of (L0 := [(0, vR E (5 * j)), (1, vI p)]) (by decide +kernel) rfl (Nat.le_of_ble_eq_true rfl) ?_
  intro zp ze zs zm za zb zt zc zA hC
  have K76 : ∀ x : Int, x = f_s1 (M (5 * j + 1)) p + f_s2 (M (5 * j + 1)) p + f_s3 (M (5 * j + 1)) p + f_s4 (M (5 * j + 1)) p → jJ zp l ze (ct_rm 2) zs zm za zb zt zc E zA 4 0 0 (MQ zb (ct_Q E zA (fun v M1 => v = some (vI (f_str (M (5 * j + 1)) p)) ∧ M = M1)) za zs 0 0 zA) 76 [(0, vR E (5 * j)), (1, vI p), (2, vI (p % 12)), (3, vI x)] [] M := by
    intro x hx
    refine jw_iload_n hC dX2_strainOf_76 3 rfl rfl ?_
    refine jw_iret hC dX2_strainOf_77 ?_
    refine ⟨?_, rfl⟩
    rw [hx]
    rfl
  have K57 : ∀ x : Int, x = f_s1 (M (5 * j + 1)) p + f_s2 (M (5 * j + 1)) p + f_s3 (M (5 * j + 1)) p → jJ zp l ze (ct_rm 2) zs zm za zb zt zc E zA 4 0 0 (MQ zb (ct_Q E zA (fun v M1 => v = some (vI (f_str (M (5 * j + 1)) p)) ∧ M = M1)) za zs 0 0 zA) 57 [(0, vR E (5 * j)), (1, vI p), (2, vI (p % 12)), (3, vI x)] [] M := by
    intro x hx
    refine jw_iload_n hC dX2_strainOf_57 1 rfl rfl ?_
    refine jw_sipush hC dX2_strainOf_58 (by decide) ?_
    refine jw_icmp_ge (tgt := 76) hC dX2_strainOf_61 (by decide) (by omega) (by omega) (by omega) (by omega) (fun h61 => ?_) (fun h61 => ?_)
    · skip
      refine K76 _ ?_
      unfold f_s4
      first | (rw [if_pos (by omega)] <;> omega) | (rw [if_neg (by omega)] <;> omega)
    · skip
      refine jw_iload_n hC dX2_strainOf_64 3 rfl rfl ?_
      refine jw_aload_n hC dX2_strainOf_65 0 rfl rfl ?_
      refine jw_iload_n hC dX2_strainOf_66 1 rfl rfl ?_
      refine jw_iload_n hC dX2_strainOf_67 1 rfl rfl ?_
      refine jw_bipush hC dX2_strainOf_68 (by decide) ?_
      refine jw_iadd hC dX2_strainOf_70 ?_
      refine jw_callV hC (c_X2_difference l E M j hj _ _ ⟨by omega, by omega⟩ ⟨by omega, by omega⟩ hD) sV_X2_54 (ewO_sheet (j := j) (by omega)) dX2_strainOf_71 rfl rfl ⟨Nat.le_of_ble_eq_true rfl, Nat.le_of_ble_eq_true rfl⟩ ⟨Nat.zero_le _, Nat.zero_le _⟩ (Nat.le_of_ble_eq_true rfl) (fun v71 M71 g71 => ?_)
      obtain ⟨rfl, rfl⟩ := g71
      refine jw_iadd hC dX2_strainOf_74 ?_
      refine jw_istore_n (L' := [(3, _), (0, _), (1, _), (2, _)]) hC dX2_strainOf_75 rfl (by decide) rfl ?_
      refine jw_loc (L' := [(0, _), (1, _), (2, _), (3, _)]) [1, 2, 3, 0] rfl ?_
      refine K76 _ ?_
      unfold f_s4
      first | (rw [if_pos (by omega)] <;> omega) | (rw [if_neg (by omega)] <;> omega)
  have K39 : ∀ x : Int, x = f_s1 (M (5 * j + 1)) p + f_s2 (M (5 * j + 1)) p → jJ zp l ze (ct_rm 2) zs zm za zb zt zc E zA 4 0 0 (MQ zb (ct_Q E zA (fun v M1 => v = some (vI (f_str (M (5 * j + 1)) p)) ∧ M = M1)) za zs 0 0 zA) 39 [(0, vR E (5 * j)), (1, vI p), (2, vI (p % 12)), (3, vI x)] [] M := by
    intro x hx
    refine jw_iload_n hC dX2_strainOf_39 1 rfl rfl ?_
    refine jw_bipush hC dX2_strainOf_40 (by decide) ?_
    refine jw_icmp_lt (tgt := 57) hC dX2_strainOf_42 (by decide) (by omega) (by omega) (by omega) (by omega) (fun h42 => ?_) (fun h42 => ?_)
    · skip
      refine K57 _ ?_
      unfold f_s3
      first | (rw [if_pos (by omega)] <;> omega) | (rw [if_neg (by omega)] <;> omega)
    · skip
      refine jw_iload_n hC dX2_strainOf_45 3 rfl rfl ?_
      refine jw_aload_n hC dX2_strainOf_46 0 rfl rfl ?_
      refine jw_iload_n hC dX2_strainOf_47 1 rfl rfl ?_
      refine jw_iload_n hC dX2_strainOf_48 1 rfl rfl ?_
      refine jw_bipush hC dX2_strainOf_49 (by decide) ?_
      refine jw_isub hC dX2_strainOf_51 ?_
      refine jw_callV hC (c_X2_difference l E M j hj _ _ ⟨by omega, by omega⟩ ⟨by omega, by omega⟩ hD) sV_X2_54 (ewO_sheet (j := j) (by omega)) dX2_strainOf_52 rfl rfl ⟨Nat.le_of_ble_eq_true rfl, Nat.le_of_ble_eq_true rfl⟩ ⟨Nat.zero_le _, Nat.zero_le _⟩ (Nat.le_of_ble_eq_true rfl) (fun v52 M52 g52 => ?_)
      obtain ⟨rfl, rfl⟩ := g52
      refine jw_iadd hC dX2_strainOf_55 ?_
      refine jw_istore_n (L' := [(3, _), (0, _), (1, _), (2, _)]) hC dX2_strainOf_56 rfl (by decide) rfl ?_
      refine jw_loc (L' := [(0, _), (1, _), (2, _), (3, _)]) [1, 2, 3, 0] rfl ?_
      refine K57 _ ?_
      unfold f_s3
      first | (rw [if_pos (by omega)] <;> omega) | (rw [if_neg (by omega)] <;> omega)
  have K22 : ∀ x : Int, x = f_s1 (M (5 * j + 1)) p → jJ zp l ze (ct_rm 2) zs zm za zb zt zc E zA 4 0 0 (MQ zb (ct_Q E zA (fun v M1 => v = some (vI (f_str (M (5 * j + 1)) p)) ∧ M = M1)) za zs 0 0 zA) 22 [(0, vR E (5 * j)), (1, vI p), (2, vI (p % 12)), (3, vI x)] [] M := by
    intro x hx
    refine jw_iload_n hC dX2_strainOf_22 2 rfl rfl ?_
    refine jw_bipush hC dX2_strainOf_23 (by decide) ?_
    refine jw_icmp_ge (tgt := 39) hC dX2_strainOf_25 (by decide) (by omega) (by omega) (by omega) (by omega) (fun h25 => ?_) (fun h25 => ?_)
    · skip
      refine K39 _ ?_
      unfold f_s2
      first | (rw [if_pos (by omega)] <;> omega) | (rw [if_neg (by omega)] <;> omega)
    · skip
      refine jw_iload_n hC dX2_strainOf_28 3 rfl rfl ?_
      refine jw_aload_n hC dX2_strainOf_29 0 rfl rfl ?_
      refine jw_iload_n hC dX2_strainOf_30 1 rfl rfl ?_
      refine jw_iload_n hC dX2_strainOf_31 1 rfl rfl ?_
      refine jw_iconst hC dX2_strainOf_32 ?_
      refine jw_iadd hC dX2_strainOf_33 ?_
      refine jw_callV hC (c_X2_difference l E M j hj _ _ ⟨by omega, by omega⟩ ⟨by omega, by omega⟩ hD) sV_X2_54 (ewO_sheet (j := j) (by omega)) dX2_strainOf_34 rfl rfl ⟨Nat.le_of_ble_eq_true rfl, Nat.le_of_ble_eq_true rfl⟩ ⟨Nat.zero_le _, Nat.zero_le _⟩ (Nat.le_of_ble_eq_true rfl) (fun v34 M34 g34 => ?_)
      obtain ⟨rfl, rfl⟩ := g34
      refine jw_iadd hC dX2_strainOf_37 ?_
      refine jw_istore_n (L' := [(3, _), (0, _), (1, _), (2, _)]) hC dX2_strainOf_38 rfl (by decide) rfl ?_
      refine jw_loc (L' := [(0, _), (1, _), (2, _), (3, _)]) [1, 2, 3, 0] rfl ?_
      refine K39 _ ?_
      unfold f_s2
      first | (rw [if_pos (by omega)] <;> omega) | (rw [if_neg (by omega)] <;> omega)
  refine jw_iload_n hC dX2_strainOf_0 1 rfl rfl ?_
  refine jw_bipush hC dX2_strainOf_1 (by decide) ?_
  refine jw_irem hC dX2_strainOf_3 (by omega) (by omega) (by omega) (by omega) ?_
  refine jw_istore_n (L' := [(2, _), (0, _), (1, _)]) hC dX2_strainOf_4 rfl (by decide) rfl ?_
  refine jw_iconst hC dX2_strainOf_5 ?_
  refine jw_istore_n (L' := [(3, _), (2, _), (0, _), (1, _)]) hC dX2_strainOf_6 rfl (by decide) rfl ?_
  refine jw_iload_n hC dX2_strainOf_7 1 rfl rfl ?_
  refine jw_if_le (tgt := 22) hC dX2_strainOf_8 (by decide) (by omega) (by omega) (fun h8 => ?_) (fun h8 => ?_)
  · skip
    refine jw_loc (L' := [(0, _), (1, _), (2, _), (3, _)]) [2, 3, 1, 0] rfl ?_
    refine K22 _ ?_
    unfold f_s1
    first | (rw [if_pos (by omega)] <;> omega) | (rw [if_neg (by omega)] <;> omega)
  · skip
    refine jw_iload_n hC dX2_strainOf_11 0 rfl rfl ?_
    refine jw_aload_n hC dX2_strainOf_12 2 rfl rfl ?_
    refine jw_iload_n hC dX2_strainOf_13 3 rfl rfl ?_
    refine jw_iload_n hC dX2_strainOf_14 3 rfl rfl ?_
    refine jw_iconst hC dX2_strainOf_15 ?_
    refine jw_isub hC dX2_strainOf_16 ?_
    refine jw_callV hC (c_X2_difference l E M j hj _ _ ⟨by omega, by omega⟩ ⟨by omega, by omega⟩ hD) sV_X2_54 (ewO_sheet (j := j) (by omega)) dX2_strainOf_17 rfl rfl ⟨Nat.le_of_ble_eq_true rfl, Nat.le_of_ble_eq_true rfl⟩ ⟨Nat.zero_le _, Nat.zero_le _⟩ (Nat.le_of_ble_eq_true rfl) (fun v17 M17 g17 => ?_)
    obtain ⟨rfl, rfl⟩ := g17
    refine jw_iadd hC dX2_strainOf_20 ?_
    refine jw_istore_n (L' := [(3, _), (2, _), (0, _), (1, _)]) hC dX2_strainOf_21 rfl (by decide) rfl ?_
    refine jw_loc (L' := [(0, _), (1, _), (2, _), (3, _)]) [2, 3, 1, 0] rfl ?_
    refine K22 _ ?_
    unfold f_s1
    first | (rw [if_pos (by omega)] <;> omega) | (rw [if_neg (by omega)] <;> omega)
set_option maxRecDepth 100000 in
set_option maxHeartbeats 4000000 in
theorem c_X2_crackedBeside (l : Launch) (E : ewE) (M : ewM) (j : Nat) (hj : j < 10) (p : Int) (hp : 0 ≤ p ∧ p < 144) : Ct l E yX2_crackedBeside (.code yX2_crackedBeside cX2_crackedBeside 4 (some .int)) 1 [vR E (5 * j), vI p] M (fun v M1 => v = some (vI (f_cb (M (5 * j + 3)) p)) ∧ M = M1) := by
  refine ct_of (L0 := [(0, vR E (5 * j)), (1, vI p)]) (by decide +kernel) rfl (Nat.le_of_ble_eq_true rfl) ?_
  intro zp ze zs zm za zb zt zc zA hC
  have K76 : ∀ x : Int, x = f_b1 (M (5 * j + 3)) p + f_b2 (M (5 * j + 3)) p + f_b3 (M (5 * j + 3)) p + f_b4 (M (5 * j + 3)) p → jJ zp l ze (ct_rm 1) zs zm za zb zt zc E zA 4 0 0 (MQ zb (ct_Q E zA (fun v M1 => v = some (vI (f_cb (M (5 * j + 3)) p)) ∧ M = M1)) za zs 0 0 zA) 76 [(0, vR E (5 * j)), (1, vI p), (2, vI (p % 12)), (3, vI x)] [] M := by
    intro x hx
    refine jw_iload_n hC dX2_crackedBeside_76 3 rfl rfl ?_
    refine jw_iret hC dX2_crackedBeside_77 ?_
    refine ⟨?_, rfl⟩
    rw [hx]
    rfl
  have K57 : ∀ x : Int, x = f_b1 (M (5 * j + 3)) p + f_b2 (M (5 * j + 3)) p + f_b3 (M (5 * j + 3)) p → jJ zp l ze (ct_rm 1) zs zm za zb zt zc E zA 4 0 0 (MQ zb (ct_Q E zA (fun v M1 => v = some (vI (f_cb (M (5 * j + 3)) p)) ∧ M = M1)) za zs 0 0 zA) 57 [(0, vR E (5 * j)), (1, vI p), (2, vI (p % 12)), (3, vI x)] [] M := by
    intro x hx
    refine jw_iload_n hC dX2_crackedBeside_57 1 rfl rfl ?_
    refine jw_sipush hC dX2_crackedBeside_58 (by decide) ?_
    refine jw_icmp_ge (tgt := 76) hC dX2_crackedBeside_61 (by decide) (by omega) (by omega) (by omega) (by omega) (fun h61 => ?_) (fun h61 => ?_)
    · skip
      refine K76 _ ?_
      unfold f_b4
      first | (rw [if_pos (by omega)] <;> omega) | (rw [if_neg (by omega)] <;> omega)
    · skip
      refine jw_iload_n hC dX2_crackedBeside_64 3 rfl rfl ?_
      refine jw_aload_n hC dX2_crackedBeside_65 0 rfl rfl ?_
      refine jw_getr hC fL_X2_18 (ewR_s2 (j := j) (by omega)) dX2_crackedBeside_66 ?_
      refine jw_iload_n hC dX2_crackedBeside_69 1 rfl rfl ?_
      refine jw_bipush hC dX2_crackedBeside_70 (by decide) ?_
      refine jw_iadd hC dX2_crackedBeside_72 ?_
      refine jw_iald hC (ewA_sheet (j := j) (r := 3) (by omega) (by decide) (by decide)) dX2_crackedBeside_73 (by omega) (by omega) (by decide) (fun b73 c73 => ?_)
      refine jw_iadd hC dX2_crackedBeside_74 ?_
      refine jw_istore_n (L' := [(3, _), (0, _), (1, _), (2, _)]) hC dX2_crackedBeside_75 rfl (by decide) rfl ?_
      refine jw_loc (L' := [(0, _), (1, _), (2, _), (3, _)]) [1, 2, 3, 0] rfl ?_
      refine K76 _ ?_
      unfold f_b4
      first | (rw [if_pos (by omega)] <;> omega) | (rw [if_neg (by omega)] <;> omega)
  have K39 : ∀ x : Int, x = f_b1 (M (5 * j + 3)) p + f_b2 (M (5 * j + 3)) p → jJ zp l ze (ct_rm 1) zs zm za zb zt zc E zA 4 0 0 (MQ zb (ct_Q E zA (fun v M1 => v = some (vI (f_cb (M (5 * j + 3)) p)) ∧ M = M1)) za zs 0 0 zA) 39 [(0, vR E (5 * j)), (1, vI p), (2, vI (p % 12)), (3, vI x)] [] M := by
    intro x hx
    refine jw_iload_n hC dX2_crackedBeside_39 1 rfl rfl ?_
    refine jw_bipush hC dX2_crackedBeside_40 (by decide) ?_
    refine jw_icmp_lt (tgt := 57) hC dX2_crackedBeside_42 (by decide) (by omega) (by omega) (by omega) (by omega) (fun h42 => ?_) (fun h42 => ?_)
    · skip
      refine K57 _ ?_
      unfold f_b3
      first | (rw [if_pos (by omega)] <;> omega) | (rw [if_neg (by omega)] <;> omega)
    · skip
      refine jw_iload_n hC dX2_crackedBeside_45 3 rfl rfl ?_
      refine jw_aload_n hC dX2_crackedBeside_46 0 rfl rfl ?_
      refine jw_getr hC fL_X2_18 (ewR_s2 (j := j) (by omega)) dX2_crackedBeside_47 ?_
      refine jw_iload_n hC dX2_crackedBeside_50 1 rfl rfl ?_
      refine jw_bipush hC dX2_crackedBeside_51 (by decide) ?_
      refine jw_isub hC dX2_crackedBeside_53 ?_
      refine jw_iald hC (ewA_sheet (j := j) (r := 3) (by omega) (by decide) (by decide)) dX2_crackedBeside_54 (by omega) (by omega) (by decide) (fun b54 c54 => ?_)
      refine jw_iadd hC dX2_crackedBeside_55 ?_
      refine jw_istore_n (L' := [(3, _), (0, _), (1, _), (2, _)]) hC dX2_crackedBeside_56 rfl (by decide) rfl ?_
      refine jw_loc (L' := [(0, _), (1, _), (2, _), (3, _)]) [1, 2, 3, 0] rfl ?_
      refine K57 _ ?_
      unfold f_b3
      first | (rw [if_pos (by omega)] <;> omega) | (rw [if_neg (by omega)] <;> omega)
  have K22 : ∀ x : Int, x = f_b1 (M (5 * j + 3)) p → jJ zp l ze (ct_rm 1) zs zm za zb zt zc E zA 4 0 0 (MQ zb (ct_Q E zA (fun v M1 => v = some (vI (f_cb (M (5 * j + 3)) p)) ∧ M = M1)) za zs 0 0 zA) 22 [(0, vR E (5 * j)), (1, vI p), (2, vI (p % 12)), (3, vI x)] [] M := by
    intro x hx
    refine jw_iload_n hC dX2_crackedBeside_22 2 rfl rfl ?_
    refine jw_bipush hC dX2_crackedBeside_23 (by decide) ?_
    refine jw_icmp_ge (tgt := 39) hC dX2_crackedBeside_25 (by decide) (by omega) (by omega) (by omega) (by omega) (fun h25 => ?_) (fun h25 => ?_)
    · skip
      refine K39 _ ?_
      unfold f_b2
      first | (rw [if_pos (by omega)] <;> omega) | (rw [if_neg (by omega)] <;> omega)
    · skip
      refine jw_iload_n hC dX2_crackedBeside_28 3 rfl rfl ?_
      refine jw_aload_n hC dX2_crackedBeside_29 0 rfl rfl ?_
      refine jw_getr hC fL_X2_18 (ewR_s2 (j := j) (by omega)) dX2_crackedBeside_30 ?_
      refine jw_iload_n hC dX2_crackedBeside_33 1 rfl rfl ?_
      refine jw_iconst hC dX2_crackedBeside_34 ?_
      refine jw_iadd hC dX2_crackedBeside_35 ?_
      refine jw_iald hC (ewA_sheet (j := j) (r := 3) (by omega) (by decide) (by decide)) dX2_crackedBeside_36 (by omega) (by omega) (by decide) (fun b36 c36 => ?_)
      refine jw_iadd hC dX2_crackedBeside_37 ?_
      refine jw_istore_n (L' := [(3, _), (0, _), (1, _), (2, _)]) hC dX2_crackedBeside_38 rfl (by decide) rfl ?_
      refine jw_loc (L' := [(0, _), (1, _), (2, _), (3, _)]) [1, 2, 3, 0] rfl ?_
      refine K39 _ ?_
      unfold f_b2
      first | (rw [if_pos (by omega)] <;> omega) | (rw [if_neg (by omega)] <;> omega)
  refine jw_iload_n hC dX2_crackedBeside_0 1 rfl rfl ?_
  refine jw_bipush hC dX2_crackedBeside_1 (by decide) ?_
  refine jw_irem hC dX2_crackedBeside_3 (by omega) (by omega) (by omega) (by omega) ?_
  refine jw_istore_n (L' := [(2, _), (0, _), (1, _)]) hC dX2_crackedBeside_4 rfl (by decide) rfl ?_
  refine jw_iconst hC dX2_crackedBeside_5 ?_
  refine jw_istore_n (L' := [(3, _), (2, _), (0, _), (1, _)]) hC dX2_crackedBeside_6 rfl (by decide) rfl ?_
  refine jw_iload_n hC dX2_crackedBeside_7 1 rfl rfl ?_
  refine jw_if_le (tgt := 22) hC dX2_crackedBeside_8 (by decide) (by omega) (by omega) (fun h8 => ?_) (fun h8 => ?_)
  · skip
    refine jw_loc (L' := [(0, _), (1, _), (2, _), (3, _)]) [2, 3, 1, 0] rfl ?_
    refine K22 _ ?_
    unfold f_b1
    first | (rw [if_pos (by omega)] <;> omega) | (rw [if_neg (by omega)] <;> omega)
  · skip
    refine jw_iload_n hC dX2_crackedBeside_11 0 rfl rfl ?_
    refine jw_aload_n hC dX2_crackedBeside_12 2 rfl rfl ?_
    refine jw_getr hC fL_X2_18 (ewR_s2 (j := j) (by omega)) dX2_crackedBeside_13 ?_
    refine jw_iload_n hC dX2_crackedBeside_16 3 rfl rfl ?_
    refine jw_iconst hC dX2_crackedBeside_17 ?_
    refine jw_isub hC dX2_crackedBeside_18 ?_
    refine jw_iald hC (ewA_sheet (j := j) (r := 3) (by omega) (by decide) (by decide)) dX2_crackedBeside_19 (by omega) (by omega) (by decide) (fun b19 c19 => ?_)
    refine jw_iadd hC dX2_crackedBeside_20 ?_
    refine jw_istore_n (L' := [(3, _), (2, _), (0, _), (1, _)]) hC dX2_crackedBeside_21 rfl (by decide) rfl ?_
    refine jw_loc (L' := [(0, _), (1, _), (2, _), (3, _)]) [2, 3, 1, 0] rfl ?_
    refine K22 _ ?_
    unfold f_b1
    first | (rw [if_pos (by omega)] <;> omega) | (rw [if_neg (by omega)] <;> omega)
set_option maxRecDepth 100000 in
set_option maxHeartbeats 4000000 in
theorem c_X2_bearingOf (l : Launch) (E : ewE) (M : ewM) (j : Nat) (hj : j < 10) (p b t : Int) (hp : 0 ≤ p ∧ p < 144) (hb : 0 ≤ b ∧ b ≤ 99) (ht : 0 ≤ t ∧ t ≤ 20) (hc : pC (M (5 * j + 3))) : Ct l E yX2_bearingOf (.code yX2_bearingOf cX2_bearingOf 4 (some .int)) 2 [vR E (5 * j), vI p, vI b, vI t] M (fun v M1 => v = some (vI (f_bear (M (5 * j + 3)) p b t)) ∧ M = M1) := by
  refine ct_of (L0 := [(0, vR E (5 * j)), (1, vI p), (2, vI b), (3, vI t)]) (by decide +kernel) rfl (Nat.le_of_ble_eq_true rfl) ?_
  intro zp ze zs zm za zb zt zc zA hC
  have h1 := f_cb_b hc p
  have h2 := f_tk_b ht.1 ht.2 h1.1 h1.2
  refine jw_iconst hC dX2_bearingOf_0 ?_
  refine jw_iload_n hC dX2_bearingOf_1 2 rfl rfl ?_
  refine jw_iload_n hC dX2_bearingOf_2 3 rfl rfl ?_
  refine jw_aload_n hC dX2_bearingOf_3 0 rfl rfl ?_
  refine jw_iload_n hC dX2_bearingOf_4 1 rfl rfl ?_
  refine jw_callV hC (c_X2_crackedBeside l E M j hj _ ⟨by omega, by omega⟩) sV_X2_57 (ewO_sheet (j := j) (by omega)) dX2_bearingOf_5 rfl rfl ⟨Nat.le_of_ble_eq_true rfl, Nat.le_of_ble_eq_true rfl⟩ ⟨Nat.zero_le _, Nat.zero_le _⟩ (Nat.le_of_ble_eq_true rfl) (fun v5 M5 g5 => ?_)
  obtain ⟨rfl, rfl⟩ := g5
  refine jw_imul hC dX2_bearingOf_8 ?_
  refine jw_isub hC dX2_bearingOf_9 ?_
  refine jw_max hC dX2_bearingOf_10 (by omega) (by omega) (by omega) (by omega) w2_71 w2_72 w1_10 w2_73 ⟨Nat.le_of_ble_eq_true rfl, Nat.le_of_ble_eq_true rfl⟩ ⟨Nat.zero_le _, Nat.zero_le _⟩ ?_
  refine jw_iret hC dX2_bearingOf_13 ?_
  exact ⟨rfl, rfl⟩
set_option maxRecDepth 100000 in
set_option maxHeartbeats 4000000 in
theorem c_X2_cracked (l : Launch) (E : ewE) (M : ewM) (j : Nat) (hj : j < 10) : Ct l E yX2_cracked (.code yX2_cracked cX2_cracked 3 (some .int)) 1 [vR E (5 * j)] M (fun v M1 => v = some (vI (f_sum (M (5 * j + 3)) 144)) ∧ M = M1) := by
  refine ct_of (L0 := [(0, vR E (5 * j))]) (by decide +kernel) rfl (Nat.le_of_ble_eq_true rfl) ?_
  intro zp ze zs zm za zb zt zc zA hC
  have K4 : ∀ (n : Nat) (k x : Int), 144 - k < n → 0 ≤ k → k ≤ 144 → x = f_sum (M (5 * j + 3)) k.toNat → jJ zp l ze (ct_rm 1) zs zm za zb zt zc E zA 3 0 0 (MQ zb (ct_Q E zA (fun v M1 => v = some (vI (f_sum (M (5 * j + 3)) 144)) ∧ M = M1)) za zs 0 0 zA) 4 [(0, vR E (5 * j)), (1, vI x), (2, vI k)] [] M := by
    intro n
    induction n with
    | zero => intros; omega
    | succ n ih =>
      intro k x i1 i2 i3 hx
      refine jw_iload_n hC dX2_cracked_4 2 rfl rfl ?_
      refine jw_sipush hC dX2_cracked_5 (by decide) ?_
      refine jw_icmp_ge (tgt := 26) hC dX2_cracked_8 (by decide) (by omega) (by omega) (by omega) (by omega) (fun h8 => ?_) (fun h8 => ?_)
      · skip
        refine jw_iload_n hC dX2_cracked_26 1 rfl rfl ?_
        refine jw_iret hC dX2_cracked_27 ?_
        refine ⟨?_, rfl⟩
        rw [hx, show k = 144 by omega]
        rfl
      · skip
        refine jw_iload_n hC dX2_cracked_11 1 rfl rfl ?_
        refine jw_aload_n hC dX2_cracked_12 0 rfl rfl ?_
        refine jw_getr hC fL_X2_18 (ewR_s2 (j := j) (by omega)) dX2_cracked_13 ?_
        refine jw_iload_n hC dX2_cracked_16 2 rfl rfl ?_
        refine jw_iald hC (ewA_sheet (j := j) (r := 3) (by omega) (by decide) (by decide)) dX2_cracked_17 (by omega) (by omega) (by decide) (fun b17 c17 => ?_)
        refine jw_iadd hC dX2_cracked_18 ?_
        refine jw_istore_n (L' := [(1, _), (0, _), (2, _)]) hC dX2_cracked_19 rfl (by decide) rfl ?_
        refine jw_iinc (L' := [(2, _), (1, _), (0, _)]) hC dX2_cracked_20 2 rfl (by decide) rfl ?_
        refine jw_goto (tgt := 4) hC dX2_cracked_23 (by decide) ?_
        refine jw_loc (L' := [(0, _), (1, _), (2, _)]) [2, 1, 0] rfl ?_
        refine ih _ _ (by omega) (by omega) (by omega) ?_
        rw [f_sum_s _ i2, hx]
        try omega
  refine jw_iconst hC dX2_cracked_0 ?_
  refine jw_istore_n (L' := [(1, _), (0, _)]) hC dX2_cracked_1 rfl (by decide) rfl ?_
  refine jw_iconst hC dX2_cracked_2 ?_
  refine jw_istore_n (L' := [(2, _), (1, _), (0, _)]) hC dX2_cracked_3 rfl (by decide) rfl ?_
  refine jw_loc (L' := [(0, _), (1, _), (2, _)]) [2, 1, 0] rfl ?_
  refine K4 145 0 0 (by omega) (by omega) (by omega) rfl
set_option maxRecDepth 100000 in
set_option maxHeartbeats 4000000 in
theorem c_X2_foiled (l : Launch) (E : ewE) (M : ewM) (j : Nat) (hj : j < 10) : Ct l E yX2_foiled (.code yX2_foiled cX2_foiled 3 (some .int)) 1 [vR E (5 * j)] M (fun v M1 => v = some (vI (f_sum (fun q => if M (5 * j + 2) q = 0 then 0 else 1) 144)) ∧ M = M1) := by
  refine ct_of (L0 := [(0, vR E (5 * j))]) (by decide +kernel) rfl (Nat.le_of_ble_eq_true rfl) ?_
  intro zp ze zs zm za zb zt zc zA hC
  have K4 : ∀ (n : Nat) (k x : Int), 144 - k < n → 0 ≤ k → k ≤ 144 → x = f_sum (fun q => if M (5 * j + 2) q = 0 then 0 else 1) k.toNat → jJ zp l ze (ct_rm 1) zs zm za zb zt zc E zA 3 0 0 (MQ zb (ct_Q E zA (fun v M1 => v = some (vI (f_sum (fun q => if M (5 * j + 2) q = 0 then 0 else 1) 144)) ∧ M = M1)) za zs 0 0 zA) 4 [(0, vR E (5 * j)), (1, vI x), (2, vI k)] [] M := by
    intro n
    induction n with
    | zero => intros; omega
    | succ n ih =>
      intro k x i1 i2 i3 hx
      refine jw_iload_n hC dX2_foiled_4 2 rfl rfl ?_
      refine jw_sipush hC dX2_foiled_5 (by decide) ?_
      refine jw_icmp_ge (tgt := 29) hC dX2_foiled_8 (by decide) (by omega) (by omega) (by omega) (by omega) (fun h8 => ?_) (fun h8 => ?_)
      · skip
        refine jw_iload_n hC dX2_foiled_29 1 rfl rfl ?_
        refine jw_iret hC dX2_foiled_30 ?_
        refine ⟨?_, rfl⟩
        rw [hx, show k = 144 by omega]
        rfl
      · skip
        refine jw_aload_n hC dX2_foiled_11 0 rfl rfl ?_
        refine jw_getr hC fL_X2_15 (ewR_s1 (j := j) (by omega)) dX2_foiled_12 ?_
        refine jw_iload_n hC dX2_foiled_15 2 rfl rfl ?_
        refine jw_iald hC (ewA_sheet (j := j) (r := 2) (by omega) (by decide) (by decide)) dX2_foiled_16 (by omega) (by omega) (by decide) (fun b16 c16 => ?_)
        refine jw_if_eq (tgt := 23) hC dX2_foiled_17 (by decide) (by omega) (by omega) (fun h17 => ?_) (fun h17 => ?_)
        · skip
          refine jw_iinc (L' := [(2, _), (0, _), (1, _)]) hC dX2_foiled_23 2 rfl (by decide) rfl ?_
          refine jw_goto (tgt := 4) hC dX2_foiled_26 (by decide) ?_
          refine jw_loc (L' := [(0, _), (1, _), (2, _)]) [1, 2, 0] rfl ?_
          refine ih _ _ (by omega) (by omega) (by omega) ?_
          rw [f_sum_s _ i2, hx]
          first | (rw [if_pos h17]; omega) | (rw [if_neg h17])
        · skip
          refine jw_iinc (L' := [(1, _), (0, _), (2, _)]) hC dX2_foiled_20 1 rfl (by decide) rfl ?_
          refine jw_iinc (L' := [(2, _), (1, _), (0, _)]) hC dX2_foiled_23 2 rfl (by decide) rfl ?_
          refine jw_goto (tgt := 4) hC dX2_foiled_26 (by decide) ?_
          refine jw_loc (L' := [(0, _), (1, _), (2, _)]) [2, 1, 0] rfl ?_
          refine ih _ _ (by omega) (by omega) (by omega) ?_
          rw [f_sum_s _ i2, hx]
          first | (rw [if_pos h17]; omega) | (rw [if_neg h17])
  refine jw_iconst hC dX2_foiled_0 ?_
  refine jw_istore_n (L' := [(1, _), (0, _)]) hC dX2_foiled_1 rfl (by decide) rfl ?_
  refine jw_iconst hC dX2_foiled_2 ?_
  refine jw_istore_n (L' := [(2, _), (1, _), (0, _)]) hC dX2_foiled_3 rfl (by decide) rfl ?_
  refine jw_loc (L' := [(0, _), (1, _), (2, _)]) [2, 1, 0] rfl ?_
  refine K4 145 0 0 (by omega) (by omega) (by omega) rfl
set_option maxRecDepth 100000 in
set_option maxHeartbeats 4000000 in
theorem c_X2_greatestDepth (l : Launch) (E : ewE) (M : ewM) (j : Nat) (hj : j < 10) (hD : pD (M (5 * j + 1))) : Ct l E yX2_greatestDepth (.code yX2_greatestDepth cX2_greatestDepth 3 (some .int)) 1 [vR E (5 * j)] M (fun v M1 => v = some (vI (f_max (M (5 * j + 1)) 144)) ∧ M = M1) := by
  refine ct_of (L0 := [(0, vR E (5 * j))]) (by decide +kernel) rfl (Nat.le_of_ble_eq_true rfl) ?_
  intro zp ze zs zm za zb zt zc zA hC
  have K4 : ∀ (n : Nat) (k x : Int), 144 - k < n → 0 ≤ k → k ≤ 144 → x = f_max (M (5 * j + 1)) k.toNat ∧ 0 ≤ x ∧ x ≤ 9 → jJ zp l ze (ct_rm 1) zs zm za zb zt zc E zA 3 0 0 (MQ zb (ct_Q E zA (fun v M1 => v = some (vI (f_max (M (5 * j + 1)) 144)) ∧ M = M1)) za zs 0 0 zA) 4 [(0, vR E (5 * j)), (1, vI x), (2, vI k)] [] M := by
    intro n
    induction n with
    | zero => intros; omega
    | succ n ih =>
      intro k x i1 i2 i3 hx
      refine jw_iload_n hC dX2_greatestDepth_4 2 rfl rfl ?_
      refine jw_sipush hC dX2_greatestDepth_5 (by decide) ?_
      refine jw_icmp_ge (tgt := 28) hC dX2_greatestDepth_8 (by decide) (by omega) (by omega) (by omega) (by omega) (fun h8 => ?_) (fun h8 => ?_)
      · skip
        refine jw_iload_n hC dX2_greatestDepth_28 1 rfl rfl ?_
        refine jw_iret hC dX2_greatestDepth_29 ?_
        refine ⟨?_, rfl⟩
        rw [hx.1, show k = 144 by omega]
        rfl
      · skip
        refine jw_iload_n hC dX2_greatestDepth_11 1 rfl rfl ?_
        refine jw_aload_n hC dX2_greatestDepth_12 0 rfl rfl ?_
        refine jw_getr hC fL_X2_9 (ewR_s0 (j := j) (by omega)) dX2_greatestDepth_13 ?_
        refine jw_iload_n hC dX2_greatestDepth_16 2 rfl rfl ?_
        refine jw_iald hC (ewA_sheet (j := j) (r := 1) (by omega) (by decide) (by decide)) dX2_greatestDepth_17 (by omega) (by omega) (by decide) (fun b17 c17 => ?_)
        refine jw_max hC dX2_greatestDepth_18 (by omega) (by omega) (by omega) (by omega) w2_71 w2_72 w1_10 w2_73 ⟨Nat.le_of_ble_eq_true rfl, Nat.le_of_ble_eq_true rfl⟩ ⟨Nat.zero_le _, Nat.zero_le _⟩ ?_
        refine jw_istore_n (L' := [(1, _), (0, _), (2, _)]) hC dX2_greatestDepth_21 rfl (by decide) rfl ?_
        refine jw_iinc (L' := [(2, _), (1, _), (0, _)]) hC dX2_greatestDepth_22 2 rfl (by decide) rfl ?_
        refine jw_goto (tgt := 4) hC dX2_greatestDepth_25 (by decide) ?_
        refine jw_loc (L' := [(0, _), (1, _), (2, _)]) [2, 1, 0] rfl ?_
        refine ih _ _ (by omega) (by omega) (by omega) ⟨?_, ?_, ?_⟩
        · rw [f_max_s _ i2, hx.1]
        · have := hD k; omega
        · have := hD k; omega
  refine jw_iconst hC dX2_greatestDepth_0 ?_
  refine jw_istore_n (L' := [(1, _), (0, _)]) hC dX2_greatestDepth_1 rfl (by decide) rfl ?_
  refine jw_iconst hC dX2_greatestDepth_2 ?_
  refine jw_istore_n (L' := [(2, _), (1, _), (0, _)]) hC dX2_greatestDepth_3 rfl (by decide) rfl ?_
  refine jw_loc (L' := [(0, _), (1, _), (2, _)]) [2, 1, 0] rfl ?_
  refine K4 145 0 0 (by omega) (by omega) (by omega) ⟨rfl, by omega, by omega⟩
set_option maxRecDepth 100000 in
set_option maxHeartbeats 4000000 in
theorem c_X2_strainByPlaces (l : Launch) (E : ewE) (M : ewM) (j : Nat) (hj : j < 10) (hD : pD (M (5 * j + 1))) : Ct l E yX2_strainByPlaces (.code yX2_strainByPlaces cX2_strainByPlaces 3 (some .int)) 3 [vR E (5 * j)] M (fun v M1 => v = some (vI (f_sum (f_str (M (5 * j + 1))) 144)) ∧ M = M1) := by
  refine ct_of (L0 := [(0, vR E (5 * j))]) (by decide +kernel) rfl (Nat.le_of_ble_eq_true rfl) ?_
  intro zp ze zs zm za zb zt zc zA hC
  have K4 : ∀ (n : Nat) (k x : Int), 144 - k < n → 0 ≤ k → k ≤ 144 → x = f_sum (f_str (M (5 * j + 1))) k.toNat → jJ zp l ze (ct_rm 3) zs zm za zb zt zc E zA 3 0 0 (MQ zb (ct_Q E zA (fun v M1 => v = some (vI (f_sum (f_str (M (5 * j + 1))) 144)) ∧ M = M1)) za zs 0 0 zA) 4 [(0, vR E (5 * j)), (1, vI x), (2, vI k)] [] M := by
    intro n
    induction n with
    | zero => intros; omega
    | succ n ih =>
      intro k x i1 i2 i3 hx
      refine jw_iload_n hC dX2_strainByPlaces_4 2 rfl rfl ?_
      refine jw_sipush hC dX2_strainByPlaces_5 (by decide) ?_
      refine jw_icmp_ge (tgt := 25) hC dX2_strainByPlaces_8 (by decide) (by omega) (by omega) (by omega) (by omega) (fun h8 => ?_) (fun h8 => ?_)
      · skip
        refine jw_iload_n hC dX2_strainByPlaces_25 1 rfl rfl ?_
        refine jw_iret hC dX2_strainByPlaces_26 ?_
        refine ⟨?_, rfl⟩
        rw [hx, show k = 144 by omega]
        rfl
      · skip
        refine jw_iload_n hC dX2_strainByPlaces_11 1 rfl rfl ?_
        refine jw_aload_n hC dX2_strainByPlaces_12 0 rfl rfl ?_
        refine jw_iload_n hC dX2_strainByPlaces_13 2 rfl rfl ?_
        refine jw_callV hC (c_X2_strainOf l E M j hj _ ⟨by omega, by omega⟩ hD) sV_X2_61 (ewO_sheet (j := j) (by omega)) dX2_strainByPlaces_14 rfl rfl ⟨Nat.le_of_ble_eq_true rfl, Nat.le_of_ble_eq_true rfl⟩ ⟨Nat.zero_le _, Nat.zero_le _⟩ (Nat.le_of_ble_eq_true rfl) (fun v14 M14 g14 => ?_)
        obtain ⟨rfl, rfl⟩ := g14
        refine jw_iadd hC dX2_strainByPlaces_17 ?_
        refine jw_istore_n (L' := [(1, _), (0, _), (2, _)]) hC dX2_strainByPlaces_18 rfl (by decide) rfl ?_
        refine jw_iinc (L' := [(2, _), (1, _), (0, _)]) hC dX2_strainByPlaces_19 2 rfl (by decide) rfl ?_
        refine jw_goto (tgt := 4) hC dX2_strainByPlaces_22 (by decide) ?_
        refine jw_loc (L' := [(0, _), (1, _), (2, _)]) [2, 1, 0] rfl ?_
        refine ih _ _ (by omega) (by omega) (by omega) ?_
        rw [f_sum_s _ i2, hx]
        try omega
  refine jw_iconst hC dX2_strainByPlaces_0 ?_
  refine jw_istore_n (L' := [(1, _), (0, _)]) hC dX2_strainByPlaces_1 rfl (by decide) rfl ?_
  refine jw_iconst hC dX2_strainByPlaces_2 ?_
  refine jw_istore_n (L' := [(2, _), (1, _), (0, _)]) hC dX2_strainByPlaces_3 rfl (by decide) rfl ?_
  refine jw_loc (L' := [(0, _), (1, _), (2, _)]) [2, 1, 0] rfl ?_
  refine K4 145 0 0 (by omega) (by omega) (by omega) rfl
set_option maxRecDepth 100000 in
set_option maxHeartbeats 4000000 in
theorem c_X2_strainByPairs (l : Launch) (E : ewE) (M : ewM) (j : Nat) (hj : j < 10) (hD : pD (M (5 * j + 1))) : Ct l E yX2_strainByPairs (.code yX2_strainByPairs cX2_strainByPairs 3 (some .int)) 2 [vR E (5 * j)] M (fun v M1 => v = some (vI (2 * f_sum (fun q => f_s2 (M (5 * j + 1)) q + f_s4 (M (5 * j + 1)) q) 144)) ∧ M = M1) := by
  refine ct_of (L0 := [(0, vR E (5 * j))]) (by decide +kernel) rfl (Nat.le_of_ble_eq_true rfl) ?_
  intro zp ze zs zm za zb zt zc zA hC
  have K4 : ∀ (n : Nat) (k x : Int), 144 - k < n → 0 ≤ k → k ≤ 144 → x = f_sum (fun q => f_s2 (M (5 * j + 1)) q + f_s4 (M (5 * j + 1)) q) k.toNat → jJ zp l ze (ct_rm 2) zs zm za zb zt zc E zA 3 0 0 (MQ zb (ct_Q E zA (fun v M1 => v = some (vI (2 * f_sum (fun q => f_s2 (M (5 * j + 1)) q + f_s4 (M (5 * j + 1)) q) 144)) ∧ M = M1)) za zs 0 0 zA) 4 [(0, vR E (5 * j)), (1, vI x), (2, vI k)] [] M := by
    intro n
    induction n with
    | zero => intros; omega
    | succ n ih =>
      intro k x i1 i2 i3 hx
      refine jw_iload_n hC dX2_strainByPairs_4 2 rfl rfl ?_
      refine jw_sipush hC dX2_strainByPairs_5 (by decide) ?_
      refine jw_icmp_ge (tgt := 56) hC dX2_strainByPairs_8 (by decide) (by omega) (by omega) (by omega) (by omega) (fun h8 => ?_) (fun h8 => ?_)
      · skip
        refine jw_iconst hC dX2_strainByPairs_56 ?_
        refine jw_iload_n hC dX2_strainByPairs_57 1 rfl rfl ?_
        refine jw_imul hC dX2_strainByPairs_58 ?_
        refine jw_iret hC dX2_strainByPairs_59 ?_
        refine ⟨?_, rfl⟩
        rw [hx, show k = 144 by omega]
        rfl
      · skip
        refine jw_iload_n hC dX2_strainByPairs_11 2 rfl rfl ?_
        refine jw_bipush hC dX2_strainByPairs_12 (by decide) ?_
        refine jw_irem hC dX2_strainByPairs_14 (by omega) (by omega) (by omega) (by omega) ?_
        refine jw_bipush hC dX2_strainByPairs_15 (by decide) ?_
        refine jw_icmp_ge (tgt := 31) hC dX2_strainByPairs_17 (by decide) (by omega) (by omega) (by omega) (by omega) (fun h17 => ?_) (fun h17 => ?_)
        · skip
          refine jw_iload_n hC dX2_strainByPairs_31 2 rfl rfl ?_
          refine jw_sipush hC dX2_strainByPairs_32 (by decide) ?_
          refine jw_icmp_ge (tgt := 50) hC dX2_strainByPairs_35 (by decide) (by omega) (by omega) (by omega) (by omega) (fun h35 => ?_) (fun h35 => ?_)
          · skip
            refine jw_iinc (L' := [(2, _), (0, _), (1, _)]) hC dX2_strainByPairs_50 2 rfl (by decide) rfl ?_
            refine jw_goto (tgt := 4) hC dX2_strainByPairs_53 (by decide) ?_
            refine jw_loc (L' := [(0, _), (1, _), (2, _)]) [1, 2, 0] rfl ?_
            refine ih _ _ (by omega) (by omega) (by omega) ?_
            rw [f_sum_s _ i2, hx]
            unfold f_s2 f_s4
            first | (rw [if_pos (by omega), if_pos (by omega)]; omega) | (rw [if_pos (by omega), if_neg (by omega)]; omega) | (rw [if_neg (by omega), if_pos (by omega)]; omega) | (rw [if_neg (by omega), if_neg (by omega)]; omega)
          · skip
            refine jw_iload_n hC dX2_strainByPairs_38 1 rfl rfl ?_
            refine jw_aload_n hC dX2_strainByPairs_39 0 rfl rfl ?_
            refine jw_iload_n hC dX2_strainByPairs_40 2 rfl rfl ?_
            refine jw_iload_n hC dX2_strainByPairs_41 2 rfl rfl ?_
            refine jw_bipush hC dX2_strainByPairs_42 (by decide) ?_
            refine jw_iadd hC dX2_strainByPairs_44 ?_
            refine jw_callV hC (c_X2_difference l E M j hj _ _ ⟨by omega, by omega⟩ ⟨by omega, by omega⟩ hD) sV_X2_54 (ewO_sheet (j := j) (by omega)) dX2_strainByPairs_45 rfl rfl ⟨Nat.le_of_ble_eq_true rfl, Nat.le_of_ble_eq_true rfl⟩ ⟨Nat.zero_le _, Nat.zero_le _⟩ (Nat.le_of_ble_eq_true rfl) (fun v45 M45 g45 => ?_)
            obtain ⟨rfl, rfl⟩ := g45
            refine jw_iadd hC dX2_strainByPairs_48 ?_
            refine jw_istore_n (L' := [(1, _), (0, _), (2, _)]) hC dX2_strainByPairs_49 rfl (by decide) rfl ?_
            refine jw_iinc (L' := [(2, _), (1, _), (0, _)]) hC dX2_strainByPairs_50 2 rfl (by decide) rfl ?_
            refine jw_goto (tgt := 4) hC dX2_strainByPairs_53 (by decide) ?_
            refine jw_loc (L' := [(0, _), (1, _), (2, _)]) [2, 1, 0] rfl ?_
            refine ih _ _ (by omega) (by omega) (by omega) ?_
            rw [f_sum_s _ i2, hx]
            unfold f_s2 f_s4
            first | (rw [if_pos (by omega), if_pos (by omega)]; omega) | (rw [if_pos (by omega), if_neg (by omega)]; omega) | (rw [if_neg (by omega), if_pos (by omega)]; omega) | (rw [if_neg (by omega), if_neg (by omega)]; omega)
        · skip
          refine jw_iload_n hC dX2_strainByPairs_20 1 rfl rfl ?_
          refine jw_aload_n hC dX2_strainByPairs_21 0 rfl rfl ?_
          refine jw_iload_n hC dX2_strainByPairs_22 2 rfl rfl ?_
          refine jw_iload_n hC dX2_strainByPairs_23 2 rfl rfl ?_
          refine jw_iconst hC dX2_strainByPairs_24 ?_
          refine jw_iadd hC dX2_strainByPairs_25 ?_
          refine jw_callV hC (c_X2_difference l E M j hj _ _ ⟨by omega, by omega⟩ ⟨by omega, by omega⟩ hD) sV_X2_54 (ewO_sheet (j := j) (by omega)) dX2_strainByPairs_26 rfl rfl ⟨Nat.le_of_ble_eq_true rfl, Nat.le_of_ble_eq_true rfl⟩ ⟨Nat.zero_le _, Nat.zero_le _⟩ (Nat.le_of_ble_eq_true rfl) (fun v26 M26 g26 => ?_)
          obtain ⟨rfl, rfl⟩ := g26
          refine jw_iadd hC dX2_strainByPairs_29 ?_
          refine jw_istore_n (L' := [(1, _), (0, _), (2, _)]) hC dX2_strainByPairs_30 rfl (by decide) rfl ?_
          refine jw_iload_n hC dX2_strainByPairs_31 2 rfl rfl ?_
          refine jw_sipush hC dX2_strainByPairs_32 (by decide) ?_
          refine jw_icmp_ge (tgt := 50) hC dX2_strainByPairs_35 (by decide) (by omega) (by omega) (by omega) (by omega) (fun h35 => ?_) (fun h35 => ?_)
          · skip
            refine jw_iinc (L' := [(2, _), (1, _), (0, _)]) hC dX2_strainByPairs_50 2 rfl (by decide) rfl ?_
            refine jw_goto (tgt := 4) hC dX2_strainByPairs_53 (by decide) ?_
            refine jw_loc (L' := [(0, _), (1, _), (2, _)]) [2, 1, 0] rfl ?_
            refine ih _ _ (by omega) (by omega) (by omega) ?_
            rw [f_sum_s _ i2, hx]
            unfold f_s2 f_s4
            first | (rw [if_pos (by omega), if_pos (by omega)]; omega) | (rw [if_pos (by omega), if_neg (by omega)]; omega) | (rw [if_neg (by omega), if_pos (by omega)]; omega) | (rw [if_neg (by omega), if_neg (by omega)]; omega)
          · skip
            refine jw_iload_n hC dX2_strainByPairs_38 0 rfl rfl ?_
            refine jw_aload_n hC dX2_strainByPairs_39 1 rfl rfl ?_
            refine jw_iload_n hC dX2_strainByPairs_40 2 rfl rfl ?_
            refine jw_iload_n hC dX2_strainByPairs_41 2 rfl rfl ?_
            refine jw_bipush hC dX2_strainByPairs_42 (by decide) ?_
            refine jw_iadd hC dX2_strainByPairs_44 ?_
            refine jw_callV hC (c_X2_difference l E M j hj _ _ ⟨by omega, by omega⟩ ⟨by omega, by omega⟩ hD) sV_X2_54 (ewO_sheet (j := j) (by omega)) dX2_strainByPairs_45 rfl rfl ⟨Nat.le_of_ble_eq_true rfl, Nat.le_of_ble_eq_true rfl⟩ ⟨Nat.zero_le _, Nat.zero_le _⟩ (Nat.le_of_ble_eq_true rfl) (fun v45 M45 g45 => ?_)
            obtain ⟨rfl, rfl⟩ := g45
            refine jw_iadd hC dX2_strainByPairs_48 ?_
            refine jw_istore_n (L' := [(1, _), (0, _), (2, _)]) hC dX2_strainByPairs_49 rfl (by decide) rfl ?_
            refine jw_iinc (L' := [(2, _), (1, _), (0, _)]) hC dX2_strainByPairs_50 2 rfl (by decide) rfl ?_
            refine jw_goto (tgt := 4) hC dX2_strainByPairs_53 (by decide) ?_
            refine jw_loc (L' := [(0, _), (1, _), (2, _)]) [2, 1, 0] rfl ?_
            refine ih _ _ (by omega) (by omega) (by omega) ?_
            rw [f_sum_s _ i2, hx]
            unfold f_s2 f_s4
            first | (rw [if_pos (by omega), if_pos (by omega)]; omega) | (rw [if_pos (by omega), if_neg (by omega)]; omega) | (rw [if_neg (by omega), if_pos (by omega)]; omega) | (rw [if_neg (by omega), if_neg (by omega)]; omega)
  refine jw_iconst hC dX2_strainByPairs_0 ?_
  refine jw_istore_n (L' := [(1, _), (0, _)]) hC dX2_strainByPairs_1 rfl (by decide) rfl ?_
  refine jw_iconst hC dX2_strainByPairs_2 ?_
  refine jw_istore_n (L' := [(2, _), (1, _), (0, _)]) hC dX2_strainByPairs_3 rfl (by decide) rfl ?_
  refine jw_loc (L' := [(0, _), (1, _), (2, _)]) [2, 1, 0] rfl ?_
  refine K4 145 0 0 (by omega) (by omega) (by omega) rfl
end
section
/-! PLACES, POINTS: the static methods of EmbossPress, and what the sheet does with them -/
set_option maxRecDepth 100000 in
set_option maxHeartbeats 4000000 in
theorem c_X4_isDie (l : Launch) (E : ewE) (M : ewM) (a : Int) (h1 : -2147483648 ≤ a) (h2 : a < 2147483648) : Ct l E yX4_isDie (.code yX4_isDie cX4_isDie 1 (some .boolean)) 1 [vI a] M (fun v M1 => v = some (vI (if 0 ≤ a ∧ a < 3 then 1 else 0)) ∧ M = M1) := by
  refine ct_of (L0 := [(0, vI a)]) (by decide +kernel) rfl (Nat.le_of_ble_eq_true rfl) ?_
  intro zp ze zs zm za zb zt zc zA hC
  refine jw_iload_n hC dX4_isDie_0 0 rfl rfl ?_
  refine jw_if_lt (tgt := 13) hC dX4_isDie_1 (by decide) (by omega) (by omega) (fun h1 => ?_) (fun h1 => ?_)
  · skip
    refine jw_iconst hC dX4_isDie_13 ?_
    refine jw_zret hC (by omega) dX4_isDie_14 ?_
    refine ⟨?_, rfl⟩
    first | rw [if_pos (by omega)] | rw [if_neg (by omega)]
  · skip
    refine jw_iload_n hC dX4_isDie_4 0 rfl rfl ?_
    refine jw_iconst hC dX4_isDie_5 ?_
    refine jw_icmp_ge (tgt := 13) hC dX4_isDie_6 (by decide) (by omega) (by omega) (by omega) (by omega) (fun h6 => ?_) (fun h6 => ?_)
    · skip
      refine jw_iconst hC dX4_isDie_13 ?_
      refine jw_zret hC (by omega) dX4_isDie_14 ?_
      refine ⟨?_, rfl⟩
      first | rw [if_pos (by omega)] | rw [if_neg (by omega)]
    · skip
      refine jw_iconst hC dX4_isDie_9 ?_
      refine jw_goto (tgt := 14) hC dX4_isDie_10 (by decide) ?_
      refine jw_zret hC (by omega) dX4_isDie_14 ?_
      refine ⟨?_, rfl⟩
      first | rw [if_pos (by omega)] | rw [if_neg (by omega)]
set_option maxRecDepth 100000 in
set_option maxHeartbeats 4000000 in
theorem c_X4_isTurn (l : Launch) (E : ewE) (M : ewM) (a : Int) (h1 : -2147483648 ≤ a) (h2 : a < 2147483648) : Ct l E yX4_isTurn (.code yX4_isTurn cX4_isTurn 1 (some .boolean)) 1 [vI a] M (fun v M1 => v = some (vI (if 0 ≤ a ∧ a < 8 then 1 else 0)) ∧ M = M1) := by
  refine ct_of (L0 := [(0, vI a)]) (by decide +kernel) rfl (Nat.le_of_ble_eq_true rfl) ?_
  intro zp ze zs zm za zb zt zc zA hC
  refine jw_iload_n hC dX4_isTurn_0 0 rfl rfl ?_
  refine jw_if_lt (tgt := 14) hC dX4_isTurn_1 (by decide) (by omega) (by omega) (fun h1 => ?_) (fun h1 => ?_)
  · skip
    refine jw_iconst hC dX4_isTurn_14 ?_
    refine jw_zret hC (by omega) dX4_isTurn_15 ?_
    refine ⟨?_, rfl⟩
    first | rw [if_pos (by omega)] | rw [if_neg (by omega)]
  · skip
    refine jw_iload_n hC dX4_isTurn_4 0 rfl rfl ?_
    refine jw_bipush hC dX4_isTurn_5 (by decide) ?_
    refine jw_icmp_ge (tgt := 14) hC dX4_isTurn_7 (by decide) (by omega) (by omega) (by omega) (by omega) (fun h7 => ?_) (fun h7 => ?_)
    · skip
      refine jw_iconst hC dX4_isTurn_14 ?_
      refine jw_zret hC (by omega) dX4_isTurn_15 ?_
      refine ⟨?_, rfl⟩
      first | rw [if_pos (by omega)] | rw [if_neg (by omega)]
    · skip
      refine jw_iconst hC dX4_isTurn_10 ?_
      refine jw_goto (tgt := 15) hC dX4_isTurn_11 (by decide) ?_
      refine jw_zret hC (by omega) dX4_isTurn_15 ?_
      refine ⟨?_, rfl⟩
      first | rw [if_pos (by omega)] | rw [if_neg (by omega)]
set_option maxRecDepth 100000 in
set_option maxHeartbeats 4000000 in
theorem c_X4_isFoldRow (l : Launch) (E : ewE) (M : ewM) (a : Int) (h1 : -2147483648 ≤ a) (h2 : a < 2147483648) : Ct l E yX4_isFoldRow (.code yX4_isFoldRow cX4_isFoldRow 1 (some .boolean)) 1 [vI a] M (fun v M1 => v = some (vI (if 1 ≤ a ∧ a < 12 then 1 else 0)) ∧ M = M1) := by
  refine ct_of (L0 := [(0, vI a)]) (by decide +kernel) rfl (Nat.le_of_ble_eq_true rfl) ?_
  intro zp ze zs zm za zb zt zc zA hC
  refine jw_iload_n hC dX4_isFoldRow_0 0 rfl rfl ?_
  refine jw_iconst hC dX4_isFoldRow_1 ?_
  refine jw_icmp_lt (tgt := 15) hC dX4_isFoldRow_2 (by decide) (by omega) (by omega) (by omega) (by omega) (fun h2 => ?_) (fun h2 => ?_)
  · skip
    refine jw_iconst hC dX4_isFoldRow_15 ?_
    refine jw_zret hC (by omega) dX4_isFoldRow_16 ?_
    refine ⟨?_, rfl⟩
    first | rw [if_pos (by omega)] | rw [if_neg (by omega)]
  · skip
    refine jw_iload_n hC dX4_isFoldRow_5 0 rfl rfl ?_
    refine jw_bipush hC dX4_isFoldRow_6 (by decide) ?_
    refine jw_icmp_ge (tgt := 15) hC dX4_isFoldRow_8 (by decide) (by omega) (by omega) (by omega) (by omega) (fun h8 => ?_) (fun h8 => ?_)
    · skip
      refine jw_iconst hC dX4_isFoldRow_15 ?_
      refine jw_zret hC (by omega) dX4_isFoldRow_16 ?_
      refine ⟨?_, rfl⟩
      first | rw [if_pos (by omega)] | rw [if_neg (by omega)]
    · skip
      refine jw_iconst hC dX4_isFoldRow_11 ?_
      refine jw_goto (tgt := 16) hC dX4_isFoldRow_12 (by decide) ?_
      refine jw_zret hC (by omega) dX4_isFoldRow_16 ?_
      refine ⟨?_, rfl⟩
      first | rw [if_pos (by omega)] | rw [if_neg (by omega)]
set_option maxRecDepth 100000 in
set_option maxHeartbeats 4000000 in
theorem c_X4_isSetting (l : Launch) (E : ewE) (M : ewM) (a : Int) (h1 : -2147483648 ≤ a) (h2 : a < 2147483648) : Ct l E yX4_isSetting (.code yX4_isSetting cX4_isSetting 1 (some .boolean)) 1 [vI a] M (fun v M1 => v = some (vI (if 0 ≤ a ∧ a < 4 then 1 else 0)) ∧ M = M1) := by
  refine ct_of (L0 := [(0, vI a)]) (by decide +kernel) rfl (Nat.le_of_ble_eq_true rfl) ?_
  intro zp ze zs zm za zb zt zc zA hC
  refine jw_iload_n hC dX4_isSetting_0 0 rfl rfl ?_
  refine jw_if_lt (tgt := 13) hC dX4_isSetting_1 (by decide) (by omega) (by omega) (fun h1 => ?_) (fun h1 => ?_)
  · skip
    refine jw_iconst hC dX4_isSetting_13 ?_
    refine jw_zret hC (by omega) dX4_isSetting_14 ?_
    refine ⟨?_, rfl⟩
    first | rw [if_pos (by omega)] | rw [if_neg (by omega)]
  · skip
    refine jw_iload_n hC dX4_isSetting_4 0 rfl rfl ?_
    refine jw_iconst hC dX4_isSetting_5 ?_
    refine jw_icmp_ge (tgt := 13) hC dX4_isSetting_6 (by decide) (by omega) (by omega) (by omega) (by omega) (fun h6 => ?_) (fun h6 => ?_)
    · skip
      refine jw_iconst hC dX4_isSetting_13 ?_
      refine jw_zret hC (by omega) dX4_isSetting_14 ?_
      refine ⟨?_, rfl⟩
      first | rw [if_pos (by omega)] | rw [if_neg (by omega)]
    · skip
      refine jw_iconst hC dX4_isSetting_9 ?_
      refine jw_goto (tgt := 14) hC dX4_isSetting_10 (by decide) ?_
      refine jw_zret hC (by omega) dX4_isSetting_14 ?_
      refine ⟨?_, rfl⟩
      first | rw [if_pos (by omega)] | rw [if_neg (by omega)]

set_option maxRecDepth 100000 in
set_option maxHeartbeats 4000000 in
theorem c_X4_isPoint (l : Launch) (E : ewE) (M : ewM) (a b : Int) (h1 : -2147483648 ≤ a) (h2 : a < 2147483648) (h3 : -2147483648 ≤ b) (h4 : b < 2147483648) : Ct l E yX4_isPoint (.code yX4_isPoint cX4_isPoint 2 (some .boolean)) 1 [vI a, vI b] M (fun v M1 => v = some (vI (if 0 ≤ a ∧ a < 5 ∧ 0 ≤ b ∧ b < 5 then 1 else 0)) ∧ M = M1) := by
  refine ct_of (L0 := [(0, vI a), (1, vI b)]) (by decide +kernel) rfl (Nat.le_of_ble_eq_true rfl) ?_
  intro zp ze zs zm za zb zt zc zA hC
  refine jw_iload_n hC dX4_isPoint_0 0 rfl rfl ?_
  refine jw_if_lt (tgt := 22) hC dX4_isPoint_1 (by decide) (by omega) (by omega) (fun h1 => ?_) (fun h1 => ?_)
  · skip
    refine jw_iconst hC dX4_isPoint_22 ?_
    refine jw_zret hC (by omega) dX4_isPoint_23 ?_
    refine ⟨?_, rfl⟩
    first | rw [if_pos (by omega)] | rw [if_neg (by omega)]
  · skip
    refine jw_iload_n hC dX4_isPoint_4 0 rfl rfl ?_
    refine jw_iconst hC dX4_isPoint_5 ?_
    refine jw_icmp_ge (tgt := 22) hC dX4_isPoint_6 (by decide) (by omega) (by omega) (by omega) (by omega) (fun h6 => ?_) (fun h6 => ?_)
    · skip
      refine jw_iconst hC dX4_isPoint_22 ?_
      refine jw_zret hC (by omega) dX4_isPoint_23 ?_
      refine ⟨?_, rfl⟩
      first | rw [if_pos (by omega)] | rw [if_neg (by omega)]
    · skip
      refine jw_iload_n hC dX4_isPoint_9 1 rfl rfl ?_
      refine jw_if_lt (tgt := 22) hC dX4_isPoint_10 (by decide) (by omega) (by omega) (fun h10 => ?_) (fun h10 => ?_)
      · skip
        refine jw_iconst hC dX4_isPoint_22 ?_
        refine jw_zret hC (by omega) dX4_isPoint_23 ?_
        refine ⟨?_, rfl⟩
        first | rw [if_pos (by omega)] | rw [if_neg (by omega)]
      · skip
        refine jw_iload_n hC dX4_isPoint_13 1 rfl rfl ?_
        refine jw_iconst hC dX4_isPoint_14 ?_
        refine jw_icmp_ge (tgt := 22) hC dX4_isPoint_15 (by decide) (by omega) (by omega) (by omega) (by omega) (fun h15 => ?_) (fun h15 => ?_)
        · skip
          refine jw_iconst hC dX4_isPoint_22 ?_
          refine jw_zret hC (by omega) dX4_isPoint_23 ?_
          refine ⟨?_, rfl⟩
          first | rw [if_pos (by omega)] | rw [if_neg (by omega)]
        · skip
          refine jw_iconst hC dX4_isPoint_18 ?_
          refine jw_goto (tgt := 23) hC dX4_isPoint_19 (by decide) ?_
          refine jw_zret hC (by omega) dX4_isPoint_23 ?_
          refine ⟨?_, rfl⟩
          first | rw [if_pos (by omega)] | rw [if_neg (by omega)]
set_option maxRecDepth 100000 in
set_option maxHeartbeats 4000000 in
theorem c_X4_pointIndex (l : Launch) (E : ewE) (M : ewM) (a b c : Int) : Ct l E yX4_pointIndex (.code yX4_pointIndex cX4_pointIndex 3 (some .int)) 1 [vI a, vI b, vI c] M (fun v M1 => v = some (vI (a * 25 + c * 5 + b)) ∧ M = M1) := by
  refine ct_of (L0 := [(0, vI a), (1, vI b), (2, vI c)]) (by decide +kernel) rfl (Nat.le_of_ble_eq_true rfl) ?_
  intro zp ze zs zm za zb zt zc zA hC
  refine jw_iload_n hC dX4_pointIndex_0 0 rfl rfl ?_
  refine jw_bipush hC dX4_pointIndex_1 (by decide) ?_
  refine jw_imul hC dX4_pointIndex_3 ?_
  refine jw_iload_n hC dX4_pointIndex_4 2 rfl rfl ?_
  refine jw_iconst hC dX4_pointIndex_5 ?_
  refine jw_imul hC dX4_pointIndex_6 ?_
  refine jw_iadd hC dX4_pointIndex_7 ?_
  refine jw_iload_n hC dX4_pointIndex_8 1 rfl rfl ?_
  refine jw_iadd hC dX4_pointIndex_9 ?_
  refine jw_iret hC dX4_pointIndex_10 ?_
  exact ⟨rfl, rfl⟩
set_option maxRecDepth 100000 in
set_option maxHeartbeats 4000000 in
theorem c_X4_placeIndex (l : Launch) (E : ewE) (M : ewM) (c r : Int) (h1 : -1099511627776 ≤ c) (h2 : c ≤ 1099511627776) (h3 : -1099511627776 ≤ r) (h4 : r ≤ 1099511627776) : Ct l E yX4_placeIndex (.code yX4_placeIndex cX4_placeIndex 4 (some .int)) 1 [vJ c, vJ r] M (fun v M1 => v = some (vI (f_pl c r)) ∧ M = M1) := by
  refine ct_of (L0 := [(0, vJ c), (2, vJ r)]) (by decide +kernel) rfl (Nat.le_of_ble_eq_true rfl) ?_
  intro zp ze zs zm za zb zt zc zA hC
  refine jw_lload_n hC dX4_placeIndex_0 0 rfl rfl ?_
  refine jw_lconst (v := 0) hC dX4_placeIndex_1 rfl ?_
  refine jw_lcmp hC dX4_placeIndex_2 (by omega) (by omega) (by omega) (by omega) ?_
  refine jw_if_lt (tgt := 28) hC dX4_placeIndex_3 (by decide) lcm_b1 lcm_b2 (fun h3 => ?_) (fun h3 => ?_)
  · skip
    have h3 := lcm_lt.mp h3
    refine jw_iconst hC dX4_placeIndex_28 ?_
    refine jw_iret hC dX4_placeIndex_29 ?_
    refine ⟨?_, rfl⟩
    unfold f_pl
    first | rw [if_pos (by omega)] | rw [if_neg (by omega)]
  · skip
    have h3 := lcm_ge.mp h3
    refine jw_lload_n hC dX4_placeIndex_6 0 rfl rfl ?_
    refine jw_ldc2 (n := 12) hC dX4_placeIndex_7 w2_146 ?_
    refine jw_lcmp hC dX4_placeIndex_10 (by omega) (by omega) (by omega) (by omega) ?_
    refine jw_if_ge (tgt := 28) hC dX4_placeIndex_11 (by decide) lcm_b1 lcm_b2 (fun h11 => ?_) (fun h11 => ?_)
    · skip
      have h11 := lcm_ge.mp h11
      refine jw_iconst hC dX4_placeIndex_28 ?_
      refine jw_iret hC dX4_placeIndex_29 ?_
      refine ⟨?_, rfl⟩
      unfold f_pl
      first | rw [if_pos (by omega)] | rw [if_neg (by omega)]
    · skip
      have h11 := lcm_lt.mp h11
      refine jw_lload_n hC dX4_placeIndex_14 1 rfl rfl ?_
      refine jw_lconst (v := 0) hC dX4_placeIndex_15 rfl ?_
      refine jw_lcmp hC dX4_placeIndex_16 (by omega) (by omega) (by omega) (by omega) ?_
      refine jw_if_lt (tgt := 28) hC dX4_placeIndex_17 (by decide) lcm_b1 lcm_b2 (fun h17 => ?_) (fun h17 => ?_)
      · skip
        have h17 := lcm_lt.mp h17
        refine jw_iconst hC dX4_placeIndex_28 ?_
        refine jw_iret hC dX4_placeIndex_29 ?_
        refine ⟨?_, rfl⟩
        unfold f_pl
        first | rw [if_pos (by omega)] | rw [if_neg (by omega)]
      · skip
        have h17 := lcm_ge.mp h17
        refine jw_lload_n hC dX4_placeIndex_20 1 rfl rfl ?_
        refine jw_ldc2 (n := 12) hC dX4_placeIndex_21 w2_146 ?_
        refine jw_lcmp hC dX4_placeIndex_24 (by omega) (by omega) (by omega) (by omega) ?_
        refine jw_if_lt (tgt := 30) hC dX4_placeIndex_25 (by decide) lcm_b1 lcm_b2 (fun h25 => ?_) (fun h25 => ?_)
        · skip
          have h25 := lcm_lt.mp h25
          refine jw_lload_n hC dX4_placeIndex_30 1 rfl rfl ?_
          refine jw_ldc2 (n := 12) hC dX4_placeIndex_31 w2_146 ?_
          refine jw_lmul hC dX4_placeIndex_34 ?_
          refine jw_lload_n hC dX4_placeIndex_35 0 rfl rfl ?_
          refine jw_ladd hC dX4_placeIndex_36 ?_
          refine jw_l2i hC dX4_placeIndex_37 ?_
          refine jw_iret hC dX4_placeIndex_38 ?_
          refine ⟨?_, rfl⟩
          unfold f_pl
          first | rw [if_pos (by omega)] | rw [if_neg (by omega)]
        · skip
          have h25 := lcm_ge.mp h25
          refine jw_iconst hC dX4_placeIndex_28 ?_
          refine jw_iret hC dX4_placeIndex_29 ?_
          refine ⟨?_, rfl⟩
          unfold f_pl
          first | rw [if_pos (by omega)] | rw [if_neg (by omega)]
set_option maxRecDepth 100000 in
set_option maxHeartbeats 4000000 in
theorem c_X4_placeUnder (l : Launch) (E : ewE) (M : ewM) (i c r : Int) (hi : 0 ≤ i ∧ i < 25) (h1 : -1000000000000 ≤ c) (h2 : c ≤ 1000000000000) (h3 : -1000000000000 ≤ r) (h4 : r ≤ 1000000000000) : Ct l E yX4_placeUnder (.code yX4_placeUnder cX4_placeUnder 5 (some .int)) 2 [vI i, vJ c, vJ r] M (fun v M1 => v = some (vI (f_pu i c r)) ∧ M = M1) := by
  refine ct_of (L0 := [(0, vI i), (1, vJ c), (3, vJ r)]) (by decide +kernel) rfl (Nat.le_of_ble_eq_true rfl) ?_
  intro zp ze zs zm za zb zt zc zA hC
  refine jw_lload_n hC dX4_placeUnder_0 1 rfl rfl ?_
  refine jw_iload_n hC dX4_placeUnder_1 0 rfl rfl ?_
  refine jw_iconst hC dX4_placeUnder_2 ?_
  refine jw_irem hC dX4_placeUnder_3 (by omega) (by omega) (by omega) (by omega) ?_
  refine jw_i2l hC dX4_placeUnder_4 (by omega) (by omega) ?_
  refine jw_ladd hC dX4_placeUnder_5 ?_
  refine jw_lload_n hC dX4_placeUnder_6 2 rfl rfl ?_
  refine jw_iload_n hC dX4_placeUnder_7 0 rfl rfl ?_
  refine jw_iconst hC dX4_placeUnder_8 ?_
  refine jw_idiv hC dX4_placeUnder_9 (by omega) (by omega) (by omega) (by omega) ?_
  refine jw_i2l hC dX4_placeUnder_10 (by omega) (by omega) ?_
  refine jw_ladd hC dX4_placeUnder_11 ?_
  refine jw_callS hC (c_X4_placeIndex l E M _ _ (by omega) (by omega) (by omega) (by omega)) sS_X4_82 dX4_placeUnder_12 rfl rfl ⟨Nat.le_of_ble_eq_true rfl, Nat.le_of_ble_eq_true rfl⟩ ⟨Nat.zero_le _, Nat.zero_le _⟩ (Nat.le_of_ble_eq_true rfl) (fun v12 M12 g12 => ?_)
  obtain ⟨rfl, rfl⟩ := g12
  refine jw_iret hC dX4_placeUnder_15 ?_
  exact ⟨rfl, rfl⟩

set_option maxRecDepth 100000 in
set_option maxHeartbeats 4000000 in
theorem c_X2_depthAt (l : Launch) (E : ewE) (M : ewM) (j : Nat) (hj : j < 10) (x y : Int) (h1 : -2147483648 ≤ x) (h2 : x < 2147483648) (h3 : -2147483648 ≤ y) (h4 : y < 2147483648) : Ct l E yX2_depthAt (.code yX2_depthAt cX2_depthAt 4 (some .int)) 2 [vR E (5 * j), vI x, vI y] M (fun v M1 => v = some (vI (if f_pl x y = -1 then 0 else M (5 * j + 1) (f_pl x y))) ∧ M = M1) := by
  refine ct_of (L0 := [(0, vR E (5 * j)), (1, vI x), (2, vI y)]) (by decide +kernel) rfl (Nat.le_of_ble_eq_true rfl) ?_
  intro zp ze zs zm za zb zt zc zA hC
  have hb := f_pl_b x y
  refine jw_iload_n hC dX2_depthAt_0 1 rfl rfl ?_
  refine jw_i2l hC dX2_depthAt_1 (by omega) (by omega) ?_
  refine jw_iload_n hC dX2_depthAt_2 2 rfl rfl ?_
  refine jw_i2l hC dX2_depthAt_3 (by omega) (by omega) ?_
  refine jw_callSn hC (c_X4_placeIndex l E M _ _ (by omega) (by omega) (by omega) (by omega)) sN_X2_40 dX2_depthAt_4 rfl rfl ⟨Nat.le_of_ble_eq_true rfl, Nat.le_of_ble_eq_true rfl⟩ ⟨Nat.zero_le _, Nat.zero_le _⟩ (Nat.le_of_ble_eq_true rfl) (fun v4 M4 g4 => ?_)
  obtain ⟨rfl, rfl⟩ := g4
  refine jw_istore_n (L' := [(3, _), (0, _), (1, _), (2, _)]) hC dX2_depthAt_7 rfl (by decide) rfl ?_
  refine jw_iload_n hC dX2_depthAt_8 0 rfl rfl ?_
  refine jw_iconst hC dX2_depthAt_9 ?_
  refine jw_icmp_ne (tgt := 17) hC dX2_depthAt_10 (by decide) (by omega) (by omega) (by omega) (by omega) (fun h10 => ?_) (fun h10 => ?_)
  · skip
    refine jw_aload_n hC dX2_depthAt_17 1 rfl rfl ?_
    refine jw_getr hC fL_X2_9 (ewR_s0 (j := j) (by omega)) dX2_depthAt_18 ?_
    refine jw_iload_n hC dX2_depthAt_21 0 rfl rfl ?_
    refine jw_iald hC (ewA_sheet (j := j) (r := 1) (by omega) (by decide) (by decide)) dX2_depthAt_22 (by omega) (by omega) (by decide) (fun b22 c22 => ?_)
    refine jw_iret hC dX2_depthAt_23 ?_
    refine ⟨?_, rfl⟩
    first | rw [if_pos (by omega)] | rw [if_neg (by omega)]
  · skip
    refine jw_iconst hC dX2_depthAt_13 ?_
    refine jw_goto (tgt := 23) hC dX2_depthAt_14 (by decide) ?_
    refine jw_iret hC dX2_depthAt_23 ?_
    refine ⟨?_, rfl⟩
    first | rw [if_pos (by omega)] | rw [if_neg (by omega)]
set_option maxRecDepth 100000 in
set_option maxHeartbeats 4000000 in
theorem c_X2_emboss (l : Launch) (E : ewE) (M : ewM) (j : Nat) (hj : j < 10) (c r : Int) (h1 : -1000000000000 ≤ c) (h2 : c ≤ 1000000000000) (h3 : -1000000000000 ≤ r) (h4 : r ≤ 1000000000000) (hr : pD (M 83)) (hD : pD (M (5 * j + 1))) : Ct l E yX2_emboss (.code yX2_emboss cX2_emboss 8 none) 3 [vR E (5 * j), vR E 83, vJ c, vJ r] M (fun v M1 => v = none ∧ M1 (5 * j + 1) = f_emb (M 83) c r (M (5 * j + 1)) 25 ∧ M1 (5 * j + 4) = f_prs (M 83) c r (M (5 * j + 4)) 25 ∧ ∀ o, o ≠ 5 * j + 1 → o ≠ 5 * j + 4 → M1 o = M o) := by
  refine ct_of (L0 := [(0, vR E (5 * j)), (1, vR E 83), (2, vJ c), (4, vJ r)]) (by decide +kernel) rfl (Nat.le_of_ble_eq_true rfl) ?_
  intro zp ze zs zm za zb zt zc zA hC
  have K3 : ∀ (n : Nat) (k : Int) (M1 : ewM), 25 - k < n → 0 ≤ k → k ≤ 25 → M1 (5 * j + 1) = f_emb (M 83) c r (M (5 * j + 1)) k.toNat → M1 (5 * j + 4) = f_prs (M 83) c r (M (5 * j + 4)) k.toNat → (∀ o, o ≠ 5 * j + 1 → o ≠ 5 * j + 4 → M1 o = M o) → jJ zp l ze (ct_rm 3) zs zm za zb zt zc E zA 8 0 0 (MQ zb (ct_Q E zA (fun v M1 => v = none ∧ M1 (5 * j + 1) = f_emb (M 83) c r (M (5 * j + 1)) 25 ∧ M1 (5 * j + 4) = f_prs (M 83) c r (M (5 * j + 4)) 25 ∧ ∀ o, o ≠ 5 * j + 1 → o ≠ 5 * j + 4 → M1 o = M o)) za zs 0 0 zA) 3 [(0, vR E (5 * j)), (1, vR E 83), (2, vJ c), (4, vJ r), (6, vI k)] [] M1 := by
    intro n
    induction n with
    | zero => intros; omega
    | succ n ih =>
      intro k M1 i1 i2 i3 g1 g2 g3
      refine jw_iload hC dX2_emboss_3 4 rfl ?_
      refine jw_bipush hC dX2_emboss_5 (by decide) ?_
      refine jw_icmp_ge (tgt := 71) hC dX2_emboss_7 (by decide) (by omega) (by omega) (by omega) (by omega) (fun h7 => ?_) (fun h7 => ?_)
      · skip
        refine jw_vret hC dX2_emboss_71 ?_
        refine ⟨rfl, ?_, ?_, g3⟩
        · rw [g1, show k = 25 by omega]; rfl
        · rw [g2, show k = 25 by omega]; rfl
      · skip
        refine jw_iload hC dX2_emboss_10 4 rfl ?_
        refine jw_lload_n hC dX2_emboss_12 2 rfl rfl ?_
        refine jw_lload hC dX2_emboss_13 3 rfl ?_
        refine jw_callSn hC (c_X4_placeUnder l E M1 _ _ _ ⟨by omega, by omega⟩ (by omega) (by omega) (by omega) (by omega)) sN_X2_44 dX2_emboss_15 rfl rfl ⟨Nat.le_of_ble_eq_true rfl, Nat.le_of_ble_eq_true rfl⟩ ⟨Nat.zero_le _, Nat.zero_le _⟩ (Nat.le_of_ble_eq_true rfl) (fun v15 M15 g15 => ?_)
        obtain ⟨rfl, rfl⟩ := g15
        refine jw_istore (L' := [(7, _), (0, _), (1, _), (2, _), (4, _), (6, _)]) hC dX2_emboss_18 (by decide) rfl ?_
        have hp := f_pu_b k c r
        refine jw_aload_n hC dX2_emboss_20 2 rfl rfl ?_
        refine jw_iload hC dX2_emboss_21 5 rfl ?_
        refine jw_iald hC ewA_83 dX2_emboss_23 (by omega) (by omega) (by decide) (fun b23 c23 => ?_)
        refine jw_if_le (tgt := 65) hC dX2_emboss_24 (by decide) (by omega) (by omega) (fun h24 => ?_) (fun h24 => ?_)
        · skip
          refine jw_iinc (L' := [(6, _), (7, _), (0, _), (1, _), (2, _), (4, _)]) hC dX2_emboss_65 5 rfl (by decide) rfl ?_
          refine jw_goto (tgt := 3) hC dX2_emboss_68 (by decide) ?_
          refine jw_loc (L' := [(0, _), (1, _), (2, _), (4, _), (6, _)]) [2, 3, 4, 5, 0] rfl ?_
          refine ih _ _ (by omega) (by omega) (by omega) ?_ ?_ ?_
          · rw [f_emb_s _ _ _ _ i2]
            first
            | (rw [if_neg (by rw [g3 83 (by omega) (by omega)] at *; omega)]; exact g1)
            | (rw [if_pos (by rw [g3 83 (by omega) (by omega)] at *; omega), mu_ne _ _ _ (by omega), mu_at, g1])
          · rw [f_prs_s _ _ _ _ i2]
            first
            | (rw [if_neg (by rw [g3 83 (by omega) (by omega)] at *; omega)]; exact g2)
            | (rw [if_pos (by rw [g3 83 (by omega) (by omega)] at *; omega), mu_at, mu_ne _ _ _ (by omega), g2])
          · intro o o1 o2
            first
            | exact g3 o o1 o2
            | (rw [mu_ne _ _ _ o2, mu_ne _ _ _ o1]; exact g3 o o1 o2)
        · skip
          refine jw_iload hC dX2_emboss_27 0 rfl ?_
          refine jw_iconst hC dX2_emboss_29 ?_
          refine jw_icmp_eq (tgt := 65) hC dX2_emboss_30 (by decide) (by omega) (by omega) (by omega) (by omega) (fun h30 => ?_) (fun h30 => ?_)
          · skip
            refine jw_iinc (L' := [(6, _), (7, _), (0, _), (1, _), (2, _), (4, _)]) hC dX2_emboss_65 5 rfl (by decide) rfl ?_
            refine jw_goto (tgt := 3) hC dX2_emboss_68 (by decide) ?_
            refine jw_loc (L' := [(0, _), (1, _), (2, _), (4, _), (6, _)]) [2, 3, 4, 5, 0] rfl ?_
            refine ih _ _ (by omega) (by omega) (by omega) ?_ ?_ ?_
            · rw [f_emb_s _ _ _ _ i2]
              first
              | (rw [if_neg (by rw [g3 83 (by omega) (by omega)] at *; omega)]; exact g1)
              | (rw [if_pos (by rw [g3 83 (by omega) (by omega)] at *; omega), mu_ne _ _ _ (by omega), mu_at, g1])
            · rw [f_prs_s _ _ _ _ i2]
              first
              | (rw [if_neg (by rw [g3 83 (by omega) (by omega)] at *; omega)]; exact g2)
              | (rw [if_pos (by rw [g3 83 (by omega) (by omega)] at *; omega), mu_at, mu_ne _ _ _ (by omega), g2])
            · intro o o1 o2
              first
              | exact g3 o o1 o2
              | (rw [mu_ne _ _ _ o2, mu_ne _ _ _ o1]; exact g3 o o1 o2)
          · skip
            refine jw_aload_n hC dX2_emboss_33 1 rfl rfl ?_
            refine jw_getr hC fL_X2_9 (ewR_s0 (j := j) (by omega)) dX2_emboss_34 ?_
            refine jw_iload hC dX2_emboss_37 0 rfl ?_
            refine jw_aload_n hC dX2_emboss_39 1 rfl rfl ?_
            refine jw_getr hC fL_X2_9 (ewR_s0 (j := j) (by omega)) dX2_emboss_40 ?_
            refine jw_iload hC dX2_emboss_43 0 rfl ?_
            refine jw_iald hC (ewA_sheet (j := j) (r := 1) (by omega) (by decide) (by decide)) dX2_emboss_45 (by omega) (by omega) (by decide) (fun b45 c45 => ?_)
            refine jw_aload_n hC dX2_emboss_46 2 rfl rfl ?_
            refine jw_iload hC dX2_emboss_47 5 rfl ?_
            refine jw_iald hC ewA_83 dX2_emboss_49 (by omega) (by omega) (by decide) (fun b49 c49 => ?_)
            have hk := hr k
            have hk2 := f_emb_D hr hD c r k.toNat (f_pu k c r)
            rw [g1] at b45 c45 ⊢
            rw [g3 83 (by omega) (by omega)] at b49 c49 ⊢
            refine jw_max hC dX2_emboss_50 (by omega) (by omega) (by omega) (by omega) w2_71 w2_72 w1_10 w2_73 ⟨Nat.le_of_ble_eq_true rfl, Nat.le_of_ble_eq_true rfl⟩ ⟨Nat.zero_le _, Nat.zero_le _⟩ ?_
            refine jw_iast hC (ewA_sheet (j := j) (r := 1) (by omega) (by decide) (by decide)) dX2_emboss_53 (by omega) (by omega) (by decide) (by omega) (by omega) ?_
            refine jw_aload_n hC dX2_emboss_54 1 rfl rfl ?_
            refine jw_getr hC fL_X2_21 (ewR_s3 (j := j) (by omega)) dX2_emboss_55 ?_
            refine jw_iload hC dX2_emboss_58 0 rfl ?_
            refine jw_dup2 hC dX2_emboss_60 ?_
            refine jw_iald hC (ewA_sheet (j := j) (r := 4) (by omega) (by decide) (by decide)) dX2_emboss_61 (by omega) (by omega) (by decide) (fun b61 c61 => ?_)
            refine jw_iconst hC dX2_emboss_62 ?_
            refine jw_iadd hC dX2_emboss_63 ?_
            refine jw_iastw hC (ewA_sheet (j := j) (r := 4) (by omega) (by decide) (by decide)) dX2_emboss_64 (by omega) (by omega) (by decide)  ?_
            refine jw_iinc (L' := [(6, _), (7, _), (0, _), (1, _), (2, _), (4, _)]) hC dX2_emboss_65 5 rfl (by decide) rfl ?_
            refine jw_goto (tgt := 3) hC dX2_emboss_68 (by decide) ?_
            refine jw_loc (L' := [(0, _), (1, _), (2, _), (4, _), (6, _)]) [2, 3, 4, 5, 0] rfl ?_
            refine ih _ _ (by omega) (by omega) (by omega) ?_ ?_ ?_
            · rw [f_emb_s _ _ _ _ i2]
              first
              | (rw [if_neg (by rw [g3 83 (by omega) (by omega)] at *; omega)]; exact g1)
              | (rw [if_pos (by rw [g3 83 (by omega) (by omega)] at *; omega), mu_ne _ _ _ (by omega), mu_at, g1])
            · rw [f_prs_s _ _ _ _ i2]
              first
              | (rw [if_neg (by rw [g3 83 (by omega) (by omega)] at *; omega)]; exact g2)
              | (rw [if_pos (by rw [g3 83 (by omega) (by omega)] at *; omega), mu_at, mu_ne _ _ _ (by omega), g2])
            · intro o o1 o2
              first
              | exact g3 o o1 o2
              | (rw [mu_ne _ _ _ o2, mu_ne _ _ _ o1]; exact g3 o o1 o2)
  refine jw_iconst hC dX2_emboss_0 ?_
  refine jw_istore (L' := [(6, _), (0, _), (1, _), (2, _), (4, _)]) hC dX2_emboss_1 (by decide) rfl ?_
  refine jw_loc (L' := [(0, _), (1, _), (2, _), (4, _), (6, _)]) [1, 2, 3, 4, 0] rfl ?_
  exact K3 26 0 M (by omega) (by omega) (by omega) rfl rfl (fun _ _ _ => rfl)
set_option maxRecDepth 100000 in
set_option maxHeartbeats 4000000 in
theorem c_X2_copyStrength (l : Launch) (E : ewE) (M : ewM) (j : Nat) (hj : j < 10) (i : Nat) (hi : i < 10) : Ct l E yX2_copyStrength (.code yX2_copyStrength cX2_copyStrength 2 none) 1 [vR E (5 * j), vR E (5 * i)] M (fun v M1 => v = none ∧ M1 = mset (mset M (5 * j + 1) (M (5 * i + 1))) (5 * j + 3) (M (5 * i + 3))) := by
  refine ct_of (L0 := [(0, vR E (5 * j)), (1, vR E (5 * i))]) (by decide +kernel) rfl (Nat.le_of_ble_eq_true rfl) ?_
  intro zp ze zs zm za zb zt zc zA hC
  refine jw_aload_n hC dX2_copyStrength_0 1 rfl rfl ?_
  refine jw_getr hC fL_X2_9 (ewR_s0 (j := i) (by omega)) dX2_copyStrength_1 ?_
  refine jw_iconst hC dX2_copyStrength_4 ?_
  refine jw_aload_n hC dX2_copyStrength_5 0 rfl rfl ?_
  refine jw_getr hC fL_X2_9 (ewR_s0 (j := j) (by omega)) dX2_copyStrength_6 ?_
  refine jw_iconst hC dX2_copyStrength_9 ?_
  refine jw_sipush hC dX2_copyStrength_10 (by decide) ?_
  refine jw_copy hC (ewA_sheet (j := i) (r := 1) (by omega) (by decide) (by decide)) (ewA_sheet (j := j) (r := 1) (by omega) (by decide) (by decide)) (by decide) dX2_copyStrength_13 w2_38 w2_29 w2_28 w1_12 ⟨Nat.le_of_ble_eq_true rfl, Nat.le_of_ble_eq_true rfl⟩ ?_
  refine jw_aload_n hC dX2_copyStrength_16 1 rfl rfl ?_
  refine jw_getr hC fL_X2_18 (ewR_s2 (j := i) (by omega)) dX2_copyStrength_17 ?_
  refine jw_iconst hC dX2_copyStrength_20 ?_
  refine jw_aload_n hC dX2_copyStrength_21 0 rfl rfl ?_
  refine jw_getr hC fL_X2_18 (ewR_s2 (j := j) (by omega)) dX2_copyStrength_22 ?_
  refine jw_iconst hC dX2_copyStrength_25 ?_
  refine jw_sipush hC dX2_copyStrength_26 (by decide) ?_
  refine jw_copy hC (ewA_sheet (j := i) (r := 3) (by omega) (by decide) (by decide)) (ewA_sheet (j := j) (r := 3) (by omega) (by decide) (by decide)) (by decide) dX2_copyStrength_29 w2_38 w2_29 w2_28 w1_12 ⟨Nat.le_of_ble_eq_true rfl, Nat.le_of_ble_eq_true rfl⟩ ?_
  refine jw_vret hC dX2_copyStrength_32 ?_
  exact ⟨rfl, by rw [mset_ne M _ (show 5 * i + 3 ≠ 5 * j + 1 by omega)]⟩
set_option maxRecDepth 100000 in
set_option maxHeartbeats 4000000 in
theorem c_X2_copyFrom (l : Launch) (E : ewE) (M : ewM) (j : Nat) (hj : j < 10) (i : Nat) (hi : i < 10) : Ct l E yX2_copyFrom (.code yX2_copyFrom cX2_copyFrom 2 none) 2 [vR E (5 * j), vR E (5 * i)] M (fun v M1 => v = none ∧ (∀ r, 1 ≤ r → r ≤ 4 → M1 (5 * j + r) = M (5 * i + r)) ∧ ∀ o, (o < 5 * j + 1 ∨ 5 * j + 4 < o) → M1 o = M o) := by
  refine ct_of (L0 := [(0, vR E (5 * j)), (1, vR E (5 * i))]) (by decide +kernel) rfl (Nat.le_of_ble_eq_true rfl) ?_
  intro zp ze zs zm za zb zt zc zA hC
  refine jw_aload_n hC dX2_copyFrom_0 0 rfl rfl ?_
  refine jw_aload_n hC dX2_copyFrom_1 1 rfl rfl ?_
  refine jw_callV hC (c_X2_copyStrength l E M j hj i hi) sV_X2_30 (ewO_sheet (j := j) (by omega)) dX2_copyFrom_2 rfl rfl ⟨Nat.le_of_ble_eq_true rfl, Nat.le_of_ble_eq_true rfl⟩ ⟨Nat.zero_le _, Nat.zero_le _⟩ (Nat.le_of_ble_eq_true rfl) (fun v2 M2 g2 => ?_)
  obtain ⟨rfl, rfl⟩ := g2
  refine jw_aload_n hC dX2_copyFrom_5 1 rfl rfl ?_
  refine jw_getr hC fL_X2_15 (ewR_s1 (j := i) (by omega)) dX2_copyFrom_6 ?_
  refine jw_iconst hC dX2_copyFrom_9 ?_
  refine jw_aload_n hC dX2_copyFrom_10 0 rfl rfl ?_
  refine jw_getr hC fL_X2_15 (ewR_s1 (j := j) (by omega)) dX2_copyFrom_11 ?_
  refine jw_iconst hC dX2_copyFrom_14 ?_
  refine jw_sipush hC dX2_copyFrom_15 (by decide) ?_
  refine jw_copy hC (ewA_sheet (j := i) (r := 2) (by omega) (by decide) (by decide)) (ewA_sheet (j := j) (r := 2) (by omega) (by decide) (by decide)) (by decide) dX2_copyFrom_18 w2_38 w2_29 w2_28 w1_12 ⟨Nat.le_of_ble_eq_true rfl, Nat.le_of_ble_eq_true rfl⟩ ?_
  refine jw_aload_n hC dX2_copyFrom_21 1 rfl rfl ?_
  refine jw_getr hC fL_X2_21 (ewR_s3 (j := i) (by omega)) dX2_copyFrom_22 ?_
  refine jw_iconst hC dX2_copyFrom_25 ?_
  refine jw_aload_n hC dX2_copyFrom_26 0 rfl rfl ?_
  refine jw_getr hC fL_X2_21 (ewR_s3 (j := j) (by omega)) dX2_copyFrom_27 ?_
  refine jw_iconst hC dX2_copyFrom_30 ?_
  refine jw_sipush hC dX2_copyFrom_31 (by decide) ?_
  refine jw_copy hC (ewA_sheet (j := i) (r := 4) (by omega) (by decide) (by decide)) (ewA_sheet (j := j) (r := 4) (by omega) (by decide) (by decide)) (by decide) dX2_copyFrom_34 w2_38 w2_29 w2_28 w1_12 ⟨Nat.le_of_ble_eq_true rfl, Nat.le_of_ble_eq_true rfl⟩ ?_
  refine jw_vret hC dX2_copyFrom_37 ?_
  refine ⟨rfl, fun r h1 h4 => ?_, fun o ho => ?_⟩
  · by_cases hij : i = j
    · subst hij
      unfold mset
      rcases (show r = 1 ∨ r = 2 ∨ r = 3 ∨ r = 4 by omega) with rfl | rfl | rfl | rfl <;> repeat (first | rfl | (split <;> try omega))
    · rcases (show r = 1 ∨ r = 2 ∨ r = 3 ∨ r = 4 by omega) with rfl | rfl | rfl | rfl
      · rw [mset_ne _ _ (by omega), mset_ne _ _ (by omega), mset_ne _ _ (by omega), mset_at]
      · rw [mset_ne _ _ (by omega), mset_at, mset_ne _ _ (by omega), mset_ne _ _ (by omega)]
      · rw [mset_ne _ _ (by omega), mset_ne _ _ (by omega), mset_at]
      · rw [mset_at, mset_ne _ _ (by omega), mset_ne _ _ (by omega), mset_ne _ _ (by omega)]
  · rw [mset_ne _ _ (by omega), mset_ne _ _ (by omega), mset_ne _ _ (by omega), mset_ne _ _ (by omega)]
set_option maxRecDepth 100000 in
set_option maxHeartbeats 4000000 in
theorem c_J7_fill_53178 (l : Launch) (E : ewE) (M : ewM) (o n : Nat) (hA : ewA o 0 n) (hn : n < 1000000) (x : Int) (h1 : -2147483648 ≤ x) (h2 : x < 2147483648) : Ct l E yJ7_fill_53178 (.code yJ7_fill_53178 cJ7_fill_53178 4 none) 1 [vR E o, vI x] M (fun v M1 => v = none ∧ M1 = mset M o (fun _ => x)) := by
  refine ct_of (L0 := [(0, vR E o), (1, vI x)]) (by decide +kernel) rfl (Nat.le_of_ble_eq_true rfl) ?_
  intro zp ze zs zm za zb zt zc zA hC
  have K5 : ∀ (f : Nat) (k : Int) (g : Int → Int), n - k < f → 0 ≤ k → k ≤ n → (∀ q : Int, 0 ≤ q → q < k → g q = x) → jJ zp l ze (ct_rm 1) zs zm za zb zt zc E zA 4 0 0 (MQ zb (ct_Q E zA (fun v M1 => v = none ∧ M1 = mset M o (fun _ => x))) za zs 0 0 zA) 5 [(0, vR E o), (1, vI x), (2, vI k), (3, vI n)] [] (mset M o g) := by
    intro f
    induction f with
    | zero => intros; omega
    | succ f ih =>
      intro k g i1 i2 i3 hg
      refine jw_iload_n hC dJ7_fill_53178_5 2 rfl rfl ?_
      refine jw_iload_n hC dJ7_fill_53178_6 3 rfl rfl ?_
      refine jw_icmp_ge (tgt := 20) hC dJ7_fill_53178_7 (by decide) (by omega) (by omega) (by omega) (by omega) (fun h7 => ?_) (fun h7 => ?_)
      · skip
        refine jw_ext hA (g := fun _ => x) (fun q q1 q2 => by rw [mset_at]; exact hg q q1 (by omega)) (fun _ => ⟨h1, h2⟩) ?_
        refine jw_vret hC dJ7_fill_53178_20 ?_
        exact ⟨rfl, mset_set _ _ _ _⟩
      · skip
        refine jw_aload_n hC dJ7_fill_53178_10 0 rfl rfl ?_
        refine jw_iload_n hC dJ7_fill_53178_11 2 rfl rfl ?_
        refine jw_iload_n hC dJ7_fill_53178_12 1 rfl rfl ?_
        refine jw_iast hC hA dJ7_fill_53178_13 (by omega) (by omega) (by omega) (by omega) (by omega) ?_
        refine jw_iinc (L' := [(2, _), (0, _), (1, _), (3, _)]) hC dJ7_fill_53178_14 2 rfl (by decide) rfl ?_
        refine jw_goto (tgt := 5) hC dJ7_fill_53178_17 (by decide) ?_
        refine jw_loc (L' := [(0, _), (1, _), (2, _), (3, _)]) [1, 2, 0, 3] rfl ?_
        refine jw_M (mu_mset _ _ _ _ _) ?_
        exact ih _ _ (by omega) (by omega) (by omega) (fun q q1 q2 => by
          by_cases hq : q = k
          · rw [if_pos hq]
          · rw [if_neg hq]; exact hg q q1 (by omega))
  refine jw_iconst hC dJ7_fill_53178_0 ?_
  refine jw_istore_n (L' := [(2, _), (0, _), (1, _)]) hC dJ7_fill_53178_1 rfl (by decide) rfl ?_
  refine jw_aload_n hC dJ7_fill_53178_2 1 rfl rfl ?_
  refine jw_alen hC hA (Or.inl rfl) dJ7_fill_53178_3 ?_
  refine jw_istore_n (L' := [(3, _), (2, _), (0, _), (1, _)]) hC dJ7_fill_53178_4 rfl (by decide) rfl ?_
  refine jw_loc (L' := [(0, _), (1, _), (2, _), (3, _)]) [2, 3, 1, 0] rfl ?_
  refine jw_M (M2 := mset M o (M o)) (mset_id (fun _ => rfl)).symm ?_
  exact K5 (n + 1) 0 (M o) (by omega) (by omega) (by omega) (fun q _ _ => by omega)
set_option maxRecDepth 100000 in
set_option maxHeartbeats 4000000 in
theorem c_X2_makeNew (l : Launch) (E : ewE) (M : ewM) (j : Nat) (hj : j < 10) : Ct l E yX2_makeNew (.code yX2_makeNew cX2_makeNew 1 none) 2 [vR E (5 * j)] M (fun v M1 => v = none ∧ (∀ r, 1 ≤ r → r ≤ 4 → M1 (5 * j + r) = fun _ => 0) ∧ ∀ o, (o < 5 * j + 1 ∨ 5 * j + 4 < o) → M1 o = M o) := by
  refine ct_of (L0 := [(0, vR E (5 * j))]) (by decide +kernel) rfl (Nat.le_of_ble_eq_true rfl) ?_
  intro zp ze zs zm za zb zt zc zA hC
  refine jw_aload_n hC dX2_makeNew_0 0 rfl rfl ?_
  refine jw_getr hC fL_X2_9 (ewR_s0 (j := j) (by omega)) dX2_makeNew_1 ?_
  refine jw_iconst hC dX2_makeNew_4 ?_
  refine jw_callS hC (c_J7_fill_53178 l E _ _ _ (ewA_sheet (j := j) (r := 1) (by omega) (by decide) (by decide)) (by decide) 0 (by decide) (by decide)) sS_X2_24 dX2_makeNew_5 rfl rfl ⟨Nat.le_of_ble_eq_true rfl, Nat.le_of_ble_eq_true rfl⟩ ⟨Nat.zero_le _, Nat.zero_le _⟩ (Nat.le_of_ble_eq_true rfl) (fun v5 M5 g5 => ?_)
  obtain ⟨rfl, rfl⟩ := g5
  refine jw_aload_n hC dX2_makeNew_8 0 rfl rfl ?_
  refine jw_getr hC fL_X2_15 (ewR_s1 (j := j) (by omega)) dX2_makeNew_9 ?_
  refine jw_iconst hC dX2_makeNew_12 ?_
  refine jw_callS hC (c_J7_fill_53178 l E _ _ _ (ewA_sheet (j := j) (r := 2) (by omega) (by decide) (by decide)) (by decide) 0 (by decide) (by decide)) sS_X2_24 dX2_makeNew_13 rfl rfl ⟨Nat.le_of_ble_eq_true rfl, Nat.le_of_ble_eq_true rfl⟩ ⟨Nat.zero_le _, Nat.zero_le _⟩ (Nat.le_of_ble_eq_true rfl) (fun v13 M13 g13 => ?_)
  obtain ⟨rfl, rfl⟩ := g13
  refine jw_aload_n hC dX2_makeNew_16 0 rfl rfl ?_
  refine jw_getr hC fL_X2_18 (ewR_s2 (j := j) (by omega)) dX2_makeNew_17 ?_
  refine jw_iconst hC dX2_makeNew_20 ?_
  refine jw_callS hC (c_J7_fill_53178 l E _ _ _ (ewA_sheet (j := j) (r := 3) (by omega) (by decide) (by decide)) (by decide) 0 (by decide) (by decide)) sS_X2_24 dX2_makeNew_21 rfl rfl ⟨Nat.le_of_ble_eq_true rfl, Nat.le_of_ble_eq_true rfl⟩ ⟨Nat.zero_le _, Nat.zero_le _⟩ (Nat.le_of_ble_eq_true rfl) (fun v21 M21 g21 => ?_)
  obtain ⟨rfl, rfl⟩ := g21
  refine jw_aload_n hC dX2_makeNew_24 0 rfl rfl ?_
  refine jw_getr hC fL_X2_21 (ewR_s3 (j := j) (by omega)) dX2_makeNew_25 ?_
  refine jw_iconst hC dX2_makeNew_28 ?_
  refine jw_callS hC (c_J7_fill_53178 l E _ _ _ (ewA_sheet (j := j) (r := 4) (by omega) (by decide) (by decide)) (by decide) 0 (by decide) (by decide)) sS_X2_24 dX2_makeNew_29 rfl rfl ⟨Nat.le_of_ble_eq_true rfl, Nat.le_of_ble_eq_true rfl⟩ ⟨Nat.zero_le _, Nat.zero_le _⟩ (Nat.le_of_ble_eq_true rfl) (fun v29 M29 g29 => ?_)
  obtain ⟨rfl, rfl⟩ := g29
  refine jw_vret hC dX2_makeNew_32 ?_
  refine ⟨rfl, fun r h1 h4 => ?_, fun o ho => ?_⟩
  · rcases (show r = 1 ∨ r = 2 ∨ r = 3 ∨ r = 4 by omega) with rfl | rfl | rfl | rfl
    · rw [mset_ne _ _ (by omega), mset_ne _ _ (by omega), mset_ne _ _ (by omega), mset_at]
    · rw [mset_ne _ _ (by omega), mset_ne _ _ (by omega), mset_at]
    · rw [mset_ne _ _ (by omega), mset_at]
    · rw [mset_at]
  · rw [mset_ne _ _ (by omega), mset_ne _ _ (by omega), mset_ne _ _ (by omega), mset_ne _ _ (by omega)]
end
section
/-! THE STATE: its methods -/
set_option maxRecDepth 100000 in
set_option maxHeartbeats 4000000 in
theorem c_X3_turnedPoint (l : Launch) (E : ewE) (M : ewM) (j : Nat) (hj : j < 9) (a c r t : Int) (ha : 0 ≤ a ∧ a < 3) (hc : 0 ≤ c ∧ c < 5) (hr : 0 ≤ r ∧ r < 5) (ht : 0 ≤ t ∧ t < 8) : Ct l E yX3_turnedPoint (.code yX3_turnedPoint cX3_turnedPoint 9 (some .int)) 2 [vR E (50 + 3 * j), vI a, vI c, vI r, vI t] M (fun v M1 => v = some (vI (f_tp (M (50 + 3 * j + 1)) a c r t)) ∧ M = M1) := by
  refine ct_of (L0 := [(0, vR E (50 + 3 * j)), (1, vI a), (2, vI c), (3, vI r), (4, vI t)]) (by decide +kernel) rfl (Nat.le_of_ble_eq_true rfl) ?_
  intro zp ze zs zm za zb zt zc zA hC
  have K9 : ∀ (n : Nat) (q x y : Int), 4 - q < n → 0 ≤ q → q ≤ t % 4 → x = f_ta q c r → y = f_tb q c r → jJ zp l ze (ct_rm 2) zs zm za zb zt zc E zA 9 0 0 (MQ zb (ct_Q E zA (fun v M1 => v = some (vI (f_tp (M (50 + 3 * j + 1)) a c r t)) ∧ M = M1)) za zs 0 0 zA) 9 [(0, vR E (50 + 3 * j)), (1, vI a), (2, vI c), (3, vI r), (4, vI t), (5, vI x), (6, vI y), (7, vI q)] [] M := by
    intro n
    induction n with
    | zero => intros; omega
    | succ n ih =>
      intro q x y i1 i2 i3 hx hy
      have hb := f_t_b (q := q) hc hr
      rw [← hx, ← hy] at hb
      refine jw_iload hC dX3_turnedPoint_9 7 rfl ?_
      refine jw_iload hC dX3_turnedPoint_11 4 rfl ?_
      refine jw_iconst hC dX3_turnedPoint_13 ?_
      refine jw_irem hC dX3_turnedPoint_14 (by omega) (by omega) (by omega) (by omega) ?_
      refine jw_icmp_ge (tgt := 38) hC dX3_turnedPoint_15 (by decide) (by omega) (by omega) (by omega) (by omega) (fun h15 => ?_) (fun h15 => ?_)
      · skip
        refine jw_iload hC dX3_turnedPoint_38 4 rfl ?_
        refine jw_iconst hC dX3_turnedPoint_40 ?_
        refine jw_icmp_lt (tgt := 50) hC dX3_turnedPoint_41 (by decide) (by omega) (by omega) (by omega) (by omega) (fun h41 => ?_) (fun h41 => ?_)
        · skip
          refine jw_aload_n hC dX3_turnedPoint_50 0 rfl rfl ?_
          refine jw_getr hC fL_X3_9 (ewR_t0 (j := j) (by omega)) dX3_turnedPoint_51 ?_
          refine jw_iload_n hC dX3_turnedPoint_54 1 rfl rfl ?_
          refine jw_iload hC dX3_turnedPoint_55 5 rfl ?_
          refine jw_iload hC dX3_turnedPoint_57 6 rfl ?_
          refine jw_callSn hC (c_X4_pointIndex l E M _ _ _) sN_X3_80 dX3_turnedPoint_59 rfl rfl ⟨Nat.le_of_ble_eq_true rfl, Nat.le_of_ble_eq_true rfl⟩ ⟨Nat.zero_le _, Nat.zero_le _⟩ (Nat.le_of_ble_eq_true rfl) (fun v59 M59 g59 => ?_)
          obtain ⟨rfl, rfl⟩ := g59
          refine jw_iald hC (ewA_points (j := j) (by omega)) dX3_turnedPoint_62 (by omega) (by omega) (by decide) (fun b62 c62 => ?_)
          refine jw_iret hC dX3_turnedPoint_63 ?_
          refine ⟨?_, rfl⟩
          unfold f_tp f_tc f_tr
          first | rw [if_pos (by omega)] | rw [if_neg (by omega)]
          rw [hx, hy, show q = t % 4 by omega]
        · skip
          refine jw_iconst hC dX3_turnedPoint_44 ?_
          refine jw_iload hC dX3_turnedPoint_45 5 rfl ?_
          refine jw_isub hC dX3_turnedPoint_47 ?_
          refine jw_istore (L' := [(5, _), (0, _), (1, _), (2, _), (3, _), (4, _), (6, _), (7, _)]) hC dX3_turnedPoint_48 (by decide) rfl ?_
          refine jw_aload_n hC dX3_turnedPoint_50 1 rfl rfl ?_
          refine jw_getr hC fL_X3_9 (ewR_t0 (j := j) (by omega)) dX3_turnedPoint_51 ?_
          refine jw_iload_n hC dX3_turnedPoint_54 2 rfl rfl ?_
          refine jw_iload hC dX3_turnedPoint_55 0 rfl ?_
          refine jw_iload hC dX3_turnedPoint_57 6 rfl ?_
          refine jw_callSn hC (c_X4_pointIndex l E M _ _ _) sN_X3_80 dX3_turnedPoint_59 rfl rfl ⟨Nat.le_of_ble_eq_true rfl, Nat.le_of_ble_eq_true rfl⟩ ⟨Nat.zero_le _, Nat.zero_le _⟩ (Nat.le_of_ble_eq_true rfl) (fun v59 M59 g59 => ?_)
          obtain ⟨rfl, rfl⟩ := g59
          refine jw_iald hC (ewA_points (j := j) (by omega)) dX3_turnedPoint_62 (by omega) (by omega) (by decide) (fun b62 c62 => ?_)
          refine jw_iret hC dX3_turnedPoint_63 ?_
          refine ⟨?_, rfl⟩
          unfold f_tp f_tc f_tr
          first | rw [if_pos (by omega)] | rw [if_neg (by omega)]
          rw [hx, hy, show q = t % 4 by omega]
      · skip
        refine jw_iconst hC dX3_turnedPoint_18 ?_
        refine jw_iload hC dX3_turnedPoint_19 5 rfl ?_
        refine jw_isub hC dX3_turnedPoint_21 ?_
        refine jw_istore (L' := [(8, _), (0, _), (1, _), (2, _), (3, _), (4, _), (5, _), (6, _), (7, _)]) hC dX3_turnedPoint_22 (by decide) rfl ?_
        refine jw_iload hC dX3_turnedPoint_24 7 rfl ?_
        refine jw_istore (L' := [(5, _), (8, _), (0, _), (1, _), (2, _), (3, _), (4, _), (6, _), (7, _)]) hC dX3_turnedPoint_26 (by decide) rfl ?_
        refine jw_iload hC dX3_turnedPoint_28 1 rfl ?_
        refine jw_istore (L' := [(6, _), (5, _), (8, _), (0, _), (1, _), (2, _), (3, _), (4, _), (7, _)]) hC dX3_turnedPoint_30 (by decide) rfl ?_
        refine jw_iinc (L' := [(7, _), (6, _), (5, _), (8, _), (0, _), (1, _), (2, _), (3, _), (4, _)]) hC dX3_turnedPoint_32 8 rfl (by decide) rfl ?_
        refine jw_goto (tgt := 9) hC dX3_turnedPoint_35 (by decide) ?_
        refine jw_loc (L' := [(0, _), (1, _), (2, _), (3, _), (4, _), (5, _), (6, _), (7, _)]) [4, 5, 6, 7, 8, 2, 1, 0] rfl ?_
        have hs := f_ta_s (q := q) (c := c) (r := r) i2 (by omega)
        exact ih _ _ _ (by omega) (by omega) (by omega) (by rw [hs.1, hy]) (by rw [hs.2, hx])
  refine jw_iload_n hC dX3_turnedPoint_0 2 rfl rfl ?_
  refine jw_istore (L' := [(5, _), (0, _), (1, _), (2, _), (3, _), (4, _)]) hC dX3_turnedPoint_1 (by decide) rfl ?_
  refine jw_iload_n hC dX3_turnedPoint_3 4 rfl rfl ?_
  refine jw_istore (L' := [(6, _), (5, _), (0, _), (1, _), (2, _), (3, _), (4, _)]) hC dX3_turnedPoint_4 (by decide) rfl ?_
  refine jw_iconst hC dX3_turnedPoint_6 ?_
  refine jw_istore (L' := [(7, _), (6, _), (5, _), (0, _), (1, _), (2, _), (3, _), (4, _)]) hC dX3_turnedPoint_7 (by decide) rfl ?_
  refine jw_loc (L' := [(0, _), (1, _), (2, _), (3, _), (4, _), (5, _), (6, _), (7, _)]) [3, 4, 5, 6, 7, 2, 1, 0] rfl ?_
  exact K9 5 0 _ _ (by omega) (by omega) (by omega) rfl rfl
set_option maxRecDepth 100000 in
set_option maxHeartbeats 4000000 in
theorem c_X3_turnDie (l : Launch) (E : ewE) (M : ewM) (j : Nat) (hj : j < 9) (a t : Int) (ha : 0 ≤ a ∧ a < 3) (ht : 0 ≤ t ∧ t < 8) (hP : pD (M (50 + 3 * j + 1))) : Ct l E yX3_turnDie (.code yX3_turnDie cX3_turnDie 6 none) 3 [vR E (50 + 3 * j), vI a, vI t, vR E 83] M (fun v M1 => v = none ∧ M1 = mset M 83 (f_rel (M (50 + 3 * j + 1)) a t)) := by
  refine ct_of (L0 := [(0, vR E (50 + 3 * j)), (1, vI a), (2, vI t), (3, vR E 83)]) (by decide +kernel) rfl (Nat.le_of_ble_eq_true rfl) ?_
  intro zp ze zs zm za zb zt zc zA hC
  have K12 : ∀ (n : Nat) (row col : Int) (g : Int → Int), 30 - (6 * row + col) < n → 0 ≤ row → row < 5 → 0 ≤ col → col ≤ 5 → (∀ q : Int, 0 ≤ q → q < 5 * row + col → g q = f_rel (M (50 + 3 * j + 1)) a t q) → jJ zp l ze (ct_rm 3) zs zm za zb zt zc E zA 6 0 0 (MQ zb (ct_Q E zA (fun v M1 => v = none ∧ M1 = mset M 83 (f_rel (M (50 + 3 * j + 1)) a t))) za zs 0 0 zA) 12 [(0, vR E (50 + 3 * j)), (1, vI a), (2, vI t), (3, vR E 83), (4, vI row), (5, vI col)] [] (mset M 83 g) := by
    intro n
    induction n with
    | zero => intros; omega
    | succ n ih =>
      intro row col g i1 i2 i3 i4 i5 hg
      refine jw_iload hC dX3_turnDie_12 5 rfl ?_
      refine jw_iconst hC dX3_turnDie_14 ?_
      refine jw_icmp_ge (tgt := 43) hC dX3_turnDie_15 (by decide) (by omega) (by omega) (by omega) (by omega) (fun h15 => ?_) (fun h15 => ?_)
      · skip
        refine jw_iinc (L' := [(4, _), (0, _), (1, _), (2, _), (3, _), (5, _)]) hC dX3_turnDie_43 4 rfl (by decide) rfl ?_
        refine jw_goto (tgt := 3) hC dX3_turnDie_46 (by decide) ?_
        refine jw_iload hC dX3_turnDie_3 0 rfl ?_
        refine jw_iconst hC dX3_turnDie_5 ?_
        refine jw_icmp_ge (tgt := 49) hC dX3_turnDie_6 (by decide) (by omega) (by omega) (by omega) (by omega) (fun h6 => ?_) (fun h6 => ?_)
        · skip
          refine jw_ext ewA_83 (g := f_rel (M (50 + 3 * j + 1)) a t) (fun q q1 q2 => by rw [mset_at]; exact hg q q1 (by omega)) (fun q => by have := f_rel_D hP a t q; omega) ?_
          refine jw_vret hC dX3_turnDie_49 ?_
          exact ⟨rfl, mset_set _ _ _ _⟩
        · skip
          refine jw_iconst hC dX3_turnDie_9 ?_
          refine jw_istore (L' := [(5, _), (4, _), (0, _), (1, _), (2, _), (3, _)]) hC dX3_turnDie_10 (by decide) rfl ?_
          refine jw_loc (L' := [(0, _), (1, _), (2, _), (3, _), (4, _), (5, _)]) [2, 3, 4, 5, 1, 0] rfl ?_
          first
          | exact ih _ _ _ (by omega) (by omega) (by omega) (by omega) (by omega) (fun q q1 q2 => hg q q1 (by omega))
          | (refine jw_M (mu_mset _ _ _ _ _) ?_
             exact ih _ _ _ (by omega) (by omega) (by omega) (by omega) (by omega) (fun q q1 q2 => by
              by_cases hq : q = row * 5 + col
              · rw [if_pos hq, hq]
                unfold f_rel
                rw [show (row * 5 + col) % 5 = col by omega, show (row * 5 + col) / 5 = row by omega]
              · rw [if_neg hq]; exact hg q q1 (by omega)))
      · skip
        refine jw_aload_n hC dX3_turnDie_18 3 rfl rfl ?_
        refine jw_iload hC dX3_turnDie_19 4 rfl ?_
        refine jw_iconst hC dX3_turnDie_21 ?_
        refine jw_imul hC dX3_turnDie_22 ?_
        refine jw_iload hC dX3_turnDie_23 5 rfl ?_
        refine jw_iadd hC dX3_turnDie_25 ?_
        refine jw_aload_n hC dX3_turnDie_26 0 rfl rfl ?_
        refine jw_iload_n hC dX3_turnDie_27 1 rfl rfl ?_
        refine jw_iload hC dX3_turnDie_28 5 rfl ?_
        refine jw_iload hC dX3_turnDie_30 4 rfl ?_
        refine jw_iload_n hC dX3_turnDie_32 2 rfl rfl ?_
        refine jw_callV hC (c_X3_turnedPoint l E (mset M 83 g) j hj _ _ _ _ ha ⟨by omega, by omega⟩ ⟨by omega, by omega⟩ ht) sV_X3_84 (ewO_state (j := j) (by omega)) dX3_turnDie_33 rfl rfl ⟨Nat.le_of_ble_eq_true rfl, Nat.le_of_ble_eq_true rfl⟩ ⟨Nat.zero_le _, Nat.zero_le _⟩ (Nat.le_of_ble_eq_true rfl) (fun v33 M33 g33 => ?_)
        obtain ⟨rfl, rfl⟩ := g33
        rw [mset_ne M g (by omega)]
        have hb := hP (a * 25 + f_tr t col row * 5 + f_tc t col row)
        have hb : 0 ≤ f_tp (M (50 + 3 * j + 1)) a col row t ∧ f_tp (M (50 + 3 * j + 1)) a col row t ≤ 9 := hb
        refine jw_iast hC ewA_83 dX3_turnDie_36 (by omega) (by omega) (by decide) (by omega) (by omega) ?_
        refine jw_iinc (L' := [(5, _), (0, _), (1, _), (2, _), (3, _), (4, _)]) hC dX3_turnDie_37 5 rfl (by decide) rfl ?_
        refine jw_goto (tgt := 12) hC dX3_turnDie_40 (by decide) ?_
        refine jw_loc (L' := [(0, _), (1, _), (2, _), (3, _), (4, _), (5, _)]) [1, 2, 3, 4, 5, 0] rfl ?_
        first
        | exact ih _ _ _ (by omega) (by omega) (by omega) (by omega) (by omega) (fun q q1 q2 => hg q q1 (by omega))
        | (refine jw_M (mu_mset _ _ _ _ _) ?_
           exact ih _ _ _ (by omega) (by omega) (by omega) (by omega) (by omega) (fun q q1 q2 => by
            by_cases hq : q = row * 5 + col
            · rw [if_pos hq, hq]
              unfold f_rel
              rw [show (row * 5 + col) % 5 = col by omega, show (row * 5 + col) / 5 = row by omega]
            · rw [if_neg hq]; exact hg q q1 (by omega)))
  refine jw_iconst hC dX3_turnDie_0 ?_
  refine jw_istore (L' := [(4, _), (0, _), (1, _), (2, _), (3, _)]) hC dX3_turnDie_1 (by decide) rfl ?_
  refine jw_iload hC dX3_turnDie_3 0 rfl ?_
  refine jw_iconst hC dX3_turnDie_5 ?_
  refine jw_icmp_ge (tgt := 49) hC dX3_turnDie_6 (by decide) (by omega) (by omega) (by omega) (by omega) (fun h6 => ?_) (fun h6 => ?_)
  · skip
    exfalso; omega
  · skip
    refine jw_iconst hC dX3_turnDie_9 ?_
    refine jw_istore (L' := [(5, _), (4, _), (0, _), (1, _), (2, _), (3, _)]) hC dX3_turnDie_10 (by decide) rfl ?_
    refine jw_loc (L' := [(0, _), (1, _), (2, _), (3, _), (4, _), (5, _)]) [2, 3, 4, 5, 1, 0] rfl ?_
    refine jw_M (M2 := mset M 83 (M 83)) (mset_id (fun _ => rfl)).symm ?_
    exact K12 31 0 0 (M 83) (by omega) (by omega) (by omega) (by omega) (by omega) (fun q _ _ => by omega)
set_option maxRecDepth 100000 in
set_option maxHeartbeats 4000000 in
theorem c_X3_raisedPoints (l : Launch) (E : ewE) (M : ewM) (j : Nat) (hj : j < 9) (a : Int) (ha : 0 ≤ a ∧ a < 3) : Ct l E yX3_raisedPoints (.code yX3_raisedPoints cX3_raisedPoints 4 (some .int)) 1 [vR E (50 + 3 * j), vI a] M (fun v M1 => v = some (vI (f_sum (fun q => if 0 < M (50 + 3 * j + 1) (a * 25 + q) then 1 else 0) 25)) ∧ M = M1) := by
  refine ct_of (L0 := [(0, vR E (50 + 3 * j)), (1, vI a)]) (by decide +kernel) rfl (Nat.le_of_ble_eq_true rfl) ?_
  intro zp ze zs zm za zb zt zc zA hC
  have K4 : ∀ (n : Nat) (k x : Int), 25 - k < n → 0 ≤ k → k ≤ 25 → x = f_sum (fun q => if 0 < M (50 + 3 * j + 1) (a * 25 + q) then 1 else 0) k.toNat → jJ zp l ze (ct_rm 1) zs zm za zb zt zc E zA 4 0 0 (MQ zb (ct_Q E zA (fun v M1 => v = some (vI (f_sum (fun q => if 0 < M (50 + 3 * j + 1) (a * 25 + q) then 1 else 0) 25)) ∧ M = M1)) za zs 0 0 zA) 4 [(0, vR E (50 + 3 * j)), (1, vI a), (2, vI x), (3, vI k)] [] M := by
    intro n
    induction n with
    | zero => intros; omega
    | succ n ih =>
      intro k x i1 i2 i3 hx
      refine jw_iload_n hC dX3_raisedPoints_4 3 rfl rfl ?_
      refine jw_bipush hC dX3_raisedPoints_5 (by decide) ?_
      refine jw_icmp_ge (tgt := 33) hC dX3_raisedPoints_7 (by decide) (by omega) (by omega) (by omega) (by omega) (fun h7 => ?_) (fun h7 => ?_)
      · skip
        refine jw_iload_n hC dX3_raisedPoints_33 2 rfl rfl ?_
        refine jw_iret hC dX3_raisedPoints_34 ?_
        refine ⟨?_, rfl⟩
        rw [hx, show k = 25 by omega]
        rfl
      · skip
        refine jw_aload_n hC dX3_raisedPoints_10 0 rfl rfl ?_
        refine jw_getr hC fL_X3_9 (ewR_t0 (j := j) (by omega)) dX3_raisedPoints_11 ?_
        refine jw_iload_n hC dX3_raisedPoints_14 1 rfl rfl ?_
        refine jw_bipush hC dX3_raisedPoints_15 (by decide) ?_
        refine jw_imul hC dX3_raisedPoints_17 ?_
        refine jw_iload_n hC dX3_raisedPoints_18 3 rfl rfl ?_
        refine jw_iadd hC dX3_raisedPoints_19 ?_
        refine jw_iald hC (ewA_points (j := j) (by omega)) dX3_raisedPoints_20 (by omega) (by omega) (by decide) (fun b20 c20 => ?_)
        refine jw_if_le (tgt := 27) hC dX3_raisedPoints_21 (by decide) (by omega) (by omega) (fun h21 => ?_) (fun h21 => ?_)
        · skip
          refine jw_iinc (L' := [(3, _), (0, _), (1, _), (2, _)]) hC dX3_raisedPoints_27 3 rfl (by decide) rfl ?_
          refine jw_goto (tgt := 4) hC dX3_raisedPoints_30 (by decide) ?_
          refine jw_loc (L' := [(0, _), (1, _), (2, _), (3, _)]) [1, 2, 3, 0] rfl ?_
          refine ih _ _ (by omega) (by omega) (by omega) ?_
          rw [f_sum_s _ i2, hx]
          first | (rw [if_pos (by omega)]) | (rw [if_neg (by omega)]; omega)
        · skip
          refine jw_iinc (L' := [(2, _), (0, _), (1, _), (3, _)]) hC dX3_raisedPoints_24 2 rfl (by decide) rfl ?_
          refine jw_iinc (L' := [(3, _), (2, _), (0, _), (1, _)]) hC dX3_raisedPoints_27 3 rfl (by decide) rfl ?_
          refine jw_goto (tgt := 4) hC dX3_raisedPoints_30 (by decide) ?_
          refine jw_loc (L' := [(0, _), (1, _), (2, _), (3, _)]) [2, 3, 1, 0] rfl ?_
          refine ih _ _ (by omega) (by omega) (by omega) ?_
          rw [f_sum_s _ i2, hx]
          first | (rw [if_pos (by omega)]) | (rw [if_neg (by omega)]; omega)
  refine jw_iconst hC dX3_raisedPoints_0 ?_
  refine jw_istore_n (L' := [(2, _), (0, _), (1, _)]) hC dX3_raisedPoints_1 rfl (by decide) rfl ?_
  refine jw_iconst hC dX3_raisedPoints_2 ?_
  refine jw_istore_n (L' := [(3, _), (2, _), (0, _), (1, _)]) hC dX3_raisedPoints_3 rfl (by decide) rfl ?_
  refine jw_loc (L' := [(0, _), (1, _), (2, _), (3, _)]) [2, 3, 1, 0] rfl ?_
  exact K4 26 0 0 (by omega) (by omega) (by omega) rfl
set_option maxRecDepth 100000 in
set_option maxHeartbeats 4000000 in
theorem c_X3_isFoilReadyOver (l : Launch) (E : ewE) (M : ewM) (j : Nat) (hj : j < 9) (p : Int) (hp : 0 ≤ p ∧ p < 144) : Ct l E yX3_isFoilReadyOver (.code yX3_isFoilReadyOver cX3_isFoilReadyOver 4 (some .boolean)) 1 [vR E (50 + 3 * j), vI p] M (fun v M1 => v = some (vI (if f_ov (M (50 + 3 * j)) p then 1 else 0)) ∧ M = M1) := by
  refine ct_of (L0 := [(0, vR E (50 + 3 * j)), (1, vI p)]) (by decide +kernel) rfl (Nat.le_of_ble_eq_true rfl) ?_
  intro zp ze zs zm za zb zt zc zA hC
  refine jw_iload_n hC dX3_isFoilReadyOver_0 1 rfl rfl ?_
  refine jw_bipush hC dX3_isFoilReadyOver_1 (by decide) ?_
  refine jw_irem hC dX3_isFoilReadyOver_3 (by omega) (by omega) (by omega) (by omega) ?_
  refine jw_istore_n (L' := [(2, _), (0, _), (1, _)]) hC dX3_isFoilReadyOver_4 rfl (by decide) rfl ?_
  refine jw_iload_n hC dX3_isFoilReadyOver_5 2 rfl rfl ?_
  refine jw_bipush hC dX3_isFoilReadyOver_6 (by decide) ?_
  refine jw_idiv hC dX3_isFoilReadyOver_8 (by omega) (by omega) (by omega) (by omega) ?_
  refine jw_istore_n (L' := [(3, _), (2, _), (0, _), (1, _)]) hC dX3_isFoilReadyOver_9 rfl (by decide) rfl ?_
  refine jw_aload_n hC dX3_isFoilReadyOver_10 2 rfl rfl ?_
  refine jw_geti hC fL_X3_65.r (ewF_t (j := j) (k := 10) (by omega) (by decide) (by decide)) (kI := 10) rfl dX3_isFoilReadyOver_11 (by omega) (fun b11 c11 => ?_)
  refine jw_if_eq (tgt := 53) hC dX3_isFoilReadyOver_14 (by decide) (by omega) (by omega) (fun h14 => ?_) (fun h14 => ?_)
  · skip
    refine jw_iconst hC dX3_isFoilReadyOver_53 ?_
    refine jw_zret hC (by omega) dX3_isFoilReadyOver_54 ?_
    refine ⟨?_, rfl⟩
    first
    | rw [if_pos ⟨by assumption, by omega, by omega, by omega, by omega⟩]
    | rw [if_neg (by intro ho; obtain ⟨o1, o2, o3, o4, o5⟩ := ho; first | omega | exact o1 (by omega))]
  · skip
    refine jw_iload_n hC dX3_isFoilReadyOver_17 1 rfl rfl ?_
    refine jw_aload_n hC dX3_isFoilReadyOver_18 2 rfl rfl ?_
    refine jw_geti hC fL_X3_68.r (ewF_t (j := j) (k := 11) (by omega) (by decide) (by decide)) (kI := 11) rfl dX3_isFoilReadyOver_19 (by omega) (fun b19 c19 => ?_)
    refine jw_icmp_lt (tgt := 53) hC dX3_isFoilReadyOver_22 (by decide) (by omega) (by omega) (by omega) (by omega) (fun h22 => ?_) (fun h22 => ?_)
    · skip
      refine jw_iconst hC dX3_isFoilReadyOver_53 ?_
      refine jw_zret hC (by omega) dX3_isFoilReadyOver_54 ?_
      refine ⟨?_, rfl⟩
      first
      | rw [if_pos ⟨by assumption, by omega, by omega, by omega, by omega⟩]
      | rw [if_neg (by intro ho; obtain ⟨o1, o2, o3, o4, o5⟩ := ho; first | omega | exact o1 (by omega))]
    · skip
      refine jw_iload_n hC dX3_isFoilReadyOver_25 1 rfl rfl ?_
      refine jw_aload_n hC dX3_isFoilReadyOver_26 2 rfl rfl ?_
      refine jw_geti hC fL_X3_74.r (ewF_t (j := j) (k := 13) (by omega) (by decide) (by decide)) (kI := 13) rfl dX3_isFoilReadyOver_27 (by omega) (fun b27 c27 => ?_)
      refine jw_icmp_gt (tgt := 53) hC dX3_isFoilReadyOver_30 (by decide) (by omega) (by omega) (by omega) (by omega) (fun h30 => ?_) (fun h30 => ?_)
      · skip
        refine jw_iconst hC dX3_isFoilReadyOver_53 ?_
        refine jw_zret hC (by omega) dX3_isFoilReadyOver_54 ?_
        refine ⟨?_, rfl⟩
        first
        | rw [if_pos ⟨by assumption, by omega, by omega, by omega, by omega⟩]
        | rw [if_neg (by intro ho; obtain ⟨o1, o2, o3, o4, o5⟩ := ho; first | omega | exact o1 (by omega))]
      · skip
        refine jw_iload_n hC dX3_isFoilReadyOver_33 0 rfl rfl ?_
        refine jw_aload_n hC dX3_isFoilReadyOver_34 2 rfl rfl ?_
        refine jw_geti hC fL_X3_71.r (ewF_t (j := j) (k := 12) (by omega) (by decide) (by decide)) (kI := 12) rfl dX3_isFoilReadyOver_35 (by omega) (fun b35 c35 => ?_)
        refine jw_icmp_lt (tgt := 53) hC dX3_isFoilReadyOver_38 (by decide) (by omega) (by omega) (by omega) (by omega) (fun h38 => ?_) (fun h38 => ?_)
        · skip
          refine jw_iconst hC dX3_isFoilReadyOver_53 ?_
          refine jw_zret hC (by omega) dX3_isFoilReadyOver_54 ?_
          refine ⟨?_, rfl⟩
          first
          | rw [if_pos ⟨by assumption, by omega, by omega, by omega, by omega⟩]
          | rw [if_neg (by intro ho; obtain ⟨o1, o2, o3, o4, o5⟩ := ho; first | omega | exact o1 (by omega))]
        · skip
          refine jw_iload_n hC dX3_isFoilReadyOver_41 0 rfl rfl ?_
          refine jw_aload_n hC dX3_isFoilReadyOver_42 2 rfl rfl ?_
          refine jw_geti hC fL_X3_77.r (ewF_t (j := j) (k := 14) (by omega) (by decide) (by decide)) (kI := 14) rfl dX3_isFoilReadyOver_43 (by omega) (fun b43 c43 => ?_)
          refine jw_icmp_gt (tgt := 53) hC dX3_isFoilReadyOver_46 (by decide) (by omega) (by omega) (by omega) (by omega) (fun h46 => ?_) (fun h46 => ?_)
          · skip
            refine jw_iconst hC dX3_isFoilReadyOver_53 ?_
            refine jw_zret hC (by omega) dX3_isFoilReadyOver_54 ?_
            refine ⟨?_, rfl⟩
            first
            | rw [if_pos ⟨by assumption, by omega, by omega, by omega, by omega⟩]
            | rw [if_neg (by intro ho; obtain ⟨o1, o2, o3, o4, o5⟩ := ho; first | omega | exact o1 (by omega))]
          · skip
            refine jw_iconst hC dX3_isFoilReadyOver_49 ?_
            refine jw_goto (tgt := 54) hC dX3_isFoilReadyOver_50 (by decide) ?_
            refine jw_zret hC (by omega) dX3_isFoilReadyOver_54 ?_
            refine ⟨?_, rfl⟩
            first
            | rw [if_pos ⟨by assumption, by omega, by omega, by omega, by omega⟩]
            | rw [if_neg (by intro ho; obtain ⟨o1, o2, o3, o4, o5⟩ := ho; first | omega | exact o1 (by omega))]
set_option maxRecDepth 100000 in
set_option maxHeartbeats 4000000 in
theorem c_X3_stickFoil (l : Launch) (E : ewE) (M : ewM) (j : Nat) (hj : j < 9) (c r : Int) (h1 : -1000000000000 ≤ c) (h2 : c ≤ 1000000000000) (h3 : -1000000000000 ≤ r) (h4 : r ≤ 1000000000000) : Ct l E yX3_stickFoil (.code yX3_stickFoil cX3_stickFoil 8 none) 3 [vR E (50 + 3 * j), vR E 83, vJ c, vJ r] M (fun v M1 => v = none ∧ M1 (5 * j + 2) = f_stk (M (50 + 3 * j)) (M 83) c r (M (5 * j + 2)) 25 ∧ M1 (50 + 3 * j) = (fun k => if k = 10 then 0 else M (50 + 3 * j) k) ∧ ∀ o, o ≠ 5 * j + 2 → o ≠ 50 + 3 * j → M1 o = M o) := by
  refine ct_of (L0 := [(0, vR E (50 + 3 * j)), (1, vR E 83), (2, vJ c), (4, vJ r)]) (by decide +kernel) rfl (Nat.le_of_ble_eq_true rfl) ?_
  intro zp ze zs zm za zb zt zc zA hC
  have K3 : ∀ (n : Nat) (k : Int) (M1 : ewM), 25 - k < n → 0 ≤ k → k ≤ 25 → M1 (5 * j + 2) = f_stk (M (50 + 3 * j)) (M 83) c r (M (5 * j + 2)) k.toNat → (∀ o, o ≠ 5 * j + 2 → M1 o = M o) → jJ zp l ze (ct_rm 3) zs zm za zb zt zc E zA 8 0 0 (MQ zb (ct_Q E zA (fun v M1 => v = none ∧ M1 (5 * j + 2) = f_stk (M (50 + 3 * j)) (M 83) c r (M (5 * j + 2)) 25 ∧ M1 (50 + 3 * j) = (fun k => if k = 10 then 0 else M (50 + 3 * j) k) ∧ ∀ o, o ≠ 5 * j + 2 → o ≠ 50 + 3 * j → M1 o = M o)) za zs 0 0 zA) 3 [(0, vR E (50 + 3 * j)), (1, vR E 83), (2, vJ c), (4, vJ r), (6, vI k)] [] M1 := by
    intro n
    induction n with
    | zero => intros; omega
    | succ n ih =>
      intro k M1 i1 i2 i3 g1 g3
      refine jw_iload hC dX3_stickFoil_3 4 rfl ?_
      refine jw_bipush hC dX3_stickFoil_5 (by decide) ?_
      refine jw_icmp_ge (tgt := 62) hC dX3_stickFoil_7 (by decide) (by omega) (by omega) (by omega) (by omega) (fun h7 => ?_) (fun h7 => ?_)
      · skip
        refine jw_aload_n hC dX3_stickFoil_62 0 rfl rfl ?_
        refine jw_iconst hC dX3_stickFoil_63 ?_
        refine jw_puti hC fL_X3_65 (ewF_t (j := j) (k := 10) (by omega) (by decide) (by decide)) (kI := 10) rfl dX3_stickFoil_64 (by omega) (by omega) ?_
        refine jw_vret hC dX3_stickFoil_67 ?_
        refine ⟨rfl, ?_, ?_, fun o o1 o2 => ?_⟩
        · rw [mu_ne _ _ _ (by omega), g1, show k = 25 by omega]; rfl
        · rw [mu_at, g3 _ (by omega)]
        · rw [mu_ne _ _ _ o2]; exact g3 o o1
      · skip
        refine jw_iload hC dX3_stickFoil_10 4 rfl ?_
        refine jw_lload_n hC dX3_stickFoil_12 2 rfl rfl ?_
        refine jw_lload hC dX3_stickFoil_13 3 rfl ?_
        refine jw_callSn hC (c_X4_placeUnder l E M1 _ _ _ ⟨by omega, by omega⟩ (by omega) (by omega) (by omega) (by omega)) sN_X3_88 dX3_stickFoil_15 rfl rfl ⟨Nat.le_of_ble_eq_true rfl, Nat.le_of_ble_eq_true rfl⟩ ⟨Nat.zero_le _, Nat.zero_le _⟩ (Nat.le_of_ble_eq_true rfl) (fun v15 M15 g15 => ?_)
        obtain ⟨rfl, rfl⟩ := g15
        have hp := f_pu_b k c r
        refine jw_istore (L' := [(7, _), (0, _), (1, _), (2, _), (4, _), (6, _)]) hC dX3_stickFoil_18 (by decide) rfl ?_
        refine jw_aload_n hC dX3_stickFoil_20 2 rfl rfl ?_
        refine jw_iload hC dX3_stickFoil_21 5 rfl ?_
        refine jw_iald hC ewA_83 dX3_stickFoil_23 (by omega) (by omega) (by decide) (fun b23 c23 => ?_)
        rw [g3 83 (by omega)] at b23 c23 ⊢
        refine jw_if_le (tgt := 56) hC dX3_stickFoil_24 (by decide) (by omega) (by omega) (fun h24 => ?_) (fun h24 => ?_)
        · skip
          refine jw_iinc (L' := [(6, _), (7, _), (0, _), (1, _), (2, _), (4, _)]) hC dX3_stickFoil_56 5 rfl (by decide) rfl ?_
          refine jw_goto (tgt := 3) hC dX3_stickFoil_59 (by decide) ?_
          refine jw_loc (L' := [(0, _), (1, _), (2, _), (4, _), (6, _)]) [2, 3, 4, 5, 0] rfl ?_
          refine ih _ _ (by omega) (by omega) (by omega) ?_ ?_
          · rw [f_stk_s _ _ _ _ _ i2]
            have e50 := g3 (50 + 3 * j) (by omega)
            first
            | (rw [if_neg (by rintro ⟨o1, o2, o3⟩; omega)]; exact g1)
            | (rw [if_neg (by rintro ⟨o1, o2, o3⟩; rw [if_pos o3] at h39; omega)]; exact g1)
            | (rw [if_pos ⟨by omega, by omega, Decidable.by_contra (fun o3 => by rw [if_neg o3] at h39; omega)⟩, mu_at, g1, e50])
          · intro o o1
            first
            | exact g3 o o1
            | (rw [mu_ne _ _ _ o1]; exact g3 o o1)
        · skip
          refine jw_iload hC dX3_stickFoil_27 0 rfl ?_
          refine jw_iconst hC dX3_stickFoil_29 ?_
          refine jw_icmp_eq (tgt := 56) hC dX3_stickFoil_30 (by decide) (by omega) (by omega) (by omega) (by omega) (fun h30 => ?_) (fun h30 => ?_)
          · skip
            refine jw_iinc (L' := [(6, _), (7, _), (0, _), (1, _), (2, _), (4, _)]) hC dX3_stickFoil_56 5 rfl (by decide) rfl ?_
            refine jw_goto (tgt := 3) hC dX3_stickFoil_59 (by decide) ?_
            refine jw_loc (L' := [(0, _), (1, _), (2, _), (4, _), (6, _)]) [2, 3, 4, 5, 0] rfl ?_
            refine ih _ _ (by omega) (by omega) (by omega) ?_ ?_
            · rw [f_stk_s _ _ _ _ _ i2]
              have e50 := g3 (50 + 3 * j) (by omega)
              first
              | (rw [if_neg (by rintro ⟨o1, o2, o3⟩; omega)]; exact g1)
              | (rw [if_neg (by rintro ⟨o1, o2, o3⟩; rw [if_pos o3] at h39; omega)]; exact g1)
              | (rw [if_pos ⟨by omega, by omega, Decidable.by_contra (fun o3 => by rw [if_neg o3] at h39; omega)⟩, mu_at, g1, e50])
            · intro o o1
              first
              | exact g3 o o1
              | (rw [mu_ne _ _ _ o1]; exact g3 o o1)
          · skip
            refine jw_aload_n hC dX3_stickFoil_33 1 rfl rfl ?_
            refine jw_iload hC dX3_stickFoil_34 0 rfl ?_
            refine jw_callV hC (c_X3_isFoilReadyOver l E M1 j hj _ ⟨by omega, by omega⟩) sV_X3_92 (ewO_state (j := j) (by omega)) dX3_stickFoil_36 rfl rfl ⟨Nat.le_of_ble_eq_true rfl, Nat.le_of_ble_eq_true rfl⟩ ⟨Nat.zero_le _, Nat.zero_le _⟩ (Nat.le_of_ble_eq_true rfl) (fun v36 M36 g36 => ?_)
            obtain ⟨rfl, rfl⟩ := g36
            rw [g3 (50 + 3 * j) (by omega)]
            have hov : (if f_ov (M (50 + 3 * j)) (f_pu k c r) then (1 : Int) else 0) = 0 ∨ (if f_ov (M (50 + 3 * j)) (f_pu k c r) then (1 : Int) else 0) = 1 := by split <;> omega
            refine jw_if_eq (tgt := 56) hC dX3_stickFoil_39 (by decide) (by omega) (by omega) (fun h39 => ?_) (fun h39 => ?_)
            · skip
              refine jw_iinc (L' := [(6, _), (7, _), (0, _), (1, _), (2, _), (4, _)]) hC dX3_stickFoil_56 5 rfl (by decide) rfl ?_
              refine jw_goto (tgt := 3) hC dX3_stickFoil_59 (by decide) ?_
              refine jw_loc (L' := [(0, _), (1, _), (2, _), (4, _), (6, _)]) [2, 3, 4, 5, 0] rfl ?_
              refine ih _ _ (by omega) (by omega) (by omega) ?_ ?_
              · rw [f_stk_s _ _ _ _ _ i2]
                have e50 := g3 (50 + 3 * j) (by omega)
                first
                | (rw [if_neg (by rintro ⟨o1, o2, o3⟩; omega)]; exact g1)
                | (rw [if_neg (by rintro ⟨o1, o2, o3⟩; rw [if_pos o3] at h39; omega)]; exact g1)
                | (rw [if_pos ⟨by omega, by omega, Decidable.by_contra (fun o3 => by rw [if_neg o3] at h39; omega)⟩, mu_at, g1, e50])
              · intro o o1
                first
                | exact g3 o o1
                | (rw [mu_ne _ _ _ o1]; exact g3 o o1)
            · skip
              refine jw_aload_n hC dX3_stickFoil_42 1 rfl rfl ?_
              refine jw_getr hC fL_X3_29 (ewR_t2 (j := j) (by omega)) dX3_stickFoil_43 ?_
              refine jw_getr hC fL_X3_96 (ewR_s1 (j := j) (by omega)) dX3_stickFoil_46 ?_
              refine jw_iload hC dX3_stickFoil_49 0 rfl ?_
              refine jw_aload_n hC dX3_stickFoil_51 1 rfl rfl ?_
              refine jw_geti hC fL_X3_65.r (ewF_t (j := j) (k := 10) (by omega) (by decide) (by decide)) (kI := 10) rfl dX3_stickFoil_52 (by omega) (fun b52 c52 => ?_)
              refine jw_iast hC (ewA_sheet (j := j) (r := 2) (by omega) (by decide) (by decide)) dX3_stickFoil_55 (by omega) (by omega) (by decide) (by omega) (by omega) ?_
              refine jw_iinc (L' := [(6, _), (7, _), (0, _), (1, _), (2, _), (4, _)]) hC dX3_stickFoil_56 5 rfl (by decide) rfl ?_
              refine jw_goto (tgt := 3) hC dX3_stickFoil_59 (by decide) ?_
              refine jw_loc (L' := [(0, _), (1, _), (2, _), (4, _), (6, _)]) [2, 3, 4, 5, 0] rfl ?_
              refine ih _ _ (by omega) (by omega) (by omega) ?_ ?_
              · rw [f_stk_s _ _ _ _ _ i2]
                have e50 := g3 (50 + 3 * j) (by omega)
                first
                | (rw [if_neg (by rintro ⟨o1, o2, o3⟩; omega)]; exact g1)
                | (rw [if_neg (by rintro ⟨o1, o2, o3⟩; rw [if_pos o3] at h39; omega)]; exact g1)
                | (rw [if_pos ⟨by omega, by omega, Decidable.by_contra (fun o3 => by rw [if_neg o3] at h39; omega)⟩, mu_at, g1, e50])
              · intro o o1
                first
                | exact g3 o o1
                | (rw [mu_ne _ _ _ o1]; exact g3 o o1)
  refine jw_iconst hC dX3_stickFoil_0 ?_
  refine jw_istore (L' := [(6, _), (0, _), (1, _), (2, _), (4, _)]) hC dX3_stickFoil_1 (by decide) rfl ?_
  refine jw_loc (L' := [(0, _), (1, _), (2, _), (4, _), (6, _)]) [1, 2, 3, 4, 0] rfl ?_
  exact K3 26 0 M (by omega) (by omega) (by omega) rfl (fun _ _ => rfl)
set_option maxRecDepth 100000 in
set_option maxHeartbeats 4000000 in
theorem c_X3_slipIfDue (l : Launch) (E : ewE) (M : ewM) (j : Nat) (hj : j < 9) (hs : 0 ≤ M (50 + 3 * j) 3 ∧ M (50 + 3 * j) 3 ≤ 3) : Ct l E yX3_slipIfDue (.code yX3_slipIfDue cX3_slipIfDue 2 none) 1 [vR E (50 + 3 * j)] M (fun v M1 => v = none ∧ M1 = mset M (50 + 3 * j) (fun k => if k = 3 then f_sl (M (50 + 3 * j + 2) 3) (M (50 + 3 * j) 5) (M (50 + 3 * j) 3) else M (50 + 3 * j) k)) := by
  refine ct_of (L0 := [(0, vR E (50 + 3 * j))]) (by decide +kernel) rfl (Nat.le_of_ble_eq_true rfl) ?_
  intro zp ze zs zm za zb zt zc zA hC
  refine jw_aload_n hC dX3_slipIfDue_0 0 rfl rfl ?_
  refine jw_getr hC fL_X3_23 (ewR_t1 (j := j) (by omega)) dX3_slipIfDue_1 ?_
  refine jw_iconst hC dX3_slipIfDue_4 ?_
  refine jw_iald hC (ewA_settings (j := j) (by omega)) dX3_slipIfDue_5 (by omega) (by omega) (by decide) (fun b5 c5 => ?_)
  refine jw_istore_n (L' := [(1, _), (0, _)]) hC dX3_slipIfDue_6 rfl (by decide) rfl ?_
  refine jw_iload_n hC dX3_slipIfDue_7 0 rfl rfl ?_
  refine jw_if_le (tgt := 34) hC dX3_slipIfDue_8 (by decide) (by omega) (by omega) (fun h8 => ?_) (fun h8 => ?_)
  · skip
    refine jw_vret hC dX3_slipIfDue_34 ?_
    refine ⟨rfl, ?_⟩
    unfold f_sl
    first
    | (rw [if_pos ⟨by omega, by omega⟩]; exact mu_as _ _ _ _)
    | (rw [if_neg (by omega)]; exact (mset_id (fun k => by by_cases hk : k = 3 <;> simp [hk])).symm)
  · skip
    refine jw_aload_n hC dX3_slipIfDue_11 1 rfl rfl ?_
    refine jw_geti hC fL_X3_53.r (ewF_t (j := j) (k := 5) (by omega) (by decide) (by decide)) (kI := 5) rfl dX3_slipIfDue_12 (by omega) (fun b12 c12 => ?_)
    refine jw_iload_n hC dX3_slipIfDue_15 0 rfl rfl ?_
    refine jw_iremt hC dX3_slipIfDue_16 (by omega) (by omega) (by omega) (by omega) (fun b16 c16 => ?_)
    refine jw_if_ne (tgt := 34) hC dX3_slipIfDue_17 (by decide) (by omega) (by omega) (fun h17 => ?_) (fun h17 => ?_)
    · skip
      refine jw_vret hC dX3_slipIfDue_34 ?_
      refine ⟨rfl, ?_⟩
      unfold f_sl
      first
      | (rw [if_pos ⟨by omega, by omega⟩]; exact mu_as _ _ _ _)
      | (rw [if_neg (by omega)]; exact (mset_id (fun k => by by_cases hk : k = 3 <;> simp [hk])).symm)
    · skip
      refine jw_aload_n hC dX3_slipIfDue_20 1 rfl rfl ?_
      refine jw_aload_n hC dX3_slipIfDue_21 1 rfl rfl ?_
      refine jw_geti hC fL_X3_47.r (ewF_t (j := j) (k := 3) (by omega) (by decide) (by decide)) (kI := 3) rfl dX3_slipIfDue_22 (by omega) (fun b22 c22 => ?_)
      refine jw_iconst hC dX3_slipIfDue_25 ?_
      refine jw_iadd hC dX3_slipIfDue_26 ?_
      refine jw_iconst hC dX3_slipIfDue_27 ?_
      refine jw_min hC dX3_slipIfDue_28 (by omega) (by omega) (by omega) (by omega) w3_66 w3_23 w1_10 w3_24 ⟨Nat.le_of_ble_eq_true rfl, Nat.le_of_ble_eq_true rfl⟩ ⟨Nat.zero_le _, Nat.zero_le _⟩ ?_
      refine jw_puti hC fL_X3_47 (ewF_t (j := j) (k := 3) (by omega) (by decide) (by decide)) (kI := 3) rfl dX3_slipIfDue_31 (by omega) (by omega) ?_
      refine jw_vret hC dX3_slipIfDue_34 ?_
      refine ⟨rfl, ?_⟩
      unfold f_sl
      first
      | (rw [if_pos ⟨by omega, by omega⟩]; exact mu_as _ _ _ _)
      | (rw [if_neg (by omega)]; exact (mset_id (fun k => by by_cases hk : k = 3 <;> simp [hk])).symm)
set_option maxRecDepth 100000 in
set_option maxHeartbeats 4000000 in
theorem c_X3_unslip (l : Launch) (E : ewE) (M : ewM) (j : Nat) (hj : j < 9) : Ct l E yX3_unslip (.code yX3_unslip cX3_unslip 1 none) 1 [vR E (50 + 3 * j)] M (fun v M1 => v = none ∧ M1 = mu (mu M (50 + 3 * j) 3 0) (50 + 3 * j) 5 0) := by
  refine ct_of (L0 := [(0, vR E (50 + 3 * j))]) (by decide +kernel) rfl (Nat.le_of_ble_eq_true rfl) ?_
  intro zp ze zs zm za zb zt zc zA hC
  refine jw_aload_n hC dX3_unslip_0 0 rfl rfl ?_
  refine jw_iconst hC dX3_unslip_1 ?_
  refine jw_puti hC fL_X3_47 (ewF_t (j := j) (k := 3) (by omega) (by decide) (by decide)) (kI := 3) rfl dX3_unslip_2 (by omega) (by omega) ?_
  refine jw_aload_n hC dX3_unslip_5 0 rfl rfl ?_
  refine jw_iconst hC dX3_unslip_6 ?_
  refine jw_puti hC fL_X3_53 (ewF_t (j := j) (k := 5) (by omega) (by decide) (by decide)) (kI := 5) rfl dX3_unslip_7 (by omega) (by omega) ?_
  refine jw_vret hC dX3_unslip_10 ?_
  exact ⟨rfl, rfl⟩
end
section
/-! THE STATE: copies -/
set_option maxRecDepth 100000 in
set_option maxHeartbeats 4000000 in
theorem c_X3_copyFrom (l : Launch) (E : ewE) (M : ewM) (j : Nat) (hj : j < 9) (i : Nat) (hi : i < 9) (hij : i ≠ j) : Ct l E yX3_copyFrom (.code yX3_copyFrom cX3_copyFrom 2 none) 3 [vR E (50 + 3 * j), vR E (50 + 3 * i)] M (fun v M1 => v = none ∧ M1 (50 + 3 * j + 1) = M (50 + 3 * i + 1) ∧ M1 (50 + 3 * j + 2) = M (50 + 3 * i + 2) ∧ (∀ r, 1 ≤ r → r ≤ 4 → M1 (5 * j + r) = M (5 * i + r)) ∧ (∀ k : Int, 3 ≤ k → k ≤ 14 → M1 (50 + 3 * j) k = M (50 + 3 * i) k) ∧ ∀ o, (o < 5 * j + 1 ∨ 5 * j + 4 < o) → (o < 50 + 3 * j ∨ 50 + 3 * j + 2 < o) → M1 o = M o) := by
  refine ct_of (L0 := [(0, vR E (50 + 3 * j)), (1, vR E (50 + 3 * i))]) (by decide +kernel) rfl (Nat.le_of_ble_eq_true rfl) ?_
  intro zp ze zs zm za zb zt zc zA hC
  refine jw_aload_n hC dX3_copyFrom_0 1 rfl rfl ?_
  refine jw_getr hC fL_X3_9 (ewR_t0 (j := i) (by omega)) dX3_copyFrom_1 ?_
  refine jw_iconst hC dX3_copyFrom_4 ?_
  refine jw_aload_n hC dX3_copyFrom_5 0 rfl rfl ?_
  refine jw_getr hC fL_X3_9 (ewR_t0 (j := j) (by omega)) dX3_copyFrom_6 ?_
  refine jw_iconst hC dX3_copyFrom_9 ?_
  refine jw_bipush hC dX3_copyFrom_10 (by decide) ?_
  refine jw_copy hC (ewA_points (j := i) (by omega)) (ewA_points (j := j) (by omega)) (by decide) dX3_copyFrom_12 w2_27 w2_29 w2_28 w1_12 ⟨Nat.le_of_ble_eq_true rfl, Nat.le_of_ble_eq_true rfl⟩ ?_
  refine jw_aload_n hC dX3_copyFrom_15 1 rfl rfl ?_
  refine jw_getr hC fL_X3_23 (ewR_t1 (j := i) (by omega)) dX3_copyFrom_16 ?_
  refine jw_iconst hC dX3_copyFrom_19 ?_
  refine jw_aload_n hC dX3_copyFrom_20 0 rfl rfl ?_
  refine jw_getr hC fL_X3_23 (ewR_t1 (j := j) (by omega)) dX3_copyFrom_21 ?_
  refine jw_iconst hC dX3_copyFrom_24 ?_
  refine jw_iconst hC dX3_copyFrom_25 ?_
  refine jw_copy hC (ewA_settings (j := i) (by omega)) (ewA_settings (j := j) (by omega)) (by decide) dX3_copyFrom_26 w2_27 w2_29 w2_28 w1_12 ⟨Nat.le_of_ble_eq_true rfl, Nat.le_of_ble_eq_true rfl⟩ ?_
  refine jw_aload_n hC dX3_copyFrom_29 0 rfl rfl ?_
  refine jw_getr hC fL_X3_29 (ewR_t2 (j := j) (by omega)) dX3_copyFrom_30 ?_
  refine jw_aload_n hC dX3_copyFrom_33 1 rfl rfl ?_
  refine jw_getr hC fL_X3_29 (ewR_t2 (j := i) (by omega)) dX3_copyFrom_34 ?_
  refine jw_callV hC (c_X2_copyFrom l E _ j (by omega) i (by omega)) sV_X3_43 (ewO_sheet (j := j) (by omega)) dX3_copyFrom_37 rfl rfl ⟨Nat.le_of_ble_eq_true rfl, Nat.le_of_ble_eq_true rfl⟩ ⟨Nat.zero_le _, Nat.zero_le _⟩ (Nat.le_of_ble_eq_true rfl) (fun v37 M37 g37 => ?_)
  rw [mset_ne M _ (show 50 + 3 * i + 2 ≠ 50 + 3 * j + 1 by omega)] at g37
  obtain ⟨rfl, g37⟩ := g37
  have hne : 50 + 3 * i ≠ 50 + 3 * j := by omega
  have hS0 : M37 (50 + 3 * i) = M (50 + 3 * i) := by rw [g37.2 _ (by omega), mset_ne _ _ (by omega), mset_ne _ _ (by omega)]
  refine jw_aload_n hC dX3_copyFrom_40 0 rfl rfl ?_
  refine jw_aload_n hC dX3_copyFrom_41 1 rfl rfl ?_
  refine jw_geti hC fL_X3_47.r (ewF_t (j := i) (k := 3) (by omega) (by decide) (by decide)) (kI := 3) rfl dX3_copyFrom_42 (by omega) (fun b42 c42 => ?_)
  simp only [mu_ne _ _ _ hne, hS0] at b42 c42 ⊢
  refine jw_puti hC fL_X3_47 (ewF_t (j := j) (k := 3) (by omega) (by decide) (by decide)) (kI := 3) rfl dX3_copyFrom_45 (by omega) (by omega) ?_
  refine jw_aload_n hC dX3_copyFrom_48 0 rfl rfl ?_
  refine jw_aload_n hC dX3_copyFrom_49 1 rfl rfl ?_
  refine jw_geti hC fL_X3_50.r (ewF_t (j := i) (k := 4) (by omega) (by decide) (by decide)) (kI := 4) rfl dX3_copyFrom_50 (by omega) (fun b50 c50 => ?_)
  simp only [mu_ne _ _ _ hne, hS0] at b50 c50 ⊢
  refine jw_puti hC fL_X3_50 (ewF_t (j := j) (k := 4) (by omega) (by decide) (by decide)) (kI := 4) rfl dX3_copyFrom_53 (by omega) (by omega) ?_
  refine jw_aload_n hC dX3_copyFrom_56 0 rfl rfl ?_
  refine jw_aload_n hC dX3_copyFrom_57 1 rfl rfl ?_
  refine jw_geti hC fL_X3_53.r (ewF_t (j := i) (k := 5) (by omega) (by decide) (by decide)) (kI := 5) rfl dX3_copyFrom_58 (by omega) (fun b58 c58 => ?_)
  simp only [mu_ne _ _ _ hne, hS0] at b58 c58 ⊢
  refine jw_puti hC fL_X3_53 (ewF_t (j := j) (k := 5) (by omega) (by decide) (by decide)) (kI := 5) rfl dX3_copyFrom_61 (by omega) (by omega) ?_
  refine jw_aload_n hC dX3_copyFrom_64 0 rfl rfl ?_
  refine jw_aload_n hC dX3_copyFrom_65 1 rfl rfl ?_
  refine jw_geti hC fL_X3_56.r (ewF_t (j := i) (k := 6) (by omega) (by decide) (by decide)) (kI := 6) rfl dX3_copyFrom_66 (by omega) (fun b66 c66 => ?_)
  simp only [mu_ne _ _ _ hne, hS0] at b66 c66 ⊢
  refine jw_puti hC fL_X3_56 (ewF_t (j := j) (k := 6) (by omega) (by decide) (by decide)) (kI := 6) rfl dX3_copyFrom_69 (by omega) (by omega) ?_
  refine jw_aload_n hC dX3_copyFrom_72 0 rfl rfl ?_
  refine jw_aload_n hC dX3_copyFrom_73 1 rfl rfl ?_
  refine jw_geti hC fL_X3_59.r (ewF_t (j := i) (k := 7) (by omega) (by decide) (by decide)) (kI := 7) rfl dX3_copyFrom_74 (by omega) (fun b74 c74 => ?_)
  simp only [mu_ne _ _ _ hne, hS0] at b74 c74 ⊢
  refine jw_puti hC fL_X3_59 (ewF_t (j := j) (k := 7) (by omega) (by decide) (by decide)) (kI := 7) rfl dX3_copyFrom_77 (by omega) (by omega) ?_
  refine jw_aload_n hC dX3_copyFrom_80 0 rfl rfl ?_
  refine jw_aload_n hC dX3_copyFrom_81 1 rfl rfl ?_
  refine jw_geti hC fL_X3_33.r (ewF_t (j := i) (k := 8) (by omega) (by decide) (by decide)) (kI := 8) rfl dX3_copyFrom_82 (by omega) (fun b82 c82 => ?_)
  simp only [mu_ne _ _ _ hne, hS0] at b82 c82 ⊢
  refine jw_puti hC fL_X3_33 (ewF_t (j := j) (k := 8) (by omega) (by decide) (by decide)) (kI := 8) rfl dX3_copyFrom_85 (by omega) (by omega) ?_
  refine jw_aload_n hC dX3_copyFrom_88 0 rfl rfl ?_
  refine jw_aload_n hC dX3_copyFrom_89 1 rfl rfl ?_
  refine jw_geti hC fL_X3_62.r (ewF_t (j := i) (k := 9) (by omega) (by decide) (by decide)) (kI := 9) rfl dX3_copyFrom_90 (by omega) (fun b90 c90 => ?_)
  simp only [mu_ne _ _ _ hne, hS0] at b90 c90 ⊢
  refine jw_puti hC fL_X3_62 (ewF_t (j := j) (k := 9) (by omega) (by decide) (by decide)) (kI := 9) rfl dX3_copyFrom_93 (by omega) (by omega) ?_
  refine jw_aload_n hC dX3_copyFrom_96 0 rfl rfl ?_
  refine jw_aload_n hC dX3_copyFrom_97 1 rfl rfl ?_
  refine jw_geti hC fL_X3_65.r (ewF_t (j := i) (k := 10) (by omega) (by decide) (by decide)) (kI := 10) rfl dX3_copyFrom_98 (by omega) (fun b98 c98 => ?_)
  simp only [mu_ne _ _ _ hne, hS0] at b98 c98 ⊢
  refine jw_puti hC fL_X3_65 (ewF_t (j := j) (k := 10) (by omega) (by decide) (by decide)) (kI := 10) rfl dX3_copyFrom_101 (by omega) (by omega) ?_
  refine jw_aload_n hC dX3_copyFrom_104 0 rfl rfl ?_
  refine jw_aload_n hC dX3_copyFrom_105 1 rfl rfl ?_
  refine jw_geti hC fL_X3_68.r (ewF_t (j := i) (k := 11) (by omega) (by decide) (by decide)) (kI := 11) rfl dX3_copyFrom_106 (by omega) (fun b106 c106 => ?_)
  simp only [mu_ne _ _ _ hne, hS0] at b106 c106 ⊢
  refine jw_puti hC fL_X3_68 (ewF_t (j := j) (k := 11) (by omega) (by decide) (by decide)) (kI := 11) rfl dX3_copyFrom_109 (by omega) (by omega) ?_
  refine jw_aload_n hC dX3_copyFrom_112 0 rfl rfl ?_
  refine jw_aload_n hC dX3_copyFrom_113 1 rfl rfl ?_
  refine jw_geti hC fL_X3_71.r (ewF_t (j := i) (k := 12) (by omega) (by decide) (by decide)) (kI := 12) rfl dX3_copyFrom_114 (by omega) (fun b114 c114 => ?_)
  simp only [mu_ne _ _ _ hne, hS0] at b114 c114 ⊢
  refine jw_puti hC fL_X3_71 (ewF_t (j := j) (k := 12) (by omega) (by decide) (by decide)) (kI := 12) rfl dX3_copyFrom_117 (by omega) (by omega) ?_
  refine jw_aload_n hC dX3_copyFrom_120 0 rfl rfl ?_
  refine jw_aload_n hC dX3_copyFrom_121 1 rfl rfl ?_
  refine jw_geti hC fL_X3_74.r (ewF_t (j := i) (k := 13) (by omega) (by decide) (by decide)) (kI := 13) rfl dX3_copyFrom_122 (by omega) (fun b122 c122 => ?_)
  simp only [mu_ne _ _ _ hne, hS0] at b122 c122 ⊢
  refine jw_puti hC fL_X3_74 (ewF_t (j := j) (k := 13) (by omega) (by decide) (by decide)) (kI := 13) rfl dX3_copyFrom_125 (by omega) (by omega) ?_
  refine jw_aload_n hC dX3_copyFrom_128 0 rfl rfl ?_
  refine jw_aload_n hC dX3_copyFrom_129 1 rfl rfl ?_
  refine jw_geti hC fL_X3_77.r (ewF_t (j := i) (k := 14) (by omega) (by decide) (by decide)) (kI := 14) rfl dX3_copyFrom_130 (by omega) (fun b130 c130 => ?_)
  simp only [mu_ne _ _ _ hne, hS0] at b130 c130 ⊢
  refine jw_puti hC fL_X3_77 (ewF_t (j := j) (k := 14) (by omega) (by decide) (by decide)) (kI := 14) rfl dX3_copyFrom_133 (by omega) (by omega) ?_
  refine jw_vret hC dX3_copyFrom_136 ?_
  have e1 : ∀ o, o ≠ 50 + 3 * j → (o < 5 * j + 1 ∨ 5 * j + 4 < o) → M37 o = mset (mset M (50 + 3 * j + 1) (M (50 + 3 * i + 1))) (50 + 3 * j + 2) (M (50 + 3 * i + 2)) o := fun o _ h => g37.2 o h
  refine ⟨rfl, ?_, ?_, fun r r1 r4 => ?_, fun k k3 k14 => ?_, fun o o1 o2 => ?_⟩
  · repeat rw [mu_ne _ _ _ (by omega)]
    rw [e1 _ (by omega) (by omega), mset_ne _ _ (by omega), mset_at]
  · repeat rw [mu_ne _ _ _ (by omega)]
    rw [e1 _ (by omega) (by omega), mset_at]
  · repeat rw [mu_ne _ _ _ (by omega)]
    rw [g37.1 r r1 r4, mset_ne _ _ (by omega), mset_ne _ _ (by omega)]
  · rcases (show k = 3 ∨ k = 4 ∨ k = 5 ∨ k = 6 ∨ k = 7 ∨ k = 8 ∨ k = 9 ∨ k = 10 ∨ k = 11 ∨ k = 12 ∨ k = 13 ∨ k = 14 by omega) with rfl | rfl | rfl | rfl | rfl | rfl | rfl | rfl | rfl | rfl | rfl | rfl <;> simp [mu_at, hS0]
  · repeat rw [mu_ne _ _ _ (by omega)]
    rw [e1 _ (by omega) o1, mset_ne _ _ (by omega), mset_ne _ _ (by omega)]
end
section
/-! THE CRACK FINDER -/
def f_note (M : ewM) (c : Int → Int) (p : Int) : ewM := if c p = 0 ∧ M 84 3 < 144 then mu (mu M 87 (M 84 3) p) 84 3 (M 84 3 + 1) else M
theorem f_note_87 {M : ewM} {c : Int → Int} {p : Int} (h : c p = 0) (h2 : M 84 3 < 144) : f_note M c p 87 = (fun b => if b = M 84 3 then p else M 87 b) ∧ f_note M c p 84 3 = M 84 3 + 1 := by
  unfold f_note
  rw [if_pos ⟨h, h2⟩]
  exact ⟨by rw [mu_ne _ _ _ (by decide), mu_at], mu_eq _ _ _ _⟩
theorem f_note_o (M : ewM) (c : Int → Int) (p : Int) {o : Nat} (h1 : o ≠ 84) (h2 : o ≠ 87) : f_note M c p o = M o := by
  unfold f_note
  split
  · rw [mu_ne _ _ _ h1, mu_ne _ _ _ h2]
  · rfl

set_option maxRecDepth 100000 in
set_option maxHeartbeats 4000000 in
theorem c_X0_noteIfWhole (l : Launch) (E : ewE) (M : ewM) (j : Nat) (hj : j < 10) (p : Int) (hp : 0 ≤ p ∧ p < 144) (hm : 0 ≤ M 84 3) : Ct l E yX0_noteIfWhole (.code yX0_noteIfWhole cX0_noteIfWhole 3 none) 1 [vR E 84, vR E (5 * j), vI p] M (fun v M1 => v = none ∧ M1 = f_note M (M (5 * j + 3)) p) := by
  refine ct_of (L0 := [(0, vR E 84), (1, vR E (5 * j)), (2, vI p)]) (by decide +kernel) rfl (Nat.le_of_ble_eq_true rfl) ?_
  intro zp ze zs zm za zb zt zc zA hC
  refine jw_aload_n hC dX0_noteIfWhole_0 1 rfl rfl ?_
  refine jw_getr hC fL_X0_58 (ewR_s2 (j := j) (by omega)) dX0_noteIfWhole_1 ?_
  refine jw_iload_n hC dX0_noteIfWhole_4 2 rfl rfl ?_
  refine jw_iald hC (ewA_sheet (j := j) (r := 3) (by omega) (by decide) (by decide)) dX0_noteIfWhole_5 (by omega) (by omega) (by decide) (fun b5 c5 => ?_)
  refine jw_if_ne (tgt := 39) hC dX0_noteIfWhole_6 (by decide) (by omega) (by omega) (fun h6 => ?_) (fun h6 => ?_)
  · skip
    refine jw_vret hC dX0_noteIfWhole_39 ?_
    refine ⟨rfl, ?_⟩
    unfold f_note
    first | rw [if_pos ⟨by omega, by omega⟩] | rw [if_neg (by omega)]
  · skip
    refine jw_aload_n hC dX0_noteIfWhole_9 0 rfl rfl ?_
    refine jw_geti hC fL_X0_34.r ewF_k3 (kI := 3) rfl dX0_noteIfWhole_10 (by omega) (fun b10 c10 => ?_)
    refine jw_sipush hC dX0_noteIfWhole_13 (by decide) ?_
    refine jw_icmp_ge (tgt := 39) hC dX0_noteIfWhole_16 (by decide) (by omega) (by omega) (by omega) (by omega) (fun h16 => ?_) (fun h16 => ?_)
    · skip
      refine jw_vret hC dX0_noteIfWhole_39 ?_
      refine ⟨rfl, ?_⟩
      unfold f_note
      first | rw [if_pos ⟨by omega, by omega⟩] | rw [if_neg (by omega)]
    · skip
      refine jw_aload_n hC dX0_noteIfWhole_19 0 rfl rfl ?_
      refine jw_getr hC fL_X0_18 ewR_k2 dX0_noteIfWhole_20 ?_
      refine jw_aload_n hC dX0_noteIfWhole_23 0 rfl rfl ?_
      refine jw_geti hC fL_X0_34.r ewF_k3 (kI := 3) rfl dX0_noteIfWhole_24 (by omega) (fun b24 c24 => ?_)
      refine jw_iload_n hC dX0_noteIfWhole_27 2 rfl rfl ?_
      refine jw_iast hC ewA_87 dX0_noteIfWhole_28 (by omega) (by omega) (by decide) (by omega) (by omega) ?_
      refine jw_aload_n hC dX0_noteIfWhole_29 0 rfl rfl ?_
      refine jw_dupr hC dX0_noteIfWhole_30 ?_
      refine jw_geti hC fL_X0_34.r ewF_k3 (kI := 3) rfl dX0_noteIfWhole_31 (by omega) (fun b31 c31 => ?_)
      rw [mu_ne _ _ _ (by decide)] at b31 c31 ⊢
      refine jw_iconst hC dX0_noteIfWhole_34 ?_
      refine jw_iadd hC dX0_noteIfWhole_35 ?_
      refine jw_puti hC fL_X0_34 ewF_k3 (kI := 3) rfl dX0_noteIfWhole_36 (by omega) (by omega) ?_
      refine jw_vret hC dX0_noteIfWhole_39 ?_
      refine ⟨rfl, ?_⟩
      unfold f_note
      first | rw [if_pos ⟨by omega, by omega⟩] | rw [if_neg (by omega)]
set_option maxRecDepth 100000 in
set_option maxHeartbeats 4000000 in
theorem c_X0_weakenBeside (l : Launch) (E : ewE) (M : ewM) (p : Int) (hp : 0 ≤ p ∧ p < 144) : Ct l E yX0_weakenBeside (.code yX0_weakenBeside cX0_weakenBeside 3 none) 1 [vR E 84, vI p] M (fun v M1 => v = none ∧ M1 86 = f_weak (M 86) p ∧ ∀ o, o ≠ 86 → M1 o = M o) := by
  refine ct_of (L0 := [(0, vR E 84), (1, vI p)]) (by decide +kernel) rfl (Nat.le_of_ble_eq_true rfl) ?_
  intro zp ze zs zm za zb zt zc zA hC
  have K78 : ∀ M1 : ewM, M1 86 = f_w4 (f_w3 (f_w2 (f_w1 (M 86) p) p) p) p → (∀ o, o ≠ 86 → M1 o = M o) → jJ zp l ze (ct_rm 1) zs zm za zb zt zc E zA 3 0 0 (MQ zb (ct_Q E zA (fun v M1 => v = none ∧ M1 86 = f_weak (M 86) p ∧ ∀ o, o ≠ 86 → M1 o = M o)) za zs 0 0 zA) 78 [(0, vR E 84), (1, vI p), (2, vI (p % 12))] [] M1 := by
    intro M1 g1 g2
    refine jw_vret hC dX0_weakenBeside_78 ?_
    exact ⟨rfl, g1, g2⟩
  have K58 : ∀ M1 : ewM, M1 86 = f_w3 (f_w2 (f_w1 (M 86) p) p) p → (∀ o, o ≠ 86 → M1 o = M o) → jJ zp l ze (ct_rm 1) zs zm za zb zt zc E zA 3 0 0 (MQ zb (ct_Q E zA (fun v M1 => v = none ∧ M1 86 = f_weak (M 86) p ∧ ∀ o, o ≠ 86 → M1 o = M o)) za zs 0 0 zA) 58 [(0, vR E 84), (1, vI p), (2, vI (p % 12))] [] M1 := by
    intro M1 g1 g2
    refine jw_iload_n hC dX0_weakenBeside_58 1 rfl rfl ?_
    refine jw_sipush hC dX0_weakenBeside_59 (by decide) ?_
    refine jw_icmp_ge (tgt := 78) hC dX0_weakenBeside_62 (by decide) (by omega) (by omega) (by omega) (by omega) (fun h62 => ?_) (fun h62 => ?_)
    · skip
      refine K78 _ ?_ ?_
      · unfold f_w4
        first
        | (rw [if_neg (by omega)]; exact g1)
        | (rw [if_pos (by omega), mu_at]; rw [g1])
      · intro o o1
        first
        | exact g2 o o1
        | rfl
        | (rw [mu_ne _ _ _ o1]; exact g2 o o1)
        | rw [mu_ne _ _ _ o1]
    · skip
      refine jw_aload_n hC dX0_weakenBeside_65 0 rfl rfl ?_
      refine jw_getr hC fL_X0_15 ewR_k1 dX0_weakenBeside_66 ?_
      refine jw_iload_n hC dX0_weakenBeside_69 1 rfl rfl ?_
      refine jw_bipush hC dX0_weakenBeside_70 (by decide) ?_
      refine jw_iadd hC dX0_weakenBeside_72 ?_
      refine jw_dup2 hC dX0_weakenBeside_73 ?_
      refine jw_iald hC ewA_86 dX0_weakenBeside_74 (by omega) (by omega) (by decide) (fun b74 c74 => ?_)
      refine jw_iconst hC dX0_weakenBeside_75 ?_
      refine jw_iadd hC dX0_weakenBeside_76 ?_
      refine jw_iastw hC ewA_86 dX0_weakenBeside_77 (by omega) (by omega) (by decide)  ?_
      refine K78 _ ?_ ?_
      · unfold f_w4
        first
        | (rw [if_neg (by omega)]; exact g1)
        | (rw [if_pos (by omega), mu_at]; rw [g1])
      · intro o o1
        first
        | exact g2 o o1
        | rfl
        | (rw [mu_ne _ _ _ o1]; exact g2 o o1)
        | rw [mu_ne _ _ _ o1]
  have K39 : ∀ M1 : ewM, M1 86 = f_w2 (f_w1 (M 86) p) p → (∀ o, o ≠ 86 → M1 o = M o) → jJ zp l ze (ct_rm 1) zs zm za zb zt zc E zA 3 0 0 (MQ zb (ct_Q E zA (fun v M1 => v = none ∧ M1 86 = f_weak (M 86) p ∧ ∀ o, o ≠ 86 → M1 o = M o)) za zs 0 0 zA) 39 [(0, vR E 84), (1, vI p), (2, vI (p % 12))] [] M1 := by
    intro M1 g1 g2
    refine jw_iload_n hC dX0_weakenBeside_39 1 rfl rfl ?_
    refine jw_bipush hC dX0_weakenBeside_40 (by decide) ?_
    refine jw_icmp_lt (tgt := 58) hC dX0_weakenBeside_42 (by decide) (by omega) (by omega) (by omega) (by omega) (fun h42 => ?_) (fun h42 => ?_)
    · skip
      refine K58 _ ?_ ?_
      · unfold f_w3
        first
        | (rw [if_neg (by omega)]; exact g1)
        | (rw [if_pos (by omega), mu_at]; rw [g1])
      · intro o o1
        first
        | exact g2 o o1
        | rfl
        | (rw [mu_ne _ _ _ o1]; exact g2 o o1)
        | rw [mu_ne _ _ _ o1]
    · skip
      refine jw_aload_n hC dX0_weakenBeside_45 0 rfl rfl ?_
      refine jw_getr hC fL_X0_15 ewR_k1 dX0_weakenBeside_46 ?_
      refine jw_iload_n hC dX0_weakenBeside_49 1 rfl rfl ?_
      refine jw_bipush hC dX0_weakenBeside_50 (by decide) ?_
      refine jw_isub hC dX0_weakenBeside_52 ?_
      refine jw_dup2 hC dX0_weakenBeside_53 ?_
      refine jw_iald hC ewA_86 dX0_weakenBeside_54 (by omega) (by omega) (by decide) (fun b54 c54 => ?_)
      refine jw_iconst hC dX0_weakenBeside_55 ?_
      refine jw_iadd hC dX0_weakenBeside_56 ?_
      refine jw_iastw hC ewA_86 dX0_weakenBeside_57 (by omega) (by omega) (by decide)  ?_
      refine K58 _ ?_ ?_
      · unfold f_w3
        first
        | (rw [if_neg (by omega)]; exact g1)
        | (rw [if_pos (by omega), mu_at]; rw [g1])
      · intro o o1
        first
        | exact g2 o o1
        | rfl
        | (rw [mu_ne _ _ _ o1]; exact g2 o o1)
        | rw [mu_ne _ _ _ o1]
  have K21 : ∀ M1 : ewM, M1 86 = f_w1 (M 86) p → (∀ o, o ≠ 86 → M1 o = M o) → jJ zp l ze (ct_rm 1) zs zm za zb zt zc E zA 3 0 0 (MQ zb (ct_Q E zA (fun v M1 => v = none ∧ M1 86 = f_weak (M 86) p ∧ ∀ o, o ≠ 86 → M1 o = M o)) za zs 0 0 zA) 21 [(0, vR E 84), (1, vI p), (2, vI (p % 12))] [] M1 := by
    intro M1 g1 g2
    refine jw_iload_n hC dX0_weakenBeside_21 2 rfl rfl ?_
    refine jw_bipush hC dX0_weakenBeside_22 (by decide) ?_
    refine jw_icmp_ge (tgt := 39) hC dX0_weakenBeside_24 (by decide) (by omega) (by omega) (by omega) (by omega) (fun h24 => ?_) (fun h24 => ?_)
    · skip
      refine K39 _ ?_ ?_
      · unfold f_w2
        first
        | (rw [if_neg (by omega)]; exact g1)
        | (rw [if_pos (by omega), mu_at]; rw [g1])
      · intro o o1
        first
        | exact g2 o o1
        | rfl
        | (rw [mu_ne _ _ _ o1]; exact g2 o o1)
        | rw [mu_ne _ _ _ o1]
    · skip
      refine jw_aload_n hC dX0_weakenBeside_27 0 rfl rfl ?_
      refine jw_getr hC fL_X0_15 ewR_k1 dX0_weakenBeside_28 ?_
      refine jw_iload_n hC dX0_weakenBeside_31 1 rfl rfl ?_
      refine jw_iconst hC dX0_weakenBeside_32 ?_
      refine jw_iadd hC dX0_weakenBeside_33 ?_
      refine jw_dup2 hC dX0_weakenBeside_34 ?_
      refine jw_iald hC ewA_86 dX0_weakenBeside_35 (by omega) (by omega) (by decide) (fun b35 c35 => ?_)
      refine jw_iconst hC dX0_weakenBeside_36 ?_
      refine jw_iadd hC dX0_weakenBeside_37 ?_
      refine jw_iastw hC ewA_86 dX0_weakenBeside_38 (by omega) (by omega) (by decide)  ?_
      refine K39 _ ?_ ?_
      · unfold f_w2
        first
        | (rw [if_neg (by omega)]; exact g1)
        | (rw [if_pos (by omega), mu_at]; rw [g1])
      · intro o o1
        first
        | exact g2 o o1
        | rfl
        | (rw [mu_ne _ _ _ o1]; exact g2 o o1)
        | rw [mu_ne _ _ _ o1]
  refine jw_iload_n hC dX0_weakenBeside_0 1 rfl rfl ?_
  refine jw_bipush hC dX0_weakenBeside_1 (by decide) ?_
  refine jw_irem hC dX0_weakenBeside_3 (by omega) (by omega) (by omega) (by omega) ?_
  refine jw_istore_n (L' := [(2, _), (0, _), (1, _)]) hC dX0_weakenBeside_4 rfl (by decide) rfl ?_
  refine jw_iload_n hC dX0_weakenBeside_5 0 rfl rfl ?_
  refine jw_if_le (tgt := 21) hC dX0_weakenBeside_6 (by decide) (by omega) (by omega) (fun h6 => ?_) (fun h6 => ?_)
  · skip
    refine jw_loc (L' := [(0, _), (1, _), (2, _)]) [1, 2, 0] rfl ?_
    refine K21 _ ?_ ?_
    · unfold f_w1
      first
      | (rw [if_neg (by omega)])
      | (rw [if_pos (by omega), mu_at])
    · intro o o1
      first
      | exact g2 o o1
      | rfl
      | (rw [mu_ne _ _ _ o1]; exact g2 o o1)
      | rw [mu_ne _ _ _ o1]
  · skip
    refine jw_aload_n hC dX0_weakenBeside_9 1 rfl rfl ?_
    refine jw_getr hC fL_X0_15 ewR_k1 dX0_weakenBeside_10 ?_
    refine jw_iload_n hC dX0_weakenBeside_13 2 rfl rfl ?_
    refine jw_iconst hC dX0_weakenBeside_14 ?_
    refine jw_isub hC dX0_weakenBeside_15 ?_
    refine jw_dup2 hC dX0_weakenBeside_16 ?_
    refine jw_iald hC ewA_86 dX0_weakenBeside_17 (by omega) (by omega) (by decide) (fun b17 c17 => ?_)
    refine jw_iconst hC dX0_weakenBeside_18 ?_
    refine jw_iadd hC dX0_weakenBeside_19 ?_
    refine jw_iastw hC ewA_86 dX0_weakenBeside_20 (by omega) (by omega) (by decide)  ?_
    refine jw_loc (L' := [(0, _), (1, _), (2, _)]) [1, 2, 0] rfl ?_
    refine K21 _ ?_ ?_
    · unfold f_w1
      first
      | (rw [if_neg (by omega)])
      | (rw [if_pos (by omega), mu_at])
    · intro o o1
      first
      | exact g2 o o1
      | rfl
      | (rw [mu_ne _ _ _ o1]; exact g2 o o1)
      | rw [mu_ne _ _ _ o1]
set_option maxRecDepth 100000 in
set_option maxHeartbeats 4000000 in
theorem c_X0_crackFound (l : Launch) (E : ewE) (M : ewM) (j : Nat) (hj : j < 10) (hm : 0 ≤ M 84 3 ∧ M 84 3 ≤ 144) (hb : ∀ i : Int, 0 ≤ i → i < M 84 3 → 0 ≤ M 87 i ∧ M 87 i < 144) : Ct l E yX0_crackFound (.code yX0_crackFound cX0_crackFound 3 (some .int)) 2 [vR E 84, vR E (5 * j)] M (fun v M1 => v = some (vI (M 84 3)) ∧ M1 (5 * j + 3) = f_crk (M 87) (M (5 * j + 3)) (M 84 3).toNat ∧ M1 86 = f_bes (M 87) (M 86) (M 84 3).toNat ∧ ∀ o, o ≠ 5 * j + 3 → o ≠ 86 → M1 o = M o) := by
  refine ct_of (L0 := [(0, vR E 84), (1, vR E (5 * j))]) (by decide +kernel) rfl (Nat.le_of_ble_eq_true rfl) ?_
  intro zp ze zs zm za zb zt zc zA hC
  have K2 : ∀ (n : Nat) (k : Int) (M1 : ewM), 144 - k < n → 0 ≤ k → k ≤ M 84 3 → M1 (5 * j + 3) = f_crk (M 87) (M (5 * j + 3)) k.toNat → M1 86 = f_bes (M 87) (M 86) k.toNat → (∀ o, o ≠ 5 * j + 3 → o ≠ 86 → M1 o = M o) → jJ zp l ze (ct_rm 2) zs zm za zb zt zc E zA 3 0 0 (MQ zb (ct_Q E zA (fun v M1 => v = some (vI (M 84 3)) ∧ M1 (5 * j + 3) = f_crk (M 87) (M (5 * j + 3)) (M 84 3).toNat ∧ M1 86 = f_bes (M 87) (M 86) (M 84 3).toNat ∧ ∀ o, o ≠ 5 * j + 3 → o ≠ 86 → M1 o = M o)) za zs 0 0 zA) 2 [(0, vR E 84), (1, vR E (5 * j)), (2, vI k)] [] M1 := by
    intro n
    induction n with
    | zero => intros; omega
    | succ n ih =>
      intro k M1 i1 i2 i3 g1 g2 g3
      refine jw_iload_n hC dX0_crackFound_2 2 rfl rfl ?_
      refine jw_aload_n hC dX0_crackFound_3 0 rfl rfl ?_
      refine jw_geti hC fL_X0_34.r ewF_k3 (kI := 3) rfl dX0_crackFound_4 (by omega) (fun b4 c4 => ?_)
      rw [g3 84 (by omega) (by decide)] at b4 c4 ⊢
      refine jw_icmp_ge (tgt := 45) hC dX0_crackFound_7 (by decide) (by omega) (by omega) (by omega) (by omega) (fun h7 => ?_) (fun h7 => ?_)
      · skip
        refine jw_aload_n hC dX0_crackFound_45 0 rfl rfl ?_
        refine jw_geti hC fL_X0_34.r ewF_k3 (kI := 3) rfl dX0_crackFound_46 (by omega) (fun b46 c46 => ?_)
        refine jw_iret hC dX0_crackFound_49 ?_
        have e9 : k = M 84 3 := by omega
        rw [e9] at g1 g2
        exact ⟨by rw [g3 84 (by omega) (by decide)], g1, g2, g3⟩
      · skip
        refine jw_iload_n hC dX0_crackFound_10 2 rfl rfl ?_
        refine jw_sipush hC dX0_crackFound_11 (by decide) ?_
        refine jw_icmp_ge (tgt := 45) hC dX0_crackFound_14 (by decide) (by omega) (by omega) (by omega) (by omega) (fun h14 => ?_) (fun h14 => ?_)
        · skip
          refine jw_aload_n hC dX0_crackFound_45 0 rfl rfl ?_
          refine jw_geti hC fL_X0_34.r ewF_k3 (kI := 3) rfl dX0_crackFound_46 (by omega) (fun b46 c46 => ?_)
          refine jw_iret hC dX0_crackFound_49 ?_
          have e9 : k = M 84 3 := by omega
          rw [e9] at g1 g2
          exact ⟨by rw [g3 84 (by omega) (by decide)], g1, g2, g3⟩
        · skip
          refine jw_aload_n hC dX0_crackFound_17 1 rfl rfl ?_
          refine jw_getr hC fL_X0_58 (ewR_s2 (j := j) (by omega)) dX0_crackFound_18 ?_
          refine jw_aload_n hC dX0_crackFound_21 0 rfl rfl ?_
          refine jw_getr hC fL_X0_18 ewR_k2 dX0_crackFound_22 ?_
          refine jw_iload_n hC dX0_crackFound_25 2 rfl rfl ?_
          refine jw_iald hC ewA_87 dX0_crackFound_26 (by omega) (by omega) (by decide) (fun b26 c26 => ?_)
          rw [g3 87 (by omega) (by decide)]
          have hbk := hb k i2 (by omega)
          refine jw_iconst hC dX0_crackFound_27 ?_
          refine jw_iast hC (ewA_sheet (j := j) (r := 3) (by omega) (by decide) (by decide)) dX0_crackFound_28 (by omega) (by omega) (by decide) (by omega) (by omega) ?_
          refine jw_aload_n hC dX0_crackFound_29 0 rfl rfl ?_
          refine jw_aload_n hC dX0_crackFound_30 0 rfl rfl ?_
          refine jw_getr hC fL_X0_18 ewR_k2 dX0_crackFound_31 ?_
          refine jw_iload_n hC dX0_crackFound_34 2 rfl rfl ?_
          refine jw_iald hC ewA_87 dX0_crackFound_35 (by omega) (by omega) (by decide) (fun b35 c35 => ?_)
          refine jw_callV hC (c_X0_weakenBeside l E _ _ (by rw [mu_ne _ _ _ (by omega), g3 87 (by omega) (by decide)]; exact hbk)) sV_X0_61 ewF_k3.o dX0_crackFound_36 rfl rfl ⟨Nat.le_of_ble_eq_true rfl, Nat.le_of_ble_eq_true rfl⟩ ⟨Nat.zero_le _, Nat.zero_le _⟩ (Nat.le_of_ble_eq_true rfl) (fun v36 M36 g36 => ?_)
          obtain ⟨rfl, q1, q2⟩ := g36
          refine jw_iinc (L' := [(2, _), (0, _), (1, _)]) hC dX0_crackFound_39 2 rfl (by decide) rfl ?_
          refine jw_goto (tgt := 2) hC dX0_crackFound_42 (by decide) ?_
          refine jw_loc (L' := [(0, _), (1, _), (2, _)]) [1, 2, 0] rfl ?_
          refine ih _ _ (by omega) (by omega) (by omega) ?_ ?_ ?_
          · rw [q2 _ (by omega), mu_at, g1, f_crk_s _ _ i2]
          · rw [q1, mu_ne _ _ _ (by omega), g2, f_bes_s _ _ i2, mu_ne _ _ _ (by omega), g3 87 (by omega) (by decide)]
          · intro o o1 o2
            rw [q2 _ o2, mu_ne _ _ _ o1]
            exact g3 o o1 o2
  refine jw_iconst hC dX0_crackFound_0 ?_
  refine jw_istore_n (L' := [(2, _), (0, _), (1, _)]) hC dX0_crackFound_1 rfl (by decide) rfl ?_
  refine jw_loc (L' := [(0, _), (1, _), (2, _)]) [1, 2, 0] rfl ?_
  exact K2 145 0 M (by omega) (by omega) (by omega) rfl rfl (fun _ _ _ => rfl)
set_option maxRecDepth 100000 in
set_option maxHeartbeats 4000000 in
theorem c_X0_findOverstrained (l : Launch) (E : ewE) (M : ewM) (j : Nat) (hj : j < 10) (b t : Int) (hb : 0 ≤ b ∧ b ≤ 99) (ht : 0 ≤ t ∧ t ≤ 20) (hs : ∀ q : Int, 0 ≤ q → q < 144 → 0 ≤ M 86 q ∧ M 86 q ≤ 4) : Ct l E yX0_findOverstrained (.code yX0_findOverstrained cX0_findOverstrained 5 none) 2 [vR E 84, vR E (5 * j), vI b, vI t] M (fun v M1 => v = none ∧ f_ls (fun q => decide (M (5 * j + 3) q = 0) && (decide (0 < M 85 q) && decide (b - t * M 86 q < M 85 q))) (M1 87) (M1 84 3) ∧ ∀ o, o ≠ 84 → o ≠ 87 → M1 o = M o) := by
  refine ct_of (L0 := [(0, vR E 84), (1, vR E (5 * j)), (2, vI b), (3, vI t)]) (by decide +kernel) rfl (Nat.le_of_ble_eq_true rfl) ?_
  intro zp ze zs zm za zb zt zc zA hC
  have K8 : ∀ (n : Nat) (k : Int) (M1 : ewM), 144 - k < n → 0 ≤ k → k ≤ 144 → f_ls (fun q => decide (q < k) && (fun q => decide (M (5 * j + 3) q = 0) && (decide (0 < M 85 q) && decide (b - t * M 86 q < M 85 q))) q) (M1 87) (M1 84 3) → (∀ o, o ≠ 84 → o ≠ 87 → M1 o = M o) → jJ zp l ze (ct_rm 2) zs zm za zb zt zc E zA 5 0 0 (MQ zb (ct_Q E zA (fun v M1 => v = none ∧ f_ls (fun q => decide (M (5 * j + 3) q = 0) && (decide (0 < M 85 q) && decide (b - t * M 86 q < M 85 q))) (M1 87) (M1 84 3) ∧ ∀ o, o ≠ 84 → o ≠ 87 → M1 o = M o)) za zs 0 0 zA) 8 [(0, vR E 84), (1, vR E (5 * j)), (2, vI b), (3, vI t), (4, vI k)] [] M1 := by
    intro n
    induction n with
    | zero => intros; omega
    | succ n ih =>
      intro k M1 i1 i2 i3 g1 g2
      refine jw_iload hC dX0_findOverstrained_8 4 rfl ?_
      refine jw_sipush hC dX0_findOverstrained_10 (by decide) ?_
      refine jw_icmp_ge (tgt := 60) hC dX0_findOverstrained_13 (by decide) (by omega) (by omega) (by omega) (by omega) (fun h13 => ?_) (fun h13 => ?_)
      · skip
        refine jw_vret hC dX0_findOverstrained_60 ?_
        refine ⟨rfl, f_ls_cg g1 (fun q q1 q2 => ?_), g2⟩
        have : decide (q < k) = true := by simp; omega
        simp [this]
      · skip
        refine jw_aload_n hC dX0_findOverstrained_16 0 rfl rfl ?_
        refine jw_getr hC fL_X0_9 ewR_k0 dX0_findOverstrained_17 ?_
        refine jw_iload hC dX0_findOverstrained_20 4 rfl ?_
        refine jw_iald hC ewA_85 dX0_findOverstrained_22 (by omega) (by omega) (by decide) (fun b22 c22 => ?_)
        rw [g2 85 (by decide) (by decide)] at b22 c22 ⊢
        refine jw_if_le (tgt := 54) hC dX0_findOverstrained_23 (by decide) (by omega) (by omega) (fun h23 => ?_) (fun h23 => ?_)
        · skip
          refine jw_iinc (L' := [(4, _), (0, _), (1, _), (2, _), (3, _)]) hC dX0_findOverstrained_54 4 rfl (by decide) rfl ?_
          refine jw_goto (tgt := 8) hC dX0_findOverstrained_57 (by decide) ?_
          refine jw_loc (L' := [(0, _), (1, _), (2, _), (3, _), (4, _)]) [1, 2, 3, 4, 0] rfl ?_
          have ext : ∀ q : Int, q ≠ k → decide (q < k + 1) = decide (q < k) := fun q hq => by by_cases h : q < k <;> simp [h] <;> omega
          have dk : decide (k < k) = false := by simp
          have dk1 : decide (k < k + 1) = true := by simp; omega
          first
          | (have e0 : ¬ 0 < M 85 k := by omega
             refine ih _ _ (by omega) (by omega) (by omega) (f_ls_cg g1 (fun q q1 q2 => ?_)) g2
             by_cases hq : q = k
             · subst hq
               simp [dk, dk1, e0]
             · simp only [ext q hq])
          | (have e0 : ¬ b - t * M 86 k < M 85 k := by omega
             refine ih _ _ (by omega) (by omega) (by omega) (f_ls_cg g1 (fun q q1 q2 => ?_)) g2
             by_cases hq : q = k
             · subst hq
               simp [dk, dk1, e0]
             · simp only [ext q hq])
          | (refine ih _ _ (by omega) (by omega) (by omega) ?_ (fun o o1 o2 => by rw [f_note_o _ _ _ o1 o2]; exact g2 o o1 o2)
             by_cases hz : M (5 * j + 3) k = 0
             · have hlt : M1 84 3 < 144 := by
                 by_cases h9 : M1 84 3 < 144
                 · exact h9
                 · exfalso
                   have hsum := (f_ls_s (P2 := fun q => decide (q < k + 1) && (decide (M (5 * j + 3) q = 0) && (decide (0 < M 85 q) && decide (b - t * M 86 q < M 85 q)))) g1 i2 (by omega) (by simp [dk]) (by simp [dk1, hz]; omega) (fun q _ _ hq => by simp only [ext q hq]))
                   have := f_ls_m hsum
                   omega
               have hn := f_note_87 (c := M (5 * j + 3)) hz hlt
               rw [hn.1, hn.2]
               exact f_ls_s g1 i2 (by omega) (by simp [dk]) (by simp [dk1, hz]; omega) (fun q _ _ hq => by simp only [ext q hq])
             · have e9 : f_note M1 (M (5 * j + 3)) k = M1 := by unfold f_note; rw [if_neg (fun h => hz h.1)]
               rw [e9]
               exact f_ls_cg g1 (fun q q1 q2 => by
                by_cases hq : q = k
                · subst hq
                  simp [dk, hz]
                · simp only [ext q hq]))
        · skip
          refine jw_aload_n hC dX0_findOverstrained_26 0 rfl rfl ?_
          refine jw_getr hC fL_X0_9 ewR_k0 dX0_findOverstrained_27 ?_
          refine jw_iload hC dX0_findOverstrained_30 4 rfl ?_
          refine jw_iald hC ewA_85 dX0_findOverstrained_32 (by omega) (by omega) (by decide) (fun b32 c32 => ?_)
          rw [g2 85 (by decide) (by decide)] at b32 c32 ⊢
          refine jw_iload_n hC dX0_findOverstrained_33 2 rfl rfl ?_
          refine jw_iload_n hC dX0_findOverstrained_34 3 rfl rfl ?_
          refine jw_aload_n hC dX0_findOverstrained_35 0 rfl rfl ?_
          refine jw_getr hC fL_X0_15 ewR_k1 dX0_findOverstrained_36 ?_
          refine jw_iload hC dX0_findOverstrained_39 4 rfl ?_
          refine jw_iald hC ewA_86 dX0_findOverstrained_41 (by omega) (by omega) (by decide) (fun b41 c41 => ?_)
          rw [g2 86 (by decide) (by decide)] at b41 c41 ⊢
          have hsk := hs k i2 (by omega)
          have htk := f_tk_b ht.1 ht.2 hsk.1 hsk.2
          refine jw_imul hC dX0_findOverstrained_42 ?_
          refine jw_isub hC dX0_findOverstrained_43 ?_
          refine jw_icmp_le (tgt := 54) hC dX0_findOverstrained_44 (by decide) (by omega) (by omega) (by omega) (by omega) (fun h44 => ?_) (fun h44 => ?_)
          · skip
            refine jw_iinc (L' := [(4, _), (0, _), (1, _), (2, _), (3, _)]) hC dX0_findOverstrained_54 4 rfl (by decide) rfl ?_
            refine jw_goto (tgt := 8) hC dX0_findOverstrained_57 (by decide) ?_
            refine jw_loc (L' := [(0, _), (1, _), (2, _), (3, _), (4, _)]) [1, 2, 3, 4, 0] rfl ?_
            have ext : ∀ q : Int, q ≠ k → decide (q < k + 1) = decide (q < k) := fun q hq => by by_cases h : q < k <;> simp [h] <;> omega
            have dk : decide (k < k) = false := by simp
            have dk1 : decide (k < k + 1) = true := by simp; omega
            first
            | (have e0 : ¬ 0 < M 85 k := by omega
               refine ih _ _ (by omega) (by omega) (by omega) (f_ls_cg g1 (fun q q1 q2 => ?_)) g2
               by_cases hq : q = k
               · subst hq
                 simp [dk, dk1, e0]
               · simp only [ext q hq])
            | (have e0 : ¬ b - t * M 86 k < M 85 k := by omega
               refine ih _ _ (by omega) (by omega) (by omega) (f_ls_cg g1 (fun q q1 q2 => ?_)) g2
               by_cases hq : q = k
               · subst hq
                 simp [dk, dk1, e0]
               · simp only [ext q hq])
            | (refine ih _ _ (by omega) (by omega) (by omega) ?_ (fun o o1 o2 => by rw [f_note_o _ _ _ o1 o2]; exact g2 o o1 o2)
               by_cases hz : M (5 * j + 3) k = 0
               · have hlt : M1 84 3 < 144 := by
                   by_cases h9 : M1 84 3 < 144
                   · exact h9
                   · exfalso
                     have hsum := (f_ls_s (P2 := fun q => decide (q < k + 1) && (decide (M (5 * j + 3) q = 0) && (decide (0 < M 85 q) && decide (b - t * M 86 q < M 85 q)))) g1 i2 (by omega) (by simp [dk]) (by simp [dk1, hz]; omega) (fun q _ _ hq => by simp only [ext q hq]))
                     have := f_ls_m hsum
                     omega
                 have hn := f_note_87 (c := M (5 * j + 3)) hz hlt
                 rw [hn.1, hn.2]
                 exact f_ls_s g1 i2 (by omega) (by simp [dk]) (by simp [dk1, hz]; omega) (fun q _ _ hq => by simp only [ext q hq])
               · have e9 : f_note M1 (M (5 * j + 3)) k = M1 := by unfold f_note; rw [if_neg (fun h => hz h.1)]
                 rw [e9]
                 exact f_ls_cg g1 (fun q q1 q2 => by
                  by_cases hq : q = k
                  · subst hq
                    simp [dk, hz]
                  · simp only [ext q hq]))
          · skip
            refine jw_aload_n hC dX0_findOverstrained_47 0 rfl rfl ?_
            refine jw_aload_n hC dX0_findOverstrained_48 1 rfl rfl ?_
            refine jw_iload hC dX0_findOverstrained_49 4 rfl ?_
            refine jw_callV hC (c_X0_noteIfWhole l E M1 j hj _ ⟨by omega, by omega⟩ (f_ls_m g1).1) sV_X0_54 ewF_k3.o dX0_findOverstrained_51 rfl rfl ⟨Nat.le_of_ble_eq_true rfl, Nat.le_of_ble_eq_true rfl⟩ ⟨Nat.zero_le _, Nat.zero_le _⟩ (Nat.le_of_ble_eq_true rfl) (fun v51 M51 g51 => ?_)
            obtain ⟨rfl, rfl⟩ := g51
            rw [g2 (5 * j + 3) (by omega) (by omega)]
            refine jw_iinc (L' := [(4, _), (0, _), (1, _), (2, _), (3, _)]) hC dX0_findOverstrained_54 4 rfl (by decide) rfl ?_
            refine jw_goto (tgt := 8) hC dX0_findOverstrained_57 (by decide) ?_
            refine jw_loc (L' := [(0, _), (1, _), (2, _), (3, _), (4, _)]) [1, 2, 3, 4, 0] rfl ?_
            have ext : ∀ q : Int, q ≠ k → decide (q < k + 1) = decide (q < k) := fun q hq => by by_cases h : q < k <;> simp [h] <;> omega
            have dk : decide (k < k) = false := by simp
            have dk1 : decide (k < k + 1) = true := by simp; omega
            first
            | (have e0 : ¬ 0 < M 85 k := by omega
               refine ih _ _ (by omega) (by omega) (by omega) (f_ls_cg g1 (fun q q1 q2 => ?_)) g2
               by_cases hq : q = k
               · subst hq
                 simp [dk, dk1, e0]
               · simp only [ext q hq])
            | (have e0 : ¬ b - t * M 86 k < M 85 k := by omega
               refine ih _ _ (by omega) (by omega) (by omega) (f_ls_cg g1 (fun q q1 q2 => ?_)) g2
               by_cases hq : q = k
               · subst hq
                 simp [dk, dk1, e0]
               · simp only [ext q hq])
            | (refine ih _ _ (by omega) (by omega) (by omega) ?_ (fun o o1 o2 => by rw [f_note_o _ _ _ o1 o2]; exact g2 o o1 o2)
               by_cases hz : M (5 * j + 3) k = 0
               · have hlt : M1 84 3 < 144 := by
                   by_cases h9 : M1 84 3 < 144
                   · exact h9
                   · exfalso
                     have hsum := (f_ls_s (P2 := fun q => decide (q < k + 1) && (decide (M (5 * j + 3) q = 0) && (decide (0 < M 85 q) && decide (b - t * M 86 q < M 85 q)))) g1 i2 (by omega) (by simp [dk]) (by simp [dk1, hz]; omega) (fun q _ _ hq => by simp only [ext q hq]))
                     have := f_ls_m hsum
                     omega
                 have hn := f_note_87 (c := M (5 * j + 3)) hz hlt
                 rw [hn.1, hn.2]
                 exact f_ls_s g1 i2 (by omega) (by simp [dk]) (by simp [dk1, hz]; omega) (fun q _ _ hq => by simp only [ext q hq])
               · have e9 : f_note M1 (M (5 * j + 3)) k = M1 := by unfold f_note; rw [if_neg (fun h => hz h.1)]
                 rw [e9]
                 exact f_ls_cg g1 (fun q q1 q2 => by
                  by_cases hq : q = k
                  · subst hq
                    simp [dk, hz]
                  · simp only [ext q hq]))
  refine jw_aload_n hC dX0_findOverstrained_0 0 rfl rfl ?_
  refine jw_iconst hC dX0_findOverstrained_1 ?_
  refine jw_puti hC fL_X0_34 ewF_k3 (kI := 3) rfl dX0_findOverstrained_2 (by omega) (by omega) ?_
  refine jw_iconst hC dX0_findOverstrained_5 ?_
  refine jw_istore (L' := [(4, _), (0, _), (1, _), (2, _), (3, _)]) hC dX0_findOverstrained_6 (by decide) rfl ?_
  refine jw_loc (L' := [(0, _), (1, _), (2, _), (3, _), (4, _)]) [1, 2, 3, 4, 0] rfl ?_
  refine K8 145 0 _ (by omega) (by omega) (by omega) ?_ (fun o o1 _ => mu_ne _ _ _ o1)
  rw [mu_eq]
  exact f_ls_0 (fun q q1 _ => by have : decide (q < 0) = false := by simp; omega
                                 simp [this])
set_option maxRecDepth 100000 in
set_option maxHeartbeats 4000000 in
theorem c_X0_crackAll (l : Launch) (E : ewE) (M : ewM) (j : Nat) (hj : j < 10) (b t : Int) (hb : 0 ≤ b ∧ b ≤ 99) (ht : 0 ≤ t ∧ t ≤ 20) (hD : pD (M (5 * j + 1))) (hc : pC (M (5 * j + 3))) : Ct l E yX0_crackAll (.code yX0_crackAll cX0_crackAll 6 (some .int)) 3 [vR E 84, vR E (5 * j), vI b, vI t] M (fun v M1 => v = some (vI (f_sum (f_it (M (5 * j + 1)) b t (M (5 * j + 3)) 144) 144 - f_sum (M (5 * j + 3)) 144)) ∧ M1 (5 * j + 3) = f_it (M (5 * j + 1)) b t (M (5 * j + 3)) 144 ∧ (∀ q : Int, 0 ≤ q → q < 144 → 0 ≤ M1 86 q ∧ M1 86 q ≤ 4) ∧ ∀ o, o ≠ 5 * j + 3 → (o < 84 ∨ 87 < o) → M1 o = M o) := by
  refine ct_of (L0 := [(0, vR E 84), (1, vR E (5 * j)), (2, vI b), (3, vI t)]) (by decide +kernel) rfl (Nat.le_of_ble_eq_true rfl) ?_
  intro zp ze zs zm za zb zt zc zA hC
  have K90 : ∀ (k x : Int) (M1 : ewM) (n : Nat), M1 (5 * j + 3) = f_it (M (5 * j + 1)) b t (M (5 * j + 3)) n → f_it (M (5 * j + 1)) b t (M (5 * j + 3)) n = f_it (M (5 * j + 1)) b t (M (5 * j + 3)) 144 → (∀ q : Int, 0 ≤ q → q < 144 → M1 86 q = f_cb (M1 (5 * j + 3)) q) → x = f_sum (M1 (5 * j + 3)) 144 - f_sum (M (5 * j + 3)) 144 → (∀ o, o ≠ 5 * j + 3 → (o < 84 ∨ 87 < o) → M1 o = M o) → jJ zp l ze (ct_rm 3) zs zm za zb zt zc E zA 6 0 0 (MQ zb (ct_Q E zA (fun v M1 => v = some (vI (f_sum (f_it (M (5 * j + 1)) b t (M (5 * j + 3)) 144) 144 - f_sum (M (5 * j + 3)) 144)) ∧ M1 (5 * j + 3) = f_it (M (5 * j + 1)) b t (M (5 * j + 3)) 144 ∧ (∀ q : Int, 0 ≤ q → q < 144 → 0 ≤ M1 86 q ∧ M1 86 q ≤ 4) ∧ ∀ o, o ≠ 5 * j + 3 → (o < 84 ∨ 87 < o) → M1 o = M o)) za zs 0 0 zA) 90 [(0, vR E 84), (1, vR E (5 * j)), (2, vI b), (3, vI t), (4, vI x), (5, vI k)] [] M1 := by
    intro k x M1 n g1 e0 g3 g4 e2
    have e1 : M1 (5 * j + 3) = f_it (M (5 * j + 1)) b t (M (5 * j + 3)) 144 := g1.trans e0
    refine jw_iload hC dX0_crackAll_90 4 rfl ?_
    refine jw_iret hC dX0_crackAll_92 ?_
    refine ⟨?_, e1, fun q q1 q2 => ?_, e2⟩
    · rw [g4, e1]
    · rw [g3 q q1 q2]
      exact f_cb_b (by rw [g1]; exact f_it_C hc _) q
  have K49 : ∀ (n : Nat) (k x : Int) (M1 : ewM), 145 - k < n → 0 ≤ k → k ≤ 145 → M1 (5 * j + 3) = f_it (M (5 * j + 1)) b t (M (5 * j + 3)) k.toNat → (∀ q : Int, 0 ≤ q → q < 144 → M1 85 q = f_str (M (5 * j + 1)) q) → (∀ q : Int, 0 ≤ q → q < 144 → M1 86 q = f_cb (M1 (5 * j + 3)) q) → x = f_sum (M1 (5 * j + 3)) 144 - f_sum (M (5 * j + 3)) 144 → k ≤ f_sum (M1 (5 * j + 3)) 144 → (∀ o, o ≠ 5 * j + 3 → (o < 84 ∨ 87 < o) → M1 o = M o) → jJ zp l ze (ct_rm 3) zs zm za zb zt zc E zA 6 0 0 (MQ zb (ct_Q E zA (fun v M1 => v = some (vI (f_sum (f_it (M (5 * j + 1)) b t (M (5 * j + 3)) 144) 144 - f_sum (M (5 * j + 3)) 144)) ∧ M1 (5 * j + 3) = f_it (M (5 * j + 1)) b t (M (5 * j + 3)) 144 ∧ (∀ q : Int, 0 ≤ q → q < 144 → 0 ≤ M1 86 q ∧ M1 86 q ≤ 4) ∧ ∀ o, o ≠ 5 * j + 3 → (o < 84 ∨ 87 < o) → M1 o = M o)) za zs 0 0 zA) 49 [(0, vR E 84), (1, vR E (5 * j)), (2, vI b), (3, vI t), (4, vI x), (5, vI k)] [] M1 := by
    intro n
    induction n with
    | zero => intros; omega
    | succ n ih =>
      intro k x M1 i1 i2 i3 g1 g2 g3 g4 g5 g6
      have hsC := f_sum_C (f_it_C hc (d := M (5 * j + 1)) (b := b) (t := t) k.toNat)
      rw [← g1] at hsC
      refine jw_iload hC dX0_crackAll_49 5 rfl ?_
      refine jw_sipush hC dX0_crackAll_51 (by decide) ?_
      refine jw_icmp_gt (tgt := 90) hC dX0_crackAll_54 (by decide) (by omega) (by omega) (by omega) (by omega) (fun h54 => ?_) (fun h54 => ?_)
      · skip
        first
        | (exfalso; omega)
        | (have hz : f_sum (f_ind (f_ovr (M (5 * j + 1)) b t (f_it (M (5 * j + 1)) b t (M (5 * j + 3)) k.toNat))) 144 = 0 := by rw [← q1.1]; exact h68
           have hfx := f_it_fix (n := k.toNat) hz (144 - k.toNat)
           rw [show k.toNat + (144 - k.toNat) = 144 by omega] at hfx
           exact K90 k x M61 k.toNat ((q2 (5 * j + 3) (by omega) (by omega)).trans g1) hfx.symm (fun q z1 z2 => by rw [q2 86 (by decide) (by decide), q2 (5 * j + 3) (by omega) (by omega)]; exact g3 q z1 z2) (by rw [q2 (5 * j + 3) (by omega) (by omega)]; exact g4) (fun o o1 o2 => (q2 o (by omega) (by omega)).trans (g6 o o1 o2)))
      · skip
        refine jw_aload_n hC dX0_crackAll_57 0 rfl rfl ?_
        refine jw_aload_n hC dX0_crackAll_58 1 rfl rfl ?_
        refine jw_iload_n hC dX0_crackAll_59 2 rfl rfl ?_
        refine jw_iload_n hC dX0_crackAll_60 3 rfl rfl ?_
        refine jw_callV hC (c_X0_findOverstrained l E M1 j hj b t hb ht (fun q q1 q2 => by rw [g3 q q1 q2, g1]; exact f_cb_b (f_it_C hc _) q)) sV_X0_30 ewF_k3.o dX0_crackAll_61 rfl rfl ⟨Nat.le_of_ble_eq_true rfl, Nat.le_of_ble_eq_true rfl⟩ ⟨Nat.zero_le _, Nat.zero_le _⟩ (Nat.le_of_ble_eq_true rfl) (fun v61 M61 g61 => ?_)
        obtain ⟨rfl, q1, q2⟩ := g61
        have qm := f_ls_m q1
        refine jw_aload_n hC dX0_crackAll_64 0 rfl rfl ?_
        refine jw_geti hC fL_X0_34.r ewF_k3 (kI := 3) rfl dX0_crackAll_65 (by omega) (fun b65 c65 => ?_)
        have hPO : ∀ q : Int, 0 ≤ q → q < 144 → (decide (M1 (5 * j + 3) q = 0) && (decide (0 < M1 85 q) && decide (b - t * M1 86 q < M1 85 q))) = f_ovr (M (5 * j + 1)) b t (f_it (M (5 * j + 1)) b t (M (5 * j + 3)) k.toNat) q := fun q q1 q2 => by rw [f_ovr_eq hD, g1, g2 q q1 q2, g3 q q1 q2, g1]
        have q1 := f_ls_cg q1 (fun q z1 z2 => (hPO q z1 z2).symm)
        have hsum := f_rnd_sum (M (5 * j + 1)) b t (f_it (M (5 * j + 1)) b t (M (5 * j + 3)) k.toNat)
        refine jw_if_ne (tgt := 74) hC dX0_crackAll_68 (by decide) (by omega) (by omega) (fun h68 => ?_) (fun h68 => ?_)
        · skip
          refine jw_iload hC dX0_crackAll_74 4 rfl ?_
          refine jw_aload_n hC dX0_crackAll_76 0 rfl rfl ?_
          refine jw_aload_n hC dX0_crackAll_77 1 rfl rfl ?_
          refine jw_callV hC (c_X0_crackFound l E M61 j hj qm (fun i i1 i2 => ⟨(q1.2.1 i i1 i2).1, (q1.2.1 i i1 i2).2.1⟩)) sV_X0_38 ewF_k3.o dX0_crackAll_78 rfl rfl ⟨Nat.le_of_ble_eq_true rfl, Nat.le_of_ble_eq_true rfl⟩ ⟨Nat.zero_le _, Nat.zero_le _⟩ (Nat.le_of_ble_eq_true rfl) (fun v78 M78 g78 => ?_)
          obtain ⟨rfl, r1, r2, r3⟩ := g78
          refine jw_iadd hC dX0_crackAll_81 ?_
          refine jw_istore (L' := [(4, _), (0, _), (1, _), (2, _), (3, _), (5, _)]) hC dX0_crackAll_82 (by decide) rfl ?_
          refine jw_iinc (L' := [(5, _), (4, _), (0, _), (1, _), (2, _), (3, _)]) hC dX0_crackAll_84 5 rfl (by decide) rfl ?_
          refine jw_goto (tgt := 49) hC dX0_crackAll_87 (by decide) ?_
          refine jw_loc (L' := [(0, _), (1, _), (2, _), (3, _), (4, _), (5, _)]) [2, 3, 4, 5, 1, 0] rfl ?_
          refine ih _ _ _ (by omega) (by omega) (by omega) ?_ ?_ ?_ ?_ ?_ ?_
          · rw [r1, q2 (5 * j + 3) (by omega) (by omega), g1, f_crk_eq q1, f_it_s _ _ _ _ i2]
            rfl
          · intro q z1 z2
            rw [r3 _ (by omega) (by decide), q2 _ (by decide) (by decide)]
            exact g2 q z1 z2
          · intro q z1 z2
            rw [r2, r1, q2 (5 * j + 3) (by omega) (by omega), q2 86 (by decide) (by decide)]
            refine f_bes_q g3 (by rw [g1]; exact f_it_C hc _) _ (fun i i1 i2 => ?_) (fun i i' i1 i2 j1 j2 => q1.2.2.1 i i' i1 (by omega) j1 (by omega)) q z1 z2
            have h9 := q1.2.1 i i1 (by omega)
            exact ⟨h9.1, h9.2.1, by rw [g1]; exact f_ovr_0 h9.2.2⟩
          · rw [r1, q2 (5 * j + 3) (by omega) (by omega), g1, f_crk_eq q1]
            have h8 : f_brk (f_ovr (M (5 * j + 1)) b t (f_it (M (5 * j + 1)) b t (M (5 * j + 3)) k.toNat)) (f_it (M (5 * j + 1)) b t (M (5 * j + 3)) k.toNat) = f_rnd (M (5 * j + 1)) b t (f_it (M (5 * j + 1)) b t (M (5 * j + 3)) k.toNat) := rfl
            rw [h8, hsum, ← q1.1, g4, g1]
            omega
          · rw [r1, q2 (5 * j + 3) (by omega) (by omega), g1, f_crk_eq q1]
            have h8 : f_brk (f_ovr (M (5 * j + 1)) b t (f_it (M (5 * j + 1)) b t (M (5 * j + 3)) k.toNat)) (f_it (M (5 * j + 1)) b t (M (5 * j + 3)) k.toNat) = f_rnd (M (5 * j + 1)) b t (f_it (M (5 * j + 1)) b t (M (5 * j + 3)) k.toNat) := rfl
            rw [h8, hsum, ← q1.1, ← g1]
            omega
          · intro o o1 o2
            rw [r3 _ o1 (by omega), q2 _ (by omega) (by omega)]
            exact g6 o o1 o2
        · skip
          refine jw_goto (tgt := 90) hC dX0_crackAll_71 (by decide) ?_
          first
          | (exfalso; omega)
          | (have hz : f_sum (f_ind (f_ovr (M (5 * j + 1)) b t (f_it (M (5 * j + 1)) b t (M (5 * j + 3)) k.toNat))) 144 = 0 := by rw [← q1.1]; exact h68
             have hfx := f_it_fix (n := k.toNat) hz (144 - k.toNat)
             rw [show k.toNat + (144 - k.toNat) = 144 by omega] at hfx
             exact K90 k x M61 k.toNat ((q2 (5 * j + 3) (by omega) (by omega)).trans g1) hfx.symm (fun q z1 z2 => by rw [q2 86 (by decide) (by decide), q2 (5 * j + 3) (by omega) (by omega)]; exact g3 q z1 z2) (by rw [q2 (5 * j + 3) (by omega) (by omega)]; exact g4) (fun o o1 o2 => (q2 o (by omega) (by omega)).trans (g6 o o1 o2)))
  have K3 : ∀ (n : Nat) (k : Int) (M1 : ewM), 144 - k < n → 0 ≤ k → k ≤ 144 → (∀ q : Int, 0 ≤ q → q < k → M1 85 q = f_str (M (5 * j + 1)) q) → (∀ q : Int, 0 ≤ q → q < k → M1 86 q = f_cb (M (5 * j + 3)) q) → (∀ o, o ≠ 85 → o ≠ 86 → M1 o = M o) → jJ zp l ze (ct_rm 3) zs zm za zb zt zc E zA 6 0 0 (MQ zb (ct_Q E zA (fun v M1 => v = some (vI (f_sum (f_it (M (5 * j + 1)) b t (M (5 * j + 3)) 144) 144 - f_sum (M (5 * j + 3)) 144)) ∧ M1 (5 * j + 3) = f_it (M (5 * j + 1)) b t (M (5 * j + 3)) 144 ∧ (∀ q : Int, 0 ≤ q → q < 144 → 0 ≤ M1 86 q ∧ M1 86 q ≤ 4) ∧ ∀ o, o ≠ 5 * j + 3 → (o < 84 ∨ 87 < o) → M1 o = M o)) za zs 0 0 zA) 3 [(0, vR E 84), (1, vR E (5 * j)), (2, vI b), (3, vI t), (4, vI k)] [] M1 := by
    intro n
    induction n with
    | zero => intros; omega
    | succ n ih =>
      intro k M1 i1 i2 i3 g1 g2 g3
      refine jw_iload hC dX0_crackAll_3 4 rfl ?_
      refine jw_sipush hC dX0_crackAll_5 (by decide) ?_
      refine jw_icmp_ge (tgt := 43) hC dX0_crackAll_8 (by decide) (by omega) (by omega) (by omega) (by omega) (fun h8 => ?_) (fun h8 => ?_)
      · skip
        refine jw_iconst hC dX0_crackAll_43 ?_
        refine jw_istore (L' := [(4, _), (0, _), (1, _), (2, _), (3, _)]) hC dX0_crackAll_44 (by decide) rfl ?_
        refine jw_iconst hC dX0_crackAll_46 ?_
        refine jw_istore (L' := [(5, _), (4, _), (0, _), (1, _), (2, _), (3, _)]) hC dX0_crackAll_47 (by decide) rfl ?_
        refine jw_loc (L' := [(0, _), (1, _), (2, _), (3, _), (4, _), (5, _)]) [2, 3, 4, 5, 1, 0] rfl ?_
        have e9 : k = 144 := by omega
        subst e9
        have hs0 := f_sum_C hc
        exact K49 146 0 0 M1 (by omega) (by omega) (by omega) (g3 _ (by omega) (by omega)) g1 (fun q q1 q2 => by rw [g3 (5 * j + 3) (by omega) (by omega)]; exact g2 q q1 q2) (by rw [g3 (5 * j + 3) (by omega) (by omega)]; omega) (by rw [g3 (5 * j + 3) (by omega) (by omega)]; omega) (fun o o1 o2 => g3 o (by omega) (by omega))
      · skip
        refine jw_aload_n hC dX0_crackAll_11 0 rfl rfl ?_
        refine jw_getr hC fL_X0_9 ewR_k0 dX0_crackAll_12 ?_
        refine jw_iload hC dX0_crackAll_15 4 rfl ?_
        refine jw_aload_n hC dX0_crackAll_17 1 rfl rfl ?_
        refine jw_iload hC dX0_crackAll_18 4 rfl ?_
        refine jw_callV hC (c_X2_strainOf l E M1 j hj _ ⟨by omega, by omega⟩ (by rw [g3 (5 * j + 1) (by omega) (by omega)]; exact hD)) sV_X0_21 (ewO_sheet (j := j) (by omega)) dX0_crackAll_20 rfl rfl ⟨Nat.le_of_ble_eq_true rfl, Nat.le_of_ble_eq_true rfl⟩ ⟨Nat.zero_le _, Nat.zero_le _⟩ (Nat.le_of_ble_eq_true rfl) (fun v20 M20 g20 => ?_)
        obtain ⟨rfl, rfl⟩ := g20
        have y1 := f_str_b hD k
        rw [g3 (5 * j + 1) (by omega) (by omega)]
        refine jw_iast hC ewA_85 dX0_crackAll_23 (by omega) (by omega) (by decide) (by omega) (by omega) ?_
        refine jw_aload_n hC dX0_crackAll_24 0 rfl rfl ?_
        refine jw_getr hC fL_X0_15 ewR_k1 dX0_crackAll_25 ?_
        refine jw_iload hC dX0_crackAll_28 4 rfl ?_
        refine jw_aload_n hC dX0_crackAll_30 1 rfl rfl ?_
        refine jw_iload hC dX0_crackAll_31 4 rfl ?_
        refine jw_callV hC (c_X2_crackedBeside l E _ j hj _ ⟨by omega, by omega⟩) sV_X0_27 (ewO_sheet (j := j) (by omega)) dX0_crackAll_33 rfl rfl ⟨Nat.le_of_ble_eq_true rfl, Nat.le_of_ble_eq_true rfl⟩ ⟨Nat.zero_le _, Nat.zero_le _⟩ (Nat.le_of_ble_eq_true rfl) (fun v33 M33 g33 => ?_)
        obtain ⟨rfl, rfl⟩ := g33
        rw [mu_ne _ _ _ (show 5 * j + 3 ≠ 85 by omega), g3 (5 * j + 3) (by omega) (by omega)]
        have y2 := f_cb_b hc k
        refine jw_iast hC ewA_86 dX0_crackAll_36 (by omega) (by omega) (by decide) (by omega) (by omega) ?_
        refine jw_iinc (L' := [(4, _), (0, _), (1, _), (2, _), (3, _)]) hC dX0_crackAll_37 4 rfl (by decide) rfl ?_
        refine jw_goto (tgt := 3) hC dX0_crackAll_40 (by decide) ?_
        refine jw_loc (L' := [(0, _), (1, _), (2, _), (3, _), (4, _)]) [1, 2, 3, 4, 0] rfl ?_
        refine ih _ _ (by omega) (by omega) (by omega) (fun q q1 q2 => ?_) (fun q q1 q2 => ?_) (fun o o1 o2 => ?_)
        · rw [mu_ne _ _ _ (by decide), mu_at]
          dsimp only
          by_cases hq : q = k
          · subst hq; rw [if_pos rfl]
          · rw [if_neg hq]; exact g1 q q1 (by omega)
        · rw [mu_at]
          dsimp only
          by_cases hq : q = k
          · subst hq; rw [if_pos rfl]
          · rw [if_neg hq, mu_ne _ _ _ (by decide)]; exact g2 q q1 (by omega)
        · rw [mu_ne _ _ _ o2, mu_ne _ _ _ o1]; exact g3 o o1 o2
  refine jw_iconst hC dX0_crackAll_0 ?_
  refine jw_istore (L' := [(4, _), (0, _), (1, _), (2, _), (3, _)]) hC dX0_crackAll_1 (by decide) rfl ?_
  refine jw_loc (L' := [(0, _), (1, _), (2, _), (3, _), (4, _)]) [1, 2, 3, 4, 0] rfl ?_
  exact K3 145 0 M (by omega) (by omega) (by omega) (fun q q1 q2 => by omega) (fun q q1 q2 => by omega) (fun _ _ _ => rfl)
/-- the places that a fold ahead of a row cracks by itself -/
def f_ovf (d c : Int → Int) (row b t : Int) : Int → Bool := fun q => decide (c q = 0) && ((decide (q / 12 = row) || decide (q / 12 = row - 1)) && decide (f_bear c q b t / 2 < f_diff d (row * 12 + q % 12) ((row - 1) * 12 + q % 12)))
theorem f_bear_b {c : Int → Int} (p : Int) {b t : Int} (hc : pC c) (hb : 0 ≤ b ∧ b ≤ 99) (ht : 0 ≤ t ∧ t ≤ 20) : 0 ≤ f_bear c p b t ∧ f_bear c p b t ≤ 99 := by
  have h1 := f_cb_b hc p
  have h2 := f_tk_b ht.1 ht.2 h1.1 h1.2
  unfold f_bear
  omega
theorem f_pl_in {c r : Int} (h1 : 0 ≤ c) (h2 : c < 12) (h3 : 0 ≤ r) (h4 : r < 12) : f_pl c r = r * 12 + c := by
  unfold f_pl
  rw [if_pos ⟨h1, h2, h3, h4⟩]
/-- a place is noted: the list goes on -/
theorem f_ls_note {M : ewM} {c : Int → Int} {P : Int → Bool} {p : Int} (g : f_ls P (M 87) (M 84 3)) (h0 : 0 ≤ p) (h1 : p < 144) (hp : P p = false) : f_ls (fun q => P q || (decide (q = p) && decide (c q = 0))) (f_note M c p 87) (f_note M c p 84 3) := by
  have hm := f_ls_m g
  by_cases hz : c p = 0
  · have s1 := f_ls_s (P2 := fun q => P q || (decide (q = p) && decide (c q = 0))) g h0 h1 hp (by simp [hz]) (fun q _ _ hq => by simp [hq])
    have hlt : M 84 3 < 144 := by
      have := f_ls_m s1
      omega
    have hn := f_note_87 (c := c) hz hlt
    rw [hn.1, hn.2]
    exact s1
  · have e9 : f_note M c p = M := by unfold f_note; rw [if_neg (fun h => hz h.1)]
    rw [e9]
    exact f_ls_cg g (fun q q1 q2 => by
      by_cases hq : q = p
      · subst hq; simp [hz]
      · simp [hq])
theorem f_ovf_row {d c : Int → Int} {row b t q : Int} (h : f_ovf d c row b t q = true) : q / 12 = row ∨ q / 12 = row - 1 := by
  unfold f_ovf at h
  simp only [Bool.and_eq_true, Bool.or_eq_true, decide_eq_true_eq] at h
  exact h.2.1
theorem f_ovf_up {d c : Int → Int} {row b t k : Int} (h0 : 0 ≤ k) (h1 : k < 12) : f_ovf d c row b t ((row - 1) * 12 + k) = (decide (c ((row - 1) * 12 + k) = 0) && decide (f_bear c ((row - 1) * 12 + k) b t / 2 < f_diff d (row * 12 + k) ((row - 1) * 12 + k))) := by
  unfold f_ovf
  rw [show ((row - 1) * 12 + k) / 12 = row - 1 by omega, show ((row - 1) * 12 + k) % 12 = k by omega]
  simp
theorem f_ovf_low {d c : Int → Int} {row b t k : Int} (h0 : 0 ≤ k) (h1 : k < 12) : f_ovf d c row b t (row * 12 + k) = (decide (c (row * 12 + k) = 0) && decide (f_bear c (row * 12 + k) b t / 2 < f_diff d (row * 12 + k) ((row - 1) * 12 + k))) := by
  unfold f_ovf
  rw [show (row * 12 + k) / 12 = row by omega, show (row * 12 + k) % 12 = k by omega]
  simp
theorem f_ovf_k1 {d c : Int → Int} {row b t k : Int} (h0 : 0 ≤ k) (h1 : k < 12) (q : Int) : (decide (q % 12 < k + 1) && f_ovf d c row b t q) = ((decide (q % 12 < k) && f_ovf d c row b t q) || (decide (q = (row - 1) * 12 + k) && f_ovf d c row b t q) || (decide (q = row * 12 + k) && f_ovf d c row b t q)) := by
  cases hP : f_ovf d c row b t q with
  | false => simp
  | true =>
    have hr := f_ovf_row hP
    simp only [Bool.and_true, ← Bool.decide_or, decide_eq_decide]
    omega
/-- a place that isn't noted, or is, behind those that P tells -/
theorem f_ls_no {M : ewM} {P F : Int → Bool} {p : Int} (g : f_ls P (M 87) (M 84 3)) (h : F p = false) : f_ls (fun q => P q || (decide (q = p) && F q)) (M 87) (M 84 3) := f_ls_cg g (fun q _ _ => by
  by_cases hq : q = p
  · subst hq; simp [h]
  · simp [hq])
theorem f_ls_yes {M : ewM} {c : Int → Int} {P F : Int → Bool} {p : Int} (g : f_ls P (M 87) (M 84 3)) (h0 : 0 ≤ p) (h1 : p < 144) (hp : P p = false) (h : F p = decide (c p = 0)) : f_ls (fun q => P q || (decide (q = p) && F q)) (f_note M c p 87) (f_note M c p 84 3) := f_ls_cg (f_ls_note (c := c) g h0 h1 hp) (fun q _ _ => by
  by_cases hq : q = p
  · subst hq; simp [h]
  · simp [hq])
set_option maxRecDepth 100000 in
set_option maxHeartbeats 4000000 in
theorem c_X0_crackAtFold (l : Launch) (E : ewE) (M : ewM) (j : Nat) (hj : j < 10) (row b t : Int) (hrow : 1 ≤ row ∧ row < 12) (hb : 0 ≤ b ∧ b ≤ 99) (ht : 0 ≤ t ∧ t ≤ 20) (hD : pD (M (5 * j + 1))) (hc : pC (M (5 * j + 3))) : Ct l E yX0_crackAtFold (.code yX0_crackAtFold cX0_crackAtFold 9 (some .int)) 3 [vR E 84, vR E (5 * j), vI row, vI b, vI t] M (fun v M1 => v = some (vI (f_sum (M1 (5 * j + 3)) 144 - f_sum (M (5 * j + 3)) 144)) ∧ M1 (5 * j + 3) = f_brk (f_ovf (M (5 * j + 1)) (M (5 * j + 3)) row b t) (M (5 * j + 3)) ∧ ∀ o, o ≠ 5 * j + 3 → o ≠ 84 → o ≠ 86 → o ≠ 87 → M1 o = M o) := by
  refine ct_of (L0 := [(0, vR E 84), (1, vR E (5 * j)), (2, vI row), (3, vI b), (4, vI t)]) (by decide +kernel) rfl (Nat.le_of_ble_eq_true rfl) ?_
  intro zp ze zs zm za zb zt zc zA hC
  have K85 : ∀ (k : Int) (M1 : ewM), 0 ≤ k → k < 12 → f_ls (fun q => (decide (q % 12 < k) && f_ovf (M (5 * j + 1)) (M (5 * j + 3)) row b t q) || (decide (q = (row - 1) * 12 + k) && f_ovf (M (5 * j + 1)) (M (5 * j + 3)) row b t q)) (M1 87) (M1 84 3) → (∀ o, o ≠ 84 → o ≠ 87 → M1 o = M o) → (∀ M1 : ewM, f_ls (fun q => decide (q % 12 < k + 1) && f_ovf (M (5 * j + 1)) (M (5 * j + 3)) row b t q) (M1 87) (M1 84 3) → (∀ o, o ≠ 84 → o ≠ 87 → M1 o = M o) → jJ zp l ze (ct_rm 3) zs zm za zb zt zc E zA 9 0 0 (MQ zb (ct_Q E zA (fun v M1 => v = some (vI (f_sum (M1 (5 * j + 3)) 144 - f_sum (M (5 * j + 3)) 144)) ∧ M1 (5 * j + 3) = f_brk (f_ovf (M (5 * j + 1)) (M (5 * j + 3)) row b t) (M (5 * j + 3)) ∧ ∀ o, o ≠ 5 * j + 3 → o ≠ 84 → o ≠ 86 → o ≠ 87 → M1 o = M o)) za zs 0 0 zA) 8 [(0, vR E 84), (1, vR E (5 * j)), (2, vI row), (3, vI b), (4, vI t), (5, vI (k + 1))] [] M1) → jJ zp l ze (ct_rm 3) zs zm za zb zt zc E zA 9 0 0 (MQ zb (ct_Q E zA (fun v M1 => v = some (vI (f_sum (M1 (5 * j + 3)) 144 - f_sum (M (5 * j + 3)) 144)) ∧ M1 (5 * j + 3) = f_brk (f_ovf (M (5 * j + 1)) (M (5 * j + 3)) row b t) (M (5 * j + 3)) ∧ ∀ o, o ≠ 5 * j + 3 → o ≠ 84 → o ≠ 86 → o ≠ 87 → M1 o = M o)) za zs 0 0 zA) 85 [(0, vR E 84), (1, vR E (5 * j)), (2, vI row), (3, vI b), (4, vI t), (5, vI k), (6, vI (row * 12 + k)), (7, vI ((row - 1) * 12 + k)), (8, vI (f_diff (M (5 * j + 1)) (row * 12 + k) ((row - 1) * 12 + k)))] [] M1 := by
    intro k M1 i2 i3 g1 g2 hout
    have hdf := f_diff_b hD (row * 12 + k) ((row - 1) * 12 + k)
    refine jw_iload hC dX0_crackAtFold_85 8 rfl ?_
    refine jw_aload_n hC dX0_crackAtFold_87 1 rfl rfl ?_
    refine jw_iload hC dX0_crackAtFold_88 6 rfl ?_
    refine jw_iload_n hC dX0_crackAtFold_90 3 rfl rfl ?_
    refine jw_iload hC dX0_crackAtFold_91 4 rfl ?_
    refine jw_callV hC (c_X2_bearingOf l E M1 j hj _ b t ⟨by omega, by omega⟩ hb ht (by rw [g2 (5 * j + 3) (by omega) (by omega)]; exact hc)) sV_X0_50 (ewO_sheet (j := j) (by omega)) dX0_crackAtFold_93 rfl rfl ⟨Nat.le_of_ble_eq_true rfl, Nat.le_of_ble_eq_true rfl⟩ ⟨Nat.zero_le _, Nat.zero_le _⟩ (Nat.le_of_ble_eq_true rfl) (fun v93 M93 g93 => ?_)
    obtain ⟨rfl, rfl⟩ := g93
    rw [g2 (5 * j + 3) (by omega) (by omega)]
    have hbe1 := f_bear_b ((row - 1) * 12 + k) hc hb ht
    have hbe2 := f_bear_b (row * 12 + k) hc hb ht
    refine jw_iconst hC dX0_crackAtFold_96 ?_
    refine jw_idiv hC dX0_crackAtFold_97 (by omega) (by omega) (by omega) (by omega) ?_
    refine jw_icmp_le (tgt := 108) hC dX0_crackAtFold_98 (by decide) (by omega) (by omega) (by omega) (by omega) (fun h98 => ?_) (fun h98 => ?_)
    · skip
      refine jw_iinc (L' := [(5, _), (0, _), (1, _), (2, _), (3, _), (4, _), (6, _), (7, _), (8, _)]) hC dX0_crackAtFold_108 5 rfl (by decide) rfl ?_
      refine jw_goto (tgt := 8) hC dX0_crackAtFold_111 (by decide) ?_
      refine jw_loc (L' := [(0, _), (1, _), (2, _), (3, _), (4, _), (5, _)]) [1, 2, 3, 4, 5, 0] rfl ?_
      first
      | (have e0 : ¬ f_bear (M (5 * j + 3)) (row * 12 + k) b t / 2 < f_diff (M (5 * j + 1)) (row * 12 + k) ((row - 1) * 12 + k) := by omega
         refine hout _ (f_ls_cg (f_ls_no (F := f_ovf (M (5 * j + 1)) (M (5 * j + 3)) row b t) (p := row * 12 + k) g1 (by rw [f_ovf_low i2 (by omega)]; simp [e0])) (fun q _ _ => f_ovf_k1 i2 (by omega) q)) g2)
      | (have e0 : f_bear (M (5 * j + 3)) (row * 12 + k) b t / 2 < f_diff (M (5 * j + 1)) (row * 12 + k) ((row - 1) * 12 + k) := by omega
         have e1 : decide ((row * 12 + k) % 12 < k) = false := by simp; omega
         have e2 : decide (row * 12 + k = (row - 1) * 12 + k) = false := by simp; omega
         refine hout _ (f_ls_cg (f_ls_yes (F := f_ovf (M (5 * j + 1)) (M (5 * j + 3)) row b t) (c := M (5 * j + 3)) (p := row * 12 + k) g1 (by omega) (by omega) (by rw [e1, e2]; rfl) (by rw [f_ovf_low i2 (by omega)]; simp [e0])) (fun q _ _ => f_ovf_k1 i2 (by omega) q)) (fun o o1 o2 => by rw [f_note_o _ _ _ o1 o2]; exact g2 o o1 o2))
    · skip
      refine jw_aload_n hC dX0_crackAtFold_101 0 rfl rfl ?_
      refine jw_aload_n hC dX0_crackAtFold_102 1 rfl rfl ?_
      refine jw_iload hC dX0_crackAtFold_103 6 rfl ?_
      refine jw_callV hC (c_X0_noteIfWhole l E M1 j hj _ ⟨by omega, by omega⟩ (f_ls_m g1).1) sV_X0_54 ewF_k3.o dX0_crackAtFold_105 rfl rfl ⟨Nat.le_of_ble_eq_true rfl, Nat.le_of_ble_eq_true rfl⟩ ⟨Nat.zero_le _, Nat.zero_le _⟩ (Nat.le_of_ble_eq_true rfl) (fun v105 M105 g105 => ?_)
      obtain ⟨rfl, rfl⟩ := g105
      rw [g2 (5 * j + 3) (by omega) (by omega)]
      refine jw_iinc (L' := [(5, _), (0, _), (1, _), (2, _), (3, _), (4, _), (6, _), (7, _), (8, _)]) hC dX0_crackAtFold_108 5 rfl (by decide) rfl ?_
      refine jw_goto (tgt := 8) hC dX0_crackAtFold_111 (by decide) ?_
      refine jw_loc (L' := [(0, _), (1, _), (2, _), (3, _), (4, _), (5, _)]) [1, 2, 3, 4, 5, 0] rfl ?_
      first
      | (have e0 : ¬ f_bear (M (5 * j + 3)) (row * 12 + k) b t / 2 < f_diff (M (5 * j + 1)) (row * 12 + k) ((row - 1) * 12 + k) := by omega
         refine hout _ (f_ls_cg (f_ls_no (F := f_ovf (M (5 * j + 1)) (M (5 * j + 3)) row b t) (p := row * 12 + k) g1 (by rw [f_ovf_low i2 (by omega)]; simp [e0])) (fun q _ _ => f_ovf_k1 i2 (by omega) q)) g2)
      | (have e0 : f_bear (M (5 * j + 3)) (row * 12 + k) b t / 2 < f_diff (M (5 * j + 1)) (row * 12 + k) ((row - 1) * 12 + k) := by omega
         have e1 : decide ((row * 12 + k) % 12 < k) = false := by simp; omega
         have e2 : decide (row * 12 + k = (row - 1) * 12 + k) = false := by simp; omega
         refine hout _ (f_ls_cg (f_ls_yes (F := f_ovf (M (5 * j + 1)) (M (5 * j + 3)) row b t) (c := M (5 * j + 3)) (p := row * 12 + k) g1 (by omega) (by omega) (by rw [e1, e2]; rfl) (by rw [f_ovf_low i2 (by omega)]; simp [e0])) (fun q _ _ => f_ovf_k1 i2 (by omega) q)) (fun o o1 o2 => by rw [f_note_o _ _ _ o1 o2]; exact g2 o o1 o2))
  have K8 : ∀ (n : Nat) (k : Int) (M1 : ewM), 12 - k < n → 0 ≤ k → k ≤ 12 → f_ls (fun q => decide (q % 12 < k) && f_ovf (M (5 * j + 1)) (M (5 * j + 3)) row b t q) (M1 87) (M1 84 3) → (∀ o, o ≠ 84 → o ≠ 87 → M1 o = M o) →  jJ zp l ze (ct_rm 3) zs zm za zb zt zc E zA 9 0 0 (MQ zb (ct_Q E zA (fun v M1 => v = some (vI (f_sum (M1 (5 * j + 3)) 144 - f_sum (M (5 * j + 3)) 144)) ∧ M1 (5 * j + 3) = f_brk (f_ovf (M (5 * j + 1)) (M (5 * j + 3)) row b t) (M (5 * j + 3)) ∧ ∀ o, o ≠ 5 * j + 3 → o ≠ 84 → o ≠ 86 → o ≠ 87 → M1 o = M o)) za zs 0 0 zA) 8 [(0, vR E 84), (1, vR E (5 * j)), (2, vI row), (3, vI b), (4, vI t), (5, vI k)] [] M1 := by
    intro n
    induction n with
    | zero => intros; omega
    | succ n ih =>
      intro k M1 i1 i2 i3 g1 g2
      refine jw_iload hC dX0_crackAtFold_8 5 rfl ?_
      refine jw_bipush hC dX0_crackAtFold_10 (by decide) ?_
      refine jw_icmp_ge (tgt := 114) hC dX0_crackAtFold_12 (by decide) (by omega) (by omega) (by omega) (by omega) (fun h12 => ?_) (fun h12 => ?_)
      · skip
        refine jw_aload_n hC dX0_crackAtFold_114 0 rfl rfl ?_
        refine jw_aload_n hC dX0_crackAtFold_115 1 rfl rfl ?_
        refine jw_callV hC (c_X0_crackFound l E M1 j hj (f_ls_m g1) (fun i i1 i2 => ⟨(g1.2.1 i i1 i2).1, (g1.2.1 i i1 i2).2.1⟩)) sV_X0_38 ewF_k3.o dX0_crackAtFold_116 rfl rfl ⟨Nat.le_of_ble_eq_true rfl, Nat.le_of_ble_eq_true rfl⟩ ⟨Nat.zero_le _, Nat.zero_le _⟩ (Nat.le_of_ble_eq_true rfl) (fun v116 M116 g116 => ?_)
        obtain ⟨rfl, r1, r2, r3⟩ := g116
        refine jw_iret hC dX0_crackAtFold_119 ?_
        have hP : f_ls (f_ovf (M (5 * j + 1)) (M (5 * j + 3)) row b t) (M1 87) (M1 84 3) := f_ls_cg g1 (fun q q1 q2 => by
          have : decide (q % 12 < k) = true := by simp; omega
          simp [this])
        have e1 : M116 (5 * j + 3) = f_brk (f_ovf (M (5 * j + 1)) (M (5 * j + 3)) row b t) (M (5 * j + 3)) := by rw [r1, f_crk_eq hP, g2 (5 * j + 3) (by omega) (by omega)]
        refine ⟨?_, e1, fun o o1 o2 o3 o4 => (r3 o o1 o3).trans (g2 o o2 o4)⟩
        rw [e1, f_brk_sum (fun q _ _ h => by unfold f_ovf at h; simp only [Bool.and_eq_true, decide_eq_true_eq] at h; exact h.1), hP.1]
        congr 2
        omega
      · skip
        refine jw_iload hC dX0_crackAtFold_15 5 rfl ?_
        refine jw_i2l hC dX0_crackAtFold_17 (by omega) (by omega) ?_
        refine jw_iload_n hC dX0_crackAtFold_18 2 rfl rfl ?_
        refine jw_i2l hC dX0_crackAtFold_19 (by omega) (by omega) ?_
        refine jw_callSn hC (c_X4_placeIndex l E M1 _ _ (by omega) (by omega) (by omega) (by omega)) sN_X0_42 dX0_crackAtFold_20 rfl rfl ⟨Nat.le_of_ble_eq_true rfl, Nat.le_of_ble_eq_true rfl⟩ ⟨Nat.zero_le _, Nat.zero_le _⟩ (Nat.le_of_ble_eq_true rfl) (fun v20 M20 g20 => ?_)
        obtain ⟨rfl, rfl⟩ := g20
        rw [f_pl_in (by omega) (by omega) (by omega) (by omega)]
        refine jw_istore (L' := [(6, _), (0, _), (1, _), (2, _), (3, _), (4, _), (5, _)]) hC dX0_crackAtFold_23 (by decide) rfl ?_
        refine jw_iload hC dX0_crackAtFold_25 6 rfl ?_
        refine jw_i2l hC dX0_crackAtFold_27 (by omega) (by omega) ?_
        refine jw_iload_n hC dX0_crackAtFold_28 3 rfl rfl ?_
        refine jw_iconst hC dX0_crackAtFold_29 ?_
        refine jw_isub hC dX0_crackAtFold_30 ?_
        refine jw_i2l hC dX0_crackAtFold_31 (by omega) (by omega) ?_
        refine jw_callSn hC (c_X4_placeIndex l E M1 _ _ (by omega) (by omega) (by omega) (by omega)) sN_X0_42 dX0_crackAtFold_32 rfl rfl ⟨Nat.le_of_ble_eq_true rfl, Nat.le_of_ble_eq_true rfl⟩ ⟨Nat.zero_le _, Nat.zero_le _⟩ (Nat.le_of_ble_eq_true rfl) (fun v32 M32 g32 => ?_)
        obtain ⟨rfl, rfl⟩ := g32
        rw [f_pl_in (by omega) (by omega) (by omega) (by omega)]
        refine jw_istore (L' := [(7, _), (6, _), (0, _), (1, _), (2, _), (3, _), (4, _), (5, _)]) hC dX0_crackAtFold_35 (by decide) rfl ?_
        refine jw_iload hC dX0_crackAtFold_37 1 rfl ?_
        refine jw_iconst hC dX0_crackAtFold_39 ?_
        refine jw_icmp_eq (tgt := 108) hC dX0_crackAtFold_40 (by decide) (by omega) (by omega) (by omega) (by omega) (fun h40 => ?_) (fun h40 => ?_)
        · skip
          exfalso; omega
        · skip
          refine jw_iload hC dX0_crackAtFold_43 0 rfl ?_
          refine jw_iconst hC dX0_crackAtFold_45 ?_
          refine jw_icmp_ne (tgt := 52) hC dX0_crackAtFold_46 (by decide) (by omega) (by omega) (by omega) (by omega) (fun h46 => ?_) (fun h46 => ?_)
          · skip
            refine jw_aload_n hC dX0_crackAtFold_52 3 rfl rfl ?_
            refine jw_iload hC dX0_crackAtFold_53 1 rfl ?_
            refine jw_iload hC dX0_crackAtFold_55 0 rfl ?_
            refine jw_callV hC (c_X2_difference l E M1 j hj _ _ ⟨by omega, by omega⟩ ⟨by omega, by omega⟩ (by rw [g2 (5 * j + 1) (by omega) (by omega)]; exact hD)) sV_X0_46 (ewO_sheet (j := j) (by omega)) dX0_crackAtFold_57 rfl rfl ⟨Nat.le_of_ble_eq_true rfl, Nat.le_of_ble_eq_true rfl⟩ ⟨Nat.zero_le _, Nat.zero_le _⟩ (Nat.le_of_ble_eq_true rfl) (fun v57 M57 g57 => ?_)
            obtain ⟨rfl, rfl⟩ := g57
            rw [g2 (5 * j + 1) (by omega) (by omega)]
            have hdf := f_diff_b hD (row * 12 + k) ((row - 1) * 12 + k)
            refine jw_istore (L' := [(8, _), (7, _), (6, _), (0, _), (1, _), (2, _), (3, _), (4, _), (5, _)]) hC dX0_crackAtFold_60 (by decide) rfl ?_
            refine jw_iload hC dX0_crackAtFold_62 0 rfl ?_
            refine jw_aload_n hC dX0_crackAtFold_64 4 rfl rfl ?_
            refine jw_iload hC dX0_crackAtFold_65 1 rfl ?_
            refine jw_iload_n hC dX0_crackAtFold_67 6 rfl rfl ?_
            refine jw_iload hC dX0_crackAtFold_68 7 rfl ?_
            refine jw_callV hC (c_X2_bearingOf l E M1 j hj _ b t ⟨by omega, by omega⟩ hb ht (by rw [g2 (5 * j + 3) (by omega) (by omega)]; exact hc)) sV_X0_50 (ewO_sheet (j := j) (by omega)) dX0_crackAtFold_70 rfl rfl ⟨Nat.le_of_ble_eq_true rfl, Nat.le_of_ble_eq_true rfl⟩ ⟨Nat.zero_le _, Nat.zero_le _⟩ (Nat.le_of_ble_eq_true rfl) (fun v70 M70 g70 => ?_)
            obtain ⟨rfl, rfl⟩ := g70
            rw [g2 (5 * j + 3) (by omega) (by omega)]
            have hbe1 := f_bear_b ((row - 1) * 12 + k) hc hb ht
            have hbe2 := f_bear_b (row * 12 + k) hc hb ht
            refine jw_iconst hC dX0_crackAtFold_73 ?_
            refine jw_idiv hC dX0_crackAtFold_74 (by omega) (by omega) (by omega) (by omega) ?_
            refine jw_icmp_le (tgt := 85) hC dX0_crackAtFold_75 (by decide) (by omega) (by omega) (by omega) (by omega) (fun h75 => ?_) (fun h75 => ?_)
            · skip
              refine jw_loc (L' := [(0, _), (1, _), (2, _), (3, _), (4, _), (5, _), (6, _), (7, _), (8, _)]) [3, 4, 5, 6, 7, 8, 2, 1, 0] rfl ?_
              first
              | (have e0 : ¬ f_bear (M (5 * j + 3)) ((row - 1) * 12 + k) b t / 2 < f_diff (M (5 * j + 1)) (row * 12 + k) ((row - 1) * 12 + k) := by omega
                 refine K85 k _ i2 (by omega) (f_ls_no (F := f_ovf (M (5 * j + 1)) (M (5 * j + 3)) row b t) (p := (row - 1) * 12 + k) g1 (by rw [f_ovf_up i2 (by omega)]; simp [e0])) g2 (fun M1 h1 h2 => ih _ _ (by omega) (by omega) (by omega) h1 h2))
              | (have e0 : f_bear (M (5 * j + 3)) ((row - 1) * 12 + k) b t / 2 < f_diff (M (5 * j + 1)) (row * 12 + k) ((row - 1) * 12 + k) := by omega
                 have e1 : decide (((row - 1) * 12 + k) % 12 < k) = false := by simp; omega
                 refine K85 k _ i2 (by omega) (f_ls_yes (F := f_ovf (M (5 * j + 1)) (M (5 * j + 3)) row b t) (c := M (5 * j + 3)) (p := (row - 1) * 12 + k) g1 (by omega) (by omega) (by rw [e1]; rfl) (by rw [f_ovf_up i2 (by omega)]; simp [e0])) (fun o o1 o2 => by rw [f_note_o _ _ _ o1 o2]; exact g2 o o1 o2) (fun M1 h1 h2 => ih _ _ (by omega) (by omega) (by omega) h1 h2))
            · skip
              refine jw_aload_n hC dX0_crackAtFold_78 3 rfl rfl ?_
              refine jw_aload_n hC dX0_crackAtFold_79 4 rfl rfl ?_
              refine jw_iload hC dX0_crackAtFold_80 1 rfl ?_
              refine jw_callV hC (c_X0_noteIfWhole l E M1 j hj _ ⟨by omega, by omega⟩ (f_ls_m g1).1) sV_X0_54 ewF_k3.o dX0_crackAtFold_82 rfl rfl ⟨Nat.le_of_ble_eq_true rfl, Nat.le_of_ble_eq_true rfl⟩ ⟨Nat.zero_le _, Nat.zero_le _⟩ (Nat.le_of_ble_eq_true rfl) (fun v82 M82 g82 => ?_)
              obtain ⟨rfl, rfl⟩ := g82
              rw [g2 (5 * j + 3) (by omega) (by omega)]
              refine jw_loc (L' := [(0, _), (1, _), (2, _), (3, _), (4, _), (5, _), (6, _), (7, _), (8, _)]) [3, 4, 5, 6, 7, 8, 2, 1, 0] rfl ?_
              first
              | (have e0 : ¬ f_bear (M (5 * j + 3)) ((row - 1) * 12 + k) b t / 2 < f_diff (M (5 * j + 1)) (row * 12 + k) ((row - 1) * 12 + k) := by omega
                 refine K85 k _ i2 (by omega) (f_ls_no (F := f_ovf (M (5 * j + 1)) (M (5 * j + 3)) row b t) (p := (row - 1) * 12 + k) g1 (by rw [f_ovf_up i2 (by omega)]; simp [e0])) g2 (fun M1 h1 h2 => ih _ _ (by omega) (by omega) (by omega) h1 h2))
              | (have e0 : f_bear (M (5 * j + 3)) ((row - 1) * 12 + k) b t / 2 < f_diff (M (5 * j + 1)) (row * 12 + k) ((row - 1) * 12 + k) := by omega
                 have e1 : decide (((row - 1) * 12 + k) % 12 < k) = false := by simp; omega
                 refine K85 k _ i2 (by omega) (f_ls_yes (F := f_ovf (M (5 * j + 1)) (M (5 * j + 3)) row b t) (c := M (5 * j + 3)) (p := (row - 1) * 12 + k) g1 (by omega) (by omega) (by rw [e1]; rfl) (by rw [f_ovf_up i2 (by omega)]; simp [e0])) (fun o o1 o2 => by rw [f_note_o _ _ _ o1 o2]; exact g2 o o1 o2) (fun M1 h1 h2 => ih _ _ (by omega) (by omega) (by omega) h1 h2))
          · skip
            exfalso; omega
  refine jw_aload_n hC dX0_crackAtFold_0 0 rfl rfl ?_
  refine jw_iconst hC dX0_crackAtFold_1 ?_
  refine jw_puti hC fL_X0_34 ewF_k3 (kI := 3) rfl dX0_crackAtFold_2 (by omega) (by omega) ?_
  refine jw_iconst hC dX0_crackAtFold_5 ?_
  refine jw_istore (L' := [(5, _), (0, _), (1, _), (2, _), (3, _), (4, _)]) hC dX0_crackAtFold_6 (by decide) rfl ?_
  refine jw_loc (L' := [(0, _), (1, _), (2, _), (3, _), (4, _), (5, _)]) [1, 2, 3, 4, 5, 0] rfl ?_
  refine K8 13 0 _ (by omega) (by omega) (by omega) ?_ (fun o o1 _ => mu_ne _ _ _ o1)
  rw [mu_eq]
  exact f_ls_0 (fun q q1 _ => by have : decide (q % 12 < 0) = false := by simp; omega
                                 simp [this])
end
section
/-! PRESSES AND FOLDS: the private methods of EmbossPress -/
/-- how many places a fold would crack -/
def f_fc (d c : Int → Int) (row b t : Int) : Int := f_sum (f_it d b t (f_brk (f_ovf d c row b t) c) 144) 144 - f_sum c 144
set_option maxRecDepth 100000 in
set_option maxHeartbeats 4000000 in
theorem c_X4_refusal (l : Launch) (E : ewE) (M : ewM) (h0 : st0 M) (x y : Int) (x1 : -2147483648 ≤ x) (x2 : x < 2147483648) (y1 : -2147483648 ≤ y) (y2 : y < 2147483648) (hr : pD (M 83)) : Ct l E yX4_refusal (.code yX4_refusal cX4_refusal 7 (some .int)) 3 [vR E 77, vI x, vI y] M (fun v M1 => v = some (vI (f_rsn (M 83) (x + M 50 3) y (M 52 2))) ∧ M = M1) := by
  refine ct_of (L0 := [(0, vR E 77), (1, vI x), (2, vI y)]) (by decide +kernel) rfl (Nat.le_of_ble_eq_true rfl) ?_
  intro zp ze zs zm za zb zt zc zA hC
  obtain ⟨p1, p2, p3, p4, p5, p6, p7, p8⟩ := id h0
  have K18 : ∀ (n : Nat) (k mx : Int), 25 - k < n → 0 ≤ k → k ≤ 25 → f_off (M 83) (x + M 50 3) y k.toNat = false → mx = f_max (M 83) k.toNat → jJ zp l ze (ct_rm 3) zs zm za zb zt zc E zA 7 0 0 (MQ zb (ct_Q E zA (fun v M1 => v = some (vI (f_rsn (M 83) (x + M 50 3) y (M 52 2))) ∧ M = M1)) za zs 0 0 zA) 18 [(0, vR E 77), (1, vI x), (2, vI y), (3, vJ (x + M 50 3)), (5, vI mx), (6, vI k)] [] M := by
    intro n
    induction n with
    | zero => intros; omega
    | succ n ih =>
      intro k mx i1 i2 i3 hof hmx
      have hmb := f_max_D hr k.toNat
      rw [← hmx] at hmb
      have hrk := hr k
      have hpb := f_pu_b k (x + M 50 3) y
      refine jw_iload hC dX4_refusal_18 5 rfl ?_
      refine jw_bipush hC dX4_refusal_20 (by decide) ?_
      refine jw_icmp_ge (tgt := 69) hC dX4_refusal_22 (by decide) (by omega) (by omega) (by omega) (by omega) (fun h22 => ?_) (fun h22 => ?_)
      · skip
        refine jw_iload hC dX4_refusal_69 4 rfl ?_
        refine jw_aload_n hC dX4_refusal_71 0 rfl rfl ?_
        refine jw_getr hC fL_X4_12 ewR_x0 dX4_refusal_72 ?_
        refine jw_getr hC fL_X4_165 (show ewR 50 6 1 52 from ewR_t1 (j := 0) (by decide)) dX4_refusal_75 ?_
        refine jw_iconst hC dX4_refusal_78 ?_
        refine jw_iald hC (show ewA 52 0 4 from ewA_settings (j := 0) (by decide)) dX4_refusal_79 (by omega) (by omega) (by decide) (fun b79 c79 => ?_)
        refine jw_icmp_le (tgt := 85) hC dX4_refusal_80 (by decide) (by omega) (by omega) (by omega) (by omega) (fun h80 => ?_) (fun h80 => ?_)
        · skip
          refine jw_iload hC dX4_refusal_85 4 rfl ?_
          refine jw_if_ne (tgt := 94) hC dX4_refusal_87 (by decide) (by omega) (by omega) (fun h87 => ?_) (fun h87 => ?_)
          · skip
            refine jw_iconst hC dX4_refusal_94 ?_
            refine jw_iret hC dX4_refusal_95 ?_
            refine ⟨?_, rfl⟩
            unfold f_rsn
            first
            | (have hof : f_off (M 83) (x + M 50 3) y 25 = true := by
                 have e1 : f_off (M 83) (x + M 50 3) y (k + 1).toNat = true := by rw [f_off_s _ _ _ i2]; simp; omega
                 have e2 := f_off_le e1 (24 - k.toNat)
                 rwa [show (k + 1).toNat + (24 - k.toNat) = 25 by omega] at e2
               rw [if_pos hof])
            | (have e9 : k = 25 := by omega
               subst e9
               have hof9 : f_off (M 83) (x + M 50 3) y 25 = false := hof
               rw [if_neg (by rw [hof9]; decide)]
               have hmx' : mx = f_max (M 83) 25 := hmx
               rw [← hmx']
               first
               | rw [if_pos (by omega)]
               | rw [if_neg (by omega), if_pos (by omega)]
               | rw [if_neg (by omega), if_neg (by omega)])
          · skip
            refine jw_iconst hC dX4_refusal_90 ?_
            refine jw_goto (tgt := 95) hC dX4_refusal_91 (by decide) ?_
            refine jw_iret hC dX4_refusal_95 ?_
            refine ⟨?_, rfl⟩
            unfold f_rsn
            first
            | (have hof : f_off (M 83) (x + M 50 3) y 25 = true := by
                 have e1 : f_off (M 83) (x + M 50 3) y (k + 1).toNat = true := by rw [f_off_s _ _ _ i2]; simp; omega
                 have e2 := f_off_le e1 (24 - k.toNat)
                 rwa [show (k + 1).toNat + (24 - k.toNat) = 25 by omega] at e2
               rw [if_pos hof])
            | (have e9 : k = 25 := by omega
               subst e9
               have hof9 : f_off (M 83) (x + M 50 3) y 25 = false := hof
               rw [if_neg (by rw [hof9]; decide)]
               have hmx' : mx = f_max (M 83) 25 := hmx
               rw [← hmx']
               first
               | rw [if_pos (by omega)]
               | rw [if_neg (by omega), if_pos (by omega)]
               | rw [if_neg (by omega), if_neg (by omega)])
        · skip
          refine jw_iconst hC dX4_refusal_83 ?_
          refine jw_iret hC dX4_refusal_84 ?_
          refine ⟨?_, rfl⟩
          unfold f_rsn
          first
          | (have hof : f_off (M 83) (x + M 50 3) y 25 = true := by
               have e1 : f_off (M 83) (x + M 50 3) y (k + 1).toNat = true := by rw [f_off_s _ _ _ i2]; simp; omega
               have e2 := f_off_le e1 (24 - k.toNat)
               rwa [show (k + 1).toNat + (24 - k.toNat) = 25 by omega] at e2
             rw [if_pos hof])
          | (have e9 : k = 25 := by omega
             subst e9
             have hof9 : f_off (M 83) (x + M 50 3) y 25 = false := hof
             rw [if_neg (by rw [hof9]; decide)]
             have hmx' : mx = f_max (M 83) 25 := hmx
             rw [← hmx']
             first
             | rw [if_pos (by omega)]
             | rw [if_neg (by omega), if_pos (by omega)]
             | rw [if_neg (by omega), if_neg (by omega)])
      · skip
        refine jw_aload_n hC dX4_refusal_25 0 rfl rfl ?_
        refine jw_getr hC fL_X4_34 ewR_x7 dX4_refusal_26 ?_
        refine jw_iload hC dX4_refusal_29 5 rfl ?_
        refine jw_iald hC ewA_83 dX4_refusal_31 (by omega) (by omega) (by decide) (fun b31 c31 => ?_)
        refine jw_if_le (tgt := 49) hC dX4_refusal_32 (by decide) (by omega) (by omega) (fun h32 => ?_) (fun h32 => ?_)
        · skip
          refine jw_iload hC dX4_refusal_49 4 rfl ?_
          refine jw_aload_n hC dX4_refusal_51 0 rfl rfl ?_
          refine jw_getr hC fL_X4_34 ewR_x7 dX4_refusal_52 ?_
          refine jw_iload hC dX4_refusal_55 5 rfl ?_
          refine jw_iald hC ewA_83 dX4_refusal_57 (by omega) (by omega) (by decide) (fun b57 c57 => ?_)
          refine jw_max hC dX4_refusal_58 (by omega) (by omega) (by omega) (by omega) w3_46 w2_72 w1_10 w2_73 ⟨Nat.le_of_ble_eq_true rfl, Nat.le_of_ble_eq_true rfl⟩ ⟨Nat.zero_le _, Nat.zero_le _⟩ ?_
          refine jw_istore (L' := [(5, _), (0, _), (1, _), (2, _), (3, _), (6, _)]) hC dX4_refusal_61 (by decide) rfl ?_
          refine jw_iinc (L' := [(6, _), (5, _), (0, _), (1, _), (2, _), (3, _)]) hC dX4_refusal_63 5 rfl (by decide) rfl ?_
          refine jw_goto (tgt := 18) hC dX4_refusal_66 (by decide) ?_
          refine jw_loc (L' := [(0, _), (1, _), (2, _), (3, _), (5, _), (6, _)]) [2, 3, 4, 5, 1, 0] rfl ?_
          refine ih _ _ (by omega) (by omega) (by omega) ?_ ?_
          · rw [f_off_s _ _ _ i2, hof]
            simp
            omega
          · rw [f_max_s _ i2, hmx]
        · skip
          refine jw_iload hC dX4_refusal_35 5 rfl ?_
          refine jw_lload_n hC dX4_refusal_37 3 rfl rfl ?_
          refine jw_iload_n hC dX4_refusal_38 2 rfl rfl ?_
          refine jw_i2l hC dX4_refusal_39 (by omega) (by omega) ?_
          refine jw_callS hC (c_X4_placeUnder l E M _ _ _ ⟨by omega, by omega⟩ (by omega) (by omega) (by omega) (by omega)) sS_X4_310 dX4_refusal_40 rfl rfl ⟨Nat.le_of_ble_eq_true rfl, Nat.le_of_ble_eq_true rfl⟩ ⟨Nat.zero_le _, Nat.zero_le _⟩ (Nat.le_of_ble_eq_true rfl) (fun v40 M40 g40 => ?_)
          obtain ⟨rfl, rfl⟩ := g40
          refine jw_iconst hC dX4_refusal_43 ?_
          refine jw_icmp_ne (tgt := 49) hC dX4_refusal_44 (by decide) (by omega) (by omega) (by omega) (by omega) (fun h44 => ?_) (fun h44 => ?_)
          · skip
            refine jw_iload hC dX4_refusal_49 4 rfl ?_
            refine jw_aload_n hC dX4_refusal_51 0 rfl rfl ?_
            refine jw_getr hC fL_X4_34 ewR_x7 dX4_refusal_52 ?_
            refine jw_iload hC dX4_refusal_55 5 rfl ?_
            refine jw_iald hC ewA_83 dX4_refusal_57 (by omega) (by omega) (by decide) (fun b57 c57 => ?_)
            refine jw_max hC dX4_refusal_58 (by omega) (by omega) (by omega) (by omega) w3_46 w2_72 w1_10 w2_73 ⟨Nat.le_of_ble_eq_true rfl, Nat.le_of_ble_eq_true rfl⟩ ⟨Nat.zero_le _, Nat.zero_le _⟩ ?_
            refine jw_istore (L' := [(5, _), (0, _), (1, _), (2, _), (3, _), (6, _)]) hC dX4_refusal_61 (by decide) rfl ?_
            refine jw_iinc (L' := [(6, _), (5, _), (0, _), (1, _), (2, _), (3, _)]) hC dX4_refusal_63 5 rfl (by decide) rfl ?_
            refine jw_goto (tgt := 18) hC dX4_refusal_66 (by decide) ?_
            refine jw_loc (L' := [(0, _), (1, _), (2, _), (3, _), (5, _), (6, _)]) [2, 3, 4, 5, 1, 0] rfl ?_
            refine ih _ _ (by omega) (by omega) (by omega) ?_ ?_
            · rw [f_off_s _ _ _ i2, hof]
              simp
              omega
            · rw [f_max_s _ i2, hmx]
          · skip
            refine jw_iconst hC dX4_refusal_47 ?_
            refine jw_iret hC dX4_refusal_48 ?_
            refine ⟨?_, rfl⟩
            unfold f_rsn
            first
            | (have hof : f_off (M 83) (x + M 50 3) y 25 = true := by
                 have e1 : f_off (M 83) (x + M 50 3) y (k + 1).toNat = true := by rw [f_off_s _ _ _ i2]; simp; omega
                 have e2 := f_off_le e1 (24 - k.toNat)
                 rwa [show (k + 1).toNat + (24 - k.toNat) = 25 by omega] at e2
               rw [if_pos hof])
            | (have e9 : k = 25 := by omega
               subst e9
               have hof9 : f_off (M 83) (x + M 50 3) y 25 = false := hof
               rw [if_neg (by rw [hof9]; decide)]
               have hmx' : mx = f_max (M 83) 25 := hmx
               rw [← hmx']
               first
               | rw [if_pos (by omega)]
               | rw [if_neg (by omega), if_pos (by omega)]
               | rw [if_neg (by omega), if_neg (by omega)])
  refine jw_iload_n hC dX4_refusal_0 1 rfl rfl ?_
  refine jw_i2l hC dX4_refusal_1 (by omega) (by omega) ?_
  refine jw_aload_n hC dX4_refusal_2 0 rfl rfl ?_
  refine jw_getr hC fL_X4_12 ewR_x0 dX4_refusal_3 ?_
  refine jw_geti hC fL_X4_121.r (show ewF 50 6 3 from ewF_t (j := 0) (k := 3) (by decide) (by decide) (by decide)) (kI := 3) rfl dX4_refusal_6 (by omega) (fun b6 c6 => ?_)
  refine jw_i2l hC dX4_refusal_9 (by omega) (by omega) ?_
  refine jw_ladd hC dX4_refusal_10 ?_
  refine jw_lstore_n (L' := [(3, _), (0, _), (1, _), (2, _)]) hC dX4_refusal_11 rfl (by decide) rfl ?_
  refine jw_iconst hC dX4_refusal_12 ?_
  refine jw_istore (L' := [(5, _), (3, _), (0, _), (1, _), (2, _)]) hC dX4_refusal_13 (by decide) rfl ?_
  refine jw_iconst hC dX4_refusal_15 ?_
  refine jw_istore (L' := [(6, _), (5, _), (3, _), (0, _), (1, _), (2, _)]) hC dX4_refusal_16 (by decide) rfl ?_
  refine jw_loc (L' := [(0, _), (1, _), (2, _), (3, _), (5, _), (6, _)]) [3, 4, 5, 2, 1, 0] rfl ?_
  exact K18 26 0 0 (by omega) (by omega) (by omega) rfl rfl
set_option maxRecDepth 100000 in
set_option maxHeartbeats 4000000 in
theorem c_X4_pressRelief (l : Launch) (E : ewE) (M : ewM) (h0 : st0 M) (x y : Int) (x1 : -2147483648 ≤ x) (x2 : x < 2147483648) (y1 : -2147483648 ≤ y) (y2 : y < 2147483648) (hr : pD (M 83)) : Ct l E yX4_pressRelief (.code yX4_pressRelief cX4_pressRelief 6 (some .int)) 4 [vR E 77, vI x, vI y] M (fun v M1 => v = some (vI (f_cks (M 83) (x + M 50 3) y (M 1) (M 3) (M 52 0) (M 52 1))) ∧ M1 1 = f_emb (M 83) (x + M 50 3) y (M 1) 25 ∧ M1 2 = f_stk (M 50) (M 83) (x + M 50 3) y (M 2) 25 ∧ M1 3 = f_it (f_emb (M 83) (x + M 50 3) y (M 1) 25) (M 52 0) (M 52 1) (M 3) 144 ∧ M1 4 = f_prs (M 83) (x + M 50 3) y (M 4) 25 ∧ (∀ k : Int, M1 50 k = if k = 3 then f_sl (M 52 3) (wr (M 50 5 + 1)) (M 50 3) else if k = 4 then wr (M 50 4 + 1) else if k = 5 then wr (M 50 5 + 1) else if k = 7 then wr (M 50 7 + f_cks (M 83) (x + M 50 3) y (M 1) (M 3) (M 52 0) (M 52 1)) else if k = 10 then 0 else M 50 k) ∧ ∀ o, o ≠ 1 → o ≠ 2 → o ≠ 3 → o ≠ 4 → o ≠ 50 → (o < 84 ∨ 87 < o) → M1 o = M o) := by
  refine ct_of (L0 := [(0, vR E 77), (1, vI x), (2, vI y)]) (by decide +kernel) rfl (Nat.le_of_ble_eq_true rfl) ?_
  intro zp ze zs zm za zb zt zc zA hC
  obtain ⟨p1, p2, p3, p4, p5, p6, p7, p8⟩ := id h0
  refine jw_iload_n hC dX4_pressRelief_0 1 rfl rfl ?_
  refine jw_i2l hC dX4_pressRelief_1 (by omega) (by omega) ?_
  refine jw_aload_n hC dX4_pressRelief_2 0 rfl rfl ?_
  refine jw_getr hC fL_X4_12 ewR_x0 dX4_pressRelief_3 ?_
  refine jw_geti hC fL_X4_121.r (show ewF 50 6 3 from ewF_t (j := 0) (k := 3) (by decide) (by decide) (by decide)) (kI := 3) rfl dX4_pressRelief_6 (by omega) (fun b6 c6 => ?_)
  refine jw_i2l hC dX4_pressRelief_9 (by omega) (by omega) ?_
  refine jw_ladd hC dX4_pressRelief_10 ?_
  refine jw_lstore_n (L' := [(3, _), (0, _), (1, _), (2, _)]) hC dX4_pressRelief_11 rfl (by decide) rfl ?_
  refine jw_aload_n hC dX4_pressRelief_12 1 rfl rfl ?_
  refine jw_getr hC fL_X4_12 ewR_x0 dX4_pressRelief_13 ?_
  refine jw_getr hC fL_X4_88 (show ewR 50 6 2 0 from ewR_t2 (j := 0) (by decide)) dX4_pressRelief_16 ?_
  refine jw_aload_n hC dX4_pressRelief_19 1 rfl rfl ?_
  refine jw_getr hC fL_X4_34 ewR_x7 dX4_pressRelief_20 ?_
  refine jw_lload_n hC dX4_pressRelief_23 0 rfl rfl ?_
  refine jw_iload_n hC dX4_pressRelief_24 3 rfl rfl ?_
  refine jw_i2l hC dX4_pressRelief_25 (by omega) (by omega) ?_
  refine jw_callV hC (c_X2_emboss l E M 0 (by decide) _ _ (by omega) (by omega) (by omega) (by omega) hr p1) sV_X4_317 (show ewO 0 5 from ewO_sheet (j := 0) (by decide)) dX4_pressRelief_26 rfl rfl ⟨Nat.le_of_ble_eq_true rfl, Nat.le_of_ble_eq_true rfl⟩ ⟨Nat.zero_le _, Nat.zero_le _⟩ (Nat.le_of_ble_eq_true rfl) (fun v26 M26 g26 => ?_)
  obtain ⟨rfl, g1, g4, g5⟩ := g26
  have e1 : M26 1 = f_emb (M 83) (x + M 50 3) y (M 1) 25 := g1
  have e4 : M26 4 = f_prs (M 83) (x + M 50 3) y (M 4) 25 := g4
  have e5 : ∀ o, o ≠ 1 → o ≠ 4 → M26 o = M o := g5
  refine jw_aload_n hC dX4_pressRelief_29 1 rfl rfl ?_
  refine jw_getr hC fL_X4_12 ewR_x0 dX4_pressRelief_30 ?_
  refine jw_aload_n hC dX4_pressRelief_33 1 rfl rfl ?_
  refine jw_getr hC fL_X4_34 ewR_x7 dX4_pressRelief_34 ?_
  refine jw_lload_n hC dX4_pressRelief_37 0 rfl rfl ?_
  refine jw_iload_n hC dX4_pressRelief_38 3 rfl rfl ?_
  refine jw_i2l hC dX4_pressRelief_39 (by omega) (by omega) ?_
  refine jw_callV hC (c_X3_stickFoil l E M26 0 (by decide) _ _ (by omega) (by omega) (by omega) (by omega)) sV_X4_321 (show ewO 50 6 from ewO_state (j := 0) (by decide)) dX4_pressRelief_40 rfl rfl ⟨Nat.le_of_ble_eq_true rfl, Nat.le_of_ble_eq_true rfl⟩ ⟨Nat.zero_le _, Nat.zero_le _⟩ (Nat.le_of_ble_eq_true rfl) (fun v40 M40 g40 => ?_)
  obtain ⟨rfl, g1, g2, g3⟩ := g40
  have u1 : M40 2 = f_stk (M26 50) (M26 83) (x + M 50 3) y (M26 2) 25 := g1
  have u2 : M40 50 = fun k => if k = 10 then 0 else M26 50 k := g2
  have u4 : ∀ o, o ≠ 2 → o ≠ 50 → M40 o = M26 o := g3
  rw [e5 50 (by decide) (by decide), e5 83 (by decide) (by decide), e5 2 (by decide) (by decide)] at u1
  rw [e5 50 (by decide) (by decide)] at u2
  have u52 : M40 52 = M 52 := (u4 52 (by decide) (by decide)).trans (e5 52 (by decide) (by decide))
  have u3 : M40 3 = M 3 := (u4 3 (by decide) (by decide)).trans (e5 3 (by decide) (by decide))
  have u11 : M40 1 = f_emb (M 83) (x + M 50 3) y (M 1) 25 := (u4 1 (by decide) (by decide)).trans e1
  refine jw_aload_n hC dX4_pressRelief_43 1 rfl rfl ?_
  refine jw_getr hC fL_X4_48 ewR_x9 dX4_pressRelief_44 ?_
  refine jw_aload_n hC dX4_pressRelief_47 1 rfl rfl ?_
  refine jw_getr hC fL_X4_12 ewR_x0 dX4_pressRelief_48 ?_
  refine jw_getr hC fL_X4_88 (show ewR 50 6 2 0 from ewR_t2 (j := 0) (by decide)) dX4_pressRelief_51 ?_
  refine jw_aload_n hC dX4_pressRelief_54 1 rfl rfl ?_
  refine jw_getr hC fL_X4_12 ewR_x0 dX4_pressRelief_55 ?_
  refine jw_getr hC fL_X4_165 (show ewR 50 6 1 52 from ewR_t1 (j := 0) (by decide)) dX4_pressRelief_58 ?_
  refine jw_iconst hC dX4_pressRelief_61 ?_
  refine jw_iald hC (show ewA 52 0 4 from ewA_settings (j := 0) (by decide)) dX4_pressRelief_62 (by omega) (by omega) (by decide) (fun b62 c62 => ?_)
  rw [u52] at b62 c62 ⊢
  refine jw_aload_n hC dX4_pressRelief_63 1 rfl rfl ?_
  refine jw_getr hC fL_X4_12 ewR_x0 dX4_pressRelief_64 ?_
  refine jw_getr hC fL_X4_165 (show ewR 50 6 1 52 from ewR_t1 (j := 0) (by decide)) dX4_pressRelief_67 ?_
  refine jw_iconst hC dX4_pressRelief_70 ?_
  refine jw_iald hC (show ewA 52 0 4 from ewA_settings (j := 0) (by decide)) dX4_pressRelief_71 (by omega) (by omega) (by decide) (fun b71 c71 => ?_)
  rw [u52] at b71 c71 ⊢
  refine jw_callV hC (c_X0_crackAll l E M40 0 (by decide) _ _ p4 p5 (show pD (M40 1) by rw [u11]; exact f_emb_D hr p1 _ _ _) (show pC (M40 3) by rw [u3]; exact p2)) sV_X4_172 ewF_k3.o dX4_pressRelief_72 rfl rfl ⟨Nat.le_of_ble_eq_true rfl, Nat.le_of_ble_eq_true rfl⟩ ⟨Nat.zero_le _, Nat.zero_le _⟩ (Nat.le_of_ble_eq_true rfl) (fun v72 M72 g72 => ?_)
  obtain ⟨rfl, g2, g3, g4⟩ := g72
  have z2 : M72 3 = f_it (M40 1) (M 52 0) (M 52 1) (M40 3) 144 := g2
  have z4 : ∀ o, o ≠ 3 → (o < 84 ∨ 87 < o) → M72 o = M40 o := g4
  have zv : f_sum (f_it (M40 (5 * 0 + 1)) (M 52 0) (M 52 1) (M40 (5 * 0 + 3)) 144) 144 - f_sum (M40 (5 * 0 + 3)) 144 = f_cks (M 83) (x + M 50 3) y (M 1) (M 3) (M 52 0) (M 52 1) := by
    show f_sum (f_it (M40 1) (M 52 0) (M 52 1) (M40 3) 144) 144 - f_sum (M40 3) 144 = _
    rw [u11, u3]
    rfl
  rw [u11, u3] at z2
  have z50 : M72 50 = fun k => if k = 10 then 0 else M 50 k := (z4 50 (by decide) (by decide)).trans u2
  have z52 : M72 52 = M 52 := (z4 52 (by decide) (by decide)).trans u52
  rw [zv]
  refine jw_istore (L' := [(5, _), (3, _), (0, _), (1, _), (2, _)]) hC dX4_pressRelief_75 (by decide) rfl ?_
  refine jw_aload_n hC dX4_pressRelief_77 2 rfl rfl ?_
  refine jw_getr hC fL_X4_12 ewR_x0 dX4_pressRelief_78 ?_
  refine jw_dupr hC dX4_pressRelief_81 ?_
  refine jw_geti hC fL_X4_176.r (show ewF 50 6 7 from ewF_t (j := 0) (k := 7) (by decide) (by decide) (by decide)) (kI := 7) rfl dX4_pressRelief_82 (by omega) (fun b82 c82 => ?_)
  have y82 : M72 50 7 = M 50 7 := by rw [z50]; rfl
  rw [y82] at b82 c82 ⊢
  refine jw_iload hC dX4_pressRelief_85 0 rfl ?_
  refine jw_iadd hC dX4_pressRelief_87 ?_
  refine jw_putiw hC fL_X4_176 (show ewF 50 6 7 from ewF_t (j := 0) (k := 7) (by decide) (by decide) (by decide)) (kI := 7) rfl dX4_pressRelief_88  ?_
  refine jw_aload_n hC dX4_pressRelief_91 2 rfl rfl ?_
  refine jw_getr hC fL_X4_12 ewR_x0 dX4_pressRelief_92 ?_
  refine jw_dupr hC dX4_pressRelief_95 ?_
  refine jw_geti hC fL_X4_234.r (show ewF 50 6 4 from ewF_t (j := 0) (k := 4) (by decide) (by decide) (by decide)) (kI := 4) rfl dX4_pressRelief_96 (by omega) (fun b96 c96 => ?_)
  have y96 : ∀ v, mu M72 50 7 v 50 4 = M 50 4 := fun v => by rw [mu_nk _ _ _ (by decide), z50]; rfl
  rw [y96] at b96 c96 ⊢
  refine jw_iconst hC dX4_pressRelief_99 ?_
  refine jw_iadd hC dX4_pressRelief_100 ?_
  refine jw_putiw hC fL_X4_234 (show ewF 50 6 4 from ewF_t (j := 0) (k := 4) (by decide) (by decide) (by decide)) (kI := 4) rfl dX4_pressRelief_101  ?_
  refine jw_aload_n hC dX4_pressRelief_104 2 rfl rfl ?_
  refine jw_getr hC fL_X4_12 ewR_x0 dX4_pressRelief_105 ?_
  refine jw_dupr hC dX4_pressRelief_108 ?_
  refine jw_geti hC fL_X4_324.r (show ewF 50 6 5 from ewF_t (j := 0) (k := 5) (by decide) (by decide) (by decide)) (kI := 5) rfl dX4_pressRelief_109 (by omega) (fun b109 c109 => ?_)
  have y109 : ∀ v w, mu (mu M72 50 7 v) 50 4 w 50 5 = M 50 5 := fun v w => by rw [mu_nk _ _ _ (by decide), mu_nk _ _ _ (by decide), z50]; rfl
  rw [y109] at b109 c109 ⊢
  refine jw_iconst hC dX4_pressRelief_112 ?_
  refine jw_iadd hC dX4_pressRelief_113 ?_
  refine jw_putiw hC fL_X4_324 (show ewF 50 6 5 from ewF_t (j := 0) (k := 5) (by decide) (by decide) (by decide)) (kI := 5) rfl dX4_pressRelief_114  ?_
  have hs9 : ∀ v w u, 0 ≤ mu (mu (mu M72 50 7 v) 50 4 w) 50 5 u (50 + 3 * 0) 3 ∧ mu (mu (mu M72 50 7 v) 50 4 w) 50 5 u (50 + 3 * 0) 3 ≤ 3 := fun v w u => by
    show 0 ≤ mu (mu (mu M72 50 7 v) 50 4 w) 50 5 u 50 3 ∧ mu (mu (mu M72 50 7 v) 50 4 w) 50 5 u 50 3 ≤ 3
    rw [mu_nk _ _ _ (by decide), mu_nk _ _ _ (by decide), mu_nk _ _ _ (by decide), z50]
    exact p8
  refine jw_aload_n hC dX4_pressRelief_117 2 rfl rfl ?_
  refine jw_getr hC fL_X4_12 ewR_x0 dX4_pressRelief_118 ?_
  refine jw_callV hC (c_X3_slipIfDue l E _ 0 (by decide) (hs9 _ _ _)) sV_X4_327 (show ewO 50 6 from ewO_state (j := 0) (by decide)) dX4_pressRelief_121 rfl rfl ⟨Nat.le_of_ble_eq_true rfl, Nat.le_of_ble_eq_true rfl⟩ ⟨Nat.zero_le _, Nat.zero_le _⟩ (Nat.le_of_ble_eq_true rfl) (fun v121 M121 g121 => ?_)
  obtain ⟨rfl, rfl⟩ := g121
  refine jw_iload hC dX4_pressRelief_124 0 rfl ?_
  refine jw_iret hC dX4_pressRelief_126 ?_
  refine ⟨rfl, ?_, ?_, ?_, ?_, fun k => ?_, fun o o1 o2 o3 o4 o5 o6 => ?_⟩
  · rw [mset_ne _ _ (by decide), mu_ne _ _ _ (by decide), mu_ne _ _ _ (by decide), mu_ne _ _ _ (by decide), z4 1 (by decide) (by decide), u4 1 (by decide) (by decide), e1]
  · rw [mset_ne _ _ (by decide), mu_ne _ _ _ (by decide), mu_ne _ _ _ (by decide), mu_ne _ _ _ (by decide), z4 2 (by decide) (by decide), u1]
  · rw [mset_ne _ _ (by decide), mu_ne _ _ _ (by decide), mu_ne _ _ _ (by decide), mu_ne _ _ _ (by decide), z2]
  · rw [mset_ne _ _ (by decide), mu_ne _ _ _ (by decide), mu_ne _ _ _ (by decide), mu_ne _ _ _ (by decide), z4 4 (by decide) (by decide), u4 4 (by decide) (by decide), e4]
  · rw [mset_at]
    by_cases k3 : k = 3
    · subst k3
      simp [mu_at, mu_ne, z50, z52]
    · by_cases k4 : k = 4 <;> by_cases k5 : k = 5 <;> by_cases k7 : k = 7 <;> by_cases k10 : k = 10 <;> simp [mu_at, k3, k4, k5, k7, k10, z50] <;> omega
  · rw [mset_ne _ _ o5, mu_ne _ _ _ o5, mu_ne _ _ _ o5, mu_ne _ _ _ o5, z4 o o3 o6, u4 o o2 o5, e5 o o1 o4]
end
section
/-! NUMBERS, PROPERTIES, THE DIGEST: the private methods of EmbossPress -/
def f_num (M : ewM) (w : Int) : Int := if w = 0 then M 50 4 else if w = 1 then M 50 5 else if w = 2 then M 50 3 else if w = 3 then M 50 6 else if w = 4 then f_sum (M 3) 144 else if w = 5 then f_max (M 1) 144 else if w = 6 then f_sum (f_str (M 1)) 144 else if w = 7 then 2 * f_sum (fun q => f_s2 (M 1) q + f_s4 (M 1) q) 144 else if w = 8 then f_sum (fun q => if M 2 q = 0 then 0 else 1) 144 else if w = 9 then M 50 10 else if w = 10 then M 50 7 else if w = 11 then M 50 8 else if w = 12 then M 50 9 else M 77 5
def f_prop (M : ewM) (p w : Int) : Int := if w = 0 then M 1 p else if w = 1 then M 2 p else if w = 2 then M 3 p else if w = 3 then f_str (M 1) p else if w = 4 then f_bear (M 3) p (M 52 0) (M 52 1) else if w = 5 then (if f_ov (M 50) p then 1 else 0) else M 4 p
/-- a hash over the first n of the values -/
def f_h (vals : Int → Int) : Nat → Int → Int
  | 0, h => h
  | n + 1, h => 31 * f_h vals n h + vals n
theorem f_h_s (vals : Int → Int) {k : Int} (h0 : 0 ≤ k) (h : Int) : f_h vals (k + 1).toNat h = 31 * f_h vals k.toNat h + vals k := by
  rw [show (k + 1).toNat = k.toNat + 1 by omega, f_h, show (k.toNat : Int) = k by omega]
theorem f_h_cg {f g : Int → Int} : ∀ n : Nat, (∀ k : Int, 0 ≤ k → k < n → f k = g k) → ∀ h : Int, f_h f n h = f_h g n h := by
  intro n
  induction n with
  | zero => intro _ h; rfl
  | succ n ih =>
    intro hk h
    rw [f_h, f_h, ih (fun k k1 k2 => hk k k1 (by omega)), hk n (by omega) (by omega)]
/-- the best row of a fold: the fewest cracks over the rows 1 to n + 1, and the first row with them -/
def f_fl (fc : Int → Int) : Nat → Int
  | 0 => fc 1
  | n + 1 => if fc (n + 2) < f_fl fc n then fc (n + 2) else f_fl fc n
def f_fr (fc : Int → Int) : Nat → Int
  | 0 => 1
  | n + 1 => if fc (n + 2) < f_fl fc n then n + 2 else f_fr fc n
theorem f_fl_s (fc : Int → Int) {k : Int} (h : 2 ≤ k) : f_fl fc (k - 1).toNat = (if fc k < f_fl fc (k - 2).toNat then fc k else f_fl fc (k - 2).toNat) ∧ f_fr fc (k - 1).toNat = if fc k < f_fl fc (k - 2).toNat then k else f_fr fc (k - 2).toNat := by
  rw [show (k - 1).toNat = (k - 2).toNat + 1 by omega, f_fl, f_fr, show (((k - 2).toNat : Nat) : Int) + 2 = k by omega]
  exact ⟨rfl, rfl⟩
theorem f_fr_b (fc : Int → Int) : ∀ n : Nat, 1 ≤ f_fr fc n ∧ f_fr fc n ≤ n + 1 := by
  intro n
  induction n with
  | zero => exact ⟨Int.le_refl _, Int.le_refl _⟩
  | succ n ih =>
    rw [f_fr]
    split <;> omega
theorem f_fc_b {d c : Int → Int} (row b t : Int) (hc : pC c) : 0 ≤ f_fc d c row b t ∧ f_fc d c row b t ≤ 144 := by
  have h1 := f_it_le (d := d) (b := b) (t := t) (c := f_brk (f_ovf d c row b t) c) 144
  have h2 := f_sum_C (f_it_C (f_brk_C hc (P := f_ovf d c row b t)) (d := d) (b := b) (t := t) 144)
  have h3 := f_sum_C hc
  have h4 := f_sum_C (f_brk_C hc (P := f_ovf d c row b t))
  have h5 : f_sum c 144 ≤ f_sum (f_brk (f_ovf d c row b t) c) 144 := f_sum_le' 144 (fun k _ _ => by
    have := hc k
    unfold f_brk
    split <;> omega)
  unfold f_fc
  omega
theorem f_bs_b (ans : Int → Int) : ∀ n : Nat, n ≤ 144 → -1 ≤ f_bs ans n ∧ f_bs ans n ≤ 1111 := by
  intro n
  induction n with
  | zero => intro _; exact ⟨Int.le_refl _, by show (-1 : Int) ≤ 1111; decide⟩
  | succ n ih =>
    intro hn
    have := ih (by omega)
    rw [f_bs]
    split <;> omega
theorem f_lt_b (P : Int → Int) (a o : Int) : ∀ (n : Nat) (t : Int), 0 ≤ t → -1 ≤ f_lt P a o n t ∧ f_lt P a o n t < t + n + 1 := by
  intro n
  induction n with
  | zero => intro t ht; exact ⟨Int.le_refl _, by show (-1 : Int) < t + ((0 : Nat) : Int) + 1; omega⟩
  | succ n ih =>
    intro t ht
    have := ih (t + 1) (by omega)
    rw [f_lt]
    split <;> omega
theorem a_ans_b {M : ewM} (h0 : st0 M) (r : Int → Int) (x y : Int) : 0 ≤ a_ans M r x y ∧ a_ans M r x y ≤ 244 := by
  have h1 := f_rsn_b r (x + M 50 3) y (M 52 2)
  have h2 := f_cks_b (r := r) (left := x + M 50 3) (top := y) (d := M 1) (c := M 3) (b := M 52 0) (t := M 52 1) h0.2.1
  unfold a_ans f_ans
  split <;> omega
theorem f_need_b {r d c : Int → Int} {left top t deep : Int} (hr : pD r) (hd : pD d) (hc : pC c) (ht : 0 ≤ t ∧ t ≤ 20) : -1 ≤ f_need r left top d c t deep ∧ f_need r left top d c t deep ≤ 99 := by
  have h1 := f_least_b (f_emb_D hr hd left top 25) hc ht 144
  unfold f_need
  repeat' split
  all_goals omega
set_option maxRecDepth 100000 in
set_option maxHeartbeats 4000000 in
theorem c_X4_propertyOf (l : Launch) (E : ewE) (M : ewM) (h0 : st0 M) (p : Int) (hp : 0 ≤ p ∧ p < 144) (w : Int) (hw : 0 ≤ w ∧ w < 7) : Ct l E yX4_propertyOf (.code yX4_propertyOf cX4_propertyOf 4 (some .int)) 4 [vR E 77, vI p, vI w] M (fun v M1 => v = some (vI (f_prop M p w)) ∧ (-2147483648 ≤ f_prop M p w ∧ f_prop M p w < 2147483648) ∧ M = M1) := by
  refine ct_of (L0 := [(0, vR E 77), (1, vI p), (2, vI w)]) (by decide +kernel) rfl (Nat.le_of_ble_eq_true rfl) ?_
  intro zp ze zs zm za zb zt zc zA hC
  obtain ⟨p1, p2, p3, p4, p5, p6, p7, p8⟩ := id h0
  refine jw_aload_n hC dX4_propertyOf_0 0 rfl rfl ?_
  refine jw_getr hC fL_X4_12 ewR_x0 dX4_propertyOf_1 ?_
  refine jw_getr hC fL_X4_88 (show ewR 50 6 2 0 from ewR_t2 (j := 0) (by decide)) dX4_propertyOf_4 ?_
  refine jw_astore_n (L' := [(3, _), (0, _), (1, _), (2, _)]) hC dX4_propertyOf_7 rfl (by decide) rfl ?_
  refine jw_iload_n hC dX4_propertyOf_8 3 rfl rfl ?_
  rcases (show w = 0 ∨ w = 1 ∨ w = 2 ∨ w = 3 ∨ w = 4 ∨ w = 5 ∨ w = 6 by omega) with rfl | rfl | rfl | rfl | rfl | rfl | rfl
  · skip
    refine jw_tabIn (tgt := 48) hC dX4_propertyOf_9 (by decide) (by decide) (by decide) (by decide) rfl (by decide) ?_
    refine jw_aload_n hC dX4_propertyOf_48 0 rfl rfl ?_
    refine jw_getr hC fL_X4_343 (show ewR 0 5 0 1 from ewR_s0 (j := 0) (by decide)) dX4_propertyOf_49 ?_
    refine jw_iload_n hC dX4_propertyOf_52 2 rfl rfl ?_
    refine jw_iald hC (show ewA 1 0 144 from ewA_sheet (j := 0) (r := 1) (by decide) (by decide) (by decide)) dX4_propertyOf_53 (by omega) (by omega) (by decide) (fun b53 c53 => ?_)
    refine jw_iret hC dX4_propertyOf_54 ?_
    first
    | exact ⟨rfl, ⟨by show _ ≤ M 1 p; omega, by show M 1 p < _; omega⟩, rfl⟩
    | exact ⟨rfl, ⟨by show _ ≤ M 2 p; omega, by show M 2 p < _; omega⟩, rfl⟩
    | exact ⟨rfl, ⟨by show _ ≤ M 3 p; omega, by show M 3 p < _; omega⟩, rfl⟩
    | exact ⟨rfl, ⟨by show _ ≤ M 4 p; omega, by show M 4 p < _; omega⟩, rfl⟩
    | exact ⟨rfl, ⟨by show _ ≤ f_str (M 1) p; have := f_str_b p1 p; omega, by show f_str (M 1) p < _; have := f_str_b p1 p; omega⟩, rfl⟩
    | exact ⟨rfl, ⟨by show _ ≤ f_bear (M 3) p (M 52 0) (M 52 1); have := f_bear_b p p2 p4 p5; omega, by show f_bear (M 3) p (M 52 0) (M 52 1) < _; have := f_bear_b p p2 p4 p5; omega⟩, rfl⟩
    | (have e9 : f_prop M p 5 = if f_ov (M 50) p then 1 else 0 := rfl
       rw [e9]
       first
       | (have hz : f_ov (M 50) p := Decidable.by_contra (fun z => by rw [if_neg z] at h107; omega)
          rw [if_pos hz]
          exact ⟨rfl, ⟨by decide, by decide⟩, rfl⟩)
       | (have hz : ¬ f_ov (M 50) p := fun z => by rw [if_pos z] at h107; omega
          rw [if_neg hz]
          exact ⟨rfl, ⟨by decide, by decide⟩, rfl⟩))
  · skip
    refine jw_tabIn (tgt := 55) hC dX4_propertyOf_9 (by decide) (by decide) (by decide) (by decide) rfl (by decide) ?_
    refine jw_aload_n hC dX4_propertyOf_55 0 rfl rfl ?_
    refine jw_getr hC fL_X4_346 (show ewR 0 5 1 2 from ewR_s1 (j := 0) (by decide)) dX4_propertyOf_56 ?_
    refine jw_iload_n hC dX4_propertyOf_59 2 rfl rfl ?_
    refine jw_iald hC (show ewA 2 0 144 from ewA_sheet (j := 0) (r := 2) (by decide) (by decide) (by decide)) dX4_propertyOf_60 (by omega) (by omega) (by decide) (fun b60 c60 => ?_)
    refine jw_iret hC dX4_propertyOf_61 ?_
    first
    | exact ⟨rfl, ⟨by show _ ≤ M 1 p; omega, by show M 1 p < _; omega⟩, rfl⟩
    | exact ⟨rfl, ⟨by show _ ≤ M 2 p; omega, by show M 2 p < _; omega⟩, rfl⟩
    | exact ⟨rfl, ⟨by show _ ≤ M 3 p; omega, by show M 3 p < _; omega⟩, rfl⟩
    | exact ⟨rfl, ⟨by show _ ≤ M 4 p; omega, by show M 4 p < _; omega⟩, rfl⟩
    | exact ⟨rfl, ⟨by show _ ≤ f_str (M 1) p; have := f_str_b p1 p; omega, by show f_str (M 1) p < _; have := f_str_b p1 p; omega⟩, rfl⟩
    | exact ⟨rfl, ⟨by show _ ≤ f_bear (M 3) p (M 52 0) (M 52 1); have := f_bear_b p p2 p4 p5; omega, by show f_bear (M 3) p (M 52 0) (M 52 1) < _; have := f_bear_b p p2 p4 p5; omega⟩, rfl⟩
    | (have e9 : f_prop M p 5 = if f_ov (M 50) p then 1 else 0 := rfl
       rw [e9]
       first
       | (have hz : f_ov (M 50) p := Decidable.by_contra (fun z => by rw [if_neg z] at h107; omega)
          rw [if_pos hz]
          exact ⟨rfl, ⟨by decide, by decide⟩, rfl⟩)
       | (have hz : ¬ f_ov (M 50) p := fun z => by rw [if_pos z] at h107; omega
          rw [if_neg hz]
          exact ⟨rfl, ⟨by decide, by decide⟩, rfl⟩))
  · skip
    refine jw_tabIn (tgt := 62) hC dX4_propertyOf_9 (by decide) (by decide) (by decide) (by decide) rfl (by decide) ?_
    refine jw_aload_n hC dX4_propertyOf_62 0 rfl rfl ?_
    refine jw_getr hC fL_X4_349 (show ewR 0 5 2 3 from ewR_s2 (j := 0) (by decide)) dX4_propertyOf_63 ?_
    refine jw_iload_n hC dX4_propertyOf_66 2 rfl rfl ?_
    refine jw_iald hC (show ewA 3 0 144 from ewA_sheet (j := 0) (r := 3) (by decide) (by decide) (by decide)) dX4_propertyOf_67 (by omega) (by omega) (by decide) (fun b67 c67 => ?_)
    refine jw_iret hC dX4_propertyOf_68 ?_
    first
    | exact ⟨rfl, ⟨by show _ ≤ M 1 p; omega, by show M 1 p < _; omega⟩, rfl⟩
    | exact ⟨rfl, ⟨by show _ ≤ M 2 p; omega, by show M 2 p < _; omega⟩, rfl⟩
    | exact ⟨rfl, ⟨by show _ ≤ M 3 p; omega, by show M 3 p < _; omega⟩, rfl⟩
    | exact ⟨rfl, ⟨by show _ ≤ M 4 p; omega, by show M 4 p < _; omega⟩, rfl⟩
    | exact ⟨rfl, ⟨by show _ ≤ f_str (M 1) p; have := f_str_b p1 p; omega, by show f_str (M 1) p < _; have := f_str_b p1 p; omega⟩, rfl⟩
    | exact ⟨rfl, ⟨by show _ ≤ f_bear (M 3) p (M 52 0) (M 52 1); have := f_bear_b p p2 p4 p5; omega, by show f_bear (M 3) p (M 52 0) (M 52 1) < _; have := f_bear_b p p2 p4 p5; omega⟩, rfl⟩
    | (have e9 : f_prop M p 5 = if f_ov (M 50) p then 1 else 0 := rfl
       rw [e9]
       first
       | (have hz : f_ov (M 50) p := Decidable.by_contra (fun z => by rw [if_neg z] at h107; omega)
          rw [if_pos hz]
          exact ⟨rfl, ⟨by decide, by decide⟩, rfl⟩)
       | (have hz : ¬ f_ov (M 50) p := fun z => by rw [if_pos z] at h107; omega
          rw [if_neg hz]
          exact ⟨rfl, ⟨by decide, by decide⟩, rfl⟩))
  · skip
    refine jw_tabIn (tgt := 69) hC dX4_propertyOf_9 (by decide) (by decide) (by decide) (by decide) rfl (by decide) ?_
    refine jw_aload_n hC dX4_propertyOf_69 0 rfl rfl ?_
    refine jw_iload_n hC dX4_propertyOf_70 2 rfl rfl ?_
    refine jw_callV hC (c_X2_strainOf l E M 0 (by decide) _ hp p1) sV_X4_352 (show ewO 0 5 from ewO_sheet (j := 0) (by decide)) dX4_propertyOf_71 rfl rfl ⟨Nat.le_of_ble_eq_true rfl, Nat.le_of_ble_eq_true rfl⟩ ⟨Nat.zero_le _, Nat.zero_le _⟩ (Nat.le_of_ble_eq_true rfl) (fun v71 M71 g71 => ?_)
    obtain ⟨rfl, rfl⟩ := g71
    refine jw_iret hC dX4_propertyOf_74 ?_
    first
    | exact ⟨rfl, ⟨by show _ ≤ M 1 p; omega, by show M 1 p < _; omega⟩, rfl⟩
    | exact ⟨rfl, ⟨by show _ ≤ M 2 p; omega, by show M 2 p < _; omega⟩, rfl⟩
    | exact ⟨rfl, ⟨by show _ ≤ M 3 p; omega, by show M 3 p < _; omega⟩, rfl⟩
    | exact ⟨rfl, ⟨by show _ ≤ M 4 p; omega, by show M 4 p < _; omega⟩, rfl⟩
    | exact ⟨rfl, ⟨by show _ ≤ f_str (M 1) p; have := f_str_b p1 p; omega, by show f_str (M 1) p < _; have := f_str_b p1 p; omega⟩, rfl⟩
    | exact ⟨rfl, ⟨by show _ ≤ f_bear (M 3) p (M 52 0) (M 52 1); have := f_bear_b p p2 p4 p5; omega, by show f_bear (M 3) p (M 52 0) (M 52 1) < _; have := f_bear_b p p2 p4 p5; omega⟩, rfl⟩
    | (have e9 : f_prop M p 5 = if f_ov (M 50) p then 1 else 0 := rfl
       rw [e9]
       first
       | (have hz : f_ov (M 50) p := Decidable.by_contra (fun z => by rw [if_neg z] at h107; omega)
          rw [if_pos hz]
          exact ⟨rfl, ⟨by decide, by decide⟩, rfl⟩)
       | (have hz : ¬ f_ov (M 50) p := fun z => by rw [if_pos z] at h107; omega
          rw [if_neg hz]
          exact ⟨rfl, ⟨by decide, by decide⟩, rfl⟩))
  · skip
    refine jw_tabIn (tgt := 75) hC dX4_propertyOf_9 (by decide) (by decide) (by decide) (by decide) rfl (by decide) ?_
    refine jw_aload_n hC dX4_propertyOf_75 0 rfl rfl ?_
    refine jw_iload_n hC dX4_propertyOf_76 2 rfl rfl ?_
    refine jw_aload_n hC dX4_propertyOf_77 1 rfl rfl ?_
    refine jw_getr hC fL_X4_12 ewR_x0 dX4_propertyOf_78 ?_
    refine jw_getr hC fL_X4_165 (show ewR 50 6 1 52 from ewR_t1 (j := 0) (by decide)) dX4_propertyOf_81 ?_
    refine jw_iconst hC dX4_propertyOf_84 ?_
    refine jw_iald hC (show ewA 52 0 4 from ewA_settings (j := 0) (by decide)) dX4_propertyOf_85 (by omega) (by omega) (by decide) (fun b85 c85 => ?_)
    refine jw_aload_n hC dX4_propertyOf_86 1 rfl rfl ?_
    refine jw_getr hC fL_X4_12 ewR_x0 dX4_propertyOf_87 ?_
    refine jw_getr hC fL_X4_165 (show ewR 50 6 1 52 from ewR_t1 (j := 0) (by decide)) dX4_propertyOf_90 ?_
    refine jw_iconst hC dX4_propertyOf_93 ?_
    refine jw_iald hC (show ewA 52 0 4 from ewA_settings (j := 0) (by decide)) dX4_propertyOf_94 (by omega) (by omega) (by decide) (fun b94 c94 => ?_)
    refine jw_callV hC (c_X2_bearingOf l E M 0 (by decide) _ _ _ hp p4 p5 p2) sV_X4_355 (show ewO 0 5 from ewO_sheet (j := 0) (by decide)) dX4_propertyOf_95 rfl rfl ⟨Nat.le_of_ble_eq_true rfl, Nat.le_of_ble_eq_true rfl⟩ ⟨Nat.zero_le _, Nat.zero_le _⟩ (Nat.le_of_ble_eq_true rfl) (fun v95 M95 g95 => ?_)
    obtain ⟨rfl, rfl⟩ := g95
    refine jw_iret hC dX4_propertyOf_98 ?_
    first
    | exact ⟨rfl, ⟨by show _ ≤ M 1 p; omega, by show M 1 p < _; omega⟩, rfl⟩
    | exact ⟨rfl, ⟨by show _ ≤ M 2 p; omega, by show M 2 p < _; omega⟩, rfl⟩
    | exact ⟨rfl, ⟨by show _ ≤ M 3 p; omega, by show M 3 p < _; omega⟩, rfl⟩
    | exact ⟨rfl, ⟨by show _ ≤ M 4 p; omega, by show M 4 p < _; omega⟩, rfl⟩
    | exact ⟨rfl, ⟨by show _ ≤ f_str (M 1) p; have := f_str_b p1 p; omega, by show f_str (M 1) p < _; have := f_str_b p1 p; omega⟩, rfl⟩
    | exact ⟨rfl, ⟨by show _ ≤ f_bear (M 3) p (M 52 0) (M 52 1); have := f_bear_b p p2 p4 p5; omega, by show f_bear (M 3) p (M 52 0) (M 52 1) < _; have := f_bear_b p p2 p4 p5; omega⟩, rfl⟩
    | (have e9 : f_prop M p 5 = if f_ov (M 50) p then 1 else 0 := rfl
       rw [e9]
       first
       | (have hz : f_ov (M 50) p := Decidable.by_contra (fun z => by rw [if_neg z] at h107; omega)
          rw [if_pos hz]
          exact ⟨rfl, ⟨by decide, by decide⟩, rfl⟩)
       | (have hz : ¬ f_ov (M 50) p := fun z => by rw [if_pos z] at h107; omega
          rw [if_neg hz]
          exact ⟨rfl, ⟨by decide, by decide⟩, rfl⟩))
  · skip
    refine jw_tabIn (tgt := 99) hC dX4_propertyOf_9 (by decide) (by decide) (by decide) (by decide) rfl (by decide) ?_
    refine jw_aload_n hC dX4_propertyOf_99 1 rfl rfl ?_
    refine jw_getr hC fL_X4_12 ewR_x0 dX4_propertyOf_100 ?_
    refine jw_iload_n hC dX4_propertyOf_103 2 rfl rfl ?_
    refine jw_callV hC (c_X3_isFoilReadyOver l E M 0 (by decide) _ hp) sV_X4_358 (show ewO 50 6 from ewO_state (j := 0) (by decide)) dX4_propertyOf_104 rfl rfl ⟨Nat.le_of_ble_eq_true rfl, Nat.le_of_ble_eq_true rfl⟩ ⟨Nat.zero_le _, Nat.zero_le _⟩ (Nat.le_of_ble_eq_true rfl) (fun v104 M104 g104 => ?_)
    obtain ⟨rfl, rfl⟩ := g104
    have hq104 : (if f_ov (M (50 + 3 * 0)) p then (1 : Int) else 0) = if f_ov (M 50) p then 1 else 0 := rfl
    rw [hq104]
    have hov : (if f_ov (M 50) p then (1 : Int) else 0) = 0 ∨ (if f_ov (M 50) p then (1 : Int) else 0) = 1 := by split <;> omega
    refine jw_if_eq (tgt := 114) hC dX4_propertyOf_107 (by decide) (by omega) (by omega) (fun h107 => ?_) (fun h107 => ?_)
    · skip
      refine jw_iconst hC dX4_propertyOf_114 ?_
      refine jw_iret hC dX4_propertyOf_115 ?_
      first
      | exact ⟨rfl, ⟨by show _ ≤ M 1 p; omega, by show M 1 p < _; omega⟩, rfl⟩
      | exact ⟨rfl, ⟨by show _ ≤ M 2 p; omega, by show M 2 p < _; omega⟩, rfl⟩
      | exact ⟨rfl, ⟨by show _ ≤ M 3 p; omega, by show M 3 p < _; omega⟩, rfl⟩
      | exact ⟨rfl, ⟨by show _ ≤ M 4 p; omega, by show M 4 p < _; omega⟩, rfl⟩
      | exact ⟨rfl, ⟨by show _ ≤ f_str (M 1) p; have := f_str_b p1 p; omega, by show f_str (M 1) p < _; have := f_str_b p1 p; omega⟩, rfl⟩
      | exact ⟨rfl, ⟨by show _ ≤ f_bear (M 3) p (M 52 0) (M 52 1); have := f_bear_b p p2 p4 p5; omega, by show f_bear (M 3) p (M 52 0) (M 52 1) < _; have := f_bear_b p p2 p4 p5; omega⟩, rfl⟩
      | (have e9 : f_prop M p 5 = if f_ov (M 50) p then 1 else 0 := rfl
         rw [e9]
         first
         | (have hz : f_ov (M 50) p := Decidable.by_contra (fun z => by rw [if_neg z] at h107; omega)
            rw [if_pos hz]
            exact ⟨rfl, ⟨by decide, by decide⟩, rfl⟩)
         | (have hz : ¬ f_ov (M 50) p := fun z => by rw [if_pos z] at h107; omega
            rw [if_neg hz]
            exact ⟨rfl, ⟨by decide, by decide⟩, rfl⟩))
    · skip
      refine jw_iconst hC dX4_propertyOf_110 ?_
      refine jw_goto (tgt := 115) hC dX4_propertyOf_111 (by decide) ?_
      refine jw_iret hC dX4_propertyOf_115 ?_
      first
      | exact ⟨rfl, ⟨by show _ ≤ M 1 p; omega, by show M 1 p < _; omega⟩, rfl⟩
      | exact ⟨rfl, ⟨by show _ ≤ M 2 p; omega, by show M 2 p < _; omega⟩, rfl⟩
      | exact ⟨rfl, ⟨by show _ ≤ M 3 p; omega, by show M 3 p < _; omega⟩, rfl⟩
      | exact ⟨rfl, ⟨by show _ ≤ M 4 p; omega, by show M 4 p < _; omega⟩, rfl⟩
      | exact ⟨rfl, ⟨by show _ ≤ f_str (M 1) p; have := f_str_b p1 p; omega, by show f_str (M 1) p < _; have := f_str_b p1 p; omega⟩, rfl⟩
      | exact ⟨rfl, ⟨by show _ ≤ f_bear (M 3) p (M 52 0) (M 52 1); have := f_bear_b p p2 p4 p5; omega, by show f_bear (M 3) p (M 52 0) (M 52 1) < _; have := f_bear_b p p2 p4 p5; omega⟩, rfl⟩
      | (have e9 : f_prop M p 5 = if f_ov (M 50) p then 1 else 0 := rfl
         rw [e9]
         first
         | (have hz : f_ov (M 50) p := Decidable.by_contra (fun z => by rw [if_neg z] at h107; omega)
            rw [if_pos hz]
            exact ⟨rfl, ⟨by decide, by decide⟩, rfl⟩)
         | (have hz : ¬ f_ov (M 50) p := fun z => by rw [if_pos z] at h107; omega
            rw [if_neg hz]
            exact ⟨rfl, ⟨by decide, by decide⟩, rfl⟩))
  · skip
    refine jw_tabOut (tgt := 116) hC dX4_propertyOf_9 (by decide) (by decide) (by decide) (by decide) ?_
    refine jw_aload_n hC dX4_propertyOf_116 0 rfl rfl ?_
    refine jw_getr hC fL_X4_361 (show ewR 0 5 3 4 from ewR_s3 (j := 0) (by decide)) dX4_propertyOf_117 ?_
    refine jw_iload_n hC dX4_propertyOf_120 2 rfl rfl ?_
    refine jw_iald hC (show ewA 4 0 144 from ewA_sheet (j := 0) (r := 4) (by decide) (by decide) (by decide)) dX4_propertyOf_121 (by omega) (by omega) (by decide) (fun b121 c121 => ?_)
    refine jw_iret hC dX4_propertyOf_122 ?_
    first
    | exact ⟨rfl, ⟨by show _ ≤ M 1 p; omega, by show M 1 p < _; omega⟩, rfl⟩
    | exact ⟨rfl, ⟨by show _ ≤ M 2 p; omega, by show M 2 p < _; omega⟩, rfl⟩
    | exact ⟨rfl, ⟨by show _ ≤ M 3 p; omega, by show M 3 p < _; omega⟩, rfl⟩
    | exact ⟨rfl, ⟨by show _ ≤ M 4 p; omega, by show M 4 p < _; omega⟩, rfl⟩
    | exact ⟨rfl, ⟨by show _ ≤ f_str (M 1) p; have := f_str_b p1 p; omega, by show f_str (M 1) p < _; have := f_str_b p1 p; omega⟩, rfl⟩
    | exact ⟨rfl, ⟨by show _ ≤ f_bear (M 3) p (M 52 0) (M 52 1); have := f_bear_b p p2 p4 p5; omega, by show f_bear (M 3) p (M 52 0) (M 52 1) < _; have := f_bear_b p p2 p4 p5; omega⟩, rfl⟩
    | (have e9 : f_prop M p 5 = if f_ov (M 50) p then 1 else 0 := rfl
       rw [e9]
       first
       | (have hz : f_ov (M 50) p := Decidable.by_contra (fun z => by rw [if_neg z] at h107; omega)
          rw [if_pos hz]
          exact ⟨rfl, ⟨by decide, by decide⟩, rfl⟩)
       | (have hz : ¬ f_ov (M 50) p := fun z => by rw [if_pos z] at h107; omega
          rw [if_neg hz]
          exact ⟨rfl, ⟨by decide, by decide⟩, rfl⟩))
set_option maxRecDepth 100000 in
set_option maxHeartbeats 4000000 in
theorem c_X4_numberOf (l : Launch) (E : ewE) (M : ewM) (h0 : st0 M) (w : Int) (hw : 0 ≤ w ∧ w < 14) : Ct l E yX4_numberOf (.code yX4_numberOf cX4_numberOf 2 (some .int)) 4 [vR E 77, vI w] M (fun v M1 => v = some (vI (f_num M w)) ∧ (-2147483648 ≤ f_num M w ∧ f_num M w < 2147483648) ∧ M = M1) := by
  refine ct_of (L0 := [(0, vR E 77), (1, vI w)]) (by decide +kernel) rfl (Nat.le_of_ble_eq_true rfl) ?_
  intro zp ze zs zm za zb zt zc zA hC
  obtain ⟨p1, p2, p3, p4, p5, p6, p7, p8⟩ := id h0
  refine jw_iload_n hC dX4_numberOf_0 1 rfl rfl ?_
  rcases (show w = 0 ∨ w = 1 ∨ w = 2 ∨ w = 3 ∨ w = 4 ∨ w = 5 ∨ w = 6 ∨ w = 7 ∨ w = 8 ∨ w = 9 ∨ w = 10 ∨ w = 11 ∨ w = 12 ∨ w = 13 by omega) with rfl | rfl | rfl | rfl | rfl | rfl | rfl | rfl | rfl | rfl | rfl | rfl | rfl | rfl
  · skip
    refine jw_tabIn (tgt := 68) hC dX4_numberOf_1 (by decide) (by decide) (by decide) (by decide) rfl (by decide) ?_
    refine jw_aload_n hC dX4_numberOf_68 0 rfl rfl ?_
    refine jw_getr hC fL_X4_12 ewR_x0 dX4_numberOf_69 ?_
    refine jw_geti hC fL_X4_234.r (show ewF 50 6 4 from ewF_t (j := 0) (k := 4) (by decide) (by decide) (by decide)) (kI := 4) rfl dX4_numberOf_72 (by omega) (fun b72 c72 => ?_)
    refine jw_iret hC dX4_numberOf_75 ?_
    exact ⟨rfl, ⟨by show _ ≤ M 50 4; omega, by show M 50 4 < _; omega⟩, rfl⟩
  · skip
    refine jw_tabIn (tgt := 76) hC dX4_numberOf_1 (by decide) (by decide) (by decide) (by decide) rfl (by decide) ?_
    refine jw_aload_n hC dX4_numberOf_76 0 rfl rfl ?_
    refine jw_getr hC fL_X4_12 ewR_x0 dX4_numberOf_77 ?_
    refine jw_geti hC fL_X4_324.r (show ewF 50 6 5 from ewF_t (j := 0) (k := 5) (by decide) (by decide) (by decide)) (kI := 5) rfl dX4_numberOf_80 (by omega) (fun b80 c80 => ?_)
    refine jw_iret hC dX4_numberOf_83 ?_
    exact ⟨rfl, ⟨by show _ ≤ M 50 5; omega, by show M 50 5 < _; omega⟩, rfl⟩
  · skip
    refine jw_tabIn (tgt := 84) hC dX4_numberOf_1 (by decide) (by decide) (by decide) (by decide) rfl (by decide) ?_
    refine jw_aload_n hC dX4_numberOf_84 0 rfl rfl ?_
    refine jw_getr hC fL_X4_12 ewR_x0 dX4_numberOf_85 ?_
    refine jw_geti hC fL_X4_121.r (show ewF 50 6 3 from ewF_t (j := 0) (k := 3) (by decide) (by decide) (by decide)) (kI := 3) rfl dX4_numberOf_88 (by omega) (fun b88 c88 => ?_)
    refine jw_iret hC dX4_numberOf_91 ?_
    exact ⟨rfl, ⟨by show _ ≤ M 50 3; omega, by show M 50 3 < _; omega⟩, rfl⟩
  · skip
    refine jw_tabIn (tgt := 92) hC dX4_numberOf_1 (by decide) (by decide) (by decide) (by decide) rfl (by decide) ?_
    refine jw_aload_n hC dX4_numberOf_92 0 rfl rfl ?_
    refine jw_getr hC fL_X4_12 ewR_x0 dX4_numberOf_93 ?_
    refine jw_geti hC fL_X4_154.r (show ewF 50 6 6 from ewF_t (j := 0) (k := 6) (by decide) (by decide) (by decide)) (kI := 6) rfl dX4_numberOf_96 (by omega) (fun b96 c96 => ?_)
    refine jw_iret hC dX4_numberOf_99 ?_
    exact ⟨rfl, ⟨by show _ ≤ M 50 6; omega, by show M 50 6 < _; omega⟩, rfl⟩
  · skip
    refine jw_tabIn (tgt := 100) hC dX4_numberOf_1 (by decide) (by decide) (by decide) (by decide) rfl (by decide) ?_
    refine jw_aload_n hC dX4_numberOf_100 0 rfl rfl ?_
    refine jw_getr hC fL_X4_12 ewR_x0 dX4_numberOf_101 ?_
    refine jw_getr hC fL_X4_88 (show ewR 50 6 2 0 from ewR_t2 (j := 0) (by decide)) dX4_numberOf_104 ?_
    refine jw_callV hC (c_X2_cracked l E M 0 (by decide)) sV_X4_104 (show ewO 0 5 from ewO_sheet (j := 0) (by decide)) dX4_numberOf_107 rfl rfl ⟨Nat.le_of_ble_eq_true rfl, Nat.le_of_ble_eq_true rfl⟩ ⟨Nat.zero_le _, Nat.zero_le _⟩ (Nat.le_of_ble_eq_true rfl) (fun v107 M107 g107 => ?_)
    obtain ⟨rfl, rfl⟩ := g107
    refine jw_iret hC dX4_numberOf_110 ?_
    have hb := f_sum_C p2
    exact ⟨rfl, ⟨by show _ ≤ f_sum (M 3) 144; omega, by show f_sum (M 3) 144 < _; omega⟩, rfl⟩
  · skip
    refine jw_tabIn (tgt := 111) hC dX4_numberOf_1 (by decide) (by decide) (by decide) (by decide) rfl (by decide) ?_
    refine jw_aload_n hC dX4_numberOf_111 0 rfl rfl ?_
    refine jw_getr hC fL_X4_12 ewR_x0 dX4_numberOf_112 ?_
    refine jw_getr hC fL_X4_88 (show ewR 50 6 2 0 from ewR_t2 (j := 0) (by decide)) dX4_numberOf_115 ?_
    refine jw_callV hC (c_X2_greatestDepth l E M 0 (by decide) p1) sV_X4_364 (show ewO 0 5 from ewO_sheet (j := 0) (by decide)) dX4_numberOf_118 rfl rfl ⟨Nat.le_of_ble_eq_true rfl, Nat.le_of_ble_eq_true rfl⟩ ⟨Nat.zero_le _, Nat.zero_le _⟩ (Nat.le_of_ble_eq_true rfl) (fun v118 M118 g118 => ?_)
    obtain ⟨rfl, rfl⟩ := g118
    refine jw_iret hC dX4_numberOf_121 ?_
    have hb := f_max_D p1 144
    exact ⟨rfl, ⟨by show _ ≤ f_max (M 1) 144; omega, by show f_max (M 1) 144 < _; omega⟩, rfl⟩
  · skip
    refine jw_tabIn (tgt := 122) hC dX4_numberOf_1 (by decide) (by decide) (by decide) (by decide) rfl (by decide) ?_
    refine jw_aload_n hC dX4_numberOf_122 0 rfl rfl ?_
    refine jw_getr hC fL_X4_12 ewR_x0 dX4_numberOf_123 ?_
    refine jw_getr hC fL_X4_88 (show ewR 50 6 2 0 from ewR_t2 (j := 0) (by decide)) dX4_numberOf_126 ?_
    refine jw_callV hC (c_X2_strainByPlaces l E M 0 (by decide) p1) sV_X4_367 (show ewO 0 5 from ewO_sheet (j := 0) (by decide)) dX4_numberOf_129 rfl rfl ⟨Nat.le_of_ble_eq_true rfl, Nat.le_of_ble_eq_true rfl⟩ ⟨Nat.zero_le _, Nat.zero_le _⟩ (Nat.le_of_ble_eq_true rfl) (fun v129 M129 g129 => ?_)
    obtain ⟨rfl, rfl⟩ := g129
    refine jw_iret hC dX4_numberOf_132 ?_
    have hb := f_sum_le (g := f_str (M 1)) (a := 0) (b := 36) (fun k _ _ => f_str_b p1 k) 144 (by decide)
    exact ⟨rfl, ⟨by show _ ≤ f_sum (f_str (M 1)) 144; omega, by show f_sum (f_str (M 1)) 144 < _; omega⟩, rfl⟩
  · skip
    refine jw_tabIn (tgt := 133) hC dX4_numberOf_1 (by decide) (by decide) (by decide) (by decide) rfl (by decide) ?_
    refine jw_aload_n hC dX4_numberOf_133 0 rfl rfl ?_
    refine jw_getr hC fL_X4_12 ewR_x0 dX4_numberOf_134 ?_
    refine jw_getr hC fL_X4_88 (show ewR 50 6 2 0 from ewR_t2 (j := 0) (by decide)) dX4_numberOf_137 ?_
    refine jw_callV hC (c_X2_strainByPairs l E M 0 (by decide) p1) sV_X4_370 (show ewO 0 5 from ewO_sheet (j := 0) (by decide)) dX4_numberOf_140 rfl rfl ⟨Nat.le_of_ble_eq_true rfl, Nat.le_of_ble_eq_true rfl⟩ ⟨Nat.zero_le _, Nat.zero_le _⟩ (Nat.le_of_ble_eq_true rfl) (fun v140 M140 g140 => ?_)
    obtain ⟨rfl, rfl⟩ := g140
    refine jw_iret hC dX4_numberOf_143 ?_
    have hb := f_sum_le (g := fun q => f_s2 (M 1) q + f_s4 (M 1) q) (a := 0) (b := 18) (fun k _ _ => by have z1 := f_s2_b p1 k; have z2 := f_s4_b p1 k; omega) 144 (by decide)
    exact ⟨rfl, ⟨by show _ ≤ 2 * f_sum (fun q => f_s2 (M 1) q + f_s4 (M 1) q) 144; omega, by show 2 * f_sum (fun q => f_s2 (M 1) q + f_s4 (M 1) q) 144 < _; omega⟩, rfl⟩
  · skip
    refine jw_tabIn (tgt := 144) hC dX4_numberOf_1 (by decide) (by decide) (by decide) (by decide) rfl (by decide) ?_
    refine jw_aload_n hC dX4_numberOf_144 0 rfl rfl ?_
    refine jw_getr hC fL_X4_12 ewR_x0 dX4_numberOf_145 ?_
    refine jw_getr hC fL_X4_88 (show ewR 50 6 2 0 from ewR_t2 (j := 0) (by decide)) dX4_numberOf_148 ?_
    refine jw_callV hC (c_X2_foiled l E M 0 (by decide)) sV_X4_373 (show ewO 0 5 from ewO_sheet (j := 0) (by decide)) dX4_numberOf_151 rfl rfl ⟨Nat.le_of_ble_eq_true rfl, Nat.le_of_ble_eq_true rfl⟩ ⟨Nat.zero_le _, Nat.zero_le _⟩ (Nat.le_of_ble_eq_true rfl) (fun v151 M151 g151 => ?_)
    obtain ⟨rfl, rfl⟩ := g151
    refine jw_iret hC dX4_numberOf_154 ?_
    have hb := f_sum_le (g := fun q => if M 2 q = 0 then 0 else 1) (a := 0) (b := 1) (fun k _ _ => by split <;> omega) 144 (by decide)
    exact ⟨rfl, ⟨by show _ ≤ f_sum (fun q => if M 2 q = 0 then 0 else 1) 144; omega, by show f_sum (fun q => if M 2 q = 0 then 0 else 1) 144 < _; omega⟩, rfl⟩
  · skip
    refine jw_tabIn (tgt := 155) hC dX4_numberOf_1 (by decide) (by decide) (by decide) (by decide) rfl (by decide) ?_
    refine jw_aload_n hC dX4_numberOf_155 0 rfl rfl ?_
    refine jw_getr hC fL_X4_12 ewR_x0 dX4_numberOf_156 ?_
    refine jw_geti hC fL_X4_114.r (show ewF 50 6 10 from ewF_t (j := 0) (k := 10) (by decide) (by decide) (by decide)) (kI := 10) rfl dX4_numberOf_159 (by omega) (fun b159 c159 => ?_)
    refine jw_iret hC dX4_numberOf_162 ?_
    exact ⟨rfl, ⟨by show _ ≤ M 50 10; omega, by show M 50 10 < _; omega⟩, rfl⟩
  · skip
    refine jw_tabIn (tgt := 163) hC dX4_numberOf_1 (by decide) (by decide) (by decide) (by decide) rfl (by decide) ?_
    refine jw_aload_n hC dX4_numberOf_163 0 rfl rfl ?_
    refine jw_getr hC fL_X4_12 ewR_x0 dX4_numberOf_164 ?_
    refine jw_geti hC fL_X4_176.r (show ewF 50 6 7 from ewF_t (j := 0) (k := 7) (by decide) (by decide) (by decide)) (kI := 7) rfl dX4_numberOf_167 (by omega) (fun b167 c167 => ?_)
    refine jw_iret hC dX4_numberOf_170 ?_
    exact ⟨rfl, ⟨by show _ ≤ M 50 7; omega, by show M 50 7 < _; omega⟩, rfl⟩
  · skip
    refine jw_tabIn (tgt := 171) hC dX4_numberOf_1 (by decide) (by decide) (by decide) (by decide) rfl (by decide) ?_
    refine jw_aload_n hC dX4_numberOf_171 0 rfl rfl ?_
    refine jw_getr hC fL_X4_12 ewR_x0 dX4_numberOf_172 ?_
    refine jw_geti hC fL_X4_118.r (show ewF 50 6 8 from ewF_t (j := 0) (k := 8) (by decide) (by decide) (by decide)) (kI := 8) rfl dX4_numberOf_175 (by omega) (fun b175 c175 => ?_)
    refine jw_iret hC dX4_numberOf_178 ?_
    exact ⟨rfl, ⟨by show _ ≤ M 50 8; omega, by show M 50 8 < _; omega⟩, rfl⟩
  · skip
    refine jw_tabIn (tgt := 179) hC dX4_numberOf_1 (by decide) (by decide) (by decide) (by decide) rfl (by decide) ?_
    refine jw_aload_n hC dX4_numberOf_179 0 rfl rfl ?_
    refine jw_getr hC fL_X4_12 ewR_x0 dX4_numberOf_180 ?_
    refine jw_geti hC fL_X4_179.r (show ewF 50 6 9 from ewF_t (j := 0) (k := 9) (by decide) (by decide) (by decide)) (kI := 9) rfl dX4_numberOf_183 (by omega) (fun b183 c183 => ?_)
    refine jw_iret hC dX4_numberOf_186 ?_
    exact ⟨rfl, ⟨by show _ ≤ M 50 9; omega, by show M 50 9 < _; omega⟩, rfl⟩
  · skip
    refine jw_tabOut (tgt := 187) hC dX4_numberOf_1 (by decide) (by decide) (by decide) (by decide) ?_
    refine jw_aload_n hC dX4_numberOf_187 0 rfl rfl ?_
    refine jw_geti hC fL_X4_239.r ewF_x5 (kI := 5) rfl dX4_numberOf_188 (by omega) (fun b188 c188 => ?_)
    refine jw_iret hC dX4_numberOf_191 ?_
    exact ⟨rfl, ⟨by show _ ≤ M 77 5; omega, by show M 77 5 < _; omega⟩, rfl⟩
end
section
/-! THE SAVED STATES of EmbossPress -/
def rg_o (M : ewM) : Int := if M 77 5 = 6 then (M 77 4 + 1) % 6 else M 77 4
def rg_n (M : ewM) : Int := if M 77 5 = 6 then 5 else M 77 5
theorem rg_b {M : ewM} (h4 : 0 ≤ M 77 4 ∧ M 77 4 ≤ 5) (h5 : 0 ≤ M 77 5 ∧ M 77 5 ≤ 6) : (0 ≤ rg_o M ∧ rg_o M ≤ 5) ∧ 0 ≤ rg_n M ∧ rg_n M ≤ 5 := by
  unfold rg_o rg_n
  split <;> omega
set_option maxRecDepth 100000 in
set_option maxHeartbeats 4000000 in
theorem c_X4_saveState (l : Launch) (E : ewE) (M : ewM) (h4 : 0 ≤ M 77 4 ∧ M 77 4 ≤ 5) (h5 : 0 ≤ M 77 5 ∧ M 77 5 ≤ 6) : Ct l E yX4_saveState (.code yX4_saveState cX4_saveState 1 none) 4 [vR E 77] M (fun v M1 => v = none ∧ (∀ k : Int, M1 77 k = if k = 4 then rg_o M else if k = 5 then rg_n M + 1 else M 77 k) ∧ ∀ j : Nat, (j : Int) = 3 + (rg_o M + rg_n M) % 6 → M1 (50 + 3 * j + 1) = M 51 ∧ M1 (50 + 3 * j + 2) = M 52 ∧ (∀ r, 1 ≤ r → r ≤ 4 → M1 (5 * j + r) = M r) ∧ (∀ k : Int, 3 ≤ k → k ≤ 14 → M1 (50 + 3 * j) k = M 50 k) ∧ ∀ o, o ≠ 77 → (o < 5 * j + 1 ∨ 5 * j + 4 < o) → (o < 50 + 3 * j ∨ 50 + 3 * j + 2 < o) → M1 o = M o) := by
  refine ct_of (L0 := [(0, vR E 77)]) (by decide +kernel) rfl (Nat.le_of_ble_eq_true rfl) ?_
  intro zp ze zs zm za zb zt zc zA hC
  have hb := rg_b h4 h5
  have K32 : ∀ (M1 : ewM), (∀ k : Int, M1 77 k = if k = 4 then rg_o M else if k = 5 then rg_n M else M 77 k) → (∀ o, o ≠ 77 → M1 o = M o) → jJ zp l ze (ct_rm 4) zs zm za zb zt zc E zA 1 0 0 (MQ zb (ct_Q E zA (fun v M1 => v = none ∧ (∀ k : Int, M1 77 k = if k = 4 then rg_o M else if k = 5 then rg_n M + 1 else M 77 k) ∧ ∀ j : Nat, (j : Int) = 3 + (rg_o M + rg_n M) % 6 → M1 (50 + 3 * j + 1) = M 51 ∧ M1 (50 + 3 * j + 2) = M 52 ∧ (∀ r, 1 ≤ r → r ≤ 4 → M1 (5 * j + r) = M r) ∧ (∀ k : Int, 3 ≤ k → k ≤ 14 → M1 (50 + 3 * j) k = M 50 k) ∧ ∀ o, o ≠ 77 → (o < 5 * j + 1 ∨ 5 * j + 4 < o) → (o < 50 + 3 * j ∨ 50 + 3 * j + 2 < o) → M1 o = M o)) za zs 0 0 zA) 32 [(0, vR E 77)] [] M1 := by
    intro M1 g1 g2
    refine jw_aload_n hC dX4_saveState_32 0 rfl rfl ?_
    refine jw_getr hC fL_X4_24 ewR_x3 dX4_saveState_33 ?_
    refine jw_aload_n hC dX4_saveState_36 0 rfl rfl ?_
    refine jw_geti hC fL_X4_244.r ewF_x4 (kI := 4) rfl dX4_saveState_37 (by omega) (fun b37 c37 => ?_)
    rw [g1 4, if_pos rfl] at b37 c37 ⊢
    refine jw_aload_n hC dX4_saveState_40 0 rfl rfl ?_
    refine jw_geti hC fL_X4_239.r ewF_x5 (kI := 5) rfl dX4_saveState_41 (by omega) (fun b41 c41 => ?_)
    rw [g1 5, if_neg (by decide), if_pos rfl] at b41 c41 ⊢
    refine jw_iadd hC dX4_saveState_44 ?_
    refine jw_bipush hC dX4_saveState_45 (by decide) ?_
    refine jw_irem hC dX4_saveState_47 (by omega) (by omega) (by omega) (by omega) ?_
    obtain ⟨jj, hjv⟩ : ∃ jj : Nat, (jj : Int) = 3 + (rg_o M + rg_n M) % 6 := ⟨(3 + (rg_o M + rg_n M) % 6).toNat, by omega⟩
    refine jw_aald_saved hC (jj - 3) (by omega) (by omega) dX4_saveState_48 ?_
    rw [show 59 + 3 * (jj - 3) = 50 + 3 * jj by omega]
    refine jw_aload_n hC dX4_saveState_49 0 rfl rfl ?_
    refine jw_getr hC fL_X4_12 ewR_x0 dX4_saveState_50 ?_
    refine jw_callV hC (c_X3_copyFrom l E M1 jj (by omega) 0 (by decide) (by omega)) sV_X4_230 (ewO_state (j := jj) (by omega)) dX4_saveState_53 rfl rfl ⟨Nat.le_of_ble_eq_true rfl, Nat.le_of_ble_eq_true rfl⟩ ⟨Nat.zero_le _, Nat.zero_le _⟩ (Nat.le_of_ble_eq_true rfl) (fun v53 M53 g53 => ?_)
    obtain ⟨rfl, c1, c2, c3, c4, c5⟩ := g53
    have e77 : M53 77 = M1 77 := c5 77 (by omega) (by omega)
    refine jw_aload_n hC dX4_saveState_56 0 rfl rfl ?_
    refine jw_dupr hC dX4_saveState_57 ?_
    refine jw_geti hC fL_X4_239.r ewF_x5 (kI := 5) rfl dX4_saveState_58 (by omega) (fun b58 c58 => ?_)
    rw [e77, g1 5, if_neg (by decide), if_pos rfl] at b58 c58 ⊢
    refine jw_iconst hC dX4_saveState_61 ?_
    refine jw_iadd hC dX4_saveState_62 ?_
    refine jw_puti hC fL_X4_239 ewF_x5 (kI := 5) rfl dX4_saveState_63 (by omega) (by omega) ?_
    refine jw_vret hC dX4_saveState_66 ?_
    refine ⟨rfl, fun k => ?_, fun j9 hj9 => ?_⟩
    · by_cases k5 : k = 5
      · rw [k5, mu_eq, if_neg (by decide), if_pos rfl]
      · rw [mu_nk _ _ _ k5, e77, g1 k, if_neg k5, if_neg k5]
    · have e9 : j9 = jj := by omega
      rw [e9]
      refine ⟨?_, ?_, fun r r0 r1 => ?_, fun k k0 k1 => ?_, fun o o1 o2 o3 => ?_⟩
      · rw [mu_ne _ _ _ (by omega), c1]; exact g2 51 (by decide)
      · rw [mu_ne _ _ _ (by omega), c2]; exact g2 52 (by decide)
      · rw [mu_ne _ _ _ (by omega), c3 r r0 r1, g2 _ (by omega), show 5 * 0 + r = r by omega]
      · rw [mu_ne _ _ _ (by omega), c4 k k0 k1]; exact congrFun (g2 50 (by decide)) k
      · rw [mu_ne _ _ _ o1, c5 o o2 o3, g2 o o1]
  refine jw_aload_n hC dX4_saveState_0 0 rfl rfl ?_
  refine jw_geti hC fL_X4_239.r ewF_x5 (kI := 5) rfl dX4_saveState_1 (by omega) (fun b1 c1 => ?_)
  refine jw_bipush hC dX4_saveState_4 (by decide) ?_
  refine jw_icmp_ne (tgt := 32) hC dX4_saveState_6 (by decide) (by omega) (by omega) (by omega) (by omega) (fun h6 => ?_) (fun h6 => ?_)
  · skip
    refine K32 M (fun k => ?_) (fun _ _ => rfl)
    unfold rg_o rg_n
    rw [if_neg (show ¬ M 77 5 = 6 by omega), if_neg (show ¬ M 77 5 = 6 by omega)]
    by_cases k4 : k = 4
    · rw [if_pos k4, k4]
    · rw [if_neg k4]
      by_cases k5 : k = 5
      · rw [if_pos k5, k5]
      · rw [if_neg k5]
  · skip
    refine jw_aload_n hC dX4_saveState_9 0 rfl rfl ?_
    refine jw_aload_n hC dX4_saveState_10 0 rfl rfl ?_
    refine jw_geti hC fL_X4_244.r ewF_x4 (kI := 4) rfl dX4_saveState_11 (by omega) (fun b11 c11 => ?_)
    refine jw_iconst hC dX4_saveState_14 ?_
    refine jw_iadd hC dX4_saveState_15 ?_
    refine jw_bipush hC dX4_saveState_16 (by decide) ?_
    refine jw_irem hC dX4_saveState_18 (by omega) (by omega) (by omega) (by omega) ?_
    refine jw_puti hC fL_X4_244 ewF_x4 (kI := 4) rfl dX4_saveState_19 (by omega) (by omega) ?_
    refine jw_aload_n hC dX4_saveState_22 0 rfl rfl ?_
    refine jw_dupr hC dX4_saveState_23 ?_
    refine jw_geti hC fL_X4_239.r ewF_x5 (kI := 5) rfl dX4_saveState_24 (by omega) (fun b24 c24 => ?_)
    rw [mu_nk _ _ _ (by decide)] at b24 c24 ⊢
    refine jw_iconst hC dX4_saveState_27 ?_
    refine jw_isub hC dX4_saveState_28 ?_
    refine jw_puti hC fL_X4_239 ewF_x5 (kI := 5) rfl dX4_saveState_29 (by omega) (by omega) ?_
    refine K32 _ (fun k => ?_) (fun o o1 => by rw [mu_ne _ _ _ o1, mu_ne _ _ _ o1])
    unfold rg_o rg_n
    rw [if_pos (show M 77 5 = 6 by omega), if_pos (show M 77 5 = 6 by omega)]
    by_cases k5 : k = 5
    · rw [k5, mu_eq, if_neg (by decide), if_pos rfl]
      omega
    · rw [mu_nk _ _ _ k5, if_neg k5]
      by_cases k4 : k = 4
      · rw [k4, mu_eq, if_pos rfl]
      · rw [mu_nk _ _ _ k4, if_neg k4]
end
section
/-! DOUBLES -/
section JW6
variable {p : Program} {l : Launch} {e : Env} {R : Room} {s : State} {m : MethodId} {args : Array Value} {below : List Frame} {meth : Method} {c : Code} {E : ewE} {A : Nat → Prop} {cc : ByteArray} {nL : Nat} {own : String} {ret : Option FieldType} {cells slots : Nat} {Q : State → Prop} {pc : Nat} {L L' : List (Nat × Value)} {S : List Value} {M : ewM}
theorem jw_i2d (hC : jC p e R s m args meth c E A cc nL own ret) {x : Int} (hd : decode cc pc = .ok (.i2d, 1)) (k : jJ p l e R s m args below meth c E A nL cells slots Q (pc + 1) L (Value.double (FP.i2d (Int32.ofInt x)) :: S) M) : jJ p l e R s m args below meth c E A nL cells slots Q pc L (vI x :: S) M := by
  intro ls H locs hl hI
  exact lv_i2d hC.1 hC.2.1 hd (k ls H locs hl hI)
theorem jw_ddiv (hC : jC p e R s m args meth c E A cc nL own ret) {x y : UInt64} (hne : vf_n64 (FP.ddiv x y)) (hd : decode cc pc = .ok (.ddiv, 1)) (k : jJ p l e R s m args below meth c E A nL cells slots Q (pc + 1) L (Value.double (FP.ddiv x y) :: S) M) : jJ p l e R s m args below meth c E A nL cells slots Q pc L (Value.double y :: Value.double x :: S) M := by
  intro ls H locs hl hI
  exact lv_ddiv hC.1 hC.2.1 hd hne (k ls H locs hl hI)
theorem jw_dmul (hC : jC p e R s m args meth c E A cc nL own ret) {x y : UInt64} (hne : vf_n64 (FP.dmul x y)) (hd : decode cc pc = .ok (.dmul, 1)) (k : jJ p l e R s m args below meth c E A nL cells slots Q (pc + 1) L (Value.double (FP.dmul x y) :: S) M) : jJ p l e R s m args below meth c E A nL cells slots Q pc L (Value.double y :: Value.double x :: S) M := by
  intro ls H locs hl hI
  exact lv_dmul hC.1 hC.2.1 hd hne (k ls H locs hl hI)
theorem jw_dsub (hC : jC p e R s m args meth c E A cc nL own ret) {x y : UInt64} (hne : vf_n64 (FP.dsub x y)) (hd : decode cc pc = .ok (.dsub, 1)) (k : jJ p l e R s m args below meth c E A nL cells slots Q (pc + 1) L (Value.double (FP.dsub x y) :: S) M) : jJ p l e R s m args below meth c E A nL cells slots Q pc L (Value.double y :: Value.double x :: S) M := by
  intro ls H locs hl hI
  exact lv_dsub hC.1 hC.2.1 hd hne (k ls H locs hl hI)
theorem jw_d2l (hC : jC p e R s m args meth c E A cc nL own ret) {x : UInt64} {n : Int} (hn : FP.d2l x = Int64.ofInt n) (hd : decode cc pc = .ok (.d2l, 1)) (k : jJ p l e R s m args below meth c E A nL cells slots Q (pc + 1) L (vJ n :: S) M) : jJ p l e R s m args below meth c E A nL cells slots Q pc L (Value.double x :: S) M := by
  intro ls H locs hl hI
  exact lv_d2l hC.1 hC.2.1 hd (by rw [hn]; exact k ls H locs hl hI)
theorem jw_dcmp (hC : jC p e R s m args meth c E A cc nL own ret) {x y : UInt64} {op : CmpOp} {n : Int} (hn : Op.cmpValue (FP.dcmp x y) op = Int32.ofInt n) (hd : decode cc pc = .ok (.dcmp op, 1)) (k : jJ p l e R s m args below meth c E A nL cells slots Q (pc + 1) L (vI n :: S) M) : jJ p l e R s m args below meth c E A nL cells slots Q pc L (Value.double y :: Value.double x :: S) M := by
  intro ls H locs hl hI
  exact lv_dcmp hC.1 hC.2.1 hd (by rw [hn]; exact k ls H locs hl hI)
theorem jw_dconst0 (hC : jC p e R s m args meth c E A cc nL own ret)  (hd : decode cc pc = .ok (.dconst 0, 1)) (k : jJ p l e R s m args below meth c E A nL cells slots Q (pc + 1) L (Value.double FP.dconst0 :: S) M) : jJ p l e R s m args below meth c E A nL cells slots Q pc L S M := by
  intro ls H locs hl hI
  exact lv_dconst0 hC.1 hC.2.1 hd (k ls H locs hl hI)
theorem jw_dconst1 (hC : jC p e R s m args meth c E A cc nL own ret)  (hd : decode cc pc = .ok (.dconst 1, 1)) (k : jJ p l e R s m args below meth c E A nL cells slots Q (pc + 1) L (Value.double FP.dconst1 :: S) M) : jJ p l e R s m args below meth c E A nL cells slots Q pc L S M := by
  intro ls H locs hl hI
  exact lv_dconst1 hC.1 hC.2.1 hd (k ls H locs hl hI)
theorem jw_dload_n (hC : jC p e R s m args meth c E A cc nL own ret) {kk : Fin 4} {i : Nat} {x : UInt64} (j : Nat) (hi : (kk : Nat) = i) (hj : L[j]? = some (i, Value.double x)) (hd : decode cc pc = .ok (.dload_n kk, 1)) (k : jJ p l e R s m args below meth c E A nL cells slots Q (pc + 1) L (Value.double x :: S) M) : jJ p l e R s m args below meth c E A nL cells slots Q pc L S M := by
  intro ls H locs hl hI
  exact lv_dload_n hC.1 hC.2.1 hd hi (lv_at hl j hj) (k ls H locs hl hI)
theorem jw_ldc2d (hC : jC p e R s m args meth c E A cc nL own ret) {v : UInt64} {idx : Nat} (hw : Cond.constantDouble own idx v ∈ WW) (hd : decode cc pc = .ok (.ldc2_w idx, 3)) (k : jJ p l e R s m args below meth c E A nL cells slots Q (pc + 3) L (Value.double v :: S) M) : jJ p l e R s m args below meth c E A nL cells slots Q pc L S M := by
  intro ls H locs hl hI
  exact lv_ldc2d hC.1 hC.2.1 hC.2.2.2.1 (hC.2.2.2.2.1 _ hw) hd (k ls H locs hl hI)
theorem jw_dstore_n (hC : jC p e R s m args meth c E A cc nL own ret) {kk : Fin 4} {i : Nat} {x : UInt64} (hd : decode cc pc = .ok (.dstore_n kk, 1)) (hi : (kk : Nat) = i) (hn : i + 1 < nL) (hf : (i, Value.double x) :: L.filter (fun q => !(q.1 == i) && (!(q.1 == i + 1) && !(q.1 + 1 == i && q.2.category == 2))) = L') (k : jJ p l e R s m args below meth c E A nL cells slots Q (pc + 1) L' S M) : jJ p l e R s m args below meth c E A nL cells slots Q pc L (Value.double x :: S) M := by
  intro ls H locs hl hI
  exact lv_dstore_n hC.1 hC.2.1 hd hi hl hn hf (fun ls2 hl2 => k ls2 H locs hl2 hI)
end JW6
end
section
/-! THE CLASS: its public methods, at good arguments -/
theorem f_pl_1 {c r : Int} (h : f_pl c r = -1) : ¬ (0 ≤ c ∧ c < 12 ∧ 0 ≤ r ∧ r < 12) := by
  intro z
  unfold f_pl at h
  rw [if_pos z] at h
  omega
theorem f_pl_2 {c r : Int} (h : ¬ f_pl c r = -1) : 0 ≤ c ∧ c < 12 ∧ 0 ≤ r ∧ r < 12 := by
  unfold f_pl at h
  split at h
  · assumption
  · exact absurd rfl h
theorem f_pl_3 {c r : Int} (h : 0 ≤ c ∧ c < 12 ∧ 0 ≤ r ∧ r < 12) : f_pl c r = r * 12 + c := by
  unfold f_pl
  rw [if_pos h]
theorem f_pl_bd (c r : Int) : -1 ≤ f_pl c r ∧ f_pl c r < 144 := by
  unfold f_pl
  split <;> omega
theorem ite_1 {C : Prop} [Decidable C] (h : ¬ (if C then (1 : Int) else 0) = 0) : C := Decidable.by_contra (fun z => h (if_neg z))
theorem ite_0 {C : Prop} [Decidable C] (h : (if C then (1 : Int) else 0) = 0) : ¬ C := fun z => by rw [if_pos z] at h; omega
theorem ite_z (C : Prop) [Decidable C] : (if C then (1 : Int) else 0) = 0 ∨ (if C then (1 : Int) else 0) = 1 := by split <;> omega
/-- the share that n of the 144 places are -/
def f_sh (n : Int) : UInt64 := FP.ddiv (FP.i2d (Int32.ofInt n)) 4639270566145032192
theorem f_sh_k : ∀ k : Fin 145, vf_n64 (f_sh ((k.val : Nat) : Int)) := by
  unfold vf_n64
  decide +kernel
theorem f_sh_n {n : Int} (h0 : 0 ≤ n) (h1 : n ≤ 144) : vf_n64 (f_sh n) := by
  have := f_sh_k ⟨n.toNat, by omega⟩
  rw [show (((⟨n.toNat, by omega⟩ : Fin 145).val : Nat) : Int) = n from by show ((n.toNat : Nat) : Int) = n; omega] at this
  exact this
set_option maxRecDepth 100000 in
set_option maxHeartbeats 4000000 in
theorem c_X4_dieOf (l : Launch) (E : ewE) (M : ewM) (a : Int) (a1 : -2147483648 ≤ a) (a2 : a < 2147483648) (x : Int) (x1 : -2147483648 ≤ x) (x2 : x < 2147483648) (y : Int) (y1 : -2147483648 ≤ y) (y2 : y < 2147483648) (t : Int) (t1 : -2147483648 ≤ t) (t2 : t < 2147483648) (hok : ((0 ≤ a ∧ a < 3) ∧ (0 ≤ x ∧ x < 5 ∧ 0 ≤ y ∧ y < 5)) ∧ (0 ≤ t ∧ t < 8)) : Ct l E yX4_dieOf (.code yX4_dieOf cX4_dieOf 5 (some .int)) 5 [vR E 77, vI a, vI x, vI y, vI t] M (fun v M1 => (((0 ≤ a ∧ a < 3) ∧ (0 ≤ x ∧ x < 5 ∧ 0 ≤ y ∧ y < 5)) ∧ (0 ≤ t ∧ t < 8)) ∧ v = some (vI (f_tp (M 51) a x y t)) ∧ M = M1) := by
  refine ct_of (L0 := [(0, vR E 77), (1, vI a), (2, vI x), (3, vI y), (4, vI t)]) (by decide +kernel) rfl (Nat.le_of_ble_eq_true rfl) ?_
  intro zp ze zs zm za zb zt zc zA hC
  have hz4 := ite_z (0 ≤ a ∧ a < 3)
  have hz12 := ite_z (0 ≤ x ∧ x < 5 ∧ 0 ≤ y ∧ y < 5)
  have hz30 := ite_z (0 ≤ t ∧ t < 8)
  refine jw_iload_n hC dX4_dieOf_0 1 rfl rfl ?_
  refine jw_callS hC (c_X4_isDie l E _ _ (by omega) (by omega)) sS_X4_52 dX4_dieOf_1 rfl rfl ⟨Nat.le_of_ble_eq_true rfl, Nat.le_of_ble_eq_true rfl⟩ ⟨Nat.zero_le _, Nat.zero_le _⟩ (Nat.le_of_ble_eq_true rfl) (fun v1 M1 g1 => ?_)
  obtain ⟨rfl, rfl⟩ := g1
  refine jw_if_eq (tgt := 15) hC dX4_dieOf_4 (by decide) (by omega) (by omega) (fun h4 => ?_) (fun h4 => ?_)
  · skip
    have z4 := ite_0 (C := 0 ≤ a ∧ a < 3) h4
    exfalso; omega
  · skip
    have z4 := ite_1 (C := 0 ≤ a ∧ a < 3) h4
    refine jw_iload_n hC dX4_dieOf_7 2 rfl rfl ?_
    refine jw_iload_n hC dX4_dieOf_8 3 rfl rfl ?_
    refine jw_callS hC (c_X4_isPoint l E _ _ _ (by omega) (by omega) (by omega) (by omega)) sS_X4_56 dX4_dieOf_9 rfl rfl ⟨Nat.le_of_ble_eq_true rfl, Nat.le_of_ble_eq_true rfl⟩ ⟨Nat.zero_le _, Nat.zero_le _⟩ (Nat.le_of_ble_eq_true rfl) (fun v9 M9 g9 => ?_)
    obtain ⟨rfl, rfl⟩ := g9
    refine jw_if_ne (tgt := 25) hC dX4_dieOf_12 (by decide) (by omega) (by omega) (fun h12 => ?_) (fun h12 => ?_)
    · skip
      have z12 := ite_1 (C := 0 ≤ x ∧ x < 5 ∧ 0 ≤ y ∧ y < 5) h12
      refine jw_iload hC dX4_dieOf_25 4 rfl ?_
      refine jw_callS hC (c_X4_isTurn l E _ _ (by omega) (by omega)) sS_X4_142 dX4_dieOf_27 rfl rfl ⟨Nat.le_of_ble_eq_true rfl, Nat.le_of_ble_eq_true rfl⟩ ⟨Nat.zero_le _, Nat.zero_le _⟩ (Nat.le_of_ble_eq_true rfl) (fun v27 M27 g27 => ?_)
      obtain ⟨rfl, rfl⟩ := g27
      refine jw_if_ne (tgt := 43) hC dX4_dieOf_30 (by decide) (by omega) (by omega) (fun h30 => ?_) (fun h30 => ?_)
      · skip
        have z30 := ite_1 (C := 0 ≤ t ∧ t < 8) h30
        refine jw_aload_n hC dX4_dieOf_43 0 rfl rfl ?_
        refine jw_getr hC fL_X4_12 ewR_x0 dX4_dieOf_44 ?_
        refine jw_iload_n hC dX4_dieOf_47 1 rfl rfl ?_
        refine jw_iload_n hC dX4_dieOf_48 2 rfl rfl ?_
        refine jw_iload_n hC dX4_dieOf_49 3 rfl rfl ?_
        refine jw_iload hC dX4_dieOf_50 4 rfl ?_
        refine jw_callV hC (c_X3_turnedPoint l E M 0 (by decide) a x y t (by omega) (by omega) (by omega) (by omega)) sV_X4_247 (show ewO 50 6 from ewO_state (j := 0) (by decide)) dX4_dieOf_52 rfl rfl ⟨Nat.le_of_ble_eq_true rfl, Nat.le_of_ble_eq_true rfl⟩ ⟨Nat.zero_le _, Nat.zero_le _⟩ (Nat.le_of_ble_eq_true rfl) (fun v52 M52 g52 => ?_)
        obtain ⟨rfl, rfl⟩ := g52
        refine jw_iret hC dX4_dieOf_55 ?_
        exact ⟨by omega, rfl, rfl⟩
      · skip
        have z30 := ite_0 (C := 0 ≤ t ∧ t < 8) h30
        exfalso; omega
    · skip
      have z12 := ite_0 (C := 0 ≤ x ∧ x < 5 ∧ 0 ≤ y ∧ y < 5) h12
      exfalso; omega
set_option maxRecDepth 100000 in
set_option maxHeartbeats 4000000 in
theorem c_X4_place (l : Launch) (E : ewE) (M : ewM) (h0 : st0 M) (x : Int) (x1 : -2147483648 ≤ x) (x2 : x < 2147483648) (y : Int) (y1 : -2147483648 ≤ y) (y2 : y < 2147483648) (w : Int) (w1 : -2147483648 ≤ w) (w2 : w < 2147483648) (hok : (0 ≤ x ∧ x < 12 ∧ 0 ≤ y ∧ y < 12) ∧ (0 ≤ w ∧ w < 7)) : Ct l E yX4_place (.code yX4_place cX4_place 5 (some .int)) 5 [vR E 77, vI x, vI y, vI w] M (fun v M1 => ((0 ≤ x ∧ x < 12 ∧ 0 ≤ y ∧ y < 12) ∧ (0 ≤ w ∧ w < 7)) ∧ v = some (vI (f_prop M (f_pl x y) w)) ∧ (-2147483648 ≤ f_prop M (f_pl x y) w ∧ f_prop M (f_pl x y) w < 2147483648) ∧ M = M1) := by
  refine ct_of (L0 := [(0, vR E 77), (1, vI x), (2, vI y), (3, vI w)]) (by decide +kernel) rfl (Nat.le_of_ble_eq_true rfl) ?_
  intro zp ze zs zm za zb zt zc zA hC
  have hpb := f_pl_bd x y
  refine jw_iload_n hC dX4_place_0 1 rfl rfl ?_
  refine jw_i2l hC dX4_place_1 (by omega) (by omega) ?_
  refine jw_iload_n hC dX4_place_2 2 rfl rfl ?_
  refine jw_i2l hC dX4_place_3 (by omega) (by omega) ?_
  refine jw_callS hC (c_X4_placeIndex l E _ _ _ (by omega) (by omega) (by omega) (by omega)) sS_X4_82 dX4_place_4 rfl rfl ⟨Nat.le_of_ble_eq_true rfl, Nat.le_of_ble_eq_true rfl⟩ ⟨Nat.zero_le _, Nat.zero_le _⟩ (Nat.le_of_ble_eq_true rfl) (fun v4 M4 g4 => ?_)
  obtain ⟨rfl, rfl⟩ := g4
  refine jw_istore (L' := [(4, _), (0, _), (1, _), (2, _), (3, _)]) hC dX4_place_7 (by decide) rfl ?_
  refine jw_iload hC dX4_place_9 0 rfl ?_
  refine jw_iconst hC dX4_place_11 ?_
  refine jw_icmp_ne (tgt := 25) hC dX4_place_12 (by decide) (by omega) (by omega) (by omega) (by omega) (fun h12 => ?_) (fun h12 => ?_)
  · skip
    have z12 := f_pl_2 h12
    refine jw_iload_n hC dX4_place_25 4 rfl rfl ?_
    refine jw_if_lt (tgt := 35) hC dX4_place_26 (by decide) (by omega) (by omega) (fun h26 => ?_) (fun h26 => ?_)
    · skip
      exfalso; omega
    · skip
      refine jw_iload_n hC dX4_place_29 4 rfl rfl ?_
      refine jw_bipush hC dX4_place_30 (by decide) ?_
      refine jw_icmp_lt (tgt := 45) hC dX4_place_32 (by decide) (by omega) (by omega) (by omega) (by omega) (fun h32 => ?_) (fun h32 => ?_)
      · skip
        refine jw_aload_n hC dX4_place_45 1 rfl rfl ?_
        refine jw_iload hC dX4_place_46 0 rfl ?_
        refine jw_iload_n hC dX4_place_48 4 rfl rfl ?_
        have hpe := f_pl_3 z12
        refine jw_callV hC (c_X4_propertyOf l E M h0 _ (by omega) w (by omega)) sV_X4_253 ewF_x4.o dX4_place_49 rfl rfl ⟨Nat.le_of_ble_eq_true rfl, Nat.le_of_ble_eq_true rfl⟩ ⟨Nat.zero_le _, Nat.zero_le _⟩ (Nat.le_of_ble_eq_true rfl) (fun v49 M49 g49 => ?_)
        obtain ⟨rfl, hnb, rfl⟩ := g49
        refine jw_iret hC dX4_place_52 ?_
        exact ⟨by omega, rfl, hnb, rfl⟩
      · skip
        exfalso; omega
  · skip
    have z12 := f_pl_1 h12
    exfalso; omega
set_option maxRecDepth 100000 in
set_option maxHeartbeats 4000000 in
theorem c_X4_count (l : Launch) (E : ewE) (M : ewM) (h0 : st0 M) (w : Int) (w1 : -2147483648 ≤ w) (w2 : w < 2147483648) (hok : 0 ≤ w ∧ w < 14) : Ct l E yX4_count (.code yX4_count cX4_count 2 (some .int)) 5 [vR E 77, vI w] M (fun v M1 => (0 ≤ w ∧ w < 14) ∧ v = some (vI (f_num M w)) ∧ (-2147483648 ≤ f_num M w ∧ f_num M w < 2147483648) ∧ M = M1) := by
  refine ct_of (L0 := [(0, vR E 77), (1, vI w)]) (by decide +kernel) rfl (Nat.le_of_ble_eq_true rfl) ?_
  intro zp ze zs zm za zb zt zc zA hC
  skip
  refine jw_iload_n hC dX4_count_0 1 rfl rfl ?_
  refine jw_if_lt (tgt := 10) hC dX4_count_1 (by decide) (by omega) (by omega) (fun h1 => ?_) (fun h1 => ?_)
  · skip
    exfalso; omega
  · skip
    refine jw_iload_n hC dX4_count_4 1 rfl rfl ?_
    refine jw_bipush hC dX4_count_5 (by decide) ?_
    refine jw_icmp_lt (tgt := 21) hC dX4_count_7 (by decide) (by omega) (by omega) (by omega) (by omega) (fun h7 => ?_) (fun h7 => ?_)
    · skip
      refine jw_aload_n hC dX4_count_21 0 rfl rfl ?_
      refine jw_iload_n hC dX4_count_22 1 rfl rfl ?_
      refine jw_callV hC (c_X4_numberOf l E M h0 w (by omega)) sV_X4_258 ewF_x4.o dX4_count_23 rfl rfl ⟨Nat.le_of_ble_eq_true rfl, Nat.le_of_ble_eq_true rfl⟩ ⟨Nat.zero_le _, Nat.zero_le _⟩ (Nat.le_of_ble_eq_true rfl) (fun v23 M23 g23 => ?_)
      obtain ⟨rfl, hnb, rfl⟩ := g23
      refine jw_iret hC dX4_count_26 ?_
      exact ⟨by omega, rfl, hnb, rfl⟩
    · skip
      exfalso; omega
set_option maxRecDepth 100000 in
set_option maxHeartbeats 4000000 in
theorem c_X4_setting (l : Launch) (E : ewE) (M : ewM) (w : Int) (w1 : -2147483648 ≤ w) (w2 : w < 2147483648) (hok : 0 ≤ w ∧ w < 4) : Ct l E yX4_setting (.code yX4_setting cX4_setting 2 (some .int)) 5 [vR E 77, vI w] M (fun v M1 => (0 ≤ w ∧ w < 4) ∧ v = some (vI (M 52 w)) ∧ M = M1) := by
  refine ct_of (L0 := [(0, vR E 77), (1, vI w)]) (by decide +kernel) rfl (Nat.le_of_ble_eq_true rfl) ?_
  intro zp ze zs zm za zb zt zc zA hC
  have hz4 := ite_z (0 ≤ w ∧ w < 4)
  refine jw_iload_n hC dX4_setting_0 1 rfl rfl ?_
  refine jw_callS hC (c_X4_isSetting l E _ _ (by omega) (by omega)) sS_X4_182 dX4_setting_1 rfl rfl ⟨Nat.le_of_ble_eq_true rfl, Nat.le_of_ble_eq_true rfl⟩ ⟨Nat.zero_le _, Nat.zero_le _⟩ (Nat.le_of_ble_eq_true rfl) (fun v1 M1 g1 => ?_)
  obtain ⟨rfl, rfl⟩ := g1
  refine jw_if_ne (tgt := 17) hC dX4_setting_4 (by decide) (by omega) (by omega) (fun h4 => ?_) (fun h4 => ?_)
  · skip
    have z4 := ite_1 (C := 0 ≤ w ∧ w < 4) h4
    refine jw_aload_n hC dX4_setting_17 0 rfl rfl ?_
    refine jw_getr hC fL_X4_12 ewR_x0 dX4_setting_18 ?_
    refine jw_getr hC fL_X4_165 (show ewR 50 6 1 52 from ewR_t1 (j := 0) (by decide)) dX4_setting_21 ?_
    refine jw_iload_n hC dX4_setting_24 1 rfl rfl ?_
    refine jw_iald hC (show ewA 52 0 4 from ewA_settings (j := 0) (by decide)) dX4_setting_25 (by omega) (by omega) (by decide) (fun b25 c25 => ?_)
    refine jw_iret hC dX4_setting_26 ?_
    exact ⟨by omega, rfl, rfl⟩
  · skip
    have z4 := ite_0 (C := 0 ≤ w ∧ w < 4) h4
    exfalso; omega
set_option maxRecDepth 100000 in
set_option maxHeartbeats 4000000 in
theorem c_X4_wholeShare (l : Launch) (E : ewE) (M : ewM) (h0 : st0 M) : Ct l E yX4_wholeShare (.code yX4_wholeShare cX4_wholeShare 1 (some .double)) 5 [vR E 77] M (fun v M1 => v = some (Value.double (f_sh (144 - f_sum (M 3) 144))) ∧ M = M1) := by
  refine ct_of (L0 := [(0, vR E 77)]) (by decide +kernel) rfl (Nat.le_of_ble_eq_true rfl) ?_
  intro zp ze zs zm za zb zt zc zA hC
  have hb := f_sum_C h0.2.1
  refine jw_sipush hC dX4_wholeShare_0 (by decide) ?_
  refine jw_aload_n hC dX4_wholeShare_3 0 rfl rfl ?_
  refine jw_getr hC fL_X4_12 ewR_x0 dX4_wholeShare_4 ?_
  refine jw_getr hC fL_X4_88 (show ewR 50 6 2 0 from ewR_t2 (j := 0) (by decide)) dX4_wholeShare_7 ?_
  refine jw_callV hC (c_X2_cracked l E M 0 (by decide)) sV_X4_104 (show ewO 0 5 from ewO_sheet (j := 0) (by decide)) dX4_wholeShare_10 rfl rfl ⟨Nat.le_of_ble_eq_true rfl, Nat.le_of_ble_eq_true rfl⟩ ⟨Nat.zero_le _, Nat.zero_le _⟩ (Nat.le_of_ble_eq_true rfl) (fun v10 M10 g10 => ?_)
  obtain ⟨rfl, rfl⟩ := g10
  show jJ _ _ _ _ _ _ _ _ _ _ _ _ _ _ _ _ _ _ (vI (f_sum (M 3) 144) :: _) _
  refine jw_isub hC dX4_wholeShare_13 ?_
  refine jw_i2d hC dX4_wholeShare_14 ?_
  refine jw_ldc2d hC w3_83 dX4_wholeShare_15 ?_
  refine jw_ddiv hC (f_sh_n (by omega) (by omega)) dX4_wholeShare_18 ?_
  refine jw_dret hC dX4_wholeShare_19 ?_
  exact ⟨rfl, rfl⟩
end
section
/-! THE CLASS: its public methods that change -/
/-- N is M with the present state saved -/
def svc (M N : ewM) : Prop := (∀ k : Int, N 77 k = if k = 4 then rg_o M else if k = 5 then rg_n M + 1 else M 77 k) ∧ ∀ j : Nat, (j : Int) = 3 + (rg_o M + rg_n M) % 6 → N (50 + 3 * j + 1) = M 51 ∧ N (50 + 3 * j + 2) = M 52 ∧ (∀ r, 1 ≤ r → r ≤ 4 → N (5 * j + r) = M r) ∧ (∀ k : Int, 3 ≤ k → k ≤ 14 → N (50 + 3 * j) k = M 50 k) ∧ ∀ o, o ≠ 77 → (o < 5 * j + 1 ∨ 5 * j + 4 < o) → (o < 50 + 3 * j ∨ 50 + 3 * j + 2 < o) → N o = M o
theorem svc_o {M N : ewM} (h : svc M N) : ∀ o : Nat, (o ≤ 15 ∨ (45 ≤ o ∧ o ≤ 58) ∨ 78 ≤ o) → N o = M o := by
  intro o ho
  obtain ⟨j, hj⟩ : ∃ j : Nat, (j : Int) = 3 + (rg_o M + rg_n M) % 6 := ⟨(3 + (rg_o M + rg_n M) % 6).toNat, by omega⟩
  exact (h.2 j hj).2.2.2.2 o (by omega) (by omega) (by omega)
theorem st0_cg {M N : ewM} (h0 : st0 M) (h1 : N 1 = M 1) (h2 : N 3 = M 3) (h3 : N 50 = M 50) (h4 : N 51 = M 51) (h5 : N 52 = M 52) : st0 N := by
  unfold st0
  rw [h1, h2, h3, h4, h5]
  exact h0
theorem svc_st0 {M N : ewM} (h : svc M N) (h0 : st0 M) : st0 N :=
  st0_cg h0 (svc_o h 1 (by omega)) (svc_o h 3 (by omega)) (svc_o h 50 (by omega)) (svc_o h 51 (by omega)) (svc_o h 52 (by omega))
/-- state j of N is state i of M -/
def cpS (M : ewM) (i : Nat) (N : ewM) (j : Nat) : Prop := N (50 + 3 * j + 1) = M (50 + 3 * i + 1) ∧ N (50 + 3 * j + 2) = M (50 + 3 * i + 2) ∧ (∀ r, 1 ≤ r → r ≤ 4 → N (5 * j + r) = M (5 * i + r)) ∧ ∀ k : Int, 3 ≤ k → k ≤ 14 → N (50 + 3 * j) k = M (50 + 3 * i) k
/-- the depth that a cast takes at the point k -/
def f_cw (d : Int → Int) (x y k : Int) : Int := min (if f_pl (x + k % 5) (y + k / 5) = -1 then 0 else d (f_pl (x + k % 5) (y + k / 5))) 9
/-- the setting a takes the value x -/
def f_okc (a x : Int) : Prop := g_least a.toNat ≤ x ∧ x ≤ g_great a.toNat
set_option maxRecDepth 100000 in
set_option maxHeartbeats 4000000 in
theorem c_X4_point (l : Launch) (E : ewE) (M : ewM) (q4 : 0 ≤ M 77 4 ∧ M 77 4 ≤ 5) (q5 : 0 ≤ M 77 5 ∧ M 77 5 ≤ 6) (a : Int) (a1 : -2147483648 ≤ a) (a2 : a < 2147483648) (x : Int) (x1 : -2147483648 ≤ x) (x2 : x < 2147483648) (y : Int) (y1 : -2147483648 ≤ y) (y2 : y < 2147483648) (dd : Int) (dd1 : -2147483648 ≤ dd) (dd2 : dd < 2147483648) (hok : ((0 ≤ a ∧ a < 3) ∧ (0 ≤ x ∧ x < 5 ∧ 0 ≤ y ∧ y < 5)) ∧ (0 ≤ dd ∧ dd ≤ 9)) : Ct l E yX4_point (.code yX4_point cX4_point 7 (some .int)) 5 [vR E 77, vI a, vI x, vI y, vI dd] M (fun v M1 => (((0 ≤ a ∧ a < 3) ∧ (0 ≤ x ∧ x < 5 ∧ 0 ≤ y ∧ y < 5)) ∧ (0 ≤ dd ∧ dd ≤ 9)) ∧ ∃ N : ewM, svc M N ∧ v = some (vI (M 51 (a * 25 + y * 5 + x))) ∧ M1 = mu N 51 (a * 25 + y * 5 + x) dd) := by
  refine ct_of (L0 := [(0, vR E 77), (1, vI a), (2, vI x), (3, vI y), (4, vI dd)]) (by decide +kernel) rfl (Nat.le_of_ble_eq_true rfl) ?_
  intro zp ze zs zm za zb zt zc zA hC
  have hz4 := ite_z (0 ≤ a ∧ a < 3)
  have hz12 := ite_z (0 ≤ x ∧ x < 5 ∧ 0 ≤ y ∧ y < 5)
  refine jw_iload_n hC dX4_point_0 1 rfl rfl ?_
  refine jw_callS hC (c_X4_isDie l E _ _ (by omega) (by omega)) sS_X4_52 dX4_point_1 rfl rfl ⟨Nat.le_of_ble_eq_true rfl, Nat.le_of_ble_eq_true rfl⟩ ⟨Nat.zero_le _, Nat.zero_le _⟩ (Nat.le_of_ble_eq_true rfl) (fun v1 M1 g1 => ?_)
  obtain ⟨rfl, rfl⟩ := g1
  refine jw_if_eq (tgt := 15) hC dX4_point_4 (by decide) (by omega) (by omega) (fun h4 => ?_) (fun h4 => ?_)
  · skip
    have z4 := ite_0 (C := 0 ≤ a ∧ a < 3) h4
    exfalso; omega
  · skip
    have z4 := ite_1 (C := 0 ≤ a ∧ a < 3) h4
    refine jw_iload_n hC dX4_point_7 2 rfl rfl ?_
    refine jw_iload_n hC dX4_point_8 3 rfl rfl ?_
    refine jw_callS hC (c_X4_isPoint l E _ _ _ (by omega) (by omega) (by omega) (by omega)) sS_X4_56 dX4_point_9 rfl rfl ⟨Nat.le_of_ble_eq_true rfl, Nat.le_of_ble_eq_true rfl⟩ ⟨Nat.zero_le _, Nat.zero_le _⟩ (Nat.le_of_ble_eq_true rfl) (fun v9 M9 g9 => ?_)
    obtain ⟨rfl, rfl⟩ := g9
    refine jw_if_ne (tgt := 25) hC dX4_point_12 (by decide) (by omega) (by omega) (fun h12 => ?_) (fun h12 => ?_)
    · skip
      have z12 := ite_1 (C := 0 ≤ x ∧ x < 5 ∧ 0 ≤ y ∧ y < 5) h12
      refine jw_iload hC dX4_point_25 4 rfl ?_
      refine jw_if_lt (tgt := 37) hC dX4_point_27 (by decide) (by omega) (by omega) (fun h27 => ?_) (fun h27 => ?_)
      · skip
        exfalso; omega
      · skip
        refine jw_iload hC dX4_point_30 4 rfl ?_
        refine jw_bipush hC dX4_point_32 (by decide) ?_
        refine jw_icmp_le (tgt := 47) hC dX4_point_34 (by decide) (by omega) (by omega) (by omega) (by omega) (fun h34 => ?_) (fun h34 => ?_)
        · skip
          refine jw_aload_n hC dX4_point_47 0 rfl rfl ?_
          refine jw_callV hC (c_X4_saveState l E M q4 q5) sV_X4_72 ewF_x4.o dX4_point_48 rfl rfl ⟨Nat.le_of_ble_eq_true rfl, Nat.le_of_ble_eq_true rfl⟩ ⟨Nat.zero_le _, Nat.zero_le _⟩ (Nat.le_of_ble_eq_true rfl) (fun v48 M48 g48 => ?_)
          obtain ⟨rfl, s1, s2⟩ := g48
          have hsv : svc M M48 := ⟨s1, s2⟩
          have e1 := svc_o hsv 1 (by omega)
          have e2 := svc_o hsv 2 (by omega)
          have e3 := svc_o hsv 3 (by omega)
          have e4 := svc_o hsv 4 (by omega)
          have e50 := svc_o hsv 50 (by omega)
          have e51 := svc_o hsv 51 (by omega)
          have e52 := svc_o hsv 52 (by omega)
          have e79 := svc_o hsv 79 (by omega)
          have e81 := svc_o hsv 81 (by omega)
          have e82 := svc_o hsv 82 (by omega)
          refine jw_iload_n hC dX4_point_51 1 rfl rfl ?_
          refine jw_iload_n hC dX4_point_52 2 rfl rfl ?_
          refine jw_iload_n hC dX4_point_53 3 rfl rfl ?_
          refine jw_callS hC (c_X4_pointIndex l E _ _ _ _) sS_X4_75 dX4_point_54 rfl rfl ⟨Nat.le_of_ble_eq_true rfl, Nat.le_of_ble_eq_true rfl⟩ ⟨Nat.zero_le _, Nat.zero_le _⟩ (Nat.le_of_ble_eq_true rfl) (fun v54 M54 g54 => ?_)
          obtain ⟨rfl, rfl⟩ := g54
          refine jw_istore (L' := [(5, _), (0, _), (1, _), (2, _), (3, _), (4, _)]) hC dX4_point_57 (by decide) rfl ?_
          refine jw_aload_n hC dX4_point_59 1 rfl rfl ?_
          refine jw_getr hC fL_X4_12 ewR_x0 dX4_point_60 ?_
          refine jw_getr hC fL_X4_79 (show ewR 50 6 0 51 from ewR_t0 (j := 0) (by decide)) dX4_point_63 ?_
          refine jw_iload hC dX4_point_66 0 rfl ?_
          refine jw_iald hC (show ewA 51 0 75 from ewA_points (j := 0) (by decide)) dX4_point_68 (by omega) (by omega) (by decide) (fun b68 c68 => ?_)
          rw [e51] at b68 c68 ⊢
          refine jw_istore (L' := [(6, _), (5, _), (0, _), (1, _), (2, _), (3, _), (4, _)]) hC dX4_point_69 (by decide) rfl ?_
          refine jw_aload_n hC dX4_point_71 2 rfl rfl ?_
          refine jw_getr hC fL_X4_12 ewR_x0 dX4_point_72 ?_
          refine jw_getr hC fL_X4_79 (show ewR 50 6 0 51 from ewR_t0 (j := 0) (by decide)) dX4_point_75 ?_
          refine jw_iload hC dX4_point_78 1 rfl ?_
          refine jw_iload hC dX4_point_80 6 rfl ?_
          refine jw_iast hC (show ewA 51 0 75 from ewA_points (j := 0) (by decide)) dX4_point_82 (by omega) (by omega) (by decide) (by omega) (by omega) ?_
          refine jw_iload hC dX4_point_83 0 rfl ?_
          refine jw_iret hC dX4_point_85 ?_
          exact ⟨by omega, M48, hsv, rfl, rfl⟩
        · skip
          exfalso; omega
    · skip
      have z12 := ite_0 (C := 0 ≤ x ∧ x < 5 ∧ 0 ≤ y ∧ y < 5) h12
      exfalso; omega
set_option maxRecDepth 100000 in
set_option maxHeartbeats 4000000 in
theorem c_X4_cast (l : Launch) (E : ewE) (M : ewM) (h0 : st0 M) (q4 : 0 ≤ M 77 4 ∧ M 77 4 ≤ 5) (q5 : 0 ≤ M 77 5 ∧ M 77 5 ≤ 6) (a : Int) (a1 : -2147483648 ≤ a) (a2 : a < 2147483648) (x : Int) (x1 : -2147483648 ≤ x) (x2 : x < 2147483648) (y : Int) (y1 : -2147483648 ≤ y) (y2 : y < 2147483648) (hok : (0 ≤ a ∧ a < 3) ∧ (0 ≤ x ∧ x < 12 ∧ 0 ≤ y ∧ y < 12)) : Ct l E yX4_cast (.code yX4_cast cX4_cast 7 (some .int)) 5 [vR E 77, vI a, vI x, vI y] M (fun v M1 => ((0 ≤ a ∧ a < 3) ∧ (0 ≤ x ∧ x < 12 ∧ 0 ≤ y ∧ y < 12)) ∧ ∃ N : ewM, svc M N ∧ v = some (vI (f_sum (fun q => if 0 < M1 51 (a * 25 + q) then 1 else 0) 25)) ∧ (∀ q : Int, M1 51 q = if a * 25 ≤ q ∧ q < a * 25 + 25 then f_cw (M 1) x y (q - a * 25) else M 51 q) ∧ ∀ o, o ≠ 51 → M1 o = N o) := by
  refine ct_of (L0 := [(0, vR E 77), (1, vI a), (2, vI x), (3, vI y)]) (by decide +kernel) rfl (Nat.le_of_ble_eq_true rfl) ?_
  intro zp ze zs zm za zb zt zc zA hC
  have hz4 := ite_z (0 ≤ a ∧ a < 3)
  have hpa := f_pl_bd x y
  have K44 : ∀ (N : ewM) (hsv : svc M N) (z4 : 0 ≤ a ∧ a < 3) (z15 : 0 ≤ x ∧ x < 12 ∧ 0 ≤ y ∧ y < 12) (e1 : N 1 = M 1) (e51 : N 51 = M 51), ∀ (n : Nat) (rr cc : Int) (M1 : ewM), 30 - (6 * rr + cc) < n → 0 ≤ rr → rr < 5 → 0 ≤ cc → cc ≤ 5 → (∀ q : Int, M1 51 q = if a * 25 ≤ q ∧ q < a * 25 + (5 * rr + cc) then f_cw (M 1) x y (q - a * 25) else M 51 q) → (∀ o, o ≠ 51 → M1 o = N o) → jJ zp l ze (ct_rm 5) zs zm za zb zt zc E zA 7 0 0 (MQ zb (ct_Q E zA (fun v M1 => ((0 ≤ a ∧ a < 3) ∧ (0 ≤ x ∧ x < 12 ∧ 0 ≤ y ∧ y < 12)) ∧ ∃ N : ewM, svc M N ∧ v = some (vI (f_sum (fun q => if 0 < M1 51 (a * 25 + q) then 1 else 0) 25)) ∧ (∀ q : Int, M1 51 q = if a * 25 ≤ q ∧ q < a * 25 + 25 then f_cw (M 1) x y (q - a * 25) else M 51 q) ∧ ∀ o, o ≠ 51 → M1 o = N o)) za zs 0 0 zA) 44 [(0, vR E 77), (1, vI a), (2, vI x), (3, vI y), (4, vI rr), (5, vI cc)] [] M1 := by
    intro N hsv z4 z15 e1 e51 n
    induction n with
    | zero => intros; omega
    | succ n ih =>
      intro rr cc M1 i1 i2 i3 i4 i5 g1 g2
      refine jw_iload hC dX4_cast_44 5 rfl ?_
      refine jw_iconst hC dX4_cast_46 ?_
      refine jw_icmp_ge (tgt := 99) hC dX4_cast_47 (by decide) (by omega) (by omega) (by omega) (by omega) (fun h47 => ?_) (fun h47 => ?_)
      · skip
        refine jw_iinc (L' := [(4, _), (0, _), (1, _), (2, _), (3, _), (5, _)]) hC dX4_cast_99 4 rfl (by decide) rfl ?_
        refine jw_goto (tgt := 35) hC dX4_cast_102 (by decide) ?_
        refine jw_iload hC dX4_cast_35 0 rfl ?_
        refine jw_iconst hC dX4_cast_37 ?_
        refine jw_icmp_ge (tgt := 105) hC dX4_cast_38 (by decide) (by omega) (by omega) (by omega) (by omega) (fun h38 => ?_) (fun h38 => ?_)
        · skip
          refine jw_aload_n hC dX4_cast_105 1 rfl rfl ?_
          refine jw_getr hC fL_X4_12 ewR_x0 dX4_cast_106 ?_
          refine jw_iload_n hC dX4_cast_109 2 rfl rfl ?_
          refine jw_callV hC (c_X3_raisedPoints l E M1 0 (by decide) a (by omega)) sV_X4_100 (show ewO 50 6 from ewO_state (j := 0) (by decide)) dX4_cast_110 rfl rfl ⟨Nat.le_of_ble_eq_true rfl, Nat.le_of_ble_eq_true rfl⟩ ⟨Nat.zero_le _, Nat.zero_le _⟩ (Nat.le_of_ble_eq_true rfl) (fun v110 M110 g110 => ?_)
          obtain ⟨rfl, rfl⟩ := g110
          show jJ _ _ _ _ _ _ _ _ _ _ _ _ _ _ _ _ _ _ (vI (f_sum (fun q => if 0 < M1 51 (a * 25 + q) then 1 else 0) 25) :: _) _
          refine jw_iret hC dX4_cast_113 ?_
          have e9 : 5 * rr + cc = 25 := by omega
          rw [e9] at g1
          exact ⟨by omega, N, hsv, rfl, g1, g2⟩
        · skip
          refine jw_iconst hC dX4_cast_41 ?_
          refine jw_istore (L' := [(5, _), (4, _), (0, _), (1, _), (2, _), (3, _)]) hC dX4_cast_42 (by decide) rfl ?_
          refine jw_loc (L' := [(0, _), (1, _), (2, _), (3, _), (4, _), (5, _)]) [2, 3, 4, 5, 1, 0] rfl ?_
          exact ih _ _ _ (by omega) (by omega) (by omega) (by omega) (by omega) (fun q => by rw [show 5 * (rr + 1) + 0 = 5 * rr + cc by omega]; exact g1 q) g2
      · skip
        refine jw_aload_n hC dX4_cast_50 0 rfl rfl ?_
        refine jw_getr hC fL_X4_12 ewR_x0 dX4_cast_51 ?_
        refine jw_getr hC fL_X4_88 (show ewR 50 6 2 0 from ewR_t2 (j := 0) (by decide)) dX4_cast_54 ?_
        refine jw_iload_n hC dX4_cast_57 2 rfl rfl ?_
        refine jw_iload hC dX4_cast_58 5 rfl ?_
        refine jw_iadd hC dX4_cast_60 ?_
        refine jw_iload_n hC dX4_cast_61 3 rfl rfl ?_
        refine jw_iload hC dX4_cast_62 4 rfl ?_
        refine jw_iadd hC dX4_cast_64 ?_
        refine jw_callV hC (c_X2_depthAt l E M1 0 (by decide) _ _ (by omega) (by omega) (by omega) (by omega)) sV_X4_91 (show ewO 0 5 from ewO_sheet (j := 0) (by decide)) dX4_cast_65 rfl rfl ⟨Nat.le_of_ble_eq_true rfl, Nat.le_of_ble_eq_true rfl⟩ ⟨Nat.zero_le _, Nat.zero_le _⟩ (Nat.le_of_ble_eq_true rfl) (fun v65 M65 g65 => ?_)
        obtain ⟨rfl, rfl⟩ := g65
        have m1e : M1 1 = M 1 := (g2 1 (by decide)).trans e1
        have hpb := f_pl_bd (x + cc) (y + rr)
        have hdb : 0 ≤ (if f_pl (x + cc) (y + rr) = -1 then 0 else M1 (5 * 0 + 1) (f_pl (x + cc) (y + rr))) ∧ (if f_pl (x + cc) (y + rr) = -1 then 0 else M1 (5 * 0 + 1) (f_pl (x + cc) (y + rr))) ≤ 9 := by
          split
          · omega
          · have z := h0.1 (f_pl (x + cc) (y + rr))
            rw [← m1e] at z
            exact z
        refine jw_istore (L' := [(6, _), (0, _), (1, _), (2, _), (3, _), (4, _), (5, _)]) hC dX4_cast_68 (by decide) rfl ?_
        refine jw_aload_n hC dX4_cast_70 1 rfl rfl ?_
        refine jw_getr hC fL_X4_12 ewR_x0 dX4_cast_71 ?_
        refine jw_getr hC fL_X4_79 (show ewR 50 6 0 51 from ewR_t0 (j := 0) (by decide)) dX4_cast_74 ?_
        refine jw_iload_n hC dX4_cast_77 2 rfl rfl ?_
        refine jw_iload hC dX4_cast_78 6 rfl ?_
        refine jw_iload hC dX4_cast_80 5 rfl ?_
        refine jw_callS hC (c_X4_pointIndex l E _ _ _ _) sS_X4_75 dX4_cast_82 rfl rfl ⟨Nat.le_of_ble_eq_true rfl, Nat.le_of_ble_eq_true rfl⟩ ⟨Nat.zero_le _, Nat.zero_le _⟩ (Nat.le_of_ble_eq_true rfl) (fun v82 M82 g82 => ?_)
        obtain ⟨rfl, rfl⟩ := g82
        refine jw_iload hC dX4_cast_85 0 rfl ?_
        refine jw_bipush hC dX4_cast_87 (by decide) ?_
        refine jw_min hC dX4_cast_89 (by omega) (by omega) (by omega) (by omega) w3_22 w3_23 w1_10 w3_24 ⟨Nat.le_of_ble_eq_true rfl, Nat.le_of_ble_eq_true rfl⟩ ⟨Nat.zero_le _, Nat.zero_le _⟩ ?_
        have hmb : 0 ≤ min (if f_pl (x + cc) (y + rr) = -1 then 0 else M1 (5 * 0 + 1) (f_pl (x + cc) (y + rr))) 9 ∧ min (if f_pl (x + cc) (y + rr) = -1 then 0 else M1 (5 * 0 + 1) (f_pl (x + cc) (y + rr))) 9 ≤ 9 := by omega
        refine jw_iast hC (show ewA 51 0 75 from ewA_points (j := 0) (by decide)) dX4_cast_92 (by omega) (by omega) (by decide) (by omega) (by omega) ?_
        refine jw_iinc (L' := [(5, _), (6, _), (0, _), (1, _), (2, _), (3, _), (4, _)]) hC dX4_cast_93 6 rfl (by decide) rfl ?_
        refine jw_goto (tgt := 44) hC dX4_cast_96 (by decide) ?_
        refine jw_loc (L' := [(0, _), (1, _), (2, _), (3, _), (4, _), (5, _)]) [2, 3, 4, 5, 6, 0] rfl ?_
        refine ih _ _ _ (by omega) (by omega) (by omega) (by omega) (by omega) (fun q => ?_) (fun o o1 => by rw [mu_ne _ _ _ o1]; exact g2 o o1)
        by_cases hq : q = a * 25 + rr * 5 + cc
        · rw [hq, mu_eq, if_pos (show a * 25 ≤ a * 25 + rr * 5 + cc ∧ a * 25 + rr * 5 + cc < a * 25 + (5 * rr + (cc + 1)) by omega)]
          unfold f_cw
          rw [show (a * 25 + rr * 5 + cc - a * 25) % 5 = cc by omega, show (a * 25 + rr * 5 + cc - a * 25) / 5 = rr by omega]
          show min (if f_pl (x + cc) (y + rr) = -1 then 0 else M1 1 (f_pl (x + cc) (y + rr))) 9 = _
          rw [m1e]
        · rw [mu_nk _ _ _ hq, g1]
          by_cases h9 : a * 25 ≤ q ∧ q < a * 25 + (5 * rr + cc)
          · rw [if_pos h9, if_pos (by omega)]
          · rw [if_neg h9, if_neg (by omega)]
  refine jw_iload_n hC dX4_cast_0 1 rfl rfl ?_
  refine jw_callS hC (c_X4_isDie l E _ _ (by omega) (by omega)) sS_X4_52 dX4_cast_1 rfl rfl ⟨Nat.le_of_ble_eq_true rfl, Nat.le_of_ble_eq_true rfl⟩ ⟨Nat.zero_le _, Nat.zero_le _⟩ (Nat.le_of_ble_eq_true rfl) (fun v1 M1 g1 => ?_)
  obtain ⟨rfl, rfl⟩ := g1
  refine jw_if_eq (tgt := 18) hC dX4_cast_4 (by decide) (by omega) (by omega) (fun h4 => ?_) (fun h4 => ?_)
  · skip
    have z4 := ite_0 (C := 0 ≤ a ∧ a < 3) h4
    exfalso; omega
  · skip
    have z4 := ite_1 (C := 0 ≤ a ∧ a < 3) h4
    refine jw_iload_n hC dX4_cast_7 2 rfl rfl ?_
    refine jw_i2l hC dX4_cast_8 (by omega) (by omega) ?_
    refine jw_iload_n hC dX4_cast_9 3 rfl rfl ?_
    refine jw_i2l hC dX4_cast_10 (by omega) (by omega) ?_
    refine jw_callS hC (c_X4_placeIndex l E _ _ _ (by omega) (by omega) (by omega) (by omega)) sS_X4_82 dX4_cast_11 rfl rfl ⟨Nat.le_of_ble_eq_true rfl, Nat.le_of_ble_eq_true rfl⟩ ⟨Nat.zero_le _, Nat.zero_le _⟩ (Nat.le_of_ble_eq_true rfl) (fun v11 M11 g11 => ?_)
    obtain ⟨rfl, rfl⟩ := g11
    refine jw_iconst hC dX4_cast_14 ?_
    refine jw_icmp_ne (tgt := 28) hC dX4_cast_15 (by decide) (by omega) (by omega) (by omega) (by omega) (fun h15 => ?_) (fun h15 => ?_)
    · skip
      have z15 := f_pl_2 h15
      refine jw_aload_n hC dX4_cast_28 0 rfl rfl ?_
      refine jw_callV hC (c_X4_saveState l E M q4 q5) sV_X4_72 ewF_x4.o dX4_cast_29 rfl rfl ⟨Nat.le_of_ble_eq_true rfl, Nat.le_of_ble_eq_true rfl⟩ ⟨Nat.zero_le _, Nat.zero_le _⟩ (Nat.le_of_ble_eq_true rfl) (fun v29 M29 g29 => ?_)
      obtain ⟨rfl, s1, s2⟩ := g29
      have hsv : svc M M29 := ⟨s1, s2⟩
      have e1 := svc_o hsv 1 (by omega)
      have e2 := svc_o hsv 2 (by omega)
      have e3 := svc_o hsv 3 (by omega)
      have e4 := svc_o hsv 4 (by omega)
      have e50 := svc_o hsv 50 (by omega)
      have e51 := svc_o hsv 51 (by omega)
      have e52 := svc_o hsv 52 (by omega)
      have e79 := svc_o hsv 79 (by omega)
      have e81 := svc_o hsv 81 (by omega)
      have e82 := svc_o hsv 82 (by omega)
      refine jw_iconst hC dX4_cast_32 ?_
      refine jw_istore (L' := [(4, _), (0, _), (1, _), (2, _), (3, _)]) hC dX4_cast_33 (by decide) rfl ?_
      refine jw_iload hC dX4_cast_35 0 rfl ?_
      refine jw_iconst hC dX4_cast_37 ?_
      refine jw_icmp_ge (tgt := 105) hC dX4_cast_38 (by decide) (by omega) (by omega) (by omega) (by omega) (fun h38 => ?_) (fun h38 => ?_)
      · skip
        exfalso; omega
      · skip
        refine jw_iconst hC dX4_cast_41 ?_
        refine jw_istore (L' := [(5, _), (4, _), (0, _), (1, _), (2, _), (3, _)]) hC dX4_cast_42 (by decide) rfl ?_
        refine jw_loc (L' := [(0, _), (1, _), (2, _), (3, _), (4, _), (5, _)]) [2, 3, 4, 5, 1, 0] rfl ?_
        exact K44 M29 hsv z4 z15 e1 e51 31 0 0 M29 (by omega) (by omega) (by omega) (by omega) (by omega) (fun q => by rw [e51, if_neg (by omega)]) (fun _ _ => rfl)
    · skip
      have z15 := f_pl_1 h15
      exfalso; omega
set_option maxRecDepth 100000 in
set_option maxHeartbeats 4000000 in
theorem c_X4_sheet (l : Launch) (E : ewE) (M : ewM) (h0 : st0 M) (q4 : 0 ≤ M 77 4 ∧ M 77 4 ≤ 5) (q5 : 0 ≤ M 77 5 ∧ M 77 5 ≤ 6)  : Ct l E yX4_sheet (.code yX4_sheet cX4_sheet 2 (some .int)) 5 [vR E 77] M (fun v M1 => ∃ N : ewM, svc M N ∧ v = some (vI (f_sum (M 3) 144)) ∧ (∀ r, 1 ≤ r → r ≤ 4 → M1 r = fun _ => 0) ∧ (∀ k : Int, M1 50 k = if k = 3 ∨ k = 5 ∨ k = 10 then 0 else if k = 8 then wr (M 50 8 + 1) else M 50 k) ∧ ∀ o, (o < 1 ∨ 4 < o) → o ≠ 50 → M1 o = N o) := by
  refine ct_of (L0 := [(0, vR E 77)]) (by decide +kernel) rfl (Nat.le_of_ble_eq_true rfl) ?_
  intro zp ze zs zm za zb zt zc zA hC
  refine jw_aload_n hC dX4_sheet_0 0 rfl rfl ?_
  refine jw_callV hC (c_X4_saveState l E M q4 q5) sV_X4_72 ewF_x4.o dX4_sheet_1 rfl rfl ⟨Nat.le_of_ble_eq_true rfl, Nat.le_of_ble_eq_true rfl⟩ ⟨Nat.zero_le _, Nat.zero_le _⟩ (Nat.le_of_ble_eq_true rfl) (fun v1 M1 g1 => ?_)
  obtain ⟨rfl, s1, s2⟩ := g1
  have hsv : svc M M1 := ⟨s1, s2⟩
  have e1 := svc_o hsv 1 (by omega)
  have e2 := svc_o hsv 2 (by omega)
  have e3 := svc_o hsv 3 (by omega)
  have e4 := svc_o hsv 4 (by omega)
  have e50 := svc_o hsv 50 (by omega)
  have e51 := svc_o hsv 51 (by omega)
  have e52 := svc_o hsv 52 (by omega)
  have e79 := svc_o hsv 79 (by omega)
  have e81 := svc_o hsv 81 (by omega)
  have e82 := svc_o hsv 82 (by omega)
  refine jw_aload_n hC dX4_sheet_4 0 rfl rfl ?_
  refine jw_getr hC fL_X4_12 ewR_x0 dX4_sheet_5 ?_
  refine jw_getr hC fL_X4_88 (show ewR 50 6 2 0 from ewR_t2 (j := 0) (by decide)) dX4_sheet_8 ?_
  refine jw_callV hC (c_X2_cracked l E M1 0 (by decide)) sV_X4_104 (show ewO 0 5 from ewO_sheet (j := 0) (by decide)) dX4_sheet_11 rfl rfl ⟨Nat.le_of_ble_eq_true rfl, Nat.le_of_ble_eq_true rfl⟩ ⟨Nat.zero_le _, Nat.zero_le _⟩ (Nat.le_of_ble_eq_true rfl) (fun v11 M11 g11 => ?_)
  obtain ⟨rfl, rfl⟩ := g11
  show jJ _ _ _ _ _ _ _ _ _ _ _ _ _ _ _ _ _ _ (vI (f_sum (M1 3) 144) :: _) _
  rw [e3]
  refine jw_istore_n (L' := [(1, _), (0, _)]) hC dX4_sheet_14 rfl (by decide) rfl ?_
  refine jw_aload_n hC dX4_sheet_15 1 rfl rfl ?_
  refine jw_getr hC fL_X4_12 ewR_x0 dX4_sheet_16 ?_
  refine jw_getr hC fL_X4_88 (show ewR 50 6 2 0 from ewR_t2 (j := 0) (by decide)) dX4_sheet_19 ?_
  refine jw_callV hC (c_X2_makeNew l E M1 0 (by decide)) sV_X4_108 (show ewO 0 5 from ewO_sheet (j := 0) (by decide)) dX4_sheet_22 rfl rfl ⟨Nat.le_of_ble_eq_true rfl, Nat.le_of_ble_eq_true rfl⟩ ⟨Nat.zero_le _, Nat.zero_le _⟩ (Nat.le_of_ble_eq_true rfl) (fun v22 M22 g22 => ?_)
  obtain ⟨rfl, g1, g2⟩ := g22
  have c50 : M22 50 = M 50 := (g2 50 (by omega)).trans e50
  refine jw_aload_n hC dX4_sheet_25 1 rfl rfl ?_
  refine jw_getr hC fL_X4_12 ewR_x0 dX4_sheet_26 ?_
  refine jw_callV hC (c_X3_unslip l E M22 0 (by decide)) sV_X4_111 (show ewO 50 6 from ewO_state (j := 0) (by decide)) dX4_sheet_29 rfl rfl ⟨Nat.le_of_ble_eq_true rfl, Nat.le_of_ble_eq_true rfl⟩ ⟨Nat.zero_le _, Nat.zero_le _⟩ (Nat.le_of_ble_eq_true rfl) (fun v29 M29 g29 => ?_)
  obtain ⟨rfl, rfl⟩ := g29
  show jJ _ _ _ _ _ _ _ _ _ _ _ _ _ _ _ _ _ _ _ (mu (mu M22 50 3 0) 50 5 0)
  refine jw_aload_n hC dX4_sheet_32 1 rfl rfl ?_
  refine jw_getr hC fL_X4_12 ewR_x0 dX4_sheet_33 ?_
  refine jw_iconst hC dX4_sheet_36 ?_
  refine jw_puti hC fL_X4_114 (show ewF 50 6 10 from ewF_t (j := 0) (k := 10) (by decide) (by decide) (by decide)) (kI := 10) rfl dX4_sheet_37 (by omega) (by omega) ?_
  refine jw_aload_n hC dX4_sheet_40 1 rfl rfl ?_
  refine jw_getr hC fL_X4_12 ewR_x0 dX4_sheet_41 ?_
  refine jw_dupr hC dX4_sheet_44 ?_
  refine jw_geti hC fL_X4_118.r (show ewF 50 6 8 from ewF_t (j := 0) (k := 8) (by decide) (by decide) (by decide)) (kI := 8) rfl dX4_sheet_45 (by omega) (fun b45 c45 => ?_)
  rw [mu_nk _ _ _ (by decide), mu_nk _ _ _ (by decide), mu_nk _ _ _ (by decide), c50] at b45 c45 ⊢
  refine jw_iconst hC dX4_sheet_48 ?_
  refine jw_iadd hC dX4_sheet_49 ?_
  refine jw_putiw hC fL_X4_118 (show ewF 50 6 8 from ewF_t (j := 0) (k := 8) (by decide) (by decide) (by decide)) (kI := 8) rfl dX4_sheet_50  ?_
  refine jw_iload_n hC dX4_sheet_53 0 rfl rfl ?_
  refine jw_iret hC dX4_sheet_54 ?_
  refine ⟨M1, hsv, rfl, fun r r0 r1 => ?_, fun k => ?_, fun o o1 o2 => ?_⟩
  · rw [mu_ne _ _ _ (by omega), mu_ne _ _ _ (by omega), mu_ne _ _ _ (by omega), mu_ne _ _ _ (by omega)]
    have z := g1 r r0 r1
    rwa [show 5 * 0 + r = r by omega] at z
  · have z := congrFun c50 k
    by_cases k8 : k = 8
    · rw [k8, mu_eq, if_neg (by decide), if_pos rfl]
    · rw [mu_nk _ _ _ k8]
      by_cases k10 : k = 10
      · rw [k10, mu_eq, if_pos (by decide)]
      · rw [mu_nk _ _ _ k10]
        by_cases k5 : k = 5
        · rw [k5, mu_eq, if_pos (by decide)]
        · rw [mu_nk _ _ _ k5]
          by_cases k3 : k = 3
          · rw [k3, mu_eq, if_pos (by decide)]
          · rw [mu_nk _ _ _ k3, if_neg (by omega), if_neg k8, z]
  · rw [mu_ne _ _ _ o2, mu_ne _ _ _ o2, mu_ne _ _ _ o2, mu_ne _ _ _ o2, g2 o (by omega)]
set_option maxRecDepth 100000 in
set_option maxHeartbeats 4000000 in
theorem c_X4_pin (l : Launch) (E : ewE) (M : ewM) (q4 : 0 ≤ M 77 4 ∧ M 77 4 ≤ 5) (q5 : 0 ≤ M 77 5 ∧ M 77 5 ≤ 6)  : Ct l E yX4_pin (.code yX4_pin cX4_pin 2 (some .int)) 5 [vR E 77] M (fun v M1 => ∃ N : ewM, svc M N ∧ v = some (vI (M 50 3)) ∧ M1 = mu (mu N 50 3 0) 50 5 0) := by
  refine ct_of (L0 := [(0, vR E 77)]) (by decide +kernel) rfl (Nat.le_of_ble_eq_true rfl) ?_
  intro zp ze zs zm za zb zt zc zA hC
  refine jw_aload_n hC dX4_pin_0 0 rfl rfl ?_
  refine jw_callV hC (c_X4_saveState l E M q4 q5) sV_X4_72 ewF_x4.o dX4_pin_1 rfl rfl ⟨Nat.le_of_ble_eq_true rfl, Nat.le_of_ble_eq_true rfl⟩ ⟨Nat.zero_le _, Nat.zero_le _⟩ (Nat.le_of_ble_eq_true rfl) (fun v1 M1 g1 => ?_)
  obtain ⟨rfl, s1, s2⟩ := g1
  have hsv : svc M M1 := ⟨s1, s2⟩
  have e1 := svc_o hsv 1 (by omega)
  have e2 := svc_o hsv 2 (by omega)
  have e3 := svc_o hsv 3 (by omega)
  have e4 := svc_o hsv 4 (by omega)
  have e50 := svc_o hsv 50 (by omega)
  have e51 := svc_o hsv 51 (by omega)
  have e52 := svc_o hsv 52 (by omega)
  have e79 := svc_o hsv 79 (by omega)
  have e81 := svc_o hsv 81 (by omega)
  have e82 := svc_o hsv 82 (by omega)
  refine jw_aload_n hC dX4_pin_4 0 rfl rfl ?_
  refine jw_getr hC fL_X4_12 ewR_x0 dX4_pin_5 ?_
  refine jw_geti hC fL_X4_121.r (show ewF 50 6 3 from ewF_t (j := 0) (k := 3) (by decide) (by decide) (by decide)) (kI := 3) rfl dX4_pin_8 (by omega) (fun b8 c8 => ?_)
  rw [e50] at b8 c8 ⊢
  refine jw_istore_n (L' := [(1, _), (0, _)]) hC dX4_pin_11 rfl (by decide) rfl ?_
  refine jw_aload_n hC dX4_pin_12 1 rfl rfl ?_
  refine jw_getr hC fL_X4_12 ewR_x0 dX4_pin_13 ?_
  refine jw_callV hC (c_X3_unslip l E M1 0 (by decide)) sV_X4_111 (show ewO 50 6 from ewO_state (j := 0) (by decide)) dX4_pin_16 rfl rfl ⟨Nat.le_of_ble_eq_true rfl, Nat.le_of_ble_eq_true rfl⟩ ⟨Nat.zero_le _, Nat.zero_le _⟩ (Nat.le_of_ble_eq_true rfl) (fun v16 M16 g16 => ?_)
  obtain ⟨rfl, rfl⟩ := g16
  show jJ _ _ _ _ _ _ _ _ _ _ _ _ _ _ _ _ _ _ _ (mu (mu M1 50 3 0) 50 5 0)
  refine jw_iload_n hC dX4_pin_19 0 rfl rfl ?_
  refine jw_iret hC dX4_pin_20 ?_
  exact ⟨M1, hsv, rfl, rfl⟩
set_option maxRecDepth 100000 in
set_option maxHeartbeats 4000000 in
theorem c_X4_foil (l : Launch) (E : ewE) (M : ewM) (q4 : 0 ≤ M 77 4 ∧ M 77 4 ≤ 5) (q5 : 0 ≤ M 77 5 ∧ M 77 5 ≤ 6) (f : Int) (f1 : -2147483648 ≤ f) (f2 : f < 2147483648) (x : Int) (x1 : -2147483648 ≤ x) (x2 : x < 2147483648) (y : Int) (y1 : -2147483648 ≤ y) (y2 : y < 2147483648) (u : Int) (u1 : -2147483648 ≤ u) (u2 : u < 2147483648) (w : Int) (w1 : -2147483648 ≤ w) (w2 : w < 2147483648) (hok : ((0 ≤ x ∧ x < 12 ∧ 0 ≤ y ∧ y < 12) ∧ (0 ≤ u ∧ u < 12 ∧ 0 ≤ w ∧ w < 12)) ∧ ((1 ≤ f ∧ f ≤ 9) ∧ x ≤ u ∧ y ≤ w)) : Ct l E yX4_foil (.code yX4_foil cX4_foil 6 (some .int)) 5 [vR E 77, vI f, vI x, vI y, vI u, vI w] M (fun v M1 => (((0 ≤ x ∧ x < 12 ∧ 0 ≤ y ∧ y < 12) ∧ (0 ≤ u ∧ u < 12 ∧ 0 ≤ w ∧ w < 12)) ∧ ((1 ≤ f ∧ f ≤ 9) ∧ x ≤ u ∧ y ≤ w)) ∧ ∃ N : ewM, svc M N ∧ v = some (vI ((u - x + 1) * (w - y + 1))) ∧ M1 = mu (mu (mu (mu (mu N 50 10 f) 50 11 x) 50 12 y) 50 13 u) 50 14 w) := by
  refine ct_of (L0 := [(0, vR E 77), (1, vI f), (2, vI x), (3, vI y), (4, vI u), (5, vI w)]) (by decide +kernel) rfl (Nat.le_of_ble_eq_true rfl) ?_
  intro zp ze zs zm za zb zt zc zA hC
  have hpb := f_pl_bd x y
  have hpc := f_pl_bd u w
  refine jw_iload_n hC dX4_foil_0 2 rfl rfl ?_
  refine jw_i2l hC dX4_foil_1 (by omega) (by omega) ?_
  refine jw_iload_n hC dX4_foil_2 3 rfl rfl ?_
  refine jw_i2l hC dX4_foil_3 (by omega) (by omega) ?_
  refine jw_callS hC (c_X4_placeIndex l E _ _ _ (by omega) (by omega) (by omega) (by omega)) sS_X4_82 dX4_foil_4 rfl rfl ⟨Nat.le_of_ble_eq_true rfl, Nat.le_of_ble_eq_true rfl⟩ ⟨Nat.zero_le _, Nat.zero_le _⟩ (Nat.le_of_ble_eq_true rfl) (fun v4 M4 g4 => ?_)
  obtain ⟨rfl, rfl⟩ := g4
  refine jw_iconst hC dX4_foil_7 ?_
  refine jw_icmp_eq (tgt := 24) hC dX4_foil_8 (by decide) (by omega) (by omega) (by omega) (by omega) (fun h8 => ?_) (fun h8 => ?_)
  · skip
    have z8 := f_pl_1 h8
    exfalso; omega
  · skip
    have z8 := f_pl_2 h8
    refine jw_iload hC dX4_foil_11 4 rfl ?_
    refine jw_i2l hC dX4_foil_13 (by omega) (by omega) ?_
    refine jw_iload hC dX4_foil_14 5 rfl ?_
    refine jw_i2l hC dX4_foil_16 (by omega) (by omega) ?_
    refine jw_callS hC (c_X4_placeIndex l E _ _ _ (by omega) (by omega) (by omega) (by omega)) sS_X4_82 dX4_foil_17 rfl rfl ⟨Nat.le_of_ble_eq_true rfl, Nat.le_of_ble_eq_true rfl⟩ ⟨Nat.zero_le _, Nat.zero_le _⟩ (Nat.le_of_ble_eq_true rfl) (fun v17 M17 g17 => ?_)
    obtain ⟨rfl, rfl⟩ := g17
    refine jw_iconst hC dX4_foil_20 ?_
    refine jw_icmp_ne (tgt := 34) hC dX4_foil_21 (by decide) (by omega) (by omega) (by omega) (by omega) (fun h21 => ?_) (fun h21 => ?_)
    · skip
      have z21 := f_pl_2 h21
      refine jw_iload_n hC dX4_foil_34 1 rfl rfl ?_
      refine jw_iconst hC dX4_foil_35 ?_
      refine jw_icmp_lt (tgt := 57) hC dX4_foil_36 (by decide) (by omega) (by omega) (by omega) (by omega) (fun h36 => ?_) (fun h36 => ?_)
      · skip
        exfalso; omega
      · skip
        refine jw_iload_n hC dX4_foil_39 1 rfl rfl ?_
        refine jw_bipush hC dX4_foil_40 (by decide) ?_
        refine jw_icmp_gt (tgt := 57) hC dX4_foil_42 (by decide) (by omega) (by omega) (by omega) (by omega) (fun h42 => ?_) (fun h42 => ?_)
        · skip
          exfalso; omega
        · skip
          refine jw_iload hC dX4_foil_45 4 rfl ?_
          refine jw_iload_n hC dX4_foil_47 2 rfl rfl ?_
          refine jw_icmp_lt (tgt := 57) hC dX4_foil_48 (by decide) (by omega) (by omega) (by omega) (by omega) (fun h48 => ?_) (fun h48 => ?_)
          · skip
            exfalso; omega
          · skip
            refine jw_iload hC dX4_foil_51 5 rfl ?_
            refine jw_iload_n hC dX4_foil_53 3 rfl rfl ?_
            refine jw_icmp_ge (tgt := 67) hC dX4_foil_54 (by decide) (by omega) (by omega) (by omega) (by omega) (fun h54 => ?_) (fun h54 => ?_)
            · skip
              refine jw_aload_n hC dX4_foil_67 0 rfl rfl ?_
              refine jw_callV hC (c_X4_saveState l E M q4 q5) sV_X4_72 ewF_x4.o dX4_foil_68 rfl rfl ⟨Nat.le_of_ble_eq_true rfl, Nat.le_of_ble_eq_true rfl⟩ ⟨Nat.zero_le _, Nat.zero_le _⟩ (Nat.le_of_ble_eq_true rfl) (fun v68 M68 g68 => ?_)
              obtain ⟨rfl, s1, s2⟩ := g68
              have hsv : svc M M68 := ⟨s1, s2⟩
              have e1 := svc_o hsv 1 (by omega)
              have e2 := svc_o hsv 2 (by omega)
              have e3 := svc_o hsv 3 (by omega)
              have e4 := svc_o hsv 4 (by omega)
              have e50 := svc_o hsv 50 (by omega)
              have e51 := svc_o hsv 51 (by omega)
              have e52 := svc_o hsv 52 (by omega)
              have e79 := svc_o hsv 79 (by omega)
              have e81 := svc_o hsv 81 (by omega)
              have e82 := svc_o hsv 82 (by omega)
              refine jw_aload_n hC dX4_foil_71 0 rfl rfl ?_
              refine jw_getr hC fL_X4_12 ewR_x0 dX4_foil_72 ?_
              refine jw_iload_n hC dX4_foil_75 1 rfl rfl ?_
              refine jw_puti hC fL_X4_114 (show ewF 50 6 10 from ewF_t (j := 0) (k := 10) (by decide) (by decide) (by decide)) (kI := 10) rfl dX4_foil_76 (by omega) (by omega) ?_
              refine jw_aload_n hC dX4_foil_79 0 rfl rfl ?_
              refine jw_getr hC fL_X4_12 ewR_x0 dX4_foil_80 ?_
              refine jw_iload_n hC dX4_foil_83 2 rfl rfl ?_
              refine jw_puti hC fL_X4_128 (show ewF 50 6 11 from ewF_t (j := 0) (k := 11) (by decide) (by decide) (by decide)) (kI := 11) rfl dX4_foil_84 (by omega) (by omega) ?_
              refine jw_aload_n hC dX4_foil_87 0 rfl rfl ?_
              refine jw_getr hC fL_X4_12 ewR_x0 dX4_foil_88 ?_
              refine jw_iload_n hC dX4_foil_91 3 rfl rfl ?_
              refine jw_puti hC fL_X4_131 (show ewF 50 6 12 from ewF_t (j := 0) (k := 12) (by decide) (by decide) (by decide)) (kI := 12) rfl dX4_foil_92 (by omega) (by omega) ?_
              refine jw_aload_n hC dX4_foil_95 0 rfl rfl ?_
              refine jw_getr hC fL_X4_12 ewR_x0 dX4_foil_96 ?_
              refine jw_iload hC dX4_foil_99 4 rfl ?_
              refine jw_puti hC fL_X4_134 (show ewF 50 6 13 from ewF_t (j := 0) (k := 13) (by decide) (by decide) (by decide)) (kI := 13) rfl dX4_foil_101 (by omega) (by omega) ?_
              refine jw_aload_n hC dX4_foil_104 0 rfl rfl ?_
              refine jw_getr hC fL_X4_12 ewR_x0 dX4_foil_105 ?_
              refine jw_iload hC dX4_foil_108 5 rfl ?_
              refine jw_puti hC fL_X4_137 (show ewF 50 6 14 from ewF_t (j := 0) (k := 14) (by decide) (by decide) (by decide)) (kI := 14) rfl dX4_foil_110 (by omega) (by omega) ?_
              refine jw_iload hC dX4_foil_113 4 rfl ?_
              refine jw_iload_n hC dX4_foil_115 2 rfl rfl ?_
              refine jw_isub hC dX4_foil_116 ?_
              refine jw_iconst hC dX4_foil_117 ?_
              refine jw_iadd hC dX4_foil_118 ?_
              refine jw_iload hC dX4_foil_119 5 rfl ?_
              refine jw_iload_n hC dX4_foil_121 3 rfl rfl ?_
              refine jw_isub hC dX4_foil_122 ?_
              refine jw_iconst hC dX4_foil_123 ?_
              refine jw_iadd hC dX4_foil_124 ?_
              refine jw_imul hC dX4_foil_125 ?_
              refine jw_iret hC dX4_foil_126 ?_
              exact ⟨by omega, M68, hsv, rfl, rfl⟩
            · skip
              exfalso; omega
    · skip
      have z21 := f_pl_1 h21
      exfalso; omega
set_option maxRecDepth 100000 in
set_option maxHeartbeats 4000000 in
theorem c_X4_press (l : Launch) (E : ewE) (M : ewM) (h0 : st0 M) (q4 : 0 ≤ M 77 4 ∧ M 77 4 ≤ 5) (q5 : 0 ≤ M 77 5 ∧ M 77 5 ≤ 6) (a : Int) (a1 : -2147483648 ≤ a) (a2 : a < 2147483648) (x : Int) (x1 : -2147483648 ≤ x) (x2 : x < 2147483648) (y : Int) (y1 : -2147483648 ≤ y) (y2 : y < 2147483648) (t : Int) (t1 : -2147483648 ≤ t) (t2 : t < 2147483648) (hok : (0 ≤ a ∧ a < 3) ∧ (0 ≤ t ∧ t < 8)) : Ct l E yX4_press (.code yX4_press cX4_press 6 (some .int)) 5 [vR E 77, vI a, vI x, vI y, vI t] M (fun v M1 => ((0 ≤ a ∧ a < 3) ∧ (0 ≤ t ∧ t < 8)) ∧ ∃ N : ewM, svc M N ∧ ((0 < f_rsn (f_rel (M 51) a t) (x + M 50 3) y (M 52 2) ∧ v = some (vI (f_rsn (f_rel (M 51) a t) (x + M 50 3) y (M 52 2))) ∧ (∀ k : Int, M1 50 k = if k = 6 then wr (M 50 6 + 1) else M 50 k) ∧ ∀ o, o ≠ 50 → o ≠ 83 → M1 o = N o) ∨ (f_rsn (f_rel (M 51) a t) (x + M 50 3) y (M 52 2) = 0 ∧ v = some (vI (100 + f_cks (f_rel (M 51) a t) (x + M 50 3) y (M 1) (M 3) (M 52 0) (M 52 1))) ∧ M1 1 = f_emb (f_rel (M 51) a t) (x + M 50 3) y (M 1) 25 ∧ M1 2 = f_stk (M 50) (f_rel (M 51) a t) (x + M 50 3) y (M 2) 25 ∧ M1 3 = f_it (f_emb (f_rel (M 51) a t) (x + M 50 3) y (M 1) 25) (M 52 0) (M 52 1) (M 3) 144 ∧ M1 4 = f_prs (f_rel (M 51) a t) (x + M 50 3) y (M 4) 25 ∧ (∀ k : Int, M1 50 k = if k = 3 then f_sl (M 52 3) (wr (M 50 5 + 1)) (M 50 3) else if k = 4 then wr (M 50 4 + 1) else if k = 5 then wr (M 50 5 + 1) else if k = 7 then wr (M 50 7 + f_cks (f_rel (M 51) a t) (x + M 50 3) y (M 1) (M 3) (M 52 0) (M 52 1)) else if k = 10 then 0 else M 50 k) ∧ ∀ o, o ≠ 1 → o ≠ 2 → o ≠ 3 → o ≠ 4 → o ≠ 50 → o ≠ 83 → (o < 84 ∨ 87 < o) → M1 o = N o))) := by
  refine ct_of (L0 := [(0, vR E 77), (1, vI a), (2, vI x), (3, vI y), (4, vI t)]) (by decide +kernel) rfl (Nat.le_of_ble_eq_true rfl) ?_
  intro zp ze zs zm za zb zt zc zA hC
  have hz4 := ite_z (0 ≤ a ∧ a < 3)
  have hz22 := ite_z (0 ≤ t ∧ t < 8)
  have hrb := f_rsn_b (f_rel (M 51) a t) (x + M 50 3) y (M 52 2)
  have hcb := f_cks_b (r := (f_rel (M 51) a t)) (left := x + M 50 3) (top := y) (d := M 1) (b := M 52 0) (t := M 52 1) h0.2.1
  refine jw_iload_n hC dX4_press_0 1 rfl rfl ?_
  refine jw_callS hC (c_X4_isDie l E _ _ (by omega) (by omega)) sS_X4_52 dX4_press_1 rfl rfl ⟨Nat.le_of_ble_eq_true rfl, Nat.le_of_ble_eq_true rfl⟩ ⟨Nat.zero_le _, Nat.zero_le _⟩ (Nat.le_of_ble_eq_true rfl) (fun v1 M1 g1 => ?_)
  obtain ⟨rfl, rfl⟩ := g1
  refine jw_if_ne (tgt := 17) hC dX4_press_4 (by decide) (by omega) (by omega) (fun h4 => ?_) (fun h4 => ?_)
  · skip
    have z4 := ite_1 (C := 0 ≤ a ∧ a < 3) h4
    refine jw_iload hC dX4_press_17 4 rfl ?_
    refine jw_callS hC (c_X4_isTurn l E _ _ (by omega) (by omega)) sS_X4_142 dX4_press_19 rfl rfl ⟨Nat.le_of_ble_eq_true rfl, Nat.le_of_ble_eq_true rfl⟩ ⟨Nat.zero_le _, Nat.zero_le _⟩ (Nat.le_of_ble_eq_true rfl) (fun v19 M19 g19 => ?_)
    obtain ⟨rfl, rfl⟩ := g19
    refine jw_if_ne (tgt := 35) hC dX4_press_22 (by decide) (by omega) (by omega) (fun h22 => ?_) (fun h22 => ?_)
    · skip
      have z22 := ite_1 (C := 0 ≤ t ∧ t < 8) h22
      refine jw_aload_n hC dX4_press_35 0 rfl rfl ?_
      refine jw_callV hC (c_X4_saveState l E M q4 q5) sV_X4_72 ewF_x4.o dX4_press_36 rfl rfl ⟨Nat.le_of_ble_eq_true rfl, Nat.le_of_ble_eq_true rfl⟩ ⟨Nat.zero_le _, Nat.zero_le _⟩ (Nat.le_of_ble_eq_true rfl) (fun v36 M36 g36 => ?_)
      obtain ⟨rfl, s1, s2⟩ := g36
      have hsv : svc M M36 := ⟨s1, s2⟩
      have e1 := svc_o hsv 1 (by omega)
      have e2 := svc_o hsv 2 (by omega)
      have e3 := svc_o hsv 3 (by omega)
      have e4 := svc_o hsv 4 (by omega)
      have e50 := svc_o hsv 50 (by omega)
      have e51 := svc_o hsv 51 (by omega)
      have e52 := svc_o hsv 52 (by omega)
      have e79 := svc_o hsv 79 (by omega)
      have e81 := svc_o hsv 81 (by omega)
      have e82 := svc_o hsv 82 (by omega)
      refine jw_aload_n hC dX4_press_39 0 rfl rfl ?_
      refine jw_getr hC fL_X4_12 ewR_x0 dX4_press_40 ?_
      refine jw_iload_n hC dX4_press_43 1 rfl rfl ?_
      refine jw_iload hC dX4_press_44 4 rfl ?_
      refine jw_aload_n hC dX4_press_46 0 rfl rfl ?_
      refine jw_getr hC fL_X4_34 ewR_x7 dX4_press_47 ?_
      refine jw_callV hC (c_X3_turnDie l E M36 0 (by decide) a t (by omega) (by omega) (show pD (M36 51) by rw [e51]; exact h0.2.2.1)) sV_X4_147 (show ewO 50 6 from ewO_state (j := 0) (by decide)) dX4_press_50 rfl rfl ⟨Nat.le_of_ble_eq_true rfl, Nat.le_of_ble_eq_true rfl⟩ ⟨Nat.zero_le _, Nat.zero_le _⟩ (Nat.le_of_ble_eq_true rfl) (fun v50 M50 g50 => ?_)
      obtain ⟨rfl, g9⟩ := g50
      have g9 : M50 = mset M36 83 (f_rel (M36 51) a t) := g9
      have t83 : M50 83 = (f_rel (M 51) a t) := by rw [g9, mset_at, e51]
      have t2 : ∀ o, o ≠ 83 → M50 o = M36 o := fun o ho => by rw [g9, mset_ne _ _ ho]
      have t50 : M50 50 = M 50 := (t2 50 (by decide)).trans e50
      have t52 : M50 52 = M 52 := (t2 52 (by decide)).trans e52
      have t1 : M50 1 = M 1 := (t2 1 (by decide)).trans e1
      have t1b : M50 2 = M 2 := (t2 2 (by decide)).trans e2
      have t3 : M50 3 = M 3 := (t2 3 (by decide)).trans e3
      have t4 : M50 4 = M 4 := (t2 4 (by decide)).trans e4
      have t0 : st0 M50 := st0_cg h0 t1 t3 t50 ((t2 51 (by decide)).trans e51) t52
      have tr : pD (M50 83) := by rw [t83]; exact f_rel_D h0.2.2.1 a t
      refine jw_aload_n hC dX4_press_53 0 rfl rfl ?_
      refine jw_iload_n hC dX4_press_54 2 rfl rfl ?_
      refine jw_iload_n hC dX4_press_55 3 rfl rfl ?_
      refine jw_callV hC (c_X4_refusal l E M50 t0 x y x1 x2 y1 y2 tr) sV_X4_151 ewF_x4.o dX4_press_56 rfl rfl ⟨Nat.le_of_ble_eq_true rfl, Nat.le_of_ble_eq_true rfl⟩ ⟨Nat.zero_le _, Nat.zero_le _⟩ (Nat.le_of_ble_eq_true rfl) (fun v56 M56 g56 => ?_)
      obtain ⟨rfl, rfl⟩ := g56
      rw [t83, t50, t52]
      refine jw_istore (L' := [(5, _), (0, _), (1, _), (2, _), (3, _), (4, _)]) hC dX4_press_59 (by decide) rfl ?_
      refine jw_iload hC dX4_press_61 0 rfl ?_
      refine jw_if_eq (tgt := 82) hC dX4_press_63 (by decide) (by omega) (by omega) (fun h63 => ?_) (fun h63 => ?_)
      · skip
        refine jw_bipush hC dX4_press_82 (by decide) ?_
        refine jw_aload_n hC dX4_press_84 1 rfl rfl ?_
        refine jw_iload_n hC dX4_press_85 3 rfl rfl ?_
        refine jw_iload_n hC dX4_press_86 4 rfl rfl ?_
        refine jw_callV hC (c_X4_pressRelief l E M50 t0 x y x1 x2 y1 y2 tr) sV_X4_157 ewF_x4.o dX4_press_87 rfl rfl ⟨Nat.le_of_ble_eq_true rfl, Nat.le_of_ble_eq_true rfl⟩ ⟨Nat.zero_le _, Nat.zero_le _⟩ (Nat.le_of_ble_eq_true rfl) (fun v87 M87 g87 => ?_)
        obtain ⟨rfl, g1, g2, g3, g4, g5, g6⟩ := g87
        rw [t83, t50, t1, t3, t52] at g3 ⊢
        rw [t83, t50, t1] at g1
        rw [t83, t50, t1b] at g2
        rw [t83, t50, t4] at g4
        rw [t83, t50, t1, t3, t52] at g5
        refine jw_iadd hC dX4_press_90 ?_
        refine jw_iret hC dX4_press_91 ?_
        refine ⟨by omega, M36, hsv, Or.inr ⟨by omega, rfl, g1, g2, g3, g4, g5, fun o o1 o2 o3 o4 o5 o6 o7 => by rw [g6 o o1 o2 o3 o4 o5 o7]; exact t2 o o6⟩⟩
      · skip
        refine jw_aload_n hC dX4_press_66 1 rfl rfl ?_
        refine jw_getr hC fL_X4_12 ewR_x0 dX4_press_67 ?_
        refine jw_dupr hC dX4_press_70 ?_
        refine jw_geti hC fL_X4_154.r (show ewF 50 6 6 from ewF_t (j := 0) (k := 6) (by decide) (by decide) (by decide)) (kI := 6) rfl dX4_press_71 (by omega) (fun b71 c71 => ?_)
        rw [t50] at b71 c71 ⊢
        refine jw_iconst hC dX4_press_74 ?_
        refine jw_iadd hC dX4_press_75 ?_
        refine jw_putiw hC fL_X4_154 (show ewF 50 6 6 from ewF_t (j := 0) (k := 6) (by decide) (by decide) (by decide)) (kI := 6) rfl dX4_press_76  ?_
        refine jw_iload hC dX4_press_79 0 rfl ?_
        refine jw_iret hC dX4_press_81 ?_
        refine ⟨by omega, M36, hsv, Or.inl ⟨by omega, rfl, fun k => ?_, fun o o1 o2 => by rw [mu_ne _ _ _ o1]; exact t2 o o2⟩⟩
        by_cases k6 : k = 6
        · rw [k6, mu_eq, if_pos rfl]
        · rw [mu_nk _ _ _ k6, if_neg k6, t50]
    · skip
      have z22 := ite_0 (C := 0 ≤ t ∧ t < 8) h22
      exfalso; omega
  · skip
    have z4 := ite_0 (C := 0 ≤ a ∧ a < 3) h4
    exfalso; omega
set_option maxRecDepth 100000 in
set_option maxHeartbeats 4000000 in
theorem c_X4_fold (l : Launch) (E : ewE) (M : ewM) (h0 : st0 M) (q4 : 0 ≤ M 77 4 ∧ M 77 4 ≤ 5) (q5 : 0 ≤ M 77 5 ∧ M 77 5 ≤ 6) (r : Int) (r1 : -2147483648 ≤ r) (r2 : r < 2147483648) (hok : 1 ≤ r ∧ r < 12) : Ct l E yX4_fold (.code yX4_fold cX4_fold 5 (some .int)) 5 [vR E 77, vI r] M (fun v M1 => (1 ≤ r ∧ r < 12) ∧ ∃ N : ewM, svc M N ∧ v = some (vI (f_fc (M 1) (M 3) r (M 52 0) (M 52 1))) ∧ M1 3 = f_it (M 1) (M 52 0) (M 52 1) (f_brk (f_ovf (M 1) (M 3) r (M 52 0) (M 52 1)) (M 3)) 144 ∧ (∀ k : Int, M1 50 k = if k = 7 then wr (M 50 7 + f_fc (M 1) (M 3) r (M 52 0) (M 52 1)) else if k = 9 then wr (M 50 9 + 1) else M 50 k) ∧ ∀ o, o ≠ 3 → o ≠ 50 → (o < 84 ∨ 87 < o) → M1 o = N o) := by
  refine ct_of (L0 := [(0, vR E 77), (1, vI r)]) (by decide +kernel) rfl (Nat.le_of_ble_eq_true rfl) ?_
  intro zp ze zs zm za zb zt zc zA hC
  have hz4 := ite_z (1 ≤ r ∧ r < 12)
  obtain ⟨p1, p2, p3, p4, p5, p6, p7, p8⟩ := id h0
  have hfb := f_fc_b (d := M 1) r (M 52 0) (M 52 1) p2
  refine jw_iload_n hC dX4_fold_0 1 rfl rfl ?_
  refine jw_callS hC (c_X4_isFoldRow l E _ _ (by omega) (by omega)) sS_X4_160 dX4_fold_1 rfl rfl ⟨Nat.le_of_ble_eq_true rfl, Nat.le_of_ble_eq_true rfl⟩ ⟨Nat.zero_le _, Nat.zero_le _⟩ (Nat.le_of_ble_eq_true rfl) (fun v1 M1 g1 => ?_)
  obtain ⟨rfl, rfl⟩ := g1
  refine jw_if_ne (tgt := 17) hC dX4_fold_4 (by decide) (by omega) (by omega) (fun h4 => ?_) (fun h4 => ?_)
  · skip
    have z4 := ite_1 (C := 1 ≤ r ∧ r < 12) h4
    refine jw_aload_n hC dX4_fold_17 0 rfl rfl ?_
    refine jw_callV hC (c_X4_saveState l E M q4 q5) sV_X4_72 ewF_x4.o dX4_fold_18 rfl rfl ⟨Nat.le_of_ble_eq_true rfl, Nat.le_of_ble_eq_true rfl⟩ ⟨Nat.zero_le _, Nat.zero_le _⟩ (Nat.le_of_ble_eq_true rfl) (fun v18 M18 g18 => ?_)
    obtain ⟨rfl, s1, s2⟩ := g18
    have hsv : svc M M18 := ⟨s1, s2⟩
    have e1 := svc_o hsv 1 (by omega)
    have e2 := svc_o hsv 2 (by omega)
    have e3 := svc_o hsv 3 (by omega)
    have e4 := svc_o hsv 4 (by omega)
    have e50 := svc_o hsv 50 (by omega)
    have e51 := svc_o hsv 51 (by omega)
    have e52 := svc_o hsv 52 (by omega)
    have e79 := svc_o hsv 79 (by omega)
    have e81 := svc_o hsv 81 (by omega)
    have e82 := svc_o hsv 82 (by omega)
    refine jw_aload_n hC dX4_fold_21 0 rfl rfl ?_
    refine jw_getr hC fL_X4_12 ewR_x0 dX4_fold_22 ?_
    refine jw_getr hC fL_X4_165 (show ewR 50 6 1 52 from ewR_t1 (j := 0) (by decide)) dX4_fold_25 ?_
    refine jw_iconst hC dX4_fold_28 ?_
    refine jw_iald hC (show ewA 52 0 4 from ewA_settings (j := 0) (by decide)) dX4_fold_29 (by omega) (by omega) (by decide) (fun b29 c29 => ?_)
    rw [e52] at b29 c29 ⊢
    refine jw_istore_n (L' := [(2, _), (0, _), (1, _)]) hC dX4_fold_30 rfl (by decide) rfl ?_
    refine jw_aload_n hC dX4_fold_31 1 rfl rfl ?_
    refine jw_getr hC fL_X4_12 ewR_x0 dX4_fold_32 ?_
    refine jw_getr hC fL_X4_165 (show ewR 50 6 1 52 from ewR_t1 (j := 0) (by decide)) dX4_fold_35 ?_
    refine jw_iconst hC dX4_fold_38 ?_
    refine jw_iald hC (show ewA 52 0 4 from ewA_settings (j := 0) (by decide)) dX4_fold_39 (by omega) (by omega) (by decide) (fun b39 c39 => ?_)
    rw [e52] at b39 c39 ⊢
    refine jw_istore_n (L' := [(3, _), (2, _), (0, _), (1, _)]) hC dX4_fold_40 rfl (by decide) rfl ?_
    refine jw_aload_n hC dX4_fold_41 2 rfl rfl ?_
    refine jw_getr hC fL_X4_48 ewR_x9 dX4_fold_42 ?_
    refine jw_aload_n hC dX4_fold_45 2 rfl rfl ?_
    refine jw_getr hC fL_X4_12 ewR_x0 dX4_fold_46 ?_
    refine jw_getr hC fL_X4_88 (show ewR 50 6 2 0 from ewR_t2 (j := 0) (by decide)) dX4_fold_49 ?_
    refine jw_iload_n hC dX4_fold_52 3 rfl rfl ?_
    refine jw_iload_n hC dX4_fold_53 1 rfl rfl ?_
    refine jw_iload_n hC dX4_fold_54 0 rfl rfl ?_
    refine jw_callV hC (c_X0_crackAtFold l E M18 0 (by decide) _ _ _ (by omega) p4 p5 (show pD (M18 1) by rw [e1]; exact p1) (show pC (M18 3) by rw [e3]; exact p2)) sV_X4_168 ewF_k3.o dX4_fold_55 rfl rfl ⟨Nat.le_of_ble_eq_true rfl, Nat.le_of_ble_eq_true rfl⟩ ⟨Nat.zero_le _, Nat.zero_le _⟩ (Nat.le_of_ble_eq_true rfl) (fun v55 M55 g55 => ?_)
    obtain ⟨rfl, g2, g3⟩ := g55
    have u3 : M55 3 = f_brk (f_ovf (M18 1) (M18 3) r (M 52 0) (M 52 1)) (M18 3) := g2
    have uo : ∀ o, o ≠ 3 → o ≠ 84 → o ≠ 86 → o ≠ 87 → M55 o = M18 o := g3
    rw [e1, e3] at u3
    have u1 : M55 1 = M 1 := (uo 1 (by decide) (by decide) (by decide) (by decide)).trans e1
    have u50 : M55 50 = M 50 := (uo 50 (by decide) (by decide) (by decide) (by decide)).trans e50
    refine jw_istore (L' := [(4, _), (3, _), (2, _), (0, _), (1, _)]) hC dX4_fold_58 (by decide) rfl ?_
    refine jw_iload hC dX4_fold_60 0 rfl ?_
    refine jw_aload_n hC dX4_fold_62 3 rfl rfl ?_
    refine jw_getr hC fL_X4_48 ewR_x9 dX4_fold_63 ?_
    refine jw_aload_n hC dX4_fold_66 3 rfl rfl ?_
    refine jw_getr hC fL_X4_12 ewR_x0 dX4_fold_67 ?_
    refine jw_getr hC fL_X4_88 (show ewR 50 6 2 0 from ewR_t2 (j := 0) (by decide)) dX4_fold_70 ?_
    refine jw_iload_n hC dX4_fold_73 2 rfl rfl ?_
    refine jw_iload_n hC dX4_fold_74 1 rfl rfl ?_
    refine jw_callV hC (c_X0_crackAll l E M55 0 (by decide) _ _ p4 p5 (show pD (M55 1) by rw [u1]; exact p1) (show pC (M55 3) by rw [u3]; exact f_brk_C p2)) sV_X4_172 ewF_k3.o dX4_fold_75 rfl rfl ⟨Nat.le_of_ble_eq_true rfl, Nat.le_of_ble_eq_true rfl⟩ ⟨Nat.zero_le _, Nat.zero_le _⟩ (Nat.le_of_ble_eq_true rfl) (fun v75 M75 g75 => ?_)
    obtain ⟨rfl, g4, g5, g6⟩ := g75
    have v3 : M75 3 = f_it (M55 1) (M 52 0) (M 52 1) (M55 3) 144 := g4
    have vo : ∀ o, o ≠ 3 → (o < 84 ∨ 87 < o) → M75 o = M55 o := g6
    have v50 : M75 50 = M 50 := (vo 50 (by decide) (by decide)).trans u50
    have e9 : f_sum (M55 (5 * 0 + 3)) 144 - f_sum (M18 (5 * 0 + 3)) 144 + (f_sum (f_it (M55 (5 * 0 + 1)) (M 52 0) (M 52 1) (M55 (5 * 0 + 3)) 144) 144 - f_sum (M55 (5 * 0 + 3)) 144) = f_fc (M 1) (M 3) r (M 52 0) (M 52 1) := by
      show f_sum (M55 3) 144 - f_sum (M18 3) 144 + (f_sum (f_it (M55 1) (M 52 0) (M 52 1) (M55 3) 144) 144 - f_sum (M55 3) 144) = _
      unfold f_fc
      rw [u1, u3, e3]
      omega
    refine jw_iadd hC dX4_fold_78 ?_
    refine jw_istore (L' := [(4, _), (3, _), (2, _), (0, _), (1, _)]) hC dX4_fold_79 (by decide) rfl ?_
    refine jw_aload_n hC dX4_fold_81 3 rfl rfl ?_
    refine jw_getr hC fL_X4_12 ewR_x0 dX4_fold_82 ?_
    refine jw_dupr hC dX4_fold_85 ?_
    refine jw_geti hC fL_X4_176.r (show ewF 50 6 7 from ewF_t (j := 0) (k := 7) (by decide) (by decide) (by decide)) (kI := 7) rfl dX4_fold_86 (by omega) (fun b86 c86 => ?_)
    rw [v50] at b86 c86 ⊢
    refine jw_iload hC dX4_fold_89 0 rfl ?_
    refine jw_iadd hC dX4_fold_91 ?_
    refine jw_putiw hC fL_X4_176 (show ewF 50 6 7 from ewF_t (j := 0) (k := 7) (by decide) (by decide) (by decide)) (kI := 7) rfl dX4_fold_92  ?_
    refine jw_aload_n hC dX4_fold_95 3 rfl rfl ?_
    refine jw_getr hC fL_X4_12 ewR_x0 dX4_fold_96 ?_
    refine jw_dupr hC dX4_fold_99 ?_
    refine jw_geti hC fL_X4_179.r (show ewF 50 6 9 from ewF_t (j := 0) (k := 9) (by decide) (by decide) (by decide)) (kI := 9) rfl dX4_fold_100 (by omega) (fun b100 c100 => ?_)
    rw [mu_nk _ _ _ (by decide), v50] at b100 c100 ⊢
    refine jw_iconst hC dX4_fold_103 ?_
    refine jw_iadd hC dX4_fold_104 ?_
    refine jw_putiw hC fL_X4_179 (show ewF 50 6 9 from ewF_t (j := 0) (k := 9) (by decide) (by decide) (by decide)) (kI := 9) rfl dX4_fold_105  ?_
    refine jw_iload hC dX4_fold_108 0 rfl ?_
    refine jw_iret hC dX4_fold_110 ?_
    refine ⟨by omega, M18, hsv, by rw [e9], ?_, fun k => ?_, fun o o1 o2 o3 => ?_⟩
    · rw [mu_ne _ _ _ (by decide), mu_ne _ _ _ (by decide), v3, u1, u3]
    · by_cases k9 : k = 9
      · rw [k9, mu_eq, if_neg (by decide), if_pos rfl]
      · rw [mu_nk _ _ _ k9]
        by_cases k7 : k = 7
        · rw [k7, mu_eq, if_pos rfl, e9]
        · rw [mu_nk _ _ _ k7, if_neg k7, if_neg k9, v50]
    · rw [mu_ne _ _ _ o2, mu_ne _ _ _ o2, vo o o1 o3, uo o o1 (by omega) (by omega) (by omega)]
  · skip
    have z4 := ite_0 (C := 1 ≤ r ∧ r < 12) h4
    exfalso; omega
end
section
/-! THE CLASS: set, undo -/
theorem g_bnd (k : Nat) : (0 ≤ g_least k ∧ g_least k ≤ 1) ∧ 9 ≤ g_great k ∧ g_great k ≤ 99 := by
  unfold g_least g_great
  split <;> split <;> (try split) <;> omega
set_option maxRecDepth 100000 in
set_option maxHeartbeats 4000000 in
theorem c_X4_set (l : Launch) (E : ewE) (M : ewM) (q4 : 0 ≤ M 77 4 ∧ M 77 4 ≤ 5) (q5 : 0 ≤ M 77 5 ∧ M 77 5 ≤ 6) (a : Int) (a1 : -2147483648 ≤ a) (a2 : a < 2147483648) (x : Int) (x1 : -2147483648 ≤ x) (x2 : x < 2147483648) (hok : (0 ≤ a ∧ a < 4) ∧ (g_least a.toNat ≤ x ∧ x ≤ g_great a.toNat)) : Ct l E yX4_set (.code yX4_set cX4_set 4 (some .int)) 5 [vR E 77, vI a, vI x] M (fun v M1 => ((0 ≤ a ∧ a < 4) ∧ (g_least a.toNat ≤ x ∧ x ≤ g_great a.toNat)) ∧ ∃ N : ewM, svc M N ∧ v = some (vI (M 52 a)) ∧ M1 = mu N 52 a x) := by
  refine ct_of (L0 := [(0, vR E 77), (1, vI a), (2, vI x)]) (by decide +kernel) rfl (Nat.le_of_ble_eq_true rfl) ?_
  intro zp ze zs zm za zb zt zc zA hC
  have hz4 := ite_z (0 ≤ a ∧ a < 4)
  have hgb := g_bnd a.toNat
  refine jw_iload_n hC dX4_set_0 1 rfl rfl ?_
  refine jw_callS hC (c_X4_isSetting l E _ _ (by omega) (by omega)) sS_X4_182 dX4_set_1 rfl rfl ⟨Nat.le_of_ble_eq_true rfl, Nat.le_of_ble_eq_true rfl⟩ ⟨Nat.zero_le _, Nat.zero_le _⟩ (Nat.le_of_ble_eq_true rfl) (fun v1 M1 g1 => ?_)
  obtain ⟨rfl, rfl⟩ := g1
  refine jw_if_ne (tgt := 17) hC dX4_set_4 (by decide) (by omega) (by omega) (fun h4 => ?_) (fun h4 => ?_)
  · skip
    have z4 := ite_1 (C := 0 ≤ a ∧ a < 4) h4
    refine jw_iload_n hC dX4_set_17 2 rfl rfl ?_
    refine jw_gets_least hC w3_6 dX4_set_18 ?_
    refine jw_iload_n hC dX4_set_21 1 rfl rfl ?_
    refine jw_ild_least hC (by omega) (by omega) dX4_set_22 ?_
    refine jw_icmp_lt (tgt := 35) hC dX4_set_23 (by decide) (by omega) (by omega) (by omega) (by omega) (fun h23 => ?_) (fun h23 => ?_)
    · skip
      exfalso; omega
    · skip
      refine jw_iload_n hC dX4_set_26 2 rfl rfl ?_
      refine jw_gets_great hC w3_8 dX4_set_27 ?_
      refine jw_iload_n hC dX4_set_30 1 rfl rfl ?_
      refine jw_ild_great hC (by omega) (by omega) dX4_set_31 ?_
      refine jw_icmp_le (tgt := 45) hC dX4_set_32 (by decide) (by omega) (by omega) (by omega) (by omega) (fun h32 => ?_) (fun h32 => ?_)
      · skip
        refine jw_aload_n hC dX4_set_45 0 rfl rfl ?_
        refine jw_callV hC (c_X4_saveState l E M q4 q5) sV_X4_72 ewF_x4.o dX4_set_46 rfl rfl ⟨Nat.le_of_ble_eq_true rfl, Nat.le_of_ble_eq_true rfl⟩ ⟨Nat.zero_le _, Nat.zero_le _⟩ (Nat.le_of_ble_eq_true rfl) (fun v46 M46 g46 => ?_)
        obtain ⟨rfl, s1, s2⟩ := g46
        have hsv : svc M M46 := ⟨s1, s2⟩
        have e1 := svc_o hsv 1 (by omega)
        have e2 := svc_o hsv 2 (by omega)
        have e3 := svc_o hsv 3 (by omega)
        have e4 := svc_o hsv 4 (by omega)
        have e50 := svc_o hsv 50 (by omega)
        have e51 := svc_o hsv 51 (by omega)
        have e52 := svc_o hsv 52 (by omega)
        have e79 := svc_o hsv 79 (by omega)
        have e81 := svc_o hsv 81 (by omega)
        have e82 := svc_o hsv 82 (by omega)
        refine jw_aload_n hC dX4_set_49 0 rfl rfl ?_
        refine jw_getr hC fL_X4_12 ewR_x0 dX4_set_50 ?_
        refine jw_getr hC fL_X4_165 (show ewR 50 6 1 52 from ewR_t1 (j := 0) (by decide)) dX4_set_53 ?_
        refine jw_iload_n hC dX4_set_56 1 rfl rfl ?_
        refine jw_iald hC (show ewA 52 0 4 from ewA_settings (j := 0) (by decide)) dX4_set_57 (by omega) (by omega) (by decide) (fun b57 c57 => ?_)
        rw [e52] at b57 c57 ⊢
        refine jw_istore_n (L' := [(3, _), (0, _), (1, _), (2, _)]) hC dX4_set_58 rfl (by decide) rfl ?_
        refine jw_aload_n hC dX4_set_59 1 rfl rfl ?_
        refine jw_getr hC fL_X4_12 ewR_x0 dX4_set_60 ?_
        refine jw_getr hC fL_X4_165 (show ewR 50 6 1 52 from ewR_t1 (j := 0) (by decide)) dX4_set_63 ?_
        refine jw_iload_n hC dX4_set_66 2 rfl rfl ?_
        refine jw_iload_n hC dX4_set_67 3 rfl rfl ?_
        refine jw_iast hC (show ewA 52 0 4 from ewA_settings (j := 0) (by decide)) dX4_set_68 (by omega) (by omega) (by decide) (by omega) (by omega) ?_
        refine jw_iload_n hC dX4_set_69 0 rfl rfl ?_
        refine jw_iret hC dX4_set_70 ?_
        exact ⟨by omega, M46, hsv, rfl, rfl⟩
      · skip
        exfalso; omega
  · skip
    have z4 := ite_0 (C := 0 ≤ a ∧ a < 4) h4
    exfalso; omega
set_option maxRecDepth 100000 in
set_option maxHeartbeats 4000000 in
theorem c_X4_undo (l : Launch) (E : ewE) (M : ewM) (q4 : 0 ≤ M 77 4 ∧ M 77 4 ≤ 5) (q5 : 0 ≤ M 77 5 ∧ M 77 5 ≤ 6)  (hok : ¬ M 77 5 = 0) : Ct l E yX4_undo (.code yX4_undo cX4_undo 1 (some .int)) 5 [vR E 77] M (fun v M1 => (¬ M 77 5 = 0) ∧ v = some (vI (M 77 5 - 1)) ∧ ∀ j : Nat, (j : Int) = 3 + (M 77 4 + (M 77 5 - 1)) % 6 → cpS M j M1 0 ∧ M1 77 = (mu M 77 5 (M 77 5 - 1)) 77 ∧ ∀ o, o ≠ 77 → (o < 1 ∨ 4 < o) → (o < 50 ∨ 52 < o) → M1 o = M o) := by
  refine ct_of (L0 := [(0, vR E 77)]) (by decide +kernel) rfl (Nat.le_of_ble_eq_true rfl) ?_
  intro zp ze zs zm za zb zt zc zA hC
  skip
  refine jw_aload_n hC dX4_undo_0 0 rfl rfl ?_
  refine jw_geti hC fL_X4_239.r ewF_x5 (kI := 5) rfl dX4_undo_1 (by omega) (fun b1 c1 => ?_)
  refine jw_if_ne (tgt := 17) hC dX4_undo_4 (by decide) (by omega) (by omega) (fun h4 => ?_) (fun h4 => ?_)
  · skip
    refine jw_aload_n hC dX4_undo_17 0 rfl rfl ?_
    refine jw_dupr hC dX4_undo_18 ?_
    refine jw_geti hC fL_X4_239.r ewF_x5 (kI := 5) rfl dX4_undo_19 (by omega) (fun b19 c19 => ?_)
    refine jw_iconst hC dX4_undo_22 ?_
    refine jw_isub hC dX4_undo_23 ?_
    refine jw_puti hC fL_X4_239 ewF_x5 (kI := 5) rfl dX4_undo_24 (by omega) (by omega) ?_
    refine jw_aload_n hC dX4_undo_27 0 rfl rfl ?_
    refine jw_getr hC fL_X4_12 ewR_x0 dX4_undo_28 ?_
    refine jw_aload_n hC dX4_undo_31 0 rfl rfl ?_
    refine jw_getr hC fL_X4_24 ewR_x3 dX4_undo_32 ?_
    refine jw_aload_n hC dX4_undo_35 0 rfl rfl ?_
    refine jw_geti hC fL_X4_244.r ewF_x4 (kI := 4) rfl dX4_undo_36 (by omega) (fun b36 c36 => ?_)
    rw [mu_nk _ _ _ (by decide)] at b36 c36 ⊢
    refine jw_aload_n hC dX4_undo_39 0 rfl rfl ?_
    refine jw_geti hC fL_X4_239.r ewF_x5 (kI := 5) rfl dX4_undo_40 (by omega) (fun b40 c40 => ?_)
    rw [mu_eq] at b40 c40 ⊢
    refine jw_iadd hC dX4_undo_43 ?_
    refine jw_bipush hC dX4_undo_44 (by decide) ?_
    refine jw_irem hC dX4_undo_46 (by omega) (by omega) (by omega) (by omega) ?_
    obtain ⟨jj, hjv⟩ : ∃ jj : Nat, (jj : Int) = 3 + (M 77 4 + (M 77 5 - 1)) % 6 := ⟨(3 + (M 77 4 + (M 77 5 - 1)) % 6).toNat, by omega⟩
    refine jw_aald_saved hC (jj - 3) (by omega) (by omega) dX4_undo_47 ?_
    rw [show 59 + 3 * (jj - 3) = 50 + 3 * jj by omega]
    refine jw_callV hC (c_X3_copyFrom l E (mu M 77 5 (M 77 5 - 1)) 0 (by decide) jj (by omega) (by omega)) sV_X4_230 (show ewO 50 6 from ewO_state (j := 0) (by decide)) dX4_undo_48 rfl rfl ⟨Nat.le_of_ble_eq_true rfl, Nat.le_of_ble_eq_true rfl⟩ ⟨Nat.zero_le _, Nat.zero_le _⟩ (Nat.le_of_ble_eq_true rfl) (fun v48 M48 g48 => ?_)
    obtain ⟨rfl, c1, c2, c3, c4, c5⟩ := g48
    have e77 : M48 77 = (mu M 77 5 (M 77 5 - 1)) 77 := c5 77 (by omega) (by omega)
    refine jw_aload_n hC dX4_undo_51 0 rfl rfl ?_
    refine jw_geti hC fL_X4_239.r ewF_x5 (kI := 5) rfl dX4_undo_52 (by omega) (fun b52 c52 => ?_)
    rw [e77, mu_eq] at b52 c52 ⊢
    refine jw_iret hC dX4_undo_55 ?_
    refine ⟨by omega, rfl, fun j9 hj9 => ?_⟩
    have e9 : j9 = jj := by omega
    rw [e9]
    exact ⟨⟨by rw [c1, mu_ne _ _ _ (by omega)], by rw [c2, mu_ne _ _ _ (by omega)], fun r r0 r1 => by rw [c3 r r0 r1, mu_ne _ _ _ (by omega)], fun k k0 k1 => by rw [c4 k k0 k1, mu_ne _ _ _ (by omega)]⟩, c5 77 (by omega) (by omega), fun o o1 o2 o3 => by rw [c5 o (by omega) (by omega), mu_ne _ _ _ o1]⟩
  · skip
    exfalso; omega
end
section
/-! ROWS OF THE LAW: bits, the script, longs and doubles that are one number -/
theorem i32_b (x : Int32) : -2147483648 ≤ x.toInt ∧ x.toInt < 2147483648 := by
  have h1 := Int32.le_toInt x
  have h2 := Int32.toInt_lt x
  omega
/-- two ints, bit by bit -/
def i_and (x y : Int) : Int := (Int32.ofInt x &&& Int32.ofInt y).toInt
/-- an int, shifted to the right -/
def i_shr (x y : Int) : Int := (Int32.ofInt x >>> (Int32.ofInt y &&& 31)).toInt
theorem i_and_b (x : Int) {y : Int} (h0 : 0 ≤ y) (h1 : y < 2147483648) : 0 ≤ i_and x y ∧ i_and x y ≤ y := by
  have e1 : (Int32.ofInt x &&& Int32.ofInt y).toInt = ((Int32.ofInt x).toBitVec &&& (Int32.ofInt y).toBitVec).toInt := rfl
  have e2 : (Int32.ofInt y).toInt = y := e32 (by omega) h1
  have e3 : (Int32.ofInt y).toInt = (Int32.ofInt y).toBitVec.toInt := rfl
  have e4 : (Int32.ofInt y).toBitVec.toInt = ((Int32.ofInt y).toBitVec.toNat : Int) := by
    rcases Decidable.em (2 * (Int32.ofInt y).toBitVec.toNat < 2 ^ 32) with h | h
    · exact BitVec.toInt_eq_toNat_of_lt h
    · exfalso
      have := BitVec.toInt_eq_toNat_cond (Int32.ofInt y).toBitVec
      rw [if_neg h] at this
      have hl := (Int32.ofInt y).toBitVec.isLt
      omega
  have e5 : ((Int32.ofInt x).toBitVec &&& (Int32.ofInt y).toBitVec).toNat ≤ (Int32.ofInt y).toBitVec.toNat := by
    rw [BitVec.toNat_and]
    exact Nat.and_le_right
  have e6 : ((Int32.ofInt x).toBitVec &&& (Int32.ofInt y).toBitVec).toInt = (((Int32.ofInt x).toBitVec &&& (Int32.ofInt y).toBitVec).toNat : Int) := BitVec.toInt_eq_toNat_of_lt (by omega)
  unfold i_and
  rw [e1, e6]
  omega
/-- a number out of an int, at least 0, less than n -/
def f_lo (v n : Int) : Int := i_and v 2147483647 % n
theorem f_lo_b (v : Int) {n : Int} (h : 0 < n) : 0 ≤ f_lo v n ∧ f_lo v n < n := ⟨Int.emod_nonneg _ (by omega), Int.emod_lt_of_pos _ h⟩
theorem lg_cmpe (x : Int64) : lg_cmp x x = Int32.ofInt 0 := by
  have : ¬ x < x := by rw [Int64.lt_iff_toInt_lt]; omega
  simp [lg_cmp]
section JW8
variable {p : Program} {l : Launch} {e : Env} {R : Room} {s : State} {m : MethodId} {args : Array Value} {below : List Frame} {meth : Method} {c : Code} {E : ewE} {A : Nat → Prop} {cc : ByteArray} {nL : Nat} {own : String} {ret : Option FieldType} {cells slots : Nat} {Q : State → Prop} {pc : Nat} {L L' : List (Nat × Value)} {S : List Value} {M : ewM}
theorem jw_iand (hC : jC p e R s m args meth c E A cc nL own ret) {x y : Int} (hd : decode cc pc = .ok (.iand, 1)) (k : -2147483648 ≤ i_and x y → i_and x y < 2147483648 → jJ p l e R s m args below meth c E A nL cells slots Q (pc + 1) L (vI (i_and x y) :: S) M) : jJ p l e R s m args below meth c E A nL cells slots Q pc L (vI y :: vI x :: S) M := by
  intro ls H locs hl hI
  have k := k (i32_b _).1 (i32_b _).2 ls H locs hl hI
  rw [show vI (i_and x y) = Value.int (Int32.ofInt x &&& Int32.ofInt y) from by unfold vI i_and; rw [Int32.ofInt_toInt]] at k
  exact lv_iand hC.1 hC.2.1 hd k
theorem jw_ishr (hC : jC p e R s m args meth c E A cc nL own ret) {x y : Int} (hd : decode cc pc = .ok (.ishr, 1)) (k : -2147483648 ≤ i_shr x y → i_shr x y < 2147483648 → jJ p l e R s m args below meth c E A nL cells slots Q (pc + 1) L (vI (i_shr x y) :: S) M) : jJ p l e R s m args below meth c E A nL cells slots Q pc L (vI y :: vI x :: S) M := by
  intro ls H locs hl hI
  have k := k (i32_b _).1 (i32_b _).2 ls H locs hl hI
  rw [show vI (i_shr x y) = Value.int (Int32.ofInt x >>> (Int32.ofInt y &&& 31)) from by unfold vI i_shr; rw [Int32.ofInt_toInt]] at k
  exact lv_ishr hC.1 hC.2.1 hd k
theorem jw_pop (hC : jC p e R s m args meth c E A cc nL own ret) {x : Int} (hd : decode cc pc = .ok (.pop, 1)) (k : jJ p l e R s m args below meth c E A nL cells slots Q (pc + 1) L S M) : jJ p l e R s m args below meth c E A nL cells slots Q pc L (vI x :: S) M :=
  fun ls H locs hl hI => lv_pop hC.1 hC.2.1 hd rfl (k ls H locs hl hI)
theorem jw_lcmpe (hC : jC p e R s m args meth c E A cc nL own ret) {x y : Int} (he : x = y) (hd : decode cc pc = .ok (.lcmp, 1)) (k : jJ p l e R s m args below meth c E A nL cells slots Q (pc + 1) L (vI 0 :: S) M) : jJ p l e R s m args below meth c E A nL cells slots Q pc L (vJ y :: vJ x :: S) M := by
  subst he
  intro ls H locs hl hI
  have k := k ls H locs hl hI
  unfold vI at k
  rw [← lg_cmpe (Int64.ofInt x)] at k
  exact W.lcmp hC.1 hC.2.1 hd k
theorem jw_wide (hC : jC p e R s m args meth c E A cc nL own ret) {x : Int} (k : jJ p l e R s m args below meth c E A nL cells slots Q pc L (vI (wr x) :: S) M) : jJ p l e R s m args below meth c E A nL cells slots Q pc L (vI x :: S) M := by rw [← vI_wr x]; exact k
/-- the script's number at i -/
def sx (E : ewE) (i : Int) : Int := (E.2.2.2.2 i.toNat).toInt
theorem sx_b (E : ewE) (i : Int) : -2147483648 ≤ sx E i ∧ sx E i < 2147483648 := i32_b _
theorem jw_sN (hC : jC p e R s m args meth c E A cc nL own ret) : E.2.2.2.1 ≤ 260 := hC.2.2.2.2.2.2.2.2.2.2.2.1.2.2.2.2
theorem jw_sld (hC : jC p e R s m args meth c E A cc nL own ret) {i : Int} (h0 : 0 ≤ i) (h1 : i < E.2.2.2.1) (hd : decode cc pc = .ok (.iaload, 1)) (k : jJ p l e R s m args below meth c E A nL cells slots Q (pc + 1) L (vI (sx E i) :: S) M) : jJ p l e R s m args below meth c E A nL cells slots Q pc L (vI i :: vR E 203 :: S) M := by
  intro ls H locs hl hI
  obtain ⟨e2, e3, e4, e5⟩ := hC.2.2.2.2.2.2.2.2.2.2.2.1.2
  have hcl := e32_clamp (a := i) h0 (by omega)
  have hcl : (Int32.ofInt i).toNatClampNeg = i.toNat := by omega
  have k := k ls H locs hl hI
  unfold vI sx at k
  rw [Int32.ofInt_toInt] at k
  exact va_sld (i := Int32.ofInt i) hC.1 hC.2.1 e2 e3 e4 hI.2.2.1 (e32_in (n := E.2.2.2.1) h0 h1 (by omega)) hd (by rw [hcl]; exact k)
theorem jw_slen (hC : jC p e R s m args meth c E A cc nL own ret) (hd : decode cc pc = .ok (.arraylength, 1)) (k : jJ p l e R s m args below meth c E A nL cells slots Q (pc + 1) L (vI (E.2.2.2.1 : Int) :: S) M) : jJ p l e R s m args below meth c E A nL cells slots Q pc L (vR E 203 :: S) M := by
  intro ls H locs hl hI
  obtain ⟨e2, e3, e4, e5⟩ := hC.2.2.2.2.2.2.2.2.2.2.2.1.2
  have k := k ls H locs hl hI
  exact va_slen hC.1 hC.2.1 e2 e3 e4 hI.2.2.1 hd (by exact k)
theorem jw_widen {k n : Nat} (h1 : cells ≤ k) (h2 : slots ≤ n) (k9 : jJ p l e R s m args below meth c E A nL k n Q pc L S M) : jJ p l e R s m args below meth c E A nL cells slots Q pc L S M := fun ls H locs hl hI => W.widen h1 h2 (k9 ls H locs hl hI)
end JW8
end
section
/-! PURE FACTS: the end of the cracks, two ways to tell strains, what presses leave -/
/-- if the rounds up to n all crack something, at least n have cracked -/
theorem f_it_grow {d c : Int → Int} {b t : Int} (hc : pC c) : ∀ n : Nat, (∀ i : Nat, i < n → ¬ f_sum (f_ind (f_ovr d b t (f_it d b t c i))) 144 = 0) → (n : Int) ≤ f_sum (f_it d b t c n) 144 := by
  intro n
  induction n with
  | zero => intro _; exact (f_sum_C hc).1
  | succ n ih =>
    intro h
    have h1 := ih (fun i hi => h i (by omega))
    have h2 := h n (by omega)
    have h3 := f_rnd_sum d b t (f_it d b t c n)
    have h4 := f_sum_le' (f := fun _ => 0) (g := f_ind (f_ovr d b t (f_it d b t c n))) 144 (fun k _ _ => (f_ind_b _ k).1)
    rw [f_sum_0] at h4
    show ((n + 1 : Nat) : Int) ≤ f_sum (f_rnd d b t (f_it d b t c n)) 144
    omega
/-- behind 144 rounds no place is strained too much -/
theorem f_it_end {d c : Int → Int} {b t : Int} (hc : pC c) : f_sum (f_ind (f_ovr d b t (f_it d b t c 144))) 144 = 0 := by
  refine Decidable.by_contra (fun h => ?_)
  have h0 : ∀ i : Nat, i < 145 → ¬ f_sum (f_ind (f_ovr d b t (f_it d b t c i))) 144 = 0 := by
    intro i hi h1
    have h2 := f_it_fix h1 (144 - i)
    rw [show i + (144 - i) = 144 by omega] at h2
    rw [h2] at h
    exact h h1
  have h3 := f_it_grow hc 144 (fun i hi => h0 i (by omega))
  have h4 := f_rnd_sum d b t (f_it d b t c 144)
  have h5 := f_sum_C (f_it_C hc (d := d) (b := b) (t := t) 145)
  have h6 := f_sum_le' (f := fun _ => 0) (g := f_ind (f_ovr d b t (f_it d b t c 144))) 144 (fun k _ _ => (f_ind_b _ k).1)
  rw [f_sum_0] at h6
  have h7 : f_it d b t c 145 = f_rnd d b t (f_it d b t c 144) := rfl
  rw [h7] at h5
  omega
/-- a sheet on which no place is strained more than it bears, but for those that have cracked -/
def f_set (d c : Int → Int) (b t : Int) : Prop := ∀ q : Int, 0 ≤ q → q < 144 → c q = 1 ∨ f_str d q ≤ f_bear c q b t
theorem f_it_set {d c : Int → Int} {b t : Int} (hc : pC c) : f_set d (f_it d b t c 144) b t := by
  intro q h0 h1
  have h2 := f_ind_0 144 (f_it_end (d := d) (b := b) (t := t) hc) q h0 (by omega)
  have h3 := f_it_C hc (d := d) (b := b) (t := t) 144 q
  unfold f_ovr at h2
  by_cases h4 : f_it d b t c 144 q = 0
  · right
    simp only [h4, decide_true, Bool.true_and, decide_eq_false_iff_not] at h2
    omega
  · left
    omega
theorem f_sum_add (f g : Int → Int) : ∀ n : Nat, f_sum (fun q => f q + g q) n = f_sum f n + f_sum g n := by
  intro n
  induction n with
  | zero => rfl
  | succ n ih =>
    show f_sum (fun q => f q + g q) n + (f n + g n) = f_sum f n + f n + (f_sum g n + g n)
    rw [ih]
    omega
theorem f_diff_c (f : Int → Int) (a b : Int) : f_diff f a b = f_diff f b a := by
  unfold f_diff
  split <;> split <;> omega
theorem f_s12 (f : Int → Int) : ∀ n : Nat, f_sum (f_s1 f) (n + 1) = f_sum (f_s2 f) n := by
  intro n
  induction n with
  | zero => rfl
  | succ n ih =>
    show f_sum (f_s1 f) (n + 1) + f_s1 f ((n + 1 : Nat) : Int) = f_sum (f_s2 f) n + f_s2 f n
    rw [ih]
    have : f_s1 f ((n + 1 : Nat) : Int) = f_s2 f n := by
      unfold f_s1 f_s2
      rw [f_diff_c f ((n + 1 : Nat) : Int), show ((n + 1 : Nat) : Int) = (n : Int) + 1 by omega, show (n : Int) + 1 - 1 = n by omega]
      by_cases h : (n : Int) % 12 < 11
      · rw [if_pos h, if_pos (by omega)]
      · rw [if_neg h, if_neg (by omega)]
    omega
theorem f_s34 (f : Int → Int) : ∀ n : Nat, f_sum (f_s3 f) (n + 12) = f_sum (fun q => if q < 132 then f_s4 f q else f_diff f q (q + 12)) n := by
  intro n
  induction n with
  | zero => rfl
  | succ n ih =>
    show f_sum (f_s3 f) (n + 12) + f_s3 f ((n + 12 : Nat) : Int) = f_sum (fun q => if q < 132 then f_s4 f q else f_diff f q (q + 12)) n + (if (n : Int) < 132 then f_s4 f n else f_diff f n (n + 12))
    rw [ih]
    have : f_s3 f ((n + 12 : Nat) : Int) = if (n : Int) < 132 then f_s4 f n else f_diff f n (n + 12) := by
      unfold f_s3 f_s4
      rw [if_pos (by omega), f_diff_c f ((n + 12 : Nat) : Int), show ((n + 12 : Nat) : Int) = (n : Int) + 12 by omega, show (n : Int) + 12 - 12 = n by omega]
      split <;> rfl
    omega
theorem f_sum_tail {g : Int → Int} {m : Nat} : ∀ n : Nat, (∀ k : Int, m ≤ k → g k = 0) → f_sum g (m + n) = f_sum g m := by
  intro n
  induction n with
  | zero => intro _; rfl
  | succ n ih =>
    intro h
    show f_sum g (m + n) + g ((m + n : Nat) : Int) = f_sum g m
    rw [ih h, h _ (by omega)]
    omega
/-- the strain of all places together is also twice the sum over all pairs of neighbours -/
theorem f_two (f : Int → Int) : f_sum (f_str f) 144 = 2 * f_sum (fun q => f_s2 f q + f_s4 f q) 144 := by
  have e1 : f_sum (f_s1 f) 144 = f_sum (f_s2 f) 144 := by
    have h1 : f_sum (f_s1 f) 144 = f_sum (f_s2 f) 143 := f_s12 f 143
    have h2 : f_sum (f_s2 f) 144 = f_sum (f_s2 f) 143 + f_s2 f ((143 : Nat) : Int) := rfl
    have h3 : f_s2 f ((143 : Nat) : Int) = 0 := by unfold f_s2; rw [if_neg (by omega)]
    omega
  have e2 : f_sum (f_s3 f) 144 = f_sum (f_s4 f) 144 := by
    have h1 := f_s34 f 132
    have h2 := f_sum_tail (g := f_s4 f) (m := 132) 12 (fun k hk => by unfold f_s4; rw [if_neg (by omega)])
    have h3 : f_sum (fun q => if q < 132 then f_s4 f q else f_diff f q (q + 12)) 132 = f_sum (f_s4 f) 132 := f_sum_cg 132 (fun k _ k2 => if_pos (show k < 132 by omega))
    have h4 : f_sum (f_s3 f) (132 + 12) = f_sum (f_s3 f) 144 := rfl
    have h5 : f_sum (f_s4 f) (132 + 12) = f_sum (f_s4 f) 144 := rfl
    omega
  have e3 : f_sum (f_str f) 144 = f_sum (f_s1 f) 144 + f_sum (f_s2 f) 144 + f_sum (f_s3 f) 144 + f_sum (f_s4 f) 144 := by
    have h1 := f_sum_add (fun q => f_s1 f q + f_s2 f q + f_s3 f q) (f_s4 f) 144
    have h2 := f_sum_add (fun q => f_s1 f q + f_s2 f q) (f_s3 f) 144
    have h3 := f_sum_add (f_s1 f) (f_s2 f) 144
    have h4 : f_sum (f_str f) 144 = f_sum (fun q => f_s1 f q + f_s2 f q + f_s3 f q + f_s4 f q) 144 := rfl
    omega
  have e4 := f_sum_add (f_s2 f) (f_s4 f) 144
  omega
/-- presses: a place is deeper than 0 just if it was pressed -/
theorem f_emb_prs {r d p : Int → Int} {left top B : Int} (hr : pD r) (hd : pD d) (h : ∀ q : Int, (0 < d q ↔ 0 < p q) ∧ 0 ≤ p q ∧ p q ≤ B) (hB : 0 ≤ B) (hB2 : B ≤ 100000) : ∀ n : Nat, n ≤ 25 → ∀ q : Int, (0 < f_emb r left top d n q ↔ 0 < f_prs r left top p n q) ∧ 0 ≤ f_prs r left top p n q ∧ f_prs r left top p n q ≤ B + n := by
  intro n
  induction n with
  | zero => intro _ q; have := h q; exact ⟨this.1, this.2.1, by show p q ≤ B + ((0 : Nat) : Int); omega⟩
  | succ n ih =>
    intro hn q
    have ih := ih (by omega)
    rw [f_emb, f_prs]
    by_cases h9 : 0 < r n ∧ f_pu n left top ≠ -1
    · rw [if_pos h9, if_pos h9]
      try dsimp only
      have h1 := ih (f_pu n left top)
      have h2 := f_emb_D hr hd left top n (f_pu n left top)
      have h3 := ih q
      have h4 : wr (f_prs r left top p n (f_pu n left top) + 1) = f_prs r left top p n (f_pu n left top) + 1 := wr_of (by omega) (by omega)
      by_cases hq : q = f_pu n left top
      · rw [if_pos hq, if_pos hq, h4]
        omega
      · rw [if_neg hq, if_neg hq]
        omega
    · rw [if_neg h9, if_neg h9]
      have h3 := ih q
      omega
theorem f_stk_b {st r f : Int → Int} {left top : Int} (hs : 0 ≤ st 10 ∧ st 10 ≤ 9) (hf : ∀ q : Int, 0 ≤ f q ∧ f q ≤ 9) : ∀ (n : Nat) (q : Int), 0 ≤ f_stk st r left top f n q ∧ f_stk st r left top f n q ≤ 9 := by
  intro n
  induction n with
  | zero => exact hf
  | succ n ih =>
    intro q
    have h1 := ih q
    rw [f_stk]
    split
    · dsimp only
      split <;> omega
    · exact h1
theorem f_stk_cg {s1 s2 r f : Int → Int} {left top : Int} (h : ∀ k : Int, 10 ≤ k → k ≤ 14 → s1 k = s2 k) : ∀ n : Nat, f_stk s1 r left top f n = f_stk s2 r left top f n := by
  intro n
  induction n with
  | zero => rfl
  | succ n ih =>
    have e10 := h 10 (by decide) (by decide)
    have e9 : f_ov s1 (f_pu n left top) ↔ f_ov s2 (f_pu n left top) := by
      unfold f_ov
      rw [e10, h 11 (by decide) (by decide), h 12 (by decide) (by decide), h 13 (by decide) (by decide), h 14 (by decide) (by decide)]
    rw [f_stk, f_stk, ih]
    by_cases h9 : 0 < r n ∧ f_pu n left top ≠ -1 ∧ f_ov s1 (f_pu n left top)
    · rw [if_pos h9, if_pos ⟨h9.1, h9.2.1, e9.mp h9.2.2⟩, e10]
    · rw [if_neg h9, if_neg (fun z => h9 ⟨z.1, z.2.1, e9.mpr z.2.2⟩)]
end
section
/-! A STATE as one value, and what each undoable call makes of it -/
/-- depths, foils, cracks, pressings, points, settings, and the numbers by the places of the class's fields, 3 to 14 -/
abbrev sT : Type := (Int → Int) × (Int → Int) × (Int → Int) × (Int → Int) × (Int → Int) × (Int → Int) × (Int → Int)
abbrev s_d (S : sT) : Int → Int := S.1
abbrev s_f (S : sT) : Int → Int := S.2.1
abbrev s_c (S : sT) : Int → Int := S.2.2.1
abbrev s_p (S : sT) : Int → Int := S.2.2.2.1
abbrev s_q (S : sT) : Int → Int := S.2.2.2.2.1
abbrev s_t (S : sT) : Int → Int := S.2.2.2.2.2.1
abbrev s_n (S : sT) : Int → Int := S.2.2.2.2.2.2
def pn (f : Int → Int) : Int → Int := fun k => if 3 ≤ k ∧ k ≤ 14 then f k else 0
theorem pn_in (f : Int → Int) {k : Int} (h0 : 3 ≤ k) (h1 : k ≤ 14) : pn f k = f k := if_pos ⟨h0, h1⟩
theorem pn_cg {f g : Int → Int} (h : ∀ k : Int, 3 ≤ k → k ≤ 14 → f k = g k) : pn f = pn g := by
  funext k
  unfold pn
  by_cases h9 : 3 ≤ k ∧ k ≤ 14
  · rw [if_pos h9, if_pos h9, h k h9.1 h9.2]
  · rw [if_neg h9, if_neg h9]
theorem pn_pn (f : Int → Int) : pn (pn f) = pn f := pn_cg fun _ h0 h1 => pn_in f h0 h1
/-- state j of the world -/
def sj (M : ewM) (j : Nat) : sT := (M (5 * j + 1), M (5 * j + 2), M (5 * j + 3), M (5 * j + 4), M (50 + 3 * j + 1), M (50 + 3 * j + 2), pn (M (50 + 3 * j)))
theorem sj_mk {M : ewM} {d f c p q t n : Int → Int} (h1 : M 1 = d) (h2 : M 2 = f) (h3 : M 3 = c) (h4 : M 4 = p) (h5 : M 51 = q) (h6 : M 52 = t) (h7 : ∀ k : Int, 3 ≤ k → k ≤ 14 → M 50 k = n k) : sj M 0 = (d, f, c, p, q, t, pn n) := by
  show (M 1, M 2, M 3, M 4, M 51, M 52, pn (M 50)) = _
  rw [h1, h2, h3, h4, h5, h6, pn_cg h7]
theorem sj_cg {M N : ewM} {i j : Nat} (h1 : ∀ r, 1 ≤ r → r ≤ 4 → M (5 * i + r) = N (5 * j + r)) (h5 : M (50 + 3 * i + 1) = N (50 + 3 * j + 1)) (h6 : M (50 + 3 * i + 2) = N (50 + 3 * j + 2)) (h7 : ∀ k : Int, 3 ≤ k → k ≤ 14 → M (50 + 3 * i) k = N (50 + 3 * j) k) : sj M i = sj N j := by
  unfold sj
  rw [h1 1 (by decide) (by decide), h1 2 (by decide) (by decide), h1 3 (by decide) (by decide), h1 4 (by decide) (by decide), h5, h6, pn_cg h7]
/-- the other states, and how many are saved, behind a call that saved the present one -/
def svd (M M1 : ewM) : Prop := M1 77 4 = rg_o M ∧ M1 77 5 = rg_n M + 1 ∧ ∀ j : Nat, 1 ≤ j → j < 9 → sj M1 j = if (j : Int) = 3 + (rg_o M + rg_n M) % 6 then sj M 0 else sj M j
theorem svd_of {M N M1 : ewM} (q4 : 0 ≤ M 77 4 ∧ M 77 4 ≤ 5) (q5 : 0 ≤ M 77 5 ∧ M 77 5 ≤ 6) (h : svc M N) (hk : ∀ o : Nat, (o < 1 ∨ 4 < o) → (o < 50 ∨ 52 < o) → (o < 83 ∨ 87 < o) → M1 o = N o) : svd M M1 := by
  have hb := rg_b q4 q5
  obtain ⟨jj, hjj⟩ : ∃ jj : Nat, (jj : Int) = 3 + (rg_o M + rg_n M) % 6 := ⟨(3 + (rg_o M + rg_n M) % 6).toNat, by omega⟩
  obtain ⟨c1, c2, c3, c4, c5⟩ := h.2 jj hjj
  refine ⟨?_, ?_, fun j j1 j9 => ?_⟩
  · rw [hk 77 (by omega) (by omega) (by omega), h.1 4, if_pos rfl]
  · rw [hk 77 (by omega) (by omega) (by omega), h.1 5, if_neg (by decide), if_pos rfl]
  · by_cases he : j = jj
    · subst he
      rw [if_pos hjj]
      refine sj_cg (fun r r0 r1 => ?_) ?_ ?_ (fun k k0 k1 => ?_)
      · rw [hk _ (by omega) (by omega) (by omega), c3 r r0 r1, show 5 * 0 + r = r by omega]
      · rw [hk _ (by omega) (by omega) (by omega), c1]
      · rw [hk _ (by omega) (by omega) (by omega), c2]
      · rw [hk _ (by omega) (by omega) (by omega), c4 k k0 k1]
    · rw [if_neg (by omega)]
      refine sj_cg (fun r r0 r1 => ?_) ?_ ?_ (fun k k0 k1 => ?_)
      · rw [hk _ (by omega) (by omega) (by omega), c5 _ (by omega) (by omega) (by omega)]
      · rw [hk _ (by omega) (by omega) (by omega), c5 _ (by omega) (by omega) (by omega)]
      · rw [hk _ (by omega) (by omega) (by omega), c5 _ (by omega) (by omega) (by omega)]
      · rw [hk _ (by omega) (by omega) (by omega), c5 _ (by omega) (by omega) (by omega)]
/-- a call that saved the present state: its answer, the new state -/
def opP (M : ewM) (r : Int × sT) (v : Option Value) (M1 : ewM) : Prop := v = some (vI r.1) ∧ sj M1 0 = r.2 ∧ svd M M1
def o_sheet (S : sT) : Int × sT := (f_sum (s_c S) 144, fun _ => 0, fun _ => 0, fun _ => 0, fun _ => 0, s_q S, s_t S, pn (fun k => if k = 3 ∨ k = 5 ∨ k = 10 then 0 else if k = 8 then wr (s_n S 8 + 1) else s_n S k))
def o_pin (S : sT) : Int × sT := (s_n S 3, s_d S, s_f S, s_c S, s_p S, s_q S, s_t S, pn (fun k => if k = 5 then 0 else if k = 3 then 0 else s_n S k))
def o_foil (f x y u w : Int) (S : sT) : Int × sT := ((u - x + 1) * (w - y + 1), s_d S, s_f S, s_c S, s_p S, s_q S, s_t S, pn (fun k => if k = 14 then w else if k = 13 then u else if k = 12 then y else if k = 11 then x else if k = 10 then f else s_n S k))
def o_fold (r : Int) (S : sT) : Int × sT := (f_fc (s_d S) (s_c S) r (s_t S 0) (s_t S 1), s_d S, s_f S, f_it (s_d S) (s_t S 0) (s_t S 1) (f_brk (f_ovf (s_d S) (s_c S) r (s_t S 0) (s_t S 1)) (s_c S)) 144, s_p S, s_q S, s_t S, pn (fun k => if k = 7 then wr (s_n S 7 + f_fc (s_d S) (s_c S) r (s_t S 0) (s_t S 1)) else if k = 9 then wr (s_n S 9 + 1) else s_n S k))
def o_set (a x : Int) (S : sT) : Int × sT := (s_t S a, s_d S, s_f S, s_c S, s_p S, s_q S, fun b => if b = a then x else s_t S b, pn (s_n S))
def f_cq (d q : Int → Int) (a x y : Int) : Int → Int := fun k => if a * 25 ≤ k ∧ k < a * 25 + 25 then f_cw d x y (k - a * 25) else q k
def o_cast (a x y : Int) (S : sT) : Int × sT := (f_sum (fun k => if 0 < f_cq (s_d S) (s_q S) a x y (a * 25 + k) then 1 else 0) 25, s_d S, s_f S, s_c S, s_p S, f_cq (s_d S) (s_q S) a x y, s_t S, pn (s_n S))
def o_point (a x y dd : Int) (S : sT) : Int × sT := (s_q S (a * 25 + y * 5 + x), s_d S, s_f S, s_c S, s_p S, fun b => if b = a * 25 + y * 5 + x then dd else s_q S b, s_t S, pn (s_n S))
/-- why a press is refused -/
def f_why (a x y t : Int) (S : sT) : Int := f_rsn (f_rel (s_q S) a t) (x + s_n S 3) y (s_t S 2)
/-- the depths behind a press, what it cracks -/
def f_pd (a x y t : Int) (S : sT) : Int → Int := f_emb (f_rel (s_q S) a t) (x + s_n S 3) y (s_d S) 25
def f_pk (a x y t : Int) (S : sT) : Int := f_cks (f_rel (s_q S) a t) (x + s_n S 3) y (s_d S) (s_c S) (s_t S 0) (s_t S 1)
def o_press (a x y t : Int) (S : sT) : Int × sT :=
  if f_why a x y t S = 0 then (100 + f_pk a x y t S, f_pd a x y t S, f_stk (s_n S) (f_rel (s_q S) a t) (x + s_n S 3) y (s_f S) 25, f_it (f_pd a x y t S) (s_t S 0) (s_t S 1) (s_c S) 144, f_prs (f_rel (s_q S) a t) (x + s_n S 3) y (s_p S) 25, s_q S, s_t S,
    pn (fun k => if k = 3 then f_sl (s_t S 3) (wr (s_n S 5 + 1)) (s_n S 3) else if k = 4 then wr (s_n S 4 + 1) else if k = 5 then wr (s_n S 5 + 1) else if k = 7 then wr (s_n S 7 + f_pk a x y t S) else if k = 10 then 0 else s_n S k))
  else (f_why a x y t S, s_d S, s_f S, s_c S, s_p S, s_q S, s_t S, pn (fun k => if k = 6 then wr (s_n S 6 + 1) else s_n S k))
section OPS
variable {M M1 : ewM} {v : Option Value}
theorem op_sheet (q4 : 0 ≤ M 77 4 ∧ M 77 4 ≤ 5) (q5 : 0 ≤ M 77 5 ∧ M 77 5 ≤ 6) (g : ∃ N : ewM, svc M N ∧ v = some (vI (f_sum (M 3) 144)) ∧ (∀ r, 1 ≤ r → r ≤ 4 → M1 r = fun _ => 0) ∧ (∀ k : Int, M1 50 k = if k = 3 ∨ k = 5 ∨ k = 10 then 0 else if k = 8 then wr (M 50 8 + 1) else M 50 k) ∧ ∀ o, (o < 1 ∨ 4 < o) → o ≠ 50 → M1 o = N o) : opP M (o_sheet (sj M 0)) v M1 := by
  obtain ⟨N, hs, rfl, g1, g2, g3⟩ := g
  refine ⟨rfl, sj_mk (g1 1 (by decide) (by decide)) (g1 2 (by decide) (by decide)) (g1 3 (by decide) (by decide)) (g1 4 (by decide) (by decide)) ((g3 51 (by omega) (by decide)).trans (svc_o hs 51 (by omega))) ((g3 52 (by omega) (by decide)).trans (svc_o hs 52 (by omega))) (fun k k0 k1 => ?_), svd_of q4 q5 hs (fun o o1 o2 o3 => g3 o o1 (by omega))⟩
  rw [g2 k]
  show _ = if k = 3 ∨ k = 5 ∨ k = 10 then 0 else if k = 8 then wr (pn (M 50) 8 + 1) else pn (M 50) k
  rw [pn_in _ k0 k1, pn_in (M 50) (k := 8) (by decide) (by decide)]
theorem op_pin (q4 : 0 ≤ M 77 4 ∧ M 77 4 ≤ 5) (q5 : 0 ≤ M 77 5 ∧ M 77 5 ≤ 6) (g : ∃ N : ewM, svc M N ∧ v = some (vI (M 50 3)) ∧ M1 = mu (mu N 50 3 0) 50 5 0) : opP M (o_pin (sj M 0)) v M1 := by
  obtain ⟨N, hs, rfl, rfl⟩ := g
  have e : ∀ o : Nat, o ≠ 50 → mu (mu N 50 3 0) 50 5 0 o = N o := fun o ho => by rw [mu_ne _ _ _ ho, mu_ne _ _ _ ho]
  refine ⟨rfl, sj_mk ((e 1 (by decide)).trans (svc_o hs 1 (by omega))) ((e 2 (by decide)).trans (svc_o hs 2 (by omega))) ((e 3 (by decide)).trans (svc_o hs 3 (by omega))) ((e 4 (by decide)).trans (svc_o hs 4 (by omega))) ((e 51 (by decide)).trans (svc_o hs 51 (by omega))) ((e 52 (by decide)).trans (svc_o hs 52 (by omega))) (fun k k0 k1 => ?_), svd_of q4 q5 hs (fun o o1 o2 o3 => e o (by omega))⟩
  show _ = if k = 5 then 0 else if k = 3 then 0 else pn (M 50) k
  rw [pn_in _ k0 k1]
  have z := congrFun (svc_o hs 50 (by omega)) k
  rw [mu_at, mu_at]
  dsimp only
  rw [z]
theorem op_foil {f x y u w : Int} (q4 : 0 ≤ M 77 4 ∧ M 77 4 ≤ 5) (q5 : 0 ≤ M 77 5 ∧ M 77 5 ≤ 6) (g : ∃ N : ewM, svc M N ∧ v = some (vI ((u - x + 1) * (w - y + 1))) ∧ M1 = mu (mu (mu (mu (mu N 50 10 f) 50 11 x) 50 12 y) 50 13 u) 50 14 w) : opP M (o_foil f x y u w (sj M 0)) v M1 := by
  obtain ⟨N, hs, rfl, rfl⟩ := g
  have e : ∀ o : Nat, o ≠ 50 → mu (mu (mu (mu (mu N 50 10 f) 50 11 x) 50 12 y) 50 13 u) 50 14 w o = N o := fun o ho => by rw [mu_ne _ _ _ ho, mu_ne _ _ _ ho, mu_ne _ _ _ ho, mu_ne _ _ _ ho, mu_ne _ _ _ ho]
  refine ⟨rfl, sj_mk ((e 1 (by decide)).trans (svc_o hs 1 (by omega))) ((e 2 (by decide)).trans (svc_o hs 2 (by omega))) ((e 3 (by decide)).trans (svc_o hs 3 (by omega))) ((e 4 (by decide)).trans (svc_o hs 4 (by omega))) ((e 51 (by decide)).trans (svc_o hs 51 (by omega))) ((e 52 (by decide)).trans (svc_o hs 52 (by omega))) (fun k k0 k1 => ?_), svd_of q4 q5 hs (fun o o1 o2 o3 => e o (by omega))⟩
  show _ = if k = 14 then w else if k = 13 then u else if k = 12 then y else if k = 11 then x else if k = 10 then f else pn (M 50) k
  rw [pn_in _ k0 k1]
  have z := congrFun (svc_o hs 50 (by omega)) k
  rw [mu_at, mu_at, mu_at, mu_at, mu_at]
  dsimp only
  rw [z]
theorem op_fold {r : Int} (q4 : 0 ≤ M 77 4 ∧ M 77 4 ≤ 5) (q5 : 0 ≤ M 77 5 ∧ M 77 5 ≤ 6) (g : ∃ N : ewM, svc M N ∧ v = some (vI (f_fc (M 1) (M 3) r (M 52 0) (M 52 1))) ∧ M1 3 = f_it (M 1) (M 52 0) (M 52 1) (f_brk (f_ovf (M 1) (M 3) r (M 52 0) (M 52 1)) (M 3)) 144 ∧ (∀ k : Int, M1 50 k = if k = 7 then wr (M 50 7 + f_fc (M 1) (M 3) r (M 52 0) (M 52 1)) else if k = 9 then wr (M 50 9 + 1) else M 50 k) ∧ ∀ o, o ≠ 3 → o ≠ 50 → (o < 84 ∨ 87 < o) → M1 o = N o) : opP M (o_fold r (sj M 0)) v M1 := by
  obtain ⟨N, hs, rfl, g1, g2, g3⟩ := g
  have e : ∀ o : Nat, o ≠ 3 → o ≠ 50 → o ≤ 52 → (o ≤ 15 ∨ 45 ≤ o) → M1 o = M o := fun o o1 o2 o3 o4 => (g3 o o1 o2 (by omega)).trans (svc_o hs o (by omega))
  refine ⟨rfl, sj_mk (e 1 (by decide) (by decide) (by decide) (by decide)) (e 2 (by decide) (by decide) (by decide) (by decide)) g1 (e 4 (by decide) (by decide) (by decide) (by decide)) (e 51 (by decide) (by decide) (by decide) (by decide)) (e 52 (by decide) (by decide) (by decide) (by decide)) (fun k k0 k1 => ?_), svd_of q4 q5 hs (fun o o1 o2 o3 => g3 o (by omega) (by omega) (by omega))⟩
  rw [g2 k]
  show _ = if k = 7 then wr (pn (M 50) 7 + f_fc (M 1) (M 3) r (M 52 0) (M 52 1)) else if k = 9 then wr (pn (M 50) 9 + 1) else pn (M 50) k
  rw [pn_in _ k0 k1, pn_in (M 50) (k := 7) (by decide) (by decide), pn_in (M 50) (k := 9) (by decide) (by decide)]
theorem op_set {a x : Int} (q4 : 0 ≤ M 77 4 ∧ M 77 4 ≤ 5) (q5 : 0 ≤ M 77 5 ∧ M 77 5 ≤ 6) (g : ∃ N : ewM, svc M N ∧ v = some (vI (M 52 a)) ∧ M1 = mu N 52 a x) : opP M (o_set a x (sj M 0)) v M1 := by
  obtain ⟨N, hs, rfl, rfl⟩ := g
  have e : ∀ o : Nat, o ≠ 52 → mu N 52 a x o = N o := fun o ho => mu_ne _ _ _ ho
  refine ⟨rfl, sj_mk ((e 1 (by decide)).trans (svc_o hs 1 (by omega))) ((e 2 (by decide)).trans (svc_o hs 2 (by omega))) ((e 3 (by decide)).trans (svc_o hs 3 (by omega))) ((e 4 (by decide)).trans (svc_o hs 4 (by omega))) ((e 51 (by decide)).trans (svc_o hs 51 (by omega))) (by rw [mu_at, svc_o hs 52 (by omega)]; rfl) (fun k k0 k1 => ?_), svd_of q4 q5 hs (fun o o1 o2 o3 => e o (by omega))⟩
  show _ = pn (M 50) k
  rw [pn_in _ k0 k1, e 50 (by decide), svc_o hs 50 (by omega)]
theorem op_point {a x y dd : Int} (q4 : 0 ≤ M 77 4 ∧ M 77 4 ≤ 5) (q5 : 0 ≤ M 77 5 ∧ M 77 5 ≤ 6) (g : ∃ N : ewM, svc M N ∧ v = some (vI (M 51 (a * 25 + y * 5 + x))) ∧ M1 = mu N 51 (a * 25 + y * 5 + x) dd) : opP M (o_point a x y dd (sj M 0)) v M1 := by
  obtain ⟨N, hs, rfl, rfl⟩ := g
  have e : ∀ o : Nat, o ≠ 51 → mu N 51 (a * 25 + y * 5 + x) dd o = N o := fun o ho => mu_ne _ _ _ ho
  refine ⟨rfl, sj_mk ((e 1 (by decide)).trans (svc_o hs 1 (by omega))) ((e 2 (by decide)).trans (svc_o hs 2 (by omega))) ((e 3 (by decide)).trans (svc_o hs 3 (by omega))) ((e 4 (by decide)).trans (svc_o hs 4 (by omega))) (by rw [mu_at, svc_o hs 51 (by omega)]; rfl) ((e 52 (by decide)).trans (svc_o hs 52 (by omega))) (fun k k0 k1 => ?_), svd_of q4 q5 hs (fun o o1 o2 o3 => e o (by omega))⟩
  show _ = pn (M 50) k
  rw [pn_in _ k0 k1, e 50 (by decide), svc_o hs 50 (by omega)]
theorem op_cast {a x y : Int} (q4 : 0 ≤ M 77 4 ∧ M 77 4 ≤ 5) (q5 : 0 ≤ M 77 5 ∧ M 77 5 ≤ 6) (g : ∃ N : ewM, svc M N ∧ v = some (vI (f_sum (fun q => if 0 < M1 51 (a * 25 + q) then 1 else 0) 25)) ∧ (∀ q : Int, M1 51 q = if a * 25 ≤ q ∧ q < a * 25 + 25 then f_cw (M 1) x y (q - a * 25) else M 51 q) ∧ ∀ o, o ≠ 51 → M1 o = N o) : opP M (o_cast a x y (sj M 0)) v M1 := by
  obtain ⟨N, hs, rfl, g1, g2⟩ := g
  have e51 : M1 51 = f_cq (M 1) (M 51) a x y := funext g1
  rw [e51]
  refine ⟨rfl, sj_mk ((g2 1 (by decide)).trans (svc_o hs 1 (by omega))) ((g2 2 (by decide)).trans (svc_o hs 2 (by omega))) ((g2 3 (by decide)).trans (svc_o hs 3 (by omega))) ((g2 4 (by decide)).trans (svc_o hs 4 (by omega))) e51 ((g2 52 (by decide)).trans (svc_o hs 52 (by omega))) (fun k k0 k1 => ?_), svd_of q4 q5 hs (fun o o1 o2 o3 => g2 o (by omega))⟩
  show _ = pn (M 50) k
  rw [pn_in _ k0 k1, g2 50 (by decide), svc_o hs 50 (by omega)]
end OPS
end
section
/-! THE SAME for a press, an undo; what the law tells of a state -/
section OPS2
variable {M M1 : ewM} {v : Option Value}
theorem op_press {a x y t : Int} (q4 : 0 ≤ M 77 4 ∧ M 77 4 ≤ 5) (q5 : 0 ≤ M 77 5 ∧ M 77 5 ≤ 6) (g : ∃ N : ewM, svc M N ∧ ((0 < f_rsn (f_rel (M 51) a t) (x + M 50 3) y (M 52 2) ∧ v = some (vI (f_rsn (f_rel (M 51) a t) (x + M 50 3) y (M 52 2))) ∧ (∀ k : Int, M1 50 k = if k = 6 then wr (M 50 6 + 1) else M 50 k) ∧ ∀ o, o ≠ 50 → o ≠ 83 → M1 o = N o) ∨ (f_rsn (f_rel (M 51) a t) (x + M 50 3) y (M 52 2) = 0 ∧ v = some (vI (100 + f_cks (f_rel (M 51) a t) (x + M 50 3) y (M 1) (M 3) (M 52 0) (M 52 1))) ∧ M1 1 = f_emb (f_rel (M 51) a t) (x + M 50 3) y (M 1) 25 ∧ M1 2 = f_stk (M 50) (f_rel (M 51) a t) (x + M 50 3) y (M 2) 25 ∧ M1 3 = f_it (f_emb (f_rel (M 51) a t) (x + M 50 3) y (M 1) 25) (M 52 0) (M 52 1) (M 3) 144 ∧ M1 4 = f_prs (f_rel (M 51) a t) (x + M 50 3) y (M 4) 25 ∧ (∀ k : Int, M1 50 k = if k = 3 then f_sl (M 52 3) (wr (M 50 5 + 1)) (M 50 3) else if k = 4 then wr (M 50 4 + 1) else if k = 5 then wr (M 50 5 + 1) else if k = 7 then wr (M 50 7 + f_cks (f_rel (M 51) a t) (x + M 50 3) y (M 1) (M 3) (M 52 0) (M 52 1)) else if k = 10 then 0 else M 50 k) ∧ ∀ o, o ≠ 1 → o ≠ 2 → o ≠ 3 → o ≠ 4 → o ≠ 50 → o ≠ 83 → (o < 84 ∨ 87 < o) → M1 o = N o))) : opP M (o_press a x y t (sj M 0)) v M1 := by
  obtain ⟨N, hs, g⟩ := g
  have n3 : s_n (sj M 0) 3 = M 50 3 := pn_in (M 50) (k := 3) (by decide) (by decide)
  have n4 : s_n (sj M 0) 4 = M 50 4 := pn_in (M 50) (k := 4) (by decide) (by decide)
  have n5 : s_n (sj M 0) 5 = M 50 5 := pn_in (M 50) (k := 5) (by decide) (by decide)
  have n6 : s_n (sj M 0) 6 = M 50 6 := pn_in (M 50) (k := 6) (by decide) (by decide)
  have n7 : s_n (sj M 0) 7 = M 50 7 := pn_in (M 50) (k := 7) (by decide) (by decide)
  have hw : f_why a x y t (sj M 0) = f_rsn (f_rel (M 51) a t) (x + M 50 3) y (M 52 2) := by unfold f_why; rw [n3]; rfl
  have hk : f_pk a x y t (sj M 0) = f_cks (f_rel (M 51) a t) (x + M 50 3) y (M 1) (M 3) (M 52 0) (M 52 1) := by unfold f_pk; rw [n3]; rfl
  have hd : f_pd a x y t (sj M 0) = f_emb (f_rel (M 51) a t) (x + M 50 3) y (M 1) 25 := by unfold f_pd; rw [n3]; rfl
  unfold o_press
  rcases g with ⟨h0, rfl, g1, g2⟩ | ⟨h0, rfl, g1, g2, g3, g4, g5, g6⟩
  · have e : ∀ o : Nat, o ≠ 50 → o ≤ 52 → (o ≤ 15 ∨ 45 ≤ o) → M1 o = M o := fun o o1 o2 o3 => (g2 o o1 (by omega)).trans (svc_o hs o (by omega))
    rw [if_neg (by rw [hw]; omega)]
    refine ⟨by rw [hw], sj_mk (e 1 (by decide) (by decide) (by decide)) (e 2 (by decide) (by decide) (by decide)) (e 3 (by decide) (by decide) (by decide)) (e 4 (by decide) (by decide) (by decide)) (e 51 (by decide) (by decide) (by decide)) (e 52 (by decide) (by decide) (by decide)) (fun k k0 k1 => ?_), svd_of q4 q5 hs (fun o o1 o2 o3 => g2 o (by omega) (by omega))⟩
    rw [g1 k, n6]
    show _ = if k = 6 then wr (M 50 6 + 1) else pn (M 50) k
    rw [pn_in _ k0 k1]
  · have e : ∀ o : Nat, o = 51 ∨ o = 52 → M1 o = M o := fun o o1 => (g6 o (by omega) (by omega) (by omega) (by omega) (by omega) (by omega) (by omega)).trans (svc_o hs o (by omega))
    rw [if_pos (by rw [hw]; exact h0)]
    refine ⟨by rw [hk], sj_mk (g1.trans hd.symm) (g2.trans ?_) (g3.trans (by rw [hd]; rfl)) (g4.trans (by rw [n3]; rfl)) (e 51 (by decide)) (e 52 (by decide)) (fun k k0 k1 => ?_), svd_of q4 q5 hs (fun o o1 o2 o3 => g6 o (by omega) (by omega) (by omega) (by omega) (by omega) (by omega) (by omega))⟩
    · rw [n3]
      exact f_stk_cg (fun k k0 k1 => (pn_in (M 50) (by omega) k1).symm) 25
    · rw [g5 k, n3, n4, n5, n7, hk]
      show _ = if k = 3 then f_sl (M 52 3) (wr (M 50 5 + 1)) (M 50 3) else if k = 4 then wr (M 50 4 + 1) else if k = 5 then wr (M 50 5 + 1) else if k = 7 then wr (M 50 7 + f_cks (f_rel (M 51) a t) (x + M 50 3) y (M 1) (M 3) (M 52 0) (M 52 1)) else if k = 10 then 0 else pn (M 50) k
      rw [pn_in _ k0 k1]
/-- behind an undo -/
def und (M M1 : ewM) : Prop := M1 77 4 = M 77 4 ∧ M1 77 5 = M 77 5 - 1 ∧ (∀ j : Nat, (j : Int) = 3 + (M 77 4 + (M 77 5 - 1)) % 6 → sj M1 0 = sj M j) ∧ ∀ j : Nat, 1 ≤ j → j < 9 → sj M1 j = sj M j
theorem op_undo (q4 : 0 ≤ M 77 4 ∧ M 77 4 ≤ 5) (q5 : 0 ≤ M 77 5 ∧ M 77 5 ≤ 6) (g : ∀ j : Nat, (j : Int) = 3 + (M 77 4 + (M 77 5 - 1)) % 6 → cpS M j M1 0 ∧ M1 77 = (mu M 77 5 (M 77 5 - 1)) 77 ∧ ∀ o, o ≠ 77 → (o < 1 ∨ 4 < o) → (o < 50 ∨ 52 < o) → M1 o = M o) : und M M1 := by
  obtain ⟨jj, hjj⟩ : ∃ jj : Nat, (jj : Int) = 3 + (M 77 4 + (M 77 5 - 1)) % 6 := ⟨(3 + (M 77 4 + (M 77 5 - 1)) % 6).toNat, by omega⟩
  obtain ⟨⟨c1, c2, c3, c4⟩, g1, g2⟩ := g jj hjj
  refine ⟨?_, ?_, fun j hj => ?_, fun j j1 j9 => ?_⟩
  · rw [g1, mu_nk _ _ _ (by decide)]
  · rw [g1, mu_eq]
  · have e9 : j = jj := by omega
    rw [e9]
    exact sj_cg (fun r r0 r1 => by rw [show 5 * 0 + r = r by omega]; rw [← c3 r r0 r1, show 5 * 0 + r = r by omega]) c1 c2 c4
  · refine sj_cg (fun r r0 r1 => ?_) ?_ ?_ (fun k k0 k1 => ?_)
    · rw [g2 _ (by omega) (by omega) (by omega)]
    · rw [g2 _ (by omega) (by omega) (by omega)]
    · rw [g2 _ (by omega) (by omega) (by omega)]
    · rw [g2 _ (by omega) (by omega) (by omega)]
end OPS2
/-- what the law tells of a place, of the dies -/
def f_tw (q : Int) : Int := if q % 4 = 3 then 6 else q % 4
/-- the law's hash of the present state -/
def f_told (M : ewM) : Int := f_h (fun q => f_prop M (q / 4) (f_tw q)) 576 (f_h (fun k => f_tp (M 51) (k / 25) (k % 5) (k / 5 % 5) 0) 75 (f_h (f_num M) 13 3))
theorem f_told_cg {M N : ewM} (h : sj M 0 = sj N 0) : f_told M = f_told N := by
  have e1 : M 1 = N 1 := congrArg s_d h
  have e2 : M 2 = N 2 := congrArg s_f h
  have e3 : M 3 = N 3 := congrArg s_c h
  have e4 : M 4 = N 4 := congrArg s_p h
  have e5 : M 51 = N 51 := congrArg s_q h
  have e7 : pn (M 50) = pn (N 50) := congrArg s_n h
  have e8 : ∀ k : Int, 3 ≤ k → k ≤ 14 → M 50 k = N 50 k := fun k k0 k1 => by rw [← pn_in (M 50) k0 k1, ← pn_in (N 50) k0 k1, e7]
  unfold f_told
  rw [e5, f_h_cg (f := f_num M) (g := f_num N) 13 (fun w w0 w1 => ?_), f_h_cg (f := fun q => f_prop M (q / 4) (f_tw q)) (g := fun q => f_prop N (q / 4) (f_tw q)) 576 (fun q q0 q1 => ?_)]
  · have hw : f_tw q = 0 ∨ f_tw q = 1 ∨ f_tw q = 2 ∨ f_tw q = 6 := by unfold f_tw; split <;> omega
    generalize f_tw q = w at hw
    rcases hw with rfl | rfl | rfl | rfl
    · show M 1 _ = N 1 _; rw [e1]
    · show M 2 _ = N 2 _; rw [e2]
    · show M 3 _ = N 3 _; rw [e3]
    · show M 4 _ = N 4 _; rw [e4]
  · have w1 : w < 13 := w1
    rcases (show w = 0 ∨ w = 1 ∨ w = 2 ∨ w = 3 ∨ w = 4 ∨ w = 5 ∨ w = 6 ∨ w = 7 ∨ w = 8 ∨ w = 9 ∨ w = 10 ∨ w = 11 ∨ w = 12 by omega) with rfl | rfl | rfl | rfl | rfl | rfl | rfl | rfl | rfl | rfl | rfl | rfl | rfl
    · exact e8 4 (by decide) (by decide)
    · exact e8 5 (by decide) (by decide)
    · exact e8 3 (by decide) (by decide)
    · exact e8 6 (by decide) (by decide)
    · show f_sum (M 3) 144 = f_sum (N 3) 144; rw [e3]
    · show f_max (M 1) 144 = f_max (N 1) 144; rw [e1]
    · show f_sum (f_str (M 1)) 144 = f_sum (f_str (N 1)) 144; rw [e1]
    · show 2 * f_sum (fun q => f_s2 (M 1) q + f_s4 (M 1) q) 144 = 2 * f_sum (fun q => f_s2 (N 1) q + f_s4 (N 1) q) 144; rw [e1]
    · show f_sum (fun q => if M 2 q = 0 then 0 else 1) 144 = f_sum (fun q => if N 2 q = 0 then 0 else 1) 144; rw [e2]
    · exact e8 10 (by decide) (by decide)
    · exact e8 7 (by decide) (by decide)
    · exact e8 8 (by decide) (by decide)
    · exact e8 9 (by decide) (by decide)
end
section
/-! THE INVARIANT of a state, behind at most K calls -/
def SI (K : Int) (S : sT) : Prop := pD (s_d S) ∧ pC (s_c S) ∧ pD (s_q S) ∧ (0 ≤ s_t S 0 ∧ s_t S 0 ≤ 99) ∧ (0 ≤ s_t S 1 ∧ s_t S 1 ≤ 20) ∧ (1 ≤ s_t S 2 ∧ s_t S 2 ≤ 9) ∧ (0 ≤ s_t S 3 ∧ s_t S 3 ≤ 9) ∧ (0 ≤ s_n S 3 ∧ s_n S 3 ≤ 3) ∧
  (∀ q : Int, (0 < s_d S q ↔ 0 < s_p S q) ∧ 0 ≤ s_p S q ∧ s_p S q ≤ 25 * K) ∧ (∀ q : Int, 0 ≤ s_f S q ∧ s_f S q ≤ 9) ∧ (0 ≤ s_n S 10 ∧ s_n S 10 ≤ 9) ∧ f_sum (s_c S) 144 ≤ s_n S 7 ∧ s_n S 7 ≤ 144 * K
theorem SI_mono {K K2 : Int} {S : sT} (h : SI K S) (hk : K ≤ K2) : SI K2 S := by
  obtain ⟨a1, a2, a3, a4, a5, a6, a7, a8, a9, a10, a11, a12, a13⟩ := h
  exact ⟨a1, a2, a3, a4, a5, a6, a7, a8, fun q => ⟨(a9 q).1, (a9 q).2.1, by have := (a9 q).2.2; omega⟩, a10, a11, a12, by omega⟩
theorem SI_st0 {K : Int} {M : ewM} (h : SI K (sj M 0)) : st0 M := by
  obtain ⟨a1, a2, a3, a4, a5, a6, a7, a8, -⟩ := h
  have n3 : s_n (sj M 0) 3 = M 50 3 := pn_in (M 50) (k := 3) (by decide) (by decide)
  rw [n3] at a8
  exact ⟨a1, a2, a3, a4, a5, a6, a7, a8⟩
section SIO
variable {K : Int} {S : sT}
theorem SI_sheet (hK : 0 ≤ K ∧ K ≤ 100) (h : SI K S) : SI (K + 1) (o_sheet S).2 := by
  obtain ⟨a1, a2, a3, a4, a5, a6, a7, a8, a9, a10, a11, a12, a13⟩ := h
  have hs := (f_sum_C a2).1
  refine ⟨fun _ => ⟨Int.le_refl _, by show (0 : Int) ≤ 9; decide⟩, fun _ => ⟨Int.le_refl _, by show (0 : Int) ≤ 1; decide⟩, a3, a4, a5, a6, a7, ⟨Int.le_refl _, by show (0 : Int) ≤ 3; decide⟩, fun q => ⟨Iff.rfl, Int.le_refl _, by show (0 : Int) ≤ 25 * (K + 1); omega⟩, fun _ => ⟨Int.le_refl _, by show (0 : Int) ≤ 9; decide⟩, ⟨Int.le_refl _, by show (0 : Int) ≤ 9; decide⟩, ?_, ?_⟩
  · show f_sum (fun _ => 0) 144 ≤ s_n S 7
    rw [f_sum_0]
    omega
  · show s_n S 7 ≤ 144 * (K + 1)
    omega
theorem SI_pin (h : SI K S) : SI (K + 1) (o_pin S).2 := by
  obtain ⟨a1, a2, a3, a4, a5, a6, a7, a8, a9, a10, a11, a12, a13⟩ := SI_mono h (show K ≤ K + 1 by omega)
  exact ⟨a1, a2, a3, a4, a5, a6, a7, ⟨Int.le_refl _, by show (0 : Int) ≤ 3; decide⟩, a9, a10, a11, a12, a13⟩
theorem SI_foil {f x y u w : Int} (hf : 1 ≤ f ∧ f ≤ 9) (h : SI K S) : SI (K + 1) (o_foil f x y u w S).2 := by
  obtain ⟨a1, a2, a3, a4, a5, a6, a7, a8, a9, a10, a11, a12, a13⟩ := SI_mono h (show K ≤ K + 1 by omega)
  exact ⟨a1, a2, a3, a4, a5, a6, a7, a8, a9, a10, ⟨by show 0 ≤ f; omega, by show f ≤ 9; omega⟩, a12, a13⟩
theorem SI_point {a x y dd : Int} (hd : 0 ≤ dd ∧ dd ≤ 9) (h : SI K S) : SI (K + 1) (o_point a x y dd S).2 := by
  obtain ⟨a1, a2, a3, a4, a5, a6, a7, a8, a9, a10, a11, a12, a13⟩ := SI_mono h (show K ≤ K + 1 by omega)
  refine ⟨a1, a2, fun b => ?_, a4, a5, a6, a7, a8, a9, a10, a11, a12, a13⟩
  have := a3 b
  show 0 ≤ (if b = a * 25 + y * 5 + x then dd else s_q S b) ∧ (if b = a * 25 + y * 5 + x then dd else s_q S b) ≤ 9
  split <;> omega
theorem SI_cast {a x y : Int} (h : SI K S) : SI (K + 1) (o_cast a x y S).2 := by
  obtain ⟨a1, a2, a3, a4, a5, a6, a7, a8, a9, a10, a11, a12, a13⟩ := SI_mono h (show K ≤ K + 1 by omega)
  refine ⟨a1, a2, fun b => ?_, a4, a5, a6, a7, a8, a9, a10, a11, a12, a13⟩
  have h1 := a3 b
  have h2 : ∀ k : Int, 0 ≤ f_cw (s_d S) x y k ∧ f_cw (s_d S) x y k ≤ 9 := fun k => by
    unfold f_cw
    have h3 := a1 (f_pl (x + k % 5) (y + k / 5))
    split <;> omega
  have h4 := h2 (b - a * 25)
  show 0 ≤ f_cq (s_d S) (s_q S) a x y b ∧ f_cq (s_d S) (s_q S) a x y b ≤ 9
  unfold f_cq
  split <;> omega
theorem SI_set {a x : Int} (ha : 0 ≤ a ∧ a < 4) (hx : g_least a.toNat ≤ x ∧ x ≤ g_great a.toNat) (h : SI K S) : SI (K + 1) (o_set a x S).2 := by
  obtain ⟨a1, a2, a3, a4, a5, a6, a7, a8, a9, a10, a11, a12, a13⟩ := SI_mono h (show K ≤ K + 1 by omega)
  have e : ∀ b : Int, s_t (o_set a x S).2 b = if b = a then x else s_t S b := fun b => rfl
  refine ⟨a1, a2, a3, ?_, ?_, ?_, ?_, a8, a9, a10, a11, a12, a13⟩
  all_goals
    rw [e]
    rcases (show a = 0 ∨ a = 1 ∨ a = 2 ∨ a = 3 by omega) with rfl | rfl | rfl | rfl
    all_goals
      first
      | (rw [if_neg (by decide)]; assumption)
      | (rw [if_pos rfl]; exact hx)
theorem SI_fold {r : Int} (hK : 0 ≤ K ∧ K ≤ 100) (h : SI K S) : SI (K + 1) (o_fold r S).2 ∧ s_n (o_fold r S).2 7 = s_n S 7 + (o_fold r S).1 ∧ f_set (s_d (o_fold r S).2) (s_c (o_fold r S).2) (s_t (o_fold r S).2 0) (s_t (o_fold r S).2 1) := by
  obtain ⟨a1, a2, a3, a4, a5, a6, a7, a8, a9, a10, a11, a12, a13⟩ := h
  have hs := (f_sum_C a2).1
  have hb := f_fc_b (d := s_d S) (c := s_c S) r (s_t S 0) (s_t S 1) a2
  have hw : s_n (o_fold r S).2 7 = s_n S 7 + (o_fold r S).1 := by
    show wr (s_n S 7 + f_fc (s_d S) (s_c S) r (s_t S 0) (s_t S 1)) = s_n S 7 + f_fc (s_d S) (s_c S) r (s_t S 0) (s_t S 1)
    exact wr_of (by omega) (by omega)
  have h1 : (o_fold r S).1 = f_fc (s_d S) (s_c S) r (s_t S 0) (s_t S 1) := rfl
  have h2 : f_fc (s_d S) (s_c S) r (s_t S 0) (s_t S 1) = f_sum (s_c (o_fold r S).2) 144 - f_sum (s_c S) 144 := rfl
  refine ⟨⟨a1, f_it_C (f_brk_C a2) 144, a3, a4, a5, a6, a7, a8, fun q => ⟨(a9 q).1, (a9 q).2.1, ?_⟩, a10, a11, ?_, ?_⟩, hw, f_it_set (f_brk_C a2)⟩
  · show s_p S q ≤ 25 * (K + 1)
    have := (a9 q).2.2
    omega
  · rw [hw]
    omega
  · rw [hw]
    omega
theorem f_sl_b {e k n : Int} (h : 0 ≤ n ∧ n ≤ 3) : 0 ≤ f_sl e k n ∧ f_sl e k n ≤ 3 := by
  unfold f_sl
  split <;> omega
theorem SI_press {a x y t : Int} (hK : 0 ≤ K ∧ K ≤ 100) (h : SI K S) : SI (K + 1) (o_press a x y t S).2 ∧ (100 ≤ (o_press a x y t S).1 → s_n (o_press a x y t S).2 7 = s_n S 7 + (o_press a x y t S).1 - 100 ∧ s_n (o_press a x y t S).2 10 = 0 ∧ f_set (s_d (o_press a x y t S).2) (s_c (o_press a x y t S).2) (s_t (o_press a x y t S).2 0) (s_t (o_press a x y t S).2 1)) := by
  have hy := f_rsn_b (f_rel (s_q S) a t) (x + s_n S 3) y (s_t S 2)
  by_cases h9 : f_why a x y t S = 0
  · have e : o_press a x y t S = (100 + f_pk a x y t S, f_pd a x y t S, f_stk (s_n S) (f_rel (s_q S) a t) (x + s_n S 3) y (s_f S) 25, f_it (f_pd a x y t S) (s_t S 0) (s_t S 1) (s_c S) 144, f_prs (f_rel (s_q S) a t) (x + s_n S 3) y (s_p S) 25, s_q S, s_t S,
      pn (fun k => if k = 3 then f_sl (s_t S 3) (wr (s_n S 5 + 1)) (s_n S 3) else if k = 4 then wr (s_n S 4 + 1) else if k = 5 then wr (s_n S 5 + 1) else if k = 7 then wr (s_n S 7 + f_pk a x y t S) else if k = 10 then 0 else s_n S k)) := by
      unfold o_press
      rw [if_pos h9]
    rw [e]
    obtain ⟨a1, a2, a3, a4, a5, a6, a7, a8, a9, a10, a11, a12, a13⟩ := h
    have hs := (f_sum_C a2).1
    have hb := f_cks_b (r := f_rel (s_q S) a t) (left := x + s_n S 3) (top := y) (d := s_d S) (b := s_t S 0) (t := s_t S 1) a2
    have h1 : f_pk a x y t S = f_cks (f_rel (s_q S) a t) (x + s_n S 3) y (s_d S) (s_c S) (s_t S 0) (s_t S 1) := rfl
    have h2 : f_pk a x y t S = f_sum (f_it (f_pd a x y t S) (s_t S 0) (s_t S 1) (s_c S) 144) 144 - f_sum (s_c S) 144 := rfl
    have hw : wr (s_n S 7 + f_pk a x y t S) = s_n S 7 + f_pk a x y t S := wr_of (by omega) (by omega)
    have hsl := f_sl_b (e := s_t S 3) (k := wr (s_n S 5 + 1)) a8
    refine ⟨⟨f_emb_D (f_rel_D a3 a t) a1 _ _ 25, f_it_C a2 144, a3, a4, a5, a6, a7, hsl, fun q => ?_, f_stk_b a11 a10 25, ⟨Int.le_refl _, by show (0 : Int) ≤ 9; decide⟩, ?_, ?_⟩, fun _ => ⟨?_, rfl, f_it_set a2⟩⟩
    · have := f_emb_prs (left := x + s_n S 3) (top := y) (f_rel_D a3 a t) a1 a9 (by omega) (by omega) 25 (by decide) q
      refine ⟨this.1, this.2.1, ?_⟩
      show f_prs (f_rel (s_q S) a t) (x + s_n S 3) y (s_p S) 25 q ≤ 25 * (K + 1)
      have := this.2.2
      omega
    · show f_sum (f_it (f_pd a x y t S) (s_t S 0) (s_t S 1) (s_c S) 144) 144 ≤ wr (s_n S 7 + f_pk a x y t S)
      rw [hw]
      omega
    · show wr (s_n S 7 + f_pk a x y t S) ≤ 144 * (K + 1)
      rw [hw]
      omega
    · show wr (s_n S 7 + f_pk a x y t S) = s_n S 7 + (100 + f_pk a x y t S) - 100
      rw [hw]
      omega
  · have e : o_press a x y t S = (f_why a x y t S, s_d S, s_f S, s_c S, s_p S, s_q S, s_t S, pn (fun k => if k = 6 then wr (s_n S 6 + 1) else s_n S k)) := by
      unfold o_press
      rw [if_neg h9]
    rw [e]
    obtain ⟨a1, a2, a3, a4, a5, a6, a7, a8, a9, a10, a11, a12, a13⟩ := SI_mono h (show K ≤ K + 1 by omega)
    refine ⟨⟨a1, a2, a3, a4, a5, a6, a7, a8, a9, a10, a11, a12, a13⟩, fun hh => ?_⟩
    exfalso
    have h3 : f_why a x y t S = f_rsn (f_rel (s_q S) a t) (x + s_n S 3) y (s_t S 2) := rfl
    have hh : 100 ≤ f_why a x y t S := hh
    omega
end SIO
end
section
/-! THE LAW'S OWN METHODS -/
/-- what a setting is set to -/
def f_sv (s w : Int) : Int := if s = 0 then f_lo (i_shr w 2) 100 else if s = 1 then f_lo (i_shr w 2) 21 else if s = 2 then 1 + f_lo (i_shr w 2) 9 else f_lo (i_shr w 2) 10
theorem f_sv_ok {s : Int} (w : Int) (h : 0 ≤ s ∧ s < 4) : g_least s.toNat ≤ f_sv s w ∧ f_sv s w ≤ g_great s.toNat := by
  have h1 := f_lo_b (i_shr w 2) (n := 100) (by decide)
  have h2 := f_lo_b (i_shr w 2) (n := 21) (by decide)
  have h3 := f_lo_b (i_shr w 2) (n := 9) (by decide)
  have h4 := f_lo_b (i_shr w 2) (n := 10) (by decide)
  rcases (show s = 0 ∨ s = 1 ∨ s = 2 ∨ s = 3 by omega) with rfl | rfl | rfl | rfl
  · show (0 : Int) ≤ f_lo (i_shr w 2) 100 ∧ f_lo (i_shr w 2) 100 ≤ 99
    omega
  · show (0 : Int) ≤ f_lo (i_shr w 2) 21 ∧ f_lo (i_shr w 2) 21 ≤ 20
    omega
  · show (1 : Int) ≤ 1 + f_lo (i_shr w 2) 9 ∧ 1 + f_lo (i_shr w 2) 9 ≤ 9
    omega
  · show (0 : Int) ≤ f_lo (i_shr w 2) 10 ∧ f_lo (i_shr w 2) 10 ≤ 9
    omega
/-- an undoable call by its kind and two numbers: its answer, the new state -/
def f_act (kd v w : Int) (S : sT) : Int × sT :=
  if kd = 0 then (if i_and (i_shr w 20) 1 = 0 then o_sheet S else o_pin S)
  else if kd = 1 then o_pin S
  else if kd = 2 then o_foil (1 + f_lo (i_shr v 6) 9) (f_lo w 12) (f_lo (i_shr w 4) 12) (f_lo w 12 + f_lo (i_shr w 8) (12 - f_lo w 12)) (f_lo (i_shr w 4) 12 + f_lo (i_shr w 12) (12 - f_lo (i_shr w 4) 12)) S
  else if kd = 3 then o_fold (1 + f_lo w 11) S
  else if kd = 4 then o_set (f_lo w 4) (f_sv (f_lo w 4) w) S
  else if kd = 5 then o_cast (f_lo (i_shr v 4) 3) (f_lo w 12) (f_lo (i_shr w 4) 12) S
  else if kd = 6 ∨ kd = 7 ∨ kd = 8 ∨ kd = 9 ∨ kd = 10 then o_press (f_lo (i_shr v 4) 3) (f_lo w 12 - 2) (f_lo (i_shr w 4) 12 - 2) (f_lo (i_shr w 8) 8) S
  else o_point (f_lo (i_shr v 4) 3) (f_lo w 5) (f_lo (i_shr w 3) 5) (f_lo (i_shr w 6) 10) S
theorem f_share_k : ∀ k : Fin 145, Op.cmpValue (FP.dcmp (f_sh ((k.val : Nat) : Int)) (f_sh ((k.val : Nat) : Int))) .l = Int32.ofInt 0 := by decide +kernel
theorem f_share_e {n : Int} (h0 : 0 ≤ n) (h1 : n ≤ 144) : Op.cmpValue (FP.dcmp (f_sh n) (f_sh n)) .l = Int32.ofInt 0 := by
  have := f_share_k ⟨n.toNat, by omega⟩
  rw [show (((⟨n.toNat, by omega⟩ : Fin 145).val : Nat) : Int) = n from by show ((n.toNat : Nat) : Int) = n; omega] at this
  exact this
theorem f_pl_k {k : Int} (h0 : 0 ≤ k) (h1 : k < 144) : f_pl (k % 12) (k / 12) = k := by
  unfold f_pl
  rw [if_pos (by omega)]
  omega
theorem f_sum_pos {f : Int → Int} (h : ∀ q : Int, 0 ≤ f q ∧ f q ≤ 9) : ∀ n : Nat, f_sum (fun q => if 0 < f q then 1 else 0) n = f_sum (fun q => if f q = 0 then 0 else 1) n := fun n => f_sum_cg n (fun k _ _ => by
  have := h k
  show (if 0 < f k then (1 : Int) else 0) = if f k = 0 then 0 else 1
  by_cases h9 : f k = 0
  · rw [if_pos h9, if_neg (by omega)]
  · rw [if_neg h9, if_pos (by omega)])
set_option maxRecDepth 100000 in
set_option maxHeartbeats 4000000 in
theorem c_L_low (l : Launch) (E : ewE) (M : ewM) (a n : Int) (hn : 0 < n ∧ n < 2147483648) : Ct l E yL_low (.code yL_low cL_low 2 (some .int)) 1 [vI a, vI n] M (fun v M1 => v = some (vI (f_lo a n)) ∧ M = M1) := by
  refine ct_of (L0 := [(0, vI a), (1, vI n)]) (by decide +kernel) rfl (Nat.le_of_ble_eq_true rfl) ?_
  intro zp ze zs zm za zb zt zc zA hC
  have hb := i_and_b a (y := 2147483647) (by decide) (by decide)
  refine jw_iload_n hC dL_low_0 0 rfl rfl ?_
  refine jw_ldc (n := 2147483647) hC dL_low_1 w2_172 ?_
  refine jw_iand hC dL_low_3 (fun b3 c3 => ?_)
  refine jw_iload_n hC dL_low_4 1 rfl rfl ?_
  refine jw_irem hC dL_low_5 (by omega) (by omega) (by omega) (by omega) ?_
  refine jw_iret hC dL_low_6 ?_
  exact ⟨rfl, rfl⟩
set_option maxRecDepth 100000 in
set_option maxHeartbeats 4000000 in
theorem c_L_cell (l : Launch) (E : ewE) (M : ewM) (k : Int) (hk : 0 ≤ k ∧ k < 1000) : Ct l E yL_cell (.code yL_cell cL_cell 2 (some .int)) 1 [vR E 203, vI k] M (fun v M1 => ∃ x : Int, (-2147483648 ≤ x ∧ x < 2147483648) ∧ v = some (vI x) ∧ M = M1) := by
  refine ct_of (L0 := [(0, vR E 203), (1, vI k)]) (by decide +kernel) rfl (Nat.le_of_ble_eq_true rfl) ?_
  intro zp ze zs zm za zb zt zc zA hC
  have hN := jw_sN hC
  refine jw_iload_n hC dL_cell_0 1 rfl rfl ?_
  refine jw_aload_n hC dL_cell_1 0 rfl rfl ?_
  refine jw_slen hC dL_cell_2 ?_
  refine jw_icmp_ge (tgt := 12) hC dL_cell_3 (by decide) (by omega) (by omega) (by omega) (by omega) (fun h3 => ?_) (fun h3 => ?_)
  · skip
    refine jw_sipush hC dL_cell_12 (by decide) ?_
    refine jw_iload_n hC dL_cell_15 1 rfl rfl ?_
    refine jw_iconst hC dL_cell_16 ?_
    refine jw_iadd hC dL_cell_17 ?_
    refine jw_imul hC dL_cell_18 ?_
    refine jw_iload_n hC dL_cell_19 1 rfl rfl ?_
    refine jw_bipush hC dL_cell_20 (by decide) ?_
    refine jw_iadd hC dL_cell_22 ?_
    refine jw_imul hC dL_cell_23 ?_
    refine jw_iret hC dL_cell_24 ?_
    first
    | exact ⟨_, sx_b E k, rfl, rfl⟩
    | exact ⟨wr _, ⟨wr_b1 _, wr_b2 _⟩, by rw [vI_wr], rfl⟩
  · skip
    refine jw_aload_n hC dL_cell_6 0 rfl rfl ?_
    refine jw_iload_n hC dL_cell_7 1 rfl rfl ?_
    refine jw_sld hC (by omega) (by omega) dL_cell_8 ?_
    refine jw_goto (tgt := 24) hC dL_cell_9 (by decide) ?_
    refine jw_iret hC dL_cell_24 ?_
    first
    | exact ⟨_, sx_b E k, rfl, rfl⟩
    | exact ⟨wr _, ⟨wr_b1 _, wr_b2 _⟩, by rw [vI_wr], rfl⟩
set_option maxRecDepth 100000 in
set_option maxHeartbeats 4000000 in
theorem c_L_told (l : Launch) (E : ewE) (M : ewM) (h0 : st0 M) : Ct l E yL_told (.code yL_told cL_told 4 (some .long)) 6 [vR E 77] M (fun v M1 => v = some (vJ (f_told M)) ∧ M = M1) := by
  refine ct_of (L0 := [(0, vR E 77)]) (by decide +kernel) rfl (Nat.le_of_ble_eq_true rfl) ?_
  intro zp ze zs zm za zb zt zc zA hC
  have K72 : ∀ (n : Nat) (k h : Int), 144 - k < n → 0 ≤ k → k ≤ 144 → h = f_h (fun q => f_prop M (q / 4) (f_tw q)) (4 * k).toNat (f_h (fun k => f_tp (M 51) (k / 25) (k % 5) (k / 5 % 5) 0) 75 (f_h (f_num M) 13 3)) → jJ zp l ze (ct_rm 6) zs zm za zb zt zc E zA 4 0 0 (MQ zb (ct_Q E zA (fun v M1 => v = some (vJ (f_told M)) ∧ M = M1)) za zs 0 0 zA) 72 [(0, vR E 77), (1, vJ h), (3, vI k)] [] M := by
    intro n
    induction n with
    | zero => intros; omega
    | succ n ih =>
      intro k h i1 i2 i3 hh
      refine jw_iload_n hC dL_told_72 2 rfl rfl ?_
      refine jw_sipush hC dL_told_73 (by decide) ?_
      refine jw_icmp_ge (tgt := 164) hC dL_told_76 (by decide) (by omega) (by omega) (by omega) (by omega) (fun h76 => ?_) (fun h76 => ?_)
      · skip
        refine jw_lload_n hC dL_told_164 1 rfl rfl ?_
        refine jw_lret hC dL_told_165 ?_
        refine ⟨?_, rfl⟩
        rw [hh, show 4 * k = 576 by omega]
        rfl
      · skip
        refine jw_ldc2 (n := 31) hC dL_told_79 w2_101 ?_
        refine jw_ldc2 (n := 31) hC dL_told_82 w2_101 ?_
        refine jw_ldc2 (n := 31) hC dL_told_85 w2_101 ?_
        refine jw_ldc2 (n := 31) hC dL_told_88 w2_101 ?_
        refine jw_lload_n hC dL_told_91 1 rfl rfl ?_
        refine jw_lmul hC dL_told_92 ?_
        refine jw_aload_n hC dL_told_93 0 rfl rfl ?_
        refine jw_iload_n hC dL_told_94 2 rfl rfl ?_
        refine jw_bipush hC dL_told_95 (by decide) ?_
        refine jw_irem hC dL_told_97 (by omega) (by omega) (by omega) (by omega) ?_
        refine jw_iload_n hC dL_told_98 2 rfl rfl ?_
        refine jw_bipush hC dL_told_99 (by decide) ?_
        refine jw_idiv hC dL_told_101 (by omega) (by omega) (by omega) (by omega) ?_
        refine jw_iconst hC dL_told_102 ?_
        refine jw_callV hC (c_X4_place l E M h0 _ (by omega) (by omega) _ (by omega) (by omega) _ (by decide) (by decide) ⟨⟨by omega, by omega, by omega, by omega⟩, by decide, by decide⟩) sV_L_22 ewF_x4.o dL_told_103 rfl rfl ⟨Nat.le_of_ble_eq_true rfl, Nat.le_of_ble_eq_true rfl⟩ ⟨Nat.zero_le _, Nat.zero_le _⟩ (Nat.le_of_ble_eq_true rfl) (fun v103 M103 g103 => ?_)
        obtain ⟨-, rfl, hb103, rfl⟩ := g103
        have hpl103 := f_pl_k (k := k) (by omega) (by omega)
        rw [hpl103] at hb103 ⊢
        refine jw_i2l hC dL_told_106 (by omega) (by omega) ?_
        refine jw_ladd hC dL_told_107 ?_
        refine jw_lmul hC dL_told_108 ?_
        refine jw_aload_n hC dL_told_109 0 rfl rfl ?_
        refine jw_iload_n hC dL_told_110 2 rfl rfl ?_
        refine jw_bipush hC dL_told_111 (by decide) ?_
        refine jw_irem hC dL_told_113 (by omega) (by omega) (by omega) (by omega) ?_
        refine jw_iload_n hC dL_told_114 2 rfl rfl ?_
        refine jw_bipush hC dL_told_115 (by decide) ?_
        refine jw_idiv hC dL_told_117 (by omega) (by omega) (by omega) (by omega) ?_
        refine jw_iconst hC dL_told_118 ?_
        refine jw_callV hC (c_X4_place l E M h0 _ (by omega) (by omega) _ (by omega) (by omega) _ (by decide) (by decide) ⟨⟨by omega, by omega, by omega, by omega⟩, by decide, by decide⟩) sV_L_22 ewF_x4.o dL_told_119 rfl rfl ⟨Nat.le_of_ble_eq_true rfl, Nat.le_of_ble_eq_true rfl⟩ ⟨Nat.zero_le _, Nat.zero_le _⟩ (Nat.le_of_ble_eq_true rfl) (fun v119 M119 g119 => ?_)
        obtain ⟨-, rfl, hb119, rfl⟩ := g119
        have hpl119 := f_pl_k (k := k) (by omega) (by omega)
        rw [hpl119] at hb119 ⊢
        refine jw_i2l hC dL_told_122 (by omega) (by omega) ?_
        refine jw_ladd hC dL_told_123 ?_
        refine jw_lmul hC dL_told_124 ?_
        refine jw_aload_n hC dL_told_125 0 rfl rfl ?_
        refine jw_iload_n hC dL_told_126 2 rfl rfl ?_
        refine jw_bipush hC dL_told_127 (by decide) ?_
        refine jw_irem hC dL_told_129 (by omega) (by omega) (by omega) (by omega) ?_
        refine jw_iload_n hC dL_told_130 2 rfl rfl ?_
        refine jw_bipush hC dL_told_131 (by decide) ?_
        refine jw_idiv hC dL_told_133 (by omega) (by omega) (by omega) (by omega) ?_
        refine jw_iconst hC dL_told_134 ?_
        refine jw_callV hC (c_X4_place l E M h0 _ (by omega) (by omega) _ (by omega) (by omega) _ (by decide) (by decide) ⟨⟨by omega, by omega, by omega, by omega⟩, by decide, by decide⟩) sV_L_22 ewF_x4.o dL_told_135 rfl rfl ⟨Nat.le_of_ble_eq_true rfl, Nat.le_of_ble_eq_true rfl⟩ ⟨Nat.zero_le _, Nat.zero_le _⟩ (Nat.le_of_ble_eq_true rfl) (fun v135 M135 g135 => ?_)
        obtain ⟨-, rfl, hb135, rfl⟩ := g135
        have hpl135 := f_pl_k (k := k) (by omega) (by omega)
        rw [hpl135] at hb135 ⊢
        refine jw_i2l hC dL_told_138 (by omega) (by omega) ?_
        refine jw_ladd hC dL_told_139 ?_
        refine jw_lmul hC dL_told_140 ?_
        refine jw_aload_n hC dL_told_141 0 rfl rfl ?_
        refine jw_iload_n hC dL_told_142 2 rfl rfl ?_
        refine jw_bipush hC dL_told_143 (by decide) ?_
        refine jw_irem hC dL_told_145 (by omega) (by omega) (by omega) (by omega) ?_
        refine jw_iload_n hC dL_told_146 2 rfl rfl ?_
        refine jw_bipush hC dL_told_147 (by decide) ?_
        refine jw_idiv hC dL_told_149 (by omega) (by omega) (by omega) (by omega) ?_
        refine jw_bipush hC dL_told_150 (by decide) ?_
        refine jw_callV hC (c_X4_place l E M h0 _ (by omega) (by omega) _ (by omega) (by omega) _ (by decide) (by decide) ⟨⟨by omega, by omega, by omega, by omega⟩, by decide, by decide⟩) sV_L_22 ewF_x4.o dL_told_152 rfl rfl ⟨Nat.le_of_ble_eq_true rfl, Nat.le_of_ble_eq_true rfl⟩ ⟨Nat.zero_le _, Nat.zero_le _⟩ (Nat.le_of_ble_eq_true rfl) (fun v152 M152 g152 => ?_)
        obtain ⟨-, rfl, hb152, rfl⟩ := g152
        have hpl152 := f_pl_k (k := k) (by omega) (by omega)
        rw [hpl152] at hb152 ⊢
        refine jw_i2l hC dL_told_155 (by omega) (by omega) ?_
        refine jw_ladd hC dL_told_156 ?_
        refine jw_lstore_n (L' := [(1, _), (0, _), (3, _)]) hC dL_told_157 rfl (by decide) rfl ?_
        refine jw_iinc (L' := [(3, _), (1, _), (0, _)]) hC dL_told_158 2 rfl (by decide) rfl ?_
        refine jw_goto (tgt := 72) hC dL_told_161 (by decide) ?_
        refine jw_loc (L' := [(0, _), (1, _), (3, _)]) [2, 1, 0] rfl ?_
        exact ih (k + 1) _ (by omega) (by omega) (by omega) (by
          rw [show 4 * (k + 1) = 4 * k + 3 + 1 by omega, f_h_s _ (by omega), show 4 * k + 3 = 4 * k + 2 + 1 by omega, f_h_s _ (by omega), show 4 * k + 2 = 4 * k + 1 + 1 by omega, f_h_s _ (by omega), f_h_s _ (by omega), hh]
          try dsimp only
          rw [show 4 * k / 4 = k by omega, show (4 * k + 1) / 4 = k by omega, show (4 * k + 1 + 1) / 4 = k by omega, show (4 * k + 1 + 1 + 1) / 4 = k by omega,
            show f_tw (4 * k) = 0 by unfold f_tw; rw [if_neg (by omega)]; omega, show f_tw (4 * k + 1) = 1 by unfold f_tw; rw [if_neg (by omega)]; omega, show f_tw (4 * k + 1 + 1) = 2 by unfold f_tw; rw [if_neg (by omega)]; omega, show f_tw (4 * k + 1 + 1 + 1) = 6 by unfold f_tw; rw [if_pos (by omega)]])
  have K33 : ∀ (n : Nat) (k h : Int), 75 - k < n → 0 ≤ k → k ≤ 75 → h = f_h (fun k => f_tp (M 51) (k / 25) (k % 5) (k / 5 % 5) 0) k.toNat (f_h (f_num M) 13 3) → jJ zp l ze (ct_rm 6) zs zm za zb zt zc E zA 4 0 0 (MQ zb (ct_Q E zA (fun v M1 => v = some (vJ (f_told M)) ∧ M = M1)) za zs 0 0 zA) 33 [(0, vR E 77), (1, vJ h), (3, vI k)] [] M := by
    intro n
    induction n with
    | zero => intros; omega
    | succ n ih =>
      intro k h i1 i2 i3 hh
      refine jw_iload_n hC dL_told_33 2 rfl rfl ?_
      refine jw_bipush hC dL_told_34 (by decide) ?_
      refine jw_icmp_ge (tgt := 70) hC dL_told_36 (by decide) (by omega) (by omega) (by omega) (by omega) (fun h36 => ?_) (fun h36 => ?_)
      · skip
        refine jw_iconst hC dL_told_70 ?_
        refine jw_istore_n (L' := [(3, _), (0, _), (1, _)]) hC dL_told_71 rfl (by decide) rfl ?_
        refine jw_loc (L' := [(0, _), (1, _), (3, _)]) [1, 2, 0] rfl ?_
        exact K72 145 0 _ (by omega) (by omega) (by omega) (by rw [hh, show k = 75 by omega]; rfl)
      · skip
        refine jw_ldc2 (n := 31) hC dL_told_39 w2_101 ?_
        refine jw_lload_n hC dL_told_42 1 rfl rfl ?_
        refine jw_lmul hC dL_told_43 ?_
        refine jw_aload_n hC dL_told_44 0 rfl rfl ?_
        refine jw_iload_n hC dL_told_45 2 rfl rfl ?_
        refine jw_bipush hC dL_told_46 (by decide) ?_
        refine jw_idiv hC dL_told_48 (by omega) (by omega) (by omega) (by omega) ?_
        refine jw_iload_n hC dL_told_49 2 rfl rfl ?_
        refine jw_iconst hC dL_told_50 ?_
        refine jw_irem hC dL_told_51 (by omega) (by omega) (by omega) (by omega) ?_
        refine jw_iload_n hC dL_told_52 2 rfl rfl ?_
        refine jw_iconst hC dL_told_53 ?_
        refine jw_idiv hC dL_told_54 (by omega) (by omega) (by omega) (by omega) ?_
        refine jw_iconst hC dL_told_55 ?_
        refine jw_irem hC dL_told_56 (by omega) (by omega) (by omega) (by omega) ?_
        refine jw_iconst hC dL_told_57 ?_
        refine jw_callV hC (c_X4_dieOf l E M _ (by omega) (by omega) _ (by omega) (by omega) _ (by omega) (by omega) _ (by decide) (by decide) ⟨⟨⟨by omega, by omega⟩, by omega, by omega, by omega, by omega⟩, by decide, by decide⟩) sV_L_18 ewF_x4.o dL_told_58 rfl rfl ⟨Nat.le_of_ble_eq_true rfl, Nat.le_of_ble_eq_true rfl⟩ ⟨Nat.zero_le _, Nat.zero_le _⟩ (Nat.le_of_ble_eq_true rfl) (fun v58 M58 g58 => ?_)
        obtain ⟨-, rfl, rfl⟩ := g58
        have hb58 : 0 ≤ f_tp (M 51) (k / 25) (k % 5) (k / 5 % 5) 0 ∧ f_tp (M 51) (k / 25) (k % 5) (k / 5 % 5) 0 ≤ 9 := h0.2.2.1 _
        refine jw_i2l hC dL_told_61 (by omega) (by omega) ?_
        refine jw_ladd hC dL_told_62 ?_
        refine jw_lstore_n (L' := [(1, _), (0, _), (3, _)]) hC dL_told_63 rfl (by decide) rfl ?_
        refine jw_iinc (L' := [(3, _), (1, _), (0, _)]) hC dL_told_64 2 rfl (by decide) rfl ?_
        refine jw_goto (tgt := 33) hC dL_told_67 (by decide) ?_
        refine jw_loc (L' := [(0, _), (1, _), (3, _)]) [2, 1, 0] rfl ?_
        exact ih _ _ (by omega) (by omega) (by omega) (by rw [f_h_s _ i2, hh])
  have K6 : ∀ (n : Nat) (k h : Int), 13 - k < n → 0 ≤ k → k ≤ 13 → h = f_h (f_num M) k.toNat 3 → jJ zp l ze (ct_rm 6) zs zm za zb zt zc E zA 4 0 0 (MQ zb (ct_Q E zA (fun v M1 => v = some (vJ (f_told M)) ∧ M = M1)) za zs 0 0 zA) 6 [(0, vR E 77), (1, vJ h), (3, vI k)] [] M := by
    intro n
    induction n with
    | zero => intros; omega
    | succ n ih =>
      intro k h i1 i2 i3 hh
      refine jw_iload_n hC dL_told_6 2 rfl rfl ?_
      refine jw_bipush hC dL_told_7 (by decide) ?_
      refine jw_icmp_ge (tgt := 31) hC dL_told_9 (by decide) (by omega) (by omega) (by omega) (by omega) (fun h9 => ?_) (fun h9 => ?_)
      · skip
        refine jw_iconst hC dL_told_31 ?_
        refine jw_istore_n (L' := [(3, _), (0, _), (1, _)]) hC dL_told_32 rfl (by decide) rfl ?_
        refine jw_loc (L' := [(0, _), (1, _), (3, _)]) [1, 2, 0] rfl ?_
        exact K33 76 0 _ (by omega) (by omega) (by omega) (by rw [hh, show k = 13 by omega]; rfl)
      · skip
        refine jw_ldc2 (n := 31) hC dL_told_12 w2_101 ?_
        refine jw_lload_n hC dL_told_15 1 rfl rfl ?_
        refine jw_lmul hC dL_told_16 ?_
        refine jw_aload_n hC dL_told_17 0 rfl rfl ?_
        refine jw_iload_n hC dL_told_18 2 rfl rfl ?_
        refine jw_callV hC (c_X4_count l E M h0 _ (by omega) (by omega) ⟨by omega, by omega⟩) sV_L_12 ewF_x4.o dL_told_19 rfl rfl ⟨Nat.le_of_ble_eq_true rfl, Nat.le_of_ble_eq_true rfl⟩ ⟨Nat.zero_le _, Nat.zero_le _⟩ (Nat.le_of_ble_eq_true rfl) (fun v19 M19 g19 => ?_)
        obtain ⟨-, rfl, hb19, rfl⟩ := g19
        refine jw_i2l hC dL_told_22 (by omega) (by omega) ?_
        refine jw_ladd hC dL_told_23 ?_
        refine jw_lstore_n (L' := [(1, _), (0, _), (3, _)]) hC dL_told_24 rfl (by decide) rfl ?_
        refine jw_iinc (L' := [(3, _), (1, _), (0, _)]) hC dL_told_25 2 rfl (by decide) rfl ?_
        refine jw_goto (tgt := 6) hC dL_told_28 (by decide) ?_
        refine jw_loc (L' := [(0, _), (1, _), (3, _)]) [2, 1, 0] rfl ?_
        exact ih _ _ (by omega) (by omega) (by omega) (by rw [f_h_s _ i2, hh])
  refine jw_ldc2 (n := 3) hC dL_told_0 w2_100 ?_
  refine jw_lstore_n (L' := [(1, _), (0, _)]) hC dL_told_3 rfl (by decide) rfl ?_
  refine jw_iconst hC dL_told_4 ?_
  refine jw_istore_n (L' := [(3, _), (1, _), (0, _)]) hC dL_told_5 rfl (by decide) rfl ?_
  refine jw_loc (L' := [(0, _), (1, _), (3, _)]) [2, 1, 0] rfl ?_
  exact K6 14 0 _ (by omega) (by omega) (by omega) rfl
end
section
/-! THE LAW'S OWN METHODS: isSettled, holds -/
set_option maxRecDepth 100000 in
set_option maxHeartbeats 4000000 in
theorem c_L_isSettled (l : Launch) (E : ewE) (M : ewM) (h0 : st0 M) (hs : f_set (M 1) (M 3) (M 52 0) (M 52 1)) : Ct l E yL_isSettled (.code yL_isSettled cL_isSettled 3 (some .boolean)) 6 [vR E 77] M (fun v M1 => v = some (vI 1) ∧ M = M1) := by
  refine ct_of (L0 := [(0, vR E 77)]) (by decide +kernel) rfl (Nat.le_of_ble_eq_true rfl) ?_
  intro zp ze zs zm za zb zt zc zA hC
  have K4 : ∀ (n : Nat) (k : Int), 144 - k < n → 0 ≤ k → k ≤ 144 → jJ zp l ze (ct_rm 6) zs zm za zb zt zc E zA 3 0 0 (MQ zb (ct_Q E zA (fun v M1 => v = some (vI 1) ∧ M = M1)) za zs 0 0 zA) 4 [(0, vR E 77), (1, vI 1), (2, vI k)] [] M := by
    intro n
    induction n with
    | zero => intros; omega
    | succ n ih =>
      intro k i1 i2 i3
      refine jw_iload_n hC dL_isSettled_4 2 rfl rfl ?_
      refine jw_sipush hC dL_isSettled_5 (by decide) ?_
      refine jw_icmp_ge (tgt := 73) hC dL_isSettled_8 (by decide) (by omega) (by omega) (by omega) (by omega) (fun h8 => ?_) (fun h8 => ?_)
      · skip
        refine jw_iload_n hC dL_isSettled_73 1 rfl rfl ?_
        refine jw_zret hC (by omega) dL_isSettled_74 ?_
        exact ⟨rfl, rfl⟩
      · skip
        refine jw_iload_n hC dL_isSettled_11 1 rfl rfl ?_
        refine jw_if_eq (tgt := 65) hC dL_isSettled_12 (by decide) (by omega) (by omega) (fun h12 => ?_) (fun h12 => ?_)
        · skip
          exfalso; omega
        · skip
          refine jw_aload_n hC dL_isSettled_15 0 rfl rfl ?_
          refine jw_iload_n hC dL_isSettled_16 2 rfl rfl ?_
          refine jw_bipush hC dL_isSettled_17 (by decide) ?_
          refine jw_irem hC dL_isSettled_19 (by omega) (by omega) (by omega) (by omega) ?_
          refine jw_iload_n hC dL_isSettled_20 2 rfl rfl ?_
          refine jw_bipush hC dL_isSettled_21 (by decide) ?_
          refine jw_idiv hC dL_isSettled_23 (by omega) (by omega) (by omega) (by omega) ?_
          refine jw_iconst hC dL_isSettled_24 ?_
          refine jw_callV hC (c_X4_place l E M h0 _ (by omega) (by omega) _ (by omega) (by omega) _ (by decide) (by decide) ⟨⟨by omega, by omega, by omega, by omega⟩, by decide, by decide⟩) sV_L_22 ewF_x4.o dL_isSettled_25 rfl rfl ⟨Nat.le_of_ble_eq_true rfl, Nat.le_of_ble_eq_true rfl⟩ ⟨Nat.zero_le _, Nat.zero_le _⟩ (Nat.le_of_ble_eq_true rfl) (fun v25 M25 g25 => ?_)
          obtain ⟨-, rfl, hb25, rfl⟩ := g25
          have hpl25 := f_pl_k (k := k) (by omega) (by omega)
          rw [hpl25, show f_prop M k 2 = M 3 k from rfl] at hb25 ⊢
          refine jw_iconst hC dL_isSettled_28 ?_
          refine jw_icmp_eq (tgt := 61) hC dL_isSettled_29 (by decide) (by omega) (by omega) (by omega) (by omega) (fun h29 => ?_) (fun h29 => ?_)
          · skip
            refine jw_iconst hC dL_isSettled_61 ?_
            refine jw_goto (tgt := 66) hC dL_isSettled_62 (by decide) ?_
            refine jw_istore_n (L' := [(1, _), (0, _), (2, _)]) hC dL_isSettled_66 rfl (by decide) rfl ?_
            refine jw_iinc (L' := [(2, _), (1, _), (0, _)]) hC dL_isSettled_67 2 rfl (by decide) rfl ?_
            refine jw_goto (tgt := 4) hC dL_isSettled_70 (by decide) ?_
            refine jw_loc (L' := [(0, _), (1, _), (2, _)]) [2, 1, 0] rfl ?_
            exact ih _ (by omega) (by omega) (by omega)
          · skip
            refine jw_aload_n hC dL_isSettled_32 0 rfl rfl ?_
            refine jw_iload_n hC dL_isSettled_33 2 rfl rfl ?_
            refine jw_bipush hC dL_isSettled_34 (by decide) ?_
            refine jw_irem hC dL_isSettled_36 (by omega) (by omega) (by omega) (by omega) ?_
            refine jw_iload_n hC dL_isSettled_37 2 rfl rfl ?_
            refine jw_bipush hC dL_isSettled_38 (by decide) ?_
            refine jw_idiv hC dL_isSettled_40 (by omega) (by omega) (by omega) (by omega) ?_
            refine jw_iconst hC dL_isSettled_41 ?_
            refine jw_callV hC (c_X4_place l E M h0 _ (by omega) (by omega) _ (by omega) (by omega) _ (by decide) (by decide) ⟨⟨by omega, by omega, by omega, by omega⟩, by decide, by decide⟩) sV_L_22 ewF_x4.o dL_isSettled_42 rfl rfl ⟨Nat.le_of_ble_eq_true rfl, Nat.le_of_ble_eq_true rfl⟩ ⟨Nat.zero_le _, Nat.zero_le _⟩ (Nat.le_of_ble_eq_true rfl) (fun v42 M42 g42 => ?_)
            obtain ⟨-, rfl, hb42, rfl⟩ := g42
            have hpl42 := f_pl_k (k := k) (by omega) (by omega)
            rw [hpl42, show f_prop M k 3 = f_str (M 1) k from rfl] at hb42 ⊢
            refine jw_aload_n hC dL_isSettled_45 0 rfl rfl ?_
            refine jw_iload_n hC dL_isSettled_46 2 rfl rfl ?_
            refine jw_bipush hC dL_isSettled_47 (by decide) ?_
            refine jw_irem hC dL_isSettled_49 (by omega) (by omega) (by omega) (by omega) ?_
            refine jw_iload_n hC dL_isSettled_50 2 rfl rfl ?_
            refine jw_bipush hC dL_isSettled_51 (by decide) ?_
            refine jw_idiv hC dL_isSettled_53 (by omega) (by omega) (by omega) (by omega) ?_
            refine jw_iconst hC dL_isSettled_54 ?_
            refine jw_callV hC (c_X4_place l E M h0 _ (by omega) (by omega) _ (by omega) (by omega) _ (by decide) (by decide) ⟨⟨by omega, by omega, by omega, by omega⟩, by decide, by decide⟩) sV_L_22 ewF_x4.o dL_isSettled_55 rfl rfl ⟨Nat.le_of_ble_eq_true rfl, Nat.le_of_ble_eq_true rfl⟩ ⟨Nat.zero_le _, Nat.zero_le _⟩ (Nat.le_of_ble_eq_true rfl) (fun v55 M55 g55 => ?_)
            obtain ⟨-, rfl, hb55, rfl⟩ := g55
            have hpl55 := f_pl_k (k := k) (by omega) (by omega)
            rw [hpl55, show f_prop M k 4 = f_bear (M 3) k (M 52 0) (M 52 1) from rfl] at hb55 ⊢
            refine jw_icmp_gt (tgt := 65) hC dL_isSettled_58 (by decide) (by omega) (by omega) (by omega) (by omega) (fun h58 => ?_) (fun h58 => ?_)
            · skip
              exfalso; have := hs k (by omega) (by omega); omega
            · skip
              refine jw_iconst hC dL_isSettled_61 ?_
              refine jw_goto (tgt := 66) hC dL_isSettled_62 (by decide) ?_
              refine jw_istore_n (L' := [(1, _), (0, _), (2, _)]) hC dL_isSettled_66 rfl (by decide) rfl ?_
              refine jw_iinc (L' := [(2, _), (1, _), (0, _)]) hC dL_isSettled_67 2 rfl (by decide) rfl ?_
              refine jw_goto (tgt := 4) hC dL_isSettled_70 (by decide) ?_
              refine jw_loc (L' := [(0, _), (1, _), (2, _)]) [2, 1, 0] rfl ?_
              exact ih _ (by omega) (by omega) (by omega)
  refine jw_iconst hC dL_isSettled_0 ?_
  refine jw_istore_n (L' := [(1, _), (0, _)]) hC dL_isSettled_1 rfl (by decide) rfl ?_
  refine jw_iconst hC dL_isSettled_2 ?_
  refine jw_istore_n (L' := [(2, _), (1, _), (0, _)]) hC dL_isSettled_3 rfl (by decide) rfl ?_
  refine jw_loc (L' := [(0, _), (1, _), (2, _)]) [2, 1, 0] rfl ?_
  exact K4 145 0 (by omega) (by omega) (by omega)
set_option maxRecDepth 100000 in
set_option maxHeartbeats 4000000 in
theorem c_L_holds (l : Launch) (E : ewE) (M : ewM) (h0 : st0 M) (hp : ∀ q : Int, 0 < M 1 q ↔ 0 < M 4 q) (hq : ∀ q : Int, 0 ≤ M 2 q ∧ M 2 q ≤ 9) (hck : f_sum (M 3) 144 ≤ M 50 7) : Ct l E yL_holds (.code yL_holds cL_holds 9 (some .boolean)) 6 [vR E 77] M (fun v M1 => v = some (vI 1) ∧ M = M1) := by
  refine ct_of (L0 := [(0, vR E 77)]) (by decide +kernel) rfl (Nat.le_of_ble_eq_true rfl) ?_
  intro zp ze zs zm za zb zt zc zA hC
  obtain ⟨p1, p2, p3, p4, p5, p6, p7, p8⟩ := id h0
  have hcs := f_sum_C p2
  have htwo := f_two (M 1)
  have hpos := f_sum_pos hq 144
  have K105 : ∀ (k cr sr fo de : Int), 0 ≤ k → k < 144 → cr = f_sum (M 3) (k + 1).toNat → sr = f_sum (f_str (M 1)) (k + 1).toNat → fo = f_sum (fun q => if 0 < M 2 q then 1 else 0) (k + 1).toNat → de = f_max (M 1) (k + 1).toNat → jJ zp l ze (ct_rm 6) zs zm za zb zt zc E zA 9 0 0 (MQ zb (ct_Q E zA (fun v M1 => v = some (vI 1) ∧ M = M1)) za zs 0 0 zA) 12 [(0, vR E 77), (1, vI cr), (2, vI sr), (3, vI fo), (4, vI de), (5, vI (k + 1))] [] M → jJ zp l ze (ct_rm 6) zs zm za zb zt zc E zA 9 0 0 (MQ zb (ct_Q E zA (fun v M1 => v = some (vI 1) ∧ M = M1)) za zs 0 0 zA) 105 [(0, vR E 77), (1, vI cr), (2, vI sr), (3, vI fo), (4, vI de), (5, vI k), (6, vI (k % 12)), (7, vI (k / 12)), (8, vI (M 1 k))] [] M := by
    intro k cr sr fo de i2 i3 hc hr hf hd hkn
    have hpk := hp k
    have hqk := hq k
    have hdk := p1 k
    have hcb := f_cb_b p2 k
    have htk := f_tk_b p5.1 p5.2 hcb.1 hcb.2
    have hbk : f_bear (M 3) k (M 52 0) (M 52 1) = max 0 (M 52 0 - M 52 1 * f_cb (M 3) k) := rfl
    refine jw_iload hC dL_holds_105 8 rfl ?_
    refine jw_if_lt (tgt := 213) hC dL_holds_107 (by decide) (by omega) (by omega) (fun h107 => ?_) (fun h107 => ?_)
    · skip
      exfalso; omega
    · skip
      refine jw_iload hC dL_holds_110 8 rfl ?_
      refine jw_bipush hC dL_holds_112 (by decide) ?_
      refine jw_icmp_gt (tgt := 213) hC dL_holds_114 (by decide) (by omega) (by omega) (by omega) (by omega) (fun h114 => ?_) (fun h114 => ?_)
      · skip
        exfalso; omega
      · skip
        refine jw_iload hC dL_holds_117 8 rfl ?_
        refine jw_if_le (tgt := 126) hC dL_holds_119 (by decide) (by omega) (by omega) (fun h119 => ?_) (fun h119 => ?_)
        · skip
          refine jw_iconst hC dL_holds_126 ?_
          refine jw_aload_n hC dL_holds_127 0 rfl rfl ?_
          refine jw_iload hC dL_holds_128 6 rfl ?_
          refine jw_iload hC dL_holds_130 7 rfl ?_
          refine jw_bipush hC dL_holds_132 (by decide) ?_
          refine jw_callV hC (c_X4_place l E M h0 _ (by omega) (by omega) _ (by omega) (by omega) _ (by decide) (by decide) ⟨⟨by omega, by omega, by omega, by omega⟩, by decide, by decide⟩) sV_L_22 ewF_x4.o dL_holds_134 rfl rfl ⟨Nat.le_of_ble_eq_true rfl, Nat.le_of_ble_eq_true rfl⟩ ⟨Nat.zero_le _, Nat.zero_le _⟩ (Nat.le_of_ble_eq_true rfl) (fun v134 M134 g134 => ?_)
          obtain ⟨-, rfl, hb134, rfl⟩ := g134
          have hpl134 := f_pl_k (k := k) (by omega) (by omega)
          rw [hpl134, show f_prop M k 6 = M 4 k from rfl] at hb134 ⊢
          refine jw_if_le (tgt := 144) hC dL_holds_137 (by decide) (by omega) (by omega) (fun h137 => ?_) (fun h137 => ?_)
          · skip
            refine jw_iconst hC dL_holds_144 ?_
            refine jw_icmp_ne (tgt := 213) hC dL_holds_145 (by decide) (by omega) (by omega) (by omega) (by omega) (fun h145 => ?_) (fun h145 => ?_)
            · skip
              exfalso; omega
            · skip
              refine jw_aload_n hC dL_holds_148 0 rfl rfl ?_
              refine jw_iload hC dL_holds_149 6 rfl ?_
              refine jw_iload hC dL_holds_151 7 rfl ?_
              refine jw_iconst hC dL_holds_153 ?_
              refine jw_callV hC (c_X4_place l E M h0 _ (by omega) (by omega) _ (by omega) (by omega) _ (by decide) (by decide) ⟨⟨by omega, by omega, by omega, by omega⟩, by decide, by decide⟩) sV_L_22 ewF_x4.o dL_holds_154 rfl rfl ⟨Nat.le_of_ble_eq_true rfl, Nat.le_of_ble_eq_true rfl⟩ ⟨Nat.zero_le _, Nat.zero_le _⟩ (Nat.le_of_ble_eq_true rfl) (fun v154 M154 g154 => ?_)
              obtain ⟨-, rfl, hb154, rfl⟩ := g154
              have hpl154 := f_pl_k (k := k) (by omega) (by omega)
              rw [hpl154, show f_prop M k 4 = f_bear (M 3) k (M 52 0) (M 52 1) from rfl] at hb154 ⊢
              refine jw_aload_n hC dL_holds_157 0 rfl rfl ?_
              refine jw_iconst hC dL_holds_158 ?_
              refine jw_callV hC (c_X4_setting l E M _ (by decide) (by decide) ⟨by decide, by decide⟩) sV_L_58 ewF_x4.o dL_holds_159 rfl rfl ⟨Nat.le_of_ble_eq_true rfl, Nat.le_of_ble_eq_true rfl⟩ ⟨Nat.zero_le _, Nat.zero_le _⟩ (Nat.le_of_ble_eq_true rfl) (fun v159 M159 g159 => ?_)
              obtain ⟨-, rfl, rfl⟩ := g159
              refine jw_icmp_gt (tgt := 213) hC dL_holds_162 (by decide) (by omega) (by omega) (by omega) (by omega) (fun h162 => ?_) (fun h162 => ?_)
              · skip
                exfalso; omega
              · skip
                refine jw_aload_n hC dL_holds_165 0 rfl rfl ?_
                refine jw_iload hC dL_holds_166 6 rfl ?_
                refine jw_iload hC dL_holds_168 7 rfl ?_
                refine jw_iconst hC dL_holds_170 ?_
                refine jw_callV hC (c_X4_place l E M h0 _ (by omega) (by omega) _ (by omega) (by omega) _ (by decide) (by decide) ⟨⟨by omega, by omega, by omega, by omega⟩, by decide, by decide⟩) sV_L_22 ewF_x4.o dL_holds_171 rfl rfl ⟨Nat.le_of_ble_eq_true rfl, Nat.le_of_ble_eq_true rfl⟩ ⟨Nat.zero_le _, Nat.zero_le _⟩ (Nat.le_of_ble_eq_true rfl) (fun v171 M171 g171 => ?_)
                obtain ⟨-, rfl, hb171, rfl⟩ := g171
                have hpl171 := f_pl_k (k := k) (by omega) (by omega)
                rw [hpl171, show f_prop M k 4 = f_bear (M 3) k (M 52 0) (M 52 1) from rfl] at hb171 ⊢
                refine jw_if_lt (tgt := 213) hC dL_holds_174 (by decide) (by omega) (by omega) (fun h174 => ?_) (fun h174 => ?_)
                · skip
                  exfalso; omega
                · skip
                  refine jw_aload_n hC dL_holds_177 0 rfl rfl ?_
                  refine jw_iload hC dL_holds_178 6 rfl ?_
                  refine jw_iload hC dL_holds_180 7 rfl ?_
                  refine jw_iconst hC dL_holds_182 ?_
                  refine jw_callV hC (c_X4_place l E M h0 _ (by omega) (by omega) _ (by omega) (by omega) _ (by decide) (by decide) ⟨⟨by omega, by omega, by omega, by omega⟩, by decide, by decide⟩) sV_L_22 ewF_x4.o dL_holds_183 rfl rfl ⟨Nat.le_of_ble_eq_true rfl, Nat.le_of_ble_eq_true rfl⟩ ⟨Nat.zero_le _, Nat.zero_le _⟩ (Nat.le_of_ble_eq_true rfl) (fun v183 M183 g183 => ?_)
                  obtain ⟨-, rfl, hb183, rfl⟩ := g183
                  have hpl183 := f_pl_k (k := k) (by omega) (by omega)
                  rw [hpl183, show f_prop M k 1 = M 2 k from rfl] at hb183 ⊢
                  refine jw_bipush hC dL_holds_186 (by decide) ?_
                  refine jw_icmp_gt (tgt := 213) hC dL_holds_188 (by decide) (by omega) (by omega) (by omega) (by omega) (fun h188 => ?_) (fun h188 => ?_)
                  · skip
                    exfalso; omega
                  · skip
                    refine jw_aload_n hC dL_holds_191 0 rfl rfl ?_
                    refine jw_iload hC dL_holds_192 6 rfl ?_
                    refine jw_iload hC dL_holds_194 7 rfl ?_
                    refine jw_iconst hC dL_holds_196 ?_
                    refine jw_callV hC (c_X4_place l E M h0 _ (by omega) (by omega) _ (by omega) (by omega) _ (by decide) (by decide) ⟨⟨by omega, by omega, by omega, by omega⟩, by decide, by decide⟩) sV_L_22 ewF_x4.o dL_holds_197 rfl rfl ⟨Nat.le_of_ble_eq_true rfl, Nat.le_of_ble_eq_true rfl⟩ ⟨Nat.zero_le _, Nat.zero_le _⟩ (Nat.le_of_ble_eq_true rfl) (fun v197 M197 g197 => ?_)
                    obtain ⟨-, rfl, hb197, rfl⟩ := g197
                    have hpl197 := f_pl_k (k := k) (by omega) (by omega)
                    rw [hpl197, show f_prop M k 5 = if f_ov (M 50) k then 1 else 0 from rfl] at hb197 ⊢
                    refine jw_iconst hC dL_holds_200 ?_
                    refine jw_icmp_ne (tgt := 215) hC dL_holds_201 (by decide) (by omega) (by omega) (by omega) (by omega) (fun h201 => ?_) (fun h201 => ?_)
                    · skip
                      refine jw_iinc (L' := [(5, _), (0, _), (1, _), (2, _), (3, _), (4, _), (6, _), (7, _), (8, _)]) hC dL_holds_215 5 rfl (by decide) rfl ?_
                      refine jw_goto (tgt := 12) hC dL_holds_218 (by decide) ?_
                      refine jw_loc (L' := [(0, _), (1, _), (2, _), (3, _), (4, _), (5, _)]) [1, 2, 3, 4, 5, 0] rfl ?_
                      exact hkn
                    · skip
                      refine jw_aload_n hC dL_holds_204 0 rfl rfl ?_
                      refine jw_bipush hC dL_holds_205 (by decide) ?_
                      refine jw_callV hC (c_X4_count l E M h0 _ (by decide) (by decide) ⟨by decide, by decide⟩) sV_L_12 ewF_x4.o dL_holds_207 rfl rfl ⟨Nat.le_of_ble_eq_true rfl, Nat.le_of_ble_eq_true rfl⟩ ⟨Nat.zero_le _, Nat.zero_le _⟩ (Nat.le_of_ble_eq_true rfl) (fun v207 M207 g207 => ?_)
                      obtain ⟨-, rfl, hb207, rfl⟩ := g207
                      rw [show f_num M 9 = M 50 10 from rfl] at hb207 ⊢
                      refine jw_if_ne (tgt := 215) hC dL_holds_210 (by decide) (by omega) (by omega) (fun h210 => ?_) (fun h210 => ?_)
                      · skip
                        refine jw_iinc (L' := [(5, _), (0, _), (1, _), (2, _), (3, _), (4, _), (6, _), (7, _), (8, _)]) hC dL_holds_215 5 rfl (by decide) rfl ?_
                        refine jw_goto (tgt := 12) hC dL_holds_218 (by decide) ?_
                        refine jw_loc (L' := [(0, _), (1, _), (2, _), (3, _), (4, _), (5, _)]) [1, 2, 3, 4, 5, 0] rfl ?_
                        exact hkn
                      · skip
                        exfalso
                        have hv := ite_1 (C := f_ov (M 50) k) (by omega)
                        exact hv.1 (by omega)
          · skip
            exfalso; omega
        · skip
          refine jw_iconst hC dL_holds_122 ?_
          refine jw_goto (tgt := 127) hC dL_holds_123 (by decide) ?_
          refine jw_aload_n hC dL_holds_127 0 rfl rfl ?_
          refine jw_iload hC dL_holds_128 6 rfl ?_
          refine jw_iload hC dL_holds_130 7 rfl ?_
          refine jw_bipush hC dL_holds_132 (by decide) ?_
          refine jw_callV hC (c_X4_place l E M h0 _ (by omega) (by omega) _ (by omega) (by omega) _ (by decide) (by decide) ⟨⟨by omega, by omega, by omega, by omega⟩, by decide, by decide⟩) sV_L_22 ewF_x4.o dL_holds_134 rfl rfl ⟨Nat.le_of_ble_eq_true rfl, Nat.le_of_ble_eq_true rfl⟩ ⟨Nat.zero_le _, Nat.zero_le _⟩ (Nat.le_of_ble_eq_true rfl) (fun v134 M134 g134 => ?_)
          obtain ⟨-, rfl, hb134, rfl⟩ := g134
          have hpl134 := f_pl_k (k := k) (by omega) (by omega)
          rw [hpl134, show f_prop M k 6 = M 4 k from rfl] at hb134 ⊢
          refine jw_if_le (tgt := 144) hC dL_holds_137 (by decide) (by omega) (by omega) (fun h137 => ?_) (fun h137 => ?_)
          · skip
            exfalso; omega
          · skip
            refine jw_iconst hC dL_holds_140 ?_
            refine jw_goto (tgt := 145) hC dL_holds_141 (by decide) ?_
            refine jw_icmp_ne (tgt := 213) hC dL_holds_145 (by decide) (by omega) (by omega) (by omega) (by omega) (fun h145 => ?_) (fun h145 => ?_)
            · skip
              exfalso; omega
            · skip
              refine jw_aload_n hC dL_holds_148 0 rfl rfl ?_
              refine jw_iload hC dL_holds_149 6 rfl ?_
              refine jw_iload hC dL_holds_151 7 rfl ?_
              refine jw_iconst hC dL_holds_153 ?_
              refine jw_callV hC (c_X4_place l E M h0 _ (by omega) (by omega) _ (by omega) (by omega) _ (by decide) (by decide) ⟨⟨by omega, by omega, by omega, by omega⟩, by decide, by decide⟩) sV_L_22 ewF_x4.o dL_holds_154 rfl rfl ⟨Nat.le_of_ble_eq_true rfl, Nat.le_of_ble_eq_true rfl⟩ ⟨Nat.zero_le _, Nat.zero_le _⟩ (Nat.le_of_ble_eq_true rfl) (fun v154 M154 g154 => ?_)
              obtain ⟨-, rfl, hb154, rfl⟩ := g154
              have hpl154 := f_pl_k (k := k) (by omega) (by omega)
              rw [hpl154, show f_prop M k 4 = f_bear (M 3) k (M 52 0) (M 52 1) from rfl] at hb154 ⊢
              refine jw_aload_n hC dL_holds_157 0 rfl rfl ?_
              refine jw_iconst hC dL_holds_158 ?_
              refine jw_callV hC (c_X4_setting l E M _ (by decide) (by decide) ⟨by decide, by decide⟩) sV_L_58 ewF_x4.o dL_holds_159 rfl rfl ⟨Nat.le_of_ble_eq_true rfl, Nat.le_of_ble_eq_true rfl⟩ ⟨Nat.zero_le _, Nat.zero_le _⟩ (Nat.le_of_ble_eq_true rfl) (fun v159 M159 g159 => ?_)
              obtain ⟨-, rfl, rfl⟩ := g159
              refine jw_icmp_gt (tgt := 213) hC dL_holds_162 (by decide) (by omega) (by omega) (by omega) (by omega) (fun h162 => ?_) (fun h162 => ?_)
              · skip
                exfalso; omega
              · skip
                refine jw_aload_n hC dL_holds_165 0 rfl rfl ?_
                refine jw_iload hC dL_holds_166 6 rfl ?_
                refine jw_iload hC dL_holds_168 7 rfl ?_
                refine jw_iconst hC dL_holds_170 ?_
                refine jw_callV hC (c_X4_place l E M h0 _ (by omega) (by omega) _ (by omega) (by omega) _ (by decide) (by decide) ⟨⟨by omega, by omega, by omega, by omega⟩, by decide, by decide⟩) sV_L_22 ewF_x4.o dL_holds_171 rfl rfl ⟨Nat.le_of_ble_eq_true rfl, Nat.le_of_ble_eq_true rfl⟩ ⟨Nat.zero_le _, Nat.zero_le _⟩ (Nat.le_of_ble_eq_true rfl) (fun v171 M171 g171 => ?_)
                obtain ⟨-, rfl, hb171, rfl⟩ := g171
                have hpl171 := f_pl_k (k := k) (by omega) (by omega)
                rw [hpl171, show f_prop M k 4 = f_bear (M 3) k (M 52 0) (M 52 1) from rfl] at hb171 ⊢
                refine jw_if_lt (tgt := 213) hC dL_holds_174 (by decide) (by omega) (by omega) (fun h174 => ?_) (fun h174 => ?_)
                · skip
                  exfalso; omega
                · skip
                  refine jw_aload_n hC dL_holds_177 0 rfl rfl ?_
                  refine jw_iload hC dL_holds_178 6 rfl ?_
                  refine jw_iload hC dL_holds_180 7 rfl ?_
                  refine jw_iconst hC dL_holds_182 ?_
                  refine jw_callV hC (c_X4_place l E M h0 _ (by omega) (by omega) _ (by omega) (by omega) _ (by decide) (by decide) ⟨⟨by omega, by omega, by omega, by omega⟩, by decide, by decide⟩) sV_L_22 ewF_x4.o dL_holds_183 rfl rfl ⟨Nat.le_of_ble_eq_true rfl, Nat.le_of_ble_eq_true rfl⟩ ⟨Nat.zero_le _, Nat.zero_le _⟩ (Nat.le_of_ble_eq_true rfl) (fun v183 M183 g183 => ?_)
                  obtain ⟨-, rfl, hb183, rfl⟩ := g183
                  have hpl183 := f_pl_k (k := k) (by omega) (by omega)
                  rw [hpl183, show f_prop M k 1 = M 2 k from rfl] at hb183 ⊢
                  refine jw_bipush hC dL_holds_186 (by decide) ?_
                  refine jw_icmp_gt (tgt := 213) hC dL_holds_188 (by decide) (by omega) (by omega) (by omega) (by omega) (fun h188 => ?_) (fun h188 => ?_)
                  · skip
                    exfalso; omega
                  · skip
                    refine jw_aload_n hC dL_holds_191 0 rfl rfl ?_
                    refine jw_iload hC dL_holds_192 6 rfl ?_
                    refine jw_iload hC dL_holds_194 7 rfl ?_
                    refine jw_iconst hC dL_holds_196 ?_
                    refine jw_callV hC (c_X4_place l E M h0 _ (by omega) (by omega) _ (by omega) (by omega) _ (by decide) (by decide) ⟨⟨by omega, by omega, by omega, by omega⟩, by decide, by decide⟩) sV_L_22 ewF_x4.o dL_holds_197 rfl rfl ⟨Nat.le_of_ble_eq_true rfl, Nat.le_of_ble_eq_true rfl⟩ ⟨Nat.zero_le _, Nat.zero_le _⟩ (Nat.le_of_ble_eq_true rfl) (fun v197 M197 g197 => ?_)
                    obtain ⟨-, rfl, hb197, rfl⟩ := g197
                    have hpl197 := f_pl_k (k := k) (by omega) (by omega)
                    rw [hpl197, show f_prop M k 5 = if f_ov (M 50) k then 1 else 0 from rfl] at hb197 ⊢
                    refine jw_iconst hC dL_holds_200 ?_
                    refine jw_icmp_ne (tgt := 215) hC dL_holds_201 (by decide) (by omega) (by omega) (by omega) (by omega) (fun h201 => ?_) (fun h201 => ?_)
                    · skip
                      refine jw_iinc (L' := [(5, _), (0, _), (1, _), (2, _), (3, _), (4, _), (6, _), (7, _), (8, _)]) hC dL_holds_215 5 rfl (by decide) rfl ?_
                      refine jw_goto (tgt := 12) hC dL_holds_218 (by decide) ?_
                      refine jw_loc (L' := [(0, _), (1, _), (2, _), (3, _), (4, _), (5, _)]) [1, 2, 3, 4, 5, 0] rfl ?_
                      exact hkn
                    · skip
                      refine jw_aload_n hC dL_holds_204 0 rfl rfl ?_
                      refine jw_bipush hC dL_holds_205 (by decide) ?_
                      refine jw_callV hC (c_X4_count l E M h0 _ (by decide) (by decide) ⟨by decide, by decide⟩) sV_L_12 ewF_x4.o dL_holds_207 rfl rfl ⟨Nat.le_of_ble_eq_true rfl, Nat.le_of_ble_eq_true rfl⟩ ⟨Nat.zero_le _, Nat.zero_le _⟩ (Nat.le_of_ble_eq_true rfl) (fun v207 M207 g207 => ?_)
                      obtain ⟨-, rfl, hb207, rfl⟩ := g207
                      rw [show f_num M 9 = M 50 10 from rfl] at hb207 ⊢
                      refine jw_if_ne (tgt := 215) hC dL_holds_210 (by decide) (by omega) (by omega) (fun h210 => ?_) (fun h210 => ?_)
                      · skip
                        refine jw_iinc (L' := [(5, _), (0, _), (1, _), (2, _), (3, _), (4, _), (6, _), (7, _), (8, _)]) hC dL_holds_215 5 rfl (by decide) rfl ?_
                        refine jw_goto (tgt := 12) hC dL_holds_218 (by decide) ?_
                        refine jw_loc (L' := [(0, _), (1, _), (2, _), (3, _), (4, _), (5, _)]) [1, 2, 3, 4, 5, 0] rfl ?_
                        exact hkn
                      · skip
                        exfalso
                        have hv := ite_1 (C := f_ov (M 50) k) (by omega)
                        exact hv.1 (by omega)
  have K12 : ∀ (n : Nat) (k cr sr fo de : Int), 144 - k < n → 0 ≤ k → k ≤ 144 → cr = f_sum (M 3) k.toNat → sr = f_sum (f_str (M 1)) k.toNat → fo = f_sum (fun q => if 0 < M 2 q then 1 else 0) k.toNat → de = f_max (M 1) k.toNat → jJ zp l ze (ct_rm 6) zs zm za zb zt zc E zA 9 0 0 (MQ zb (ct_Q E zA (fun v M1 => v = some (vI 1) ∧ M = M1)) za zs 0 0 zA) 12 [(0, vR E 77), (1, vI cr), (2, vI sr), (3, vI fo), (4, vI de), (5, vI k)] [] M := by
    intro n
    induction n with
    | zero => intros; omega
    | succ n ih =>
      intro k cr sr fo de i1 i2 i3 hc hr hf hd
      have hmb := f_max_D p1 k.toNat
      have hpk := hp k
      have hqk := hq k
      have hdk := p1 k
      refine jw_iload hC dL_holds_12 5 rfl ?_
      refine jw_sipush hC dL_holds_14 (by decide) ?_
      refine jw_icmp_ge (tgt := 221) hC dL_holds_17 (by decide) (by omega) (by omega) (by omega) (by omega) (fun h17 => ?_) (fun h17 => ?_)
      · skip
        have e9 : k = 144 := by omega
        subst e9
        have hc : cr = f_sum (M 3) 144 := hc
        have hr : sr = f_sum (f_str (M 1)) 144 := hr
        have hf : fo = f_sum (fun q => if 0 < M 2 q then 1 else 0) 144 := hf
        rw [hpos] at hf
        have hd : de = f_max (M 1) 144 := hd
        refine jw_iload_n hC dL_holds_221 1 rfl rfl ?_
        refine jw_aload_n hC dL_holds_222 0 rfl rfl ?_
        refine jw_iconst hC dL_holds_223 ?_
        refine jw_callV hC (c_X4_count l E M h0 _ (by decide) (by decide) ⟨by decide, by decide⟩) sV_L_12 ewF_x4.o dL_holds_224 rfl rfl ⟨Nat.le_of_ble_eq_true rfl, Nat.le_of_ble_eq_true rfl⟩ ⟨Nat.zero_le _, Nat.zero_le _⟩ (Nat.le_of_ble_eq_true rfl) (fun v224 M224 g224 => ?_)
        obtain ⟨-, rfl, hb224, rfl⟩ := g224
        rw [show f_num M 4 = f_sum (M 3) 144 from rfl] at hb224 ⊢
        refine jw_icmp_ne (tgt := 274) hC dL_holds_227 (by decide) (by omega) (by omega) (by omega) (by omega) (fun h227 => ?_) (fun h227 => ?_)
        · skip
          exfalso; omega
        · skip
          refine jw_iload_n hC dL_holds_230 2 rfl rfl ?_
          refine jw_aload_n hC dL_holds_231 0 rfl rfl ?_
          refine jw_bipush hC dL_holds_232 (by decide) ?_
          refine jw_callV hC (c_X4_count l E M h0 _ (by decide) (by decide) ⟨by decide, by decide⟩) sV_L_12 ewF_x4.o dL_holds_234 rfl rfl ⟨Nat.le_of_ble_eq_true rfl, Nat.le_of_ble_eq_true rfl⟩ ⟨Nat.zero_le _, Nat.zero_le _⟩ (Nat.le_of_ble_eq_true rfl) (fun v234 M234 g234 => ?_)
          obtain ⟨-, rfl, hb234, rfl⟩ := g234
          rw [show f_num M 6 = f_sum (f_str (M 1)) 144 from rfl] at hb234 ⊢
          refine jw_icmp_ne (tgt := 274) hC dL_holds_237 (by decide) (by omega) (by omega) (by omega) (by omega) (fun h237 => ?_) (fun h237 => ?_)
          · skip
            exfalso; omega
          · skip
            refine jw_iload_n hC dL_holds_240 2 rfl rfl ?_
            refine jw_aload_n hC dL_holds_241 0 rfl rfl ?_
            refine jw_bipush hC dL_holds_242 (by decide) ?_
            refine jw_callV hC (c_X4_count l E M h0 _ (by decide) (by decide) ⟨by decide, by decide⟩) sV_L_12 ewF_x4.o dL_holds_244 rfl rfl ⟨Nat.le_of_ble_eq_true rfl, Nat.le_of_ble_eq_true rfl⟩ ⟨Nat.zero_le _, Nat.zero_le _⟩ (Nat.le_of_ble_eq_true rfl) (fun v244 M244 g244 => ?_)
            obtain ⟨-, rfl, hb244, rfl⟩ := g244
            rw [show f_num M 7 = 2 * f_sum (fun q => f_s2 (M 1) q + f_s4 (M 1) q) 144 from rfl] at hb244 ⊢
            refine jw_icmp_ne (tgt := 274) hC dL_holds_247 (by decide) (by omega) (by omega) (by omega) (by omega) (fun h247 => ?_) (fun h247 => ?_)
            · skip
              exfalso; omega
            · skip
              refine jw_iload_n hC dL_holds_250 3 rfl rfl ?_
              refine jw_aload_n hC dL_holds_251 0 rfl rfl ?_
              refine jw_bipush hC dL_holds_252 (by decide) ?_
              refine jw_callV hC (c_X4_count l E M h0 _ (by decide) (by decide) ⟨by decide, by decide⟩) sV_L_12 ewF_x4.o dL_holds_254 rfl rfl ⟨Nat.le_of_ble_eq_true rfl, Nat.le_of_ble_eq_true rfl⟩ ⟨Nat.zero_le _, Nat.zero_le _⟩ (Nat.le_of_ble_eq_true rfl) (fun v254 M254 g254 => ?_)
              obtain ⟨-, rfl, hb254, rfl⟩ := g254
              rw [show f_num M 8 = f_sum (fun q => if M 2 q = 0 then 0 else 1) 144 from rfl] at hb254 ⊢
              refine jw_icmp_ne (tgt := 274) hC dL_holds_257 (by decide) (by omega) (by omega) (by omega) (by omega) (fun h257 => ?_) (fun h257 => ?_)
              · skip
                exfalso; omega
              · skip
                refine jw_iload hC dL_holds_260 4 rfl ?_
                refine jw_aload_n hC dL_holds_262 0 rfl rfl ?_
                refine jw_iconst hC dL_holds_263 ?_
                refine jw_callV hC (c_X4_count l E M h0 _ (by decide) (by decide) ⟨by decide, by decide⟩) sV_L_12 ewF_x4.o dL_holds_264 rfl rfl ⟨Nat.le_of_ble_eq_true rfl, Nat.le_of_ble_eq_true rfl⟩ ⟨Nat.zero_le _, Nat.zero_le _⟩ (Nat.le_of_ble_eq_true rfl) (fun v264 M264 g264 => ?_)
                obtain ⟨-, rfl, hb264, rfl⟩ := g264
                rw [show f_num M 5 = f_max (M 1) 144 from rfl] at hb264 ⊢
                refine jw_icmp_ne (tgt := 274) hC dL_holds_267 (by decide) (by omega) (by omega) (by omega) (by omega) (fun h267 => ?_) (fun h267 => ?_)
                · skip
                  exfalso; omega
                · skip
                  refine jw_iconst hC dL_holds_270 ?_
                  refine jw_goto (tgt := 275) hC dL_holds_271 (by decide) ?_
                  refine jw_istore (L' := [(5, _), (0, _), (1, _), (2, _), (3, _), (4, _)]) hC dL_holds_275 (by decide) rfl ?_
                  refine jw_iload hC dL_holds_277 0 rfl ?_
                  refine jw_if_eq (tgt := 331) hC dL_holds_279 (by decide) (by omega) (by omega) (fun h279 => ?_) (fun h279 => ?_)
                  · skip
                    exfalso; omega
                  · skip
                    refine jw_aload_n hC dL_holds_282 1 rfl rfl ?_
                    refine jw_iconst hC dL_holds_283 ?_
                    refine jw_callV hC (c_X4_count l E M h0 _ (by decide) (by decide) ⟨by decide, by decide⟩) sV_L_12 ewF_x4.o dL_holds_284 rfl rfl ⟨Nat.le_of_ble_eq_true rfl, Nat.le_of_ble_eq_true rfl⟩ ⟨Nat.zero_le _, Nat.zero_le _⟩ (Nat.le_of_ble_eq_true rfl) (fun v284 M284 g284 => ?_)
                    obtain ⟨-, rfl, hb284, rfl⟩ := g284
                    rw [show f_num M 2 = M 50 3 from rfl] at hb284 ⊢
                    refine jw_if_lt (tgt := 331) hC dL_holds_287 (by decide) (by omega) (by omega) (fun h287 => ?_) (fun h287 => ?_)
                    · skip
                      exfalso; omega
                    · skip
                      refine jw_aload_n hC dL_holds_290 1 rfl rfl ?_
                      refine jw_iconst hC dL_holds_291 ?_
                      refine jw_callV hC (c_X4_count l E M h0 _ (by decide) (by decide) ⟨by decide, by decide⟩) sV_L_12 ewF_x4.o dL_holds_292 rfl rfl ⟨Nat.le_of_ble_eq_true rfl, Nat.le_of_ble_eq_true rfl⟩ ⟨Nat.zero_le _, Nat.zero_le _⟩ (Nat.le_of_ble_eq_true rfl) (fun v292 M292 g292 => ?_)
                      obtain ⟨-, rfl, hb292, rfl⟩ := g292
                      rw [show f_num M 2 = M 50 3 from rfl] at hb292 ⊢
                      refine jw_iconst hC dL_holds_295 ?_
                      refine jw_icmp_gt (tgt := 331) hC dL_holds_296 (by decide) (by omega) (by omega) (by omega) (by omega) (fun h296 => ?_) (fun h296 => ?_)
                      · skip
                        exfalso; omega
                      · skip
                        refine jw_iload_n hC dL_holds_299 2 rfl rfl ?_
                        refine jw_aload_n hC dL_holds_300 1 rfl rfl ?_
                        refine jw_bipush hC dL_holds_301 (by decide) ?_
                        refine jw_callV hC (c_X4_count l E M h0 _ (by decide) (by decide) ⟨by decide, by decide⟩) sV_L_12 ewF_x4.o dL_holds_303 rfl rfl ⟨Nat.le_of_ble_eq_true rfl, Nat.le_of_ble_eq_true rfl⟩ ⟨Nat.zero_le _, Nat.zero_le _⟩ (Nat.le_of_ble_eq_true rfl) (fun v303 M303 g303 => ?_)
                        obtain ⟨-, rfl, hb303, rfl⟩ := g303
                        rw [show f_num M 10 = M 50 7 from rfl] at hb303 ⊢
                        refine jw_icmp_gt (tgt := 331) hC dL_holds_306 (by decide) (by omega) (by omega) (by omega) (by omega) (fun h306 => ?_) (fun h306 => ?_)
                        · skip
                          exfalso; omega
                        · skip
                          refine jw_aload_n hC dL_holds_309 1 rfl rfl ?_
                          refine jw_callV hC (c_X4_wholeShare l E M h0) sV_L_61 ewF_x4.o dL_holds_310 rfl rfl ⟨Nat.le_of_ble_eq_true rfl, Nat.le_of_ble_eq_true rfl⟩ ⟨Nat.zero_le _, Nat.zero_le _⟩ (Nat.le_of_ble_eq_true rfl) (fun v310 M310 g310 => ?_)
                          obtain ⟨rfl, rfl⟩ := g310
                          refine jw_sipush hC dL_holds_313 (by decide) ?_
                          refine jw_iload_n hC dL_holds_316 2 rfl rfl ?_
                          refine jw_isub hC dL_holds_317 ?_
                          refine jw_i2d hC dL_holds_318 ?_
                          refine jw_ldc2d hC w3_84 dL_holds_319 ?_
                          refine jw_ddiv hC (show vf_n64 (f_sh (144 - cr)) from f_sh_n (by omega) (by omega)) dL_holds_322 ?_
                          refine jw_dcmp (n := 0) hC (by rw [← hc]; exact f_share_e (by omega) (by omega)) dL_holds_323 ?_
                          refine jw_if_ne (tgt := 331) hC dL_holds_324 (by decide) (by omega) (by omega) (fun h324 => ?_) (fun h324 => ?_)
                          · skip
                            exfalso; omega
                          · skip
                            refine jw_iconst hC dL_holds_327 ?_
                            refine jw_goto (tgt := 332) hC dL_holds_328 (by decide) ?_
                            refine jw_zret hC (by omega) dL_holds_332 ?_
                            exact ⟨rfl, rfl⟩
      · skip
        refine jw_iload hC dL_holds_20 5 rfl ?_
        refine jw_bipush hC dL_holds_22 (by decide) ?_
        refine jw_irem hC dL_holds_24 (by omega) (by omega) (by omega) (by omega) ?_
        refine jw_istore (L' := [(6, _), (0, _), (1, _), (2, _), (3, _), (4, _), (5, _)]) hC dL_holds_25 (by decide) rfl ?_
        refine jw_iload hC dL_holds_27 6 rfl ?_
        refine jw_bipush hC dL_holds_29 (by decide) ?_
        refine jw_idiv hC dL_holds_31 (by omega) (by omega) (by omega) (by omega) ?_
        refine jw_istore (L' := [(7, _), (6, _), (0, _), (1, _), (2, _), (3, _), (4, _), (5, _)]) hC dL_holds_32 (by decide) rfl ?_
        refine jw_aload_n hC dL_holds_34 2 rfl rfl ?_
        refine jw_iload hC dL_holds_35 1 rfl ?_
        refine jw_iload hC dL_holds_37 0 rfl ?_
        refine jw_iconst hC dL_holds_39 ?_
        refine jw_callV hC (c_X4_place l E M h0 _ (by omega) (by omega) _ (by omega) (by omega) _ (by decide) (by decide) ⟨⟨by omega, by omega, by omega, by omega⟩, by decide, by decide⟩) sV_L_22 ewF_x4.o dL_holds_40 rfl rfl ⟨Nat.le_of_ble_eq_true rfl, Nat.le_of_ble_eq_true rfl⟩ ⟨Nat.zero_le _, Nat.zero_le _⟩ (Nat.le_of_ble_eq_true rfl) (fun v40 M40 g40 => ?_)
        obtain ⟨-, rfl, hb40, rfl⟩ := g40
        have hpl40 := f_pl_k (k := k) (by omega) (by omega)
        rw [hpl40, show f_prop M k 0 = M 1 k from rfl] at hb40 ⊢
        refine jw_istore (L' := [(8, _), (7, _), (6, _), (0, _), (1, _), (2, _), (3, _), (4, _), (5, _)]) hC dL_holds_43 (by decide) rfl ?_
        refine jw_iload_n hC dL_holds_45 4 rfl rfl ?_
        refine jw_aload_n hC dL_holds_46 3 rfl rfl ?_
        refine jw_iload hC dL_holds_47 2 rfl ?_
        refine jw_iload hC dL_holds_49 1 rfl ?_
        refine jw_iconst hC dL_holds_51 ?_
        refine jw_callV hC (c_X4_place l E M h0 _ (by omega) (by omega) _ (by omega) (by omega) _ (by decide) (by decide) ⟨⟨by omega, by omega, by omega, by omega⟩, by decide, by decide⟩) sV_L_22 ewF_x4.o dL_holds_52 rfl rfl ⟨Nat.le_of_ble_eq_true rfl, Nat.le_of_ble_eq_true rfl⟩ ⟨Nat.zero_le _, Nat.zero_le _⟩ (Nat.le_of_ble_eq_true rfl) (fun v52 M52 g52 => ?_)
        obtain ⟨-, rfl, hb52, rfl⟩ := g52
        have hpl52 := f_pl_k (k := k) (by omega) (by omega)
        rw [hpl52, show f_prop M k 2 = M 3 k from rfl] at hb52 ⊢
        refine jw_iadd hC dL_holds_55 ?_
        refine jw_istore_n (L' := [(1, _), (8, _), (7, _), (6, _), (0, _), (2, _), (3, _), (4, _), (5, _)]) hC dL_holds_56 rfl (by decide) rfl ?_
        refine jw_iload_n hC dL_holds_57 5 rfl rfl ?_
        refine jw_aload_n hC dL_holds_58 4 rfl rfl ?_
        refine jw_iload hC dL_holds_59 3 rfl ?_
        refine jw_iload hC dL_holds_61 2 rfl ?_
        refine jw_iconst hC dL_holds_63 ?_
        refine jw_callV hC (c_X4_place l E M h0 _ (by omega) (by omega) _ (by omega) (by omega) _ (by decide) (by decide) ⟨⟨by omega, by omega, by omega, by omega⟩, by decide, by decide⟩) sV_L_22 ewF_x4.o dL_holds_64 rfl rfl ⟨Nat.le_of_ble_eq_true rfl, Nat.le_of_ble_eq_true rfl⟩ ⟨Nat.zero_le _, Nat.zero_le _⟩ (Nat.le_of_ble_eq_true rfl) (fun v64 M64 g64 => ?_)
        obtain ⟨-, rfl, hb64, rfl⟩ := g64
        have hpl64 := f_pl_k (k := k) (by omega) (by omega)
        rw [hpl64, show f_prop M k 3 = f_str (M 1) k from rfl] at hb64 ⊢
        refine jw_iadd hC dL_holds_67 ?_
        refine jw_istore_n (L' := [(2, _), (1, _), (8, _), (7, _), (6, _), (0, _), (3, _), (4, _), (5, _)]) hC dL_holds_68 rfl (by decide) rfl ?_
        refine jw_iload_n hC dL_holds_69 6 rfl rfl ?_
        refine jw_aload_n hC dL_holds_70 5 rfl rfl ?_
        refine jw_iload hC dL_holds_71 4 rfl ?_
        refine jw_iload hC dL_holds_73 3 rfl ?_
        refine jw_iconst hC dL_holds_75 ?_
        refine jw_callV hC (c_X4_place l E M h0 _ (by omega) (by omega) _ (by omega) (by omega) _ (by decide) (by decide) ⟨⟨by omega, by omega, by omega, by omega⟩, by decide, by decide⟩) sV_L_22 ewF_x4.o dL_holds_76 rfl rfl ⟨Nat.le_of_ble_eq_true rfl, Nat.le_of_ble_eq_true rfl⟩ ⟨Nat.zero_le _, Nat.zero_le _⟩ (Nat.le_of_ble_eq_true rfl) (fun v76 M76 g76 => ?_)
        obtain ⟨-, rfl, hb76, rfl⟩ := g76
        have hpl76 := f_pl_k (k := k) (by omega) (by omega)
        rw [hpl76, show f_prop M k 1 = M 2 k from rfl] at hb76 ⊢
        refine jw_if_le (tgt := 86) hC dL_holds_79 (by decide) (by omega) (by omega) (fun h79 => ?_) (fun h79 => ?_)
        · skip
          refine jw_iconst hC dL_holds_86 ?_
          refine jw_iadd hC dL_holds_87 ?_
          refine jw_istore_n (L' := [(3, _), (2, _), (1, _), (8, _), (7, _), (6, _), (0, _), (4, _), (5, _)]) hC dL_holds_88 rfl (by decide) rfl ?_
          refine jw_iload hC dL_holds_89 3 rfl ?_
          refine jw_iload hC dL_holds_91 7 rfl ?_
          refine jw_icmp_le (tgt := 101) hC dL_holds_93 (by decide) (by omega) (by omega) (by omega) (by omega) (fun h93 => ?_) (fun h93 => ?_)
          · skip
            refine jw_iload hC dL_holds_101 7 rfl ?_
            refine jw_istore (L' := [(4, _), (3, _), (2, _), (1, _), (8, _), (7, _), (6, _), (0, _), (5, _)]) hC dL_holds_103 (by decide) rfl ?_
            refine jw_loc (L' := [(0, _), (1, _), (2, _), (3, _), (4, _), (5, _), (6, _), (7, _), (8, _)]) [7, 3, 2, 1, 0, 8, 6, 5, 4] rfl ?_
            refine K105 k _ _ _ _ i2 (by omega) (by rw [f_sum_s _ i2, hc]) (by rw [f_sum_s _ i2, hr]) ?_ ?_ (ih _ _ _ _ _ (by omega) (by omega) (by omega) (by rw [f_sum_s _ i2, hc]) (by rw [f_sum_s _ i2, hr]) ?_ ?_)
            · rw [f_sum_s _ i2, hf]
              first
              | rw [if_pos (by omega)]
              | rw [if_neg (by omega)]
            · rw [f_max_s _ i2, ← hd]
              omega
            · rw [f_sum_s _ i2, hf]
              first
              | rw [if_pos (by omega)]
              | rw [if_neg (by omega)]
            · rw [f_max_s _ i2, ← hd]
              omega
          · skip
            refine jw_iload hC dL_holds_96 3 rfl ?_
            refine jw_goto (tgt := 103) hC dL_holds_98 (by decide) ?_
            refine jw_istore (L' := [(4, _), (3, _), (2, _), (1, _), (8, _), (7, _), (6, _), (0, _), (5, _)]) hC dL_holds_103 (by decide) rfl ?_
            refine jw_loc (L' := [(0, _), (1, _), (2, _), (3, _), (4, _), (5, _), (6, _), (7, _), (8, _)]) [7, 3, 2, 1, 0, 8, 6, 5, 4] rfl ?_
            refine K105 k _ _ _ _ i2 (by omega) (by rw [f_sum_s _ i2, hc]) (by rw [f_sum_s _ i2, hr]) ?_ ?_ (ih _ _ _ _ _ (by omega) (by omega) (by omega) (by rw [f_sum_s _ i2, hc]) (by rw [f_sum_s _ i2, hr]) ?_ ?_)
            · rw [f_sum_s _ i2, hf]
              first
              | rw [if_pos (by omega)]
              | rw [if_neg (by omega)]
            · rw [f_max_s _ i2, ← hd]
              omega
            · rw [f_sum_s _ i2, hf]
              first
              | rw [if_pos (by omega)]
              | rw [if_neg (by omega)]
            · rw [f_max_s _ i2, ← hd]
              omega
        · skip
          refine jw_iconst hC dL_holds_82 ?_
          refine jw_goto (tgt := 87) hC dL_holds_83 (by decide) ?_
          refine jw_iadd hC dL_holds_87 ?_
          refine jw_istore_n (L' := [(3, _), (2, _), (1, _), (8, _), (7, _), (6, _), (0, _), (4, _), (5, _)]) hC dL_holds_88 rfl (by decide) rfl ?_
          refine jw_iload hC dL_holds_89 3 rfl ?_
          refine jw_iload hC dL_holds_91 7 rfl ?_
          refine jw_icmp_le (tgt := 101) hC dL_holds_93 (by decide) (by omega) (by omega) (by omega) (by omega) (fun h93 => ?_) (fun h93 => ?_)
          · skip
            refine jw_iload hC dL_holds_101 7 rfl ?_
            refine jw_istore (L' := [(4, _), (3, _), (2, _), (1, _), (8, _), (7, _), (6, _), (0, _), (5, _)]) hC dL_holds_103 (by decide) rfl ?_
            refine jw_loc (L' := [(0, _), (1, _), (2, _), (3, _), (4, _), (5, _), (6, _), (7, _), (8, _)]) [7, 3, 2, 1, 0, 8, 6, 5, 4] rfl ?_
            refine K105 k _ _ _ _ i2 (by omega) (by rw [f_sum_s _ i2, hc]) (by rw [f_sum_s _ i2, hr]) ?_ ?_ (ih _ _ _ _ _ (by omega) (by omega) (by omega) (by rw [f_sum_s _ i2, hc]) (by rw [f_sum_s _ i2, hr]) ?_ ?_)
            · rw [f_sum_s _ i2, hf]
              first
              | rw [if_pos (by omega)]
              | rw [if_neg (by omega)]
            · rw [f_max_s _ i2, ← hd]
              omega
            · rw [f_sum_s _ i2, hf]
              first
              | rw [if_pos (by omega)]
              | rw [if_neg (by omega)]
            · rw [f_max_s _ i2, ← hd]
              omega
          · skip
            refine jw_iload hC dL_holds_96 3 rfl ?_
            refine jw_goto (tgt := 103) hC dL_holds_98 (by decide) ?_
            refine jw_istore (L' := [(4, _), (3, _), (2, _), (1, _), (8, _), (7, _), (6, _), (0, _), (5, _)]) hC dL_holds_103 (by decide) rfl ?_
            refine jw_loc (L' := [(0, _), (1, _), (2, _), (3, _), (4, _), (5, _), (6, _), (7, _), (8, _)]) [7, 3, 2, 1, 0, 8, 6, 5, 4] rfl ?_
            refine K105 k _ _ _ _ i2 (by omega) (by rw [f_sum_s _ i2, hc]) (by rw [f_sum_s _ i2, hr]) ?_ ?_ (ih _ _ _ _ _ (by omega) (by omega) (by omega) (by rw [f_sum_s _ i2, hc]) (by rw [f_sum_s _ i2, hr]) ?_ ?_)
            · rw [f_sum_s _ i2, hf]
              first
              | rw [if_pos (by omega)]
              | rw [if_neg (by omega)]
            · rw [f_max_s _ i2, ← hd]
              omega
            · rw [f_sum_s _ i2, hf]
              first
              | rw [if_pos (by omega)]
              | rw [if_neg (by omega)]
            · rw [f_max_s _ i2, ← hd]
              omega
  refine jw_iconst hC dL_holds_0 ?_
  refine jw_istore_n (L' := [(1, _), (0, _)]) hC dL_holds_1 rfl (by decide) rfl ?_
  refine jw_iconst hC dL_holds_2 ?_
  refine jw_istore_n (L' := [(2, _), (1, _), (0, _)]) hC dL_holds_3 rfl (by decide) rfl ?_
  refine jw_iconst hC dL_holds_4 ?_
  refine jw_istore_n (L' := [(3, _), (2, _), (1, _), (0, _)]) hC dL_holds_5 rfl (by decide) rfl ?_
  refine jw_iconst hC dL_holds_6 ?_
  refine jw_istore (L' := [(4, _), (3, _), (2, _), (1, _), (0, _)]) hC dL_holds_7 (by decide) rfl ?_
  refine jw_iconst hC dL_holds_9 ?_
  refine jw_istore (L' := [(5, _), (4, _), (3, _), (2, _), (1, _), (0, _)]) hC dL_holds_10 (by decide) rfl ?_
  refine jw_loc (L' := [(0, _), (1, _), (2, _), (3, _), (4, _), (5, _)]) [5, 4, 3, 2, 1, 0] rfl ?_
  exact K12 145 0 0 0 0 0 (by omega) (by omega) (by omega) rfl rfl rfl rfl
end
section
/-! THE LAW'S OWN METHODS: act -/
set_option maxRecDepth 100000 in
set_option maxHeartbeats 4000000 in
theorem c_L_act (l : Launch) (E : ewE) (M : ewM) (h0 : st0 M) (q4 : 0 ≤ M 77 4 ∧ M 77 4 ≤ 5) (q5 : 0 ≤ M 77 5 ∧ M 77 5 ≤ 6) (v w : Int) : Ct l E yL_act (.code yL_act cL_act 7 (some .int)) 6 [vR E 77, vI v, vI w] M (opP M (f_act (i_and v 15) v w (sj M 0))) := by
  refine ct_of (L0 := [(0, vR E 77), (1, vI v), (2, vI w)]) (by decide +kernel) rfl (Nat.le_of_ble_eq_true rfl) ?_
  intro zp ze zs zm za zb zt zc zA hC
  have l1 := f_lo_b (i_shr v 4) (n := 3) (by decide)
  have l2 := f_lo_b w (n := 12) (by decide)
  have l3 := f_lo_b (i_shr w 4) (n := 12) (by decide)
  have l4 := f_lo_b (i_shr v 6) (n := 9) (by decide)
  have l5 := f_lo_b (i_shr w 8) (n := 12 - f_lo w 12) (by omega)
  have l6 := f_lo_b (i_shr w 12) (n := 12 - f_lo (i_shr w 4) 12) (by omega)
  have l7 := f_lo_b w (n := 11) (by decide)
  have l8 := f_lo_b w (n := 4) (by decide)
  have l9 := f_lo_b (i_shr w 8) (n := 8) (by decide)
  have m1 := f_lo_b w (n := 5) (by decide)
  have m2 := f_lo_b (i_shr w 3) (n := 5) (by decide)
  have m3 := f_lo_b (i_shr w 6) (n := 10) (by decide)
  have hsv := f_sv_ok w l8
  have hsb := g_bnd (f_lo w 4).toNat
  have hk := i_and_b v (y := 15) (by decide) (by decide)
  refine jw_iload_n hC dL_act_0 1 rfl rfl ?_
  refine jw_iconst hC dL_act_1 ?_
  refine jw_ishr hC dL_act_2 (fun b2 c2 => ?_)
  refine jw_iconst hC dL_act_3 ?_
  refine jw_callS hC (c_L_low l E _ _ _ (by omega)) sS_L_26 dL_act_4 rfl rfl ⟨Nat.le_of_ble_eq_true rfl, Nat.le_of_ble_eq_true rfl⟩ ⟨Nat.zero_le _, Nat.zero_le _⟩ (Nat.le_of_ble_eq_true rfl) (fun v4 M4 g4 => ?_)
  obtain ⟨rfl, rfl⟩ := g4
  refine jw_istore_n (L' := [(3, _), (0, _), (1, _), (2, _)]) hC dL_act_7 rfl (by decide) rfl ?_
  refine jw_iload_n hC dL_act_8 3 rfl rfl ?_
  refine jw_bipush hC dL_act_9 (by decide) ?_
  refine jw_callS hC (c_L_low l E _ _ _ (by omega)) sS_L_26 dL_act_11 rfl rfl ⟨Nat.le_of_ble_eq_true rfl, Nat.le_of_ble_eq_true rfl⟩ ⟨Nat.zero_le _, Nat.zero_le _⟩ (Nat.le_of_ble_eq_true rfl) (fun v11 M11 g11 => ?_)
  obtain ⟨rfl, rfl⟩ := g11
  refine jw_istore (L' := [(4, _), (3, _), (0, _), (1, _), (2, _)]) hC dL_act_14 (by decide) rfl ?_
  refine jw_iload_n hC dL_act_16 4 rfl rfl ?_
  refine jw_iconst hC dL_act_17 ?_
  refine jw_ishr hC dL_act_18 (fun b18 c18 => ?_)
  refine jw_bipush hC dL_act_19 (by decide) ?_
  refine jw_callS hC (c_L_low l E _ _ _ (by omega)) sS_L_26 dL_act_21 rfl rfl ⟨Nat.le_of_ble_eq_true rfl, Nat.le_of_ble_eq_true rfl⟩ ⟨Nat.zero_le _, Nat.zero_le _⟩ (Nat.le_of_ble_eq_true rfl) (fun v21 M21 g21 => ?_)
  obtain ⟨rfl, rfl⟩ := g21
  refine jw_istore (L' := [(5, _), (4, _), (3, _), (0, _), (1, _), (2, _)]) hC dL_act_24 (by decide) rfl ?_
  refine jw_iload_n hC dL_act_26 4 rfl rfl ?_
  refine jw_bipush hC dL_act_27 (by decide) ?_
  refine jw_iand hC dL_act_29 (fun b29 c29 => ?_)
  generalize i_and v 15 = kd at hk ⊢
  rcases (show kd = 0 ∨ kd = 1 ∨ kd = 2 ∨ kd = 3 ∨ kd = 4 ∨ kd = 5 ∨ kd = 6 ∨ kd = 7 ∨ kd = 8 ∨ kd = 9 ∨ kd = 10 ∨ kd = 11 ∨ kd = 12 ∨ kd = 13 ∨ kd = 14 ∨ kd = 15 by omega) with rfl | rfl | rfl | rfl | rfl | rfl | rfl | rfl | rfl | rfl | rfl | rfl | rfl | rfl | rfl | rfl
  · skip
    refine jw_tabIn (tgt := 88) hC dL_act_30 (by decide) (by decide) (by decide) (by decide) rfl (by decide) ?_
    refine jw_iload_n hC dL_act_88 5 rfl rfl ?_
    refine jw_bipush hC dL_act_89 (by decide) ?_
    refine jw_ishr hC dL_act_91 (fun b91 c91 => ?_)
    refine jw_iconst hC dL_act_92 ?_
    refine jw_iand hC dL_act_93 (fun b93 c93 => ?_)
    refine jw_if_ne (tgt := 104) hC dL_act_94 (by decide) (by omega) (by omega) (fun h94 => ?_) (fun h94 => ?_)
    · skip
      refine jw_aload_n hC dL_act_104 3 rfl rfl ?_
      refine jw_callV hC (c_X4_pin l E M q4 q5) sV_L_36 ewF_x4.o dL_act_105 rfl rfl ⟨Nat.le_of_ble_eq_true rfl, Nat.le_of_ble_eq_true rfl⟩ ⟨Nat.zero_le _, Nat.zero_le _⟩ (Nat.le_of_ble_eq_true rfl) (fun v105 M105 g105 => ?_)
      have op := op_pin q4 q5 g105
      obtain ⟨rfl, -, -⟩ := id op
      refine jw_iret hC dL_act_108 ?_
      show opP M (if i_and (i_shr w 20) 1 = 0 then o_sheet (sj M 0) else o_pin (sj M 0)) _ _
      first
      | (rw [if_pos (show i_and (i_shr w 20) 1 = 0 by omega)]; exact op)
      | (rw [if_neg (show ¬ i_and (i_shr w 20) 1 = 0 by omega)]; exact op)
    · skip
      refine jw_aload_n hC dL_act_97 3 rfl rfl ?_
      refine jw_callV hC (c_X4_sheet l E M h0 q4 q5) sV_L_32 ewF_x4.o dL_act_98 rfl rfl ⟨Nat.le_of_ble_eq_true rfl, Nat.le_of_ble_eq_true rfl⟩ ⟨Nat.zero_le _, Nat.zero_le _⟩ (Nat.le_of_ble_eq_true rfl) (fun v98 M98 g98 => ?_)
      have op := op_sheet q4 q5 g98
      obtain ⟨rfl, -, -⟩ := id op
      refine jw_goto (tgt := 108) hC dL_act_101 (by decide) ?_
      refine jw_iret hC dL_act_108 ?_
      show opP M (if i_and (i_shr w 20) 1 = 0 then o_sheet (sj M 0) else o_pin (sj M 0)) _ _
      first
      | (rw [if_pos (show i_and (i_shr w 20) 1 = 0 by omega)]; exact op)
      | (rw [if_neg (show ¬ i_and (i_shr w 20) 1 = 0 by omega)]; exact op)
  · skip
    refine jw_tabIn (tgt := 109) hC dL_act_30 (by decide) (by decide) (by decide) (by decide) rfl (by decide) ?_
    refine jw_aload_n hC dL_act_109 3 rfl rfl ?_
    refine jw_callV hC (c_X4_pin l E M q4 q5) sV_L_36 ewF_x4.o dL_act_110 rfl rfl ⟨Nat.le_of_ble_eq_true rfl, Nat.le_of_ble_eq_true rfl⟩ ⟨Nat.zero_le _, Nat.zero_le _⟩ (Nat.le_of_ble_eq_true rfl) (fun v110 M110 g110 => ?_)
    have op := op_pin q4 q5 g110
    obtain ⟨rfl, -, -⟩ := id op
    refine jw_iret hC dL_act_113 ?_
    exact op
  · skip
    refine jw_tabIn (tgt := 114) hC dL_act_30 (by decide) (by decide) (by decide) (by decide) rfl (by decide) ?_
    refine jw_aload_n hC dL_act_114 3 rfl rfl ?_
    refine jw_iconst hC dL_act_115 ?_
    refine jw_iload_n hC dL_act_116 4 rfl rfl ?_
    refine jw_bipush hC dL_act_117 (by decide) ?_
    refine jw_ishr hC dL_act_119 (fun b119 c119 => ?_)
    refine jw_bipush hC dL_act_120 (by decide) ?_
    refine jw_callS hC (c_L_low l E _ _ _ (by omega)) sS_L_26 dL_act_122 rfl rfl ⟨Nat.le_of_ble_eq_true rfl, Nat.le_of_ble_eq_true rfl⟩ ⟨Nat.zero_le _, Nat.zero_le _⟩ (Nat.le_of_ble_eq_true rfl) (fun v122 M122 g122 => ?_)
    obtain ⟨rfl, rfl⟩ := g122
    refine jw_iadd hC dL_act_125 ?_
    refine jw_iload hC dL_act_126 1 rfl ?_
    refine jw_iload hC dL_act_128 0 rfl ?_
    refine jw_iload hC dL_act_130 1 rfl ?_
    refine jw_iload_n hC dL_act_132 5 rfl rfl ?_
    refine jw_bipush hC dL_act_133 (by decide) ?_
    refine jw_ishr hC dL_act_135 (fun b135 c135 => ?_)
    refine jw_bipush hC dL_act_136 (by decide) ?_
    refine jw_iload hC dL_act_138 1 rfl ?_
    refine jw_isub hC dL_act_140 ?_
    refine jw_callS hC (c_L_low l E _ _ _ (by omega)) sS_L_26 dL_act_141 rfl rfl ⟨Nat.le_of_ble_eq_true rfl, Nat.le_of_ble_eq_true rfl⟩ ⟨Nat.zero_le _, Nat.zero_le _⟩ (Nat.le_of_ble_eq_true rfl) (fun v141 M141 g141 => ?_)
    obtain ⟨rfl, rfl⟩ := g141
    refine jw_iadd hC dL_act_144 ?_
    refine jw_iload hC dL_act_145 0 rfl ?_
    refine jw_iload_n hC dL_act_147 5 rfl rfl ?_
    refine jw_bipush hC dL_act_148 (by decide) ?_
    refine jw_ishr hC dL_act_150 (fun b150 c150 => ?_)
    refine jw_bipush hC dL_act_151 (by decide) ?_
    refine jw_iload hC dL_act_153 0 rfl ?_
    refine jw_isub hC dL_act_155 ?_
    refine jw_callS hC (c_L_low l E _ _ _ (by omega)) sS_L_26 dL_act_156 rfl rfl ⟨Nat.le_of_ble_eq_true rfl, Nat.le_of_ble_eq_true rfl⟩ ⟨Nat.zero_le _, Nat.zero_le _⟩ (Nat.le_of_ble_eq_true rfl) (fun v156 M156 g156 => ?_)
    obtain ⟨rfl, rfl⟩ := g156
    refine jw_iadd hC dL_act_159 ?_
    refine jw_callV hC (c_X4_foil l E M q4 q5 _ (by omega) (by omega) _ (by omega) (by omega) _ (by omega) (by omega) _ (by omega) (by omega) _ (by omega) (by omega) ⟨⟨⟨by omega, by omega, by omega, by omega⟩, by omega, by omega, by omega, by omega⟩, ⟨by omega, by omega⟩, by omega, by omega⟩) sV_L_39 ewF_x4.o dL_act_160 rfl rfl ⟨Nat.le_of_ble_eq_true rfl, Nat.le_of_ble_eq_true rfl⟩ ⟨Nat.zero_le _, Nat.zero_le _⟩ (Nat.le_of_ble_eq_true rfl) (fun v160 M160 g160 => ?_)
    have op := op_foil q4 q5 g160.2
    obtain ⟨rfl, -, -⟩ := id op
    refine jw_iret hC dL_act_163 ?_
    exact op
  · skip
    refine jw_tabIn (tgt := 164) hC dL_act_30 (by decide) (by decide) (by decide) (by decide) rfl (by decide) ?_
    refine jw_aload_n hC dL_act_164 3 rfl rfl ?_
    refine jw_iconst hC dL_act_165 ?_
    refine jw_iload_n hC dL_act_166 5 rfl rfl ?_
    refine jw_bipush hC dL_act_167 (by decide) ?_
    refine jw_callS hC (c_L_low l E _ _ _ (by omega)) sS_L_26 dL_act_169 rfl rfl ⟨Nat.le_of_ble_eq_true rfl, Nat.le_of_ble_eq_true rfl⟩ ⟨Nat.zero_le _, Nat.zero_le _⟩ (Nat.le_of_ble_eq_true rfl) (fun v169 M169 g169 => ?_)
    obtain ⟨rfl, rfl⟩ := g169
    refine jw_iadd hC dL_act_172 ?_
    refine jw_callV hC (c_X4_fold l E M h0 q4 q5 _ (by omega) (by omega) ⟨by omega, by omega⟩) sV_L_43 ewF_x4.o dL_act_173 rfl rfl ⟨Nat.le_of_ble_eq_true rfl, Nat.le_of_ble_eq_true rfl⟩ ⟨Nat.zero_le _, Nat.zero_le _⟩ (Nat.le_of_ble_eq_true rfl) (fun v173 M173 g173 => ?_)
    have op := op_fold q4 q5 g173.2
    obtain ⟨rfl, -, -⟩ := id op
    refine jw_iret hC dL_act_176 ?_
    exact op
  · skip
    refine jw_tabIn (tgt := 177) hC dL_act_30 (by decide) (by decide) (by decide) (by decide) rfl (by decide) ?_
    refine jw_iload_n hC dL_act_177 5 rfl rfl ?_
    refine jw_iconst hC dL_act_178 ?_
    refine jw_callS hC (c_L_low l E _ _ _ (by omega)) sS_L_26 dL_act_179 rfl rfl ⟨Nat.le_of_ble_eq_true rfl, Nat.le_of_ble_eq_true rfl⟩ ⟨Nat.zero_le _, Nat.zero_le _⟩ (Nat.le_of_ble_eq_true rfl) (fun v179 M179 g179 => ?_)
    obtain ⟨rfl, rfl⟩ := g179
    refine jw_istore (L' := [(6, _), (5, _), (4, _), (3, _), (0, _), (1, _), (2, _)]) hC dL_act_182 (by decide) rfl ?_
    refine jw_aload_n hC dL_act_184 4 rfl rfl ?_
    refine jw_iload hC dL_act_185 0 rfl ?_
    refine jw_iload hC dL_act_187 0 rfl ?_
    refine jw_if_ne (tgt := 203) hC dL_act_189 (by decide) (by omega) (by omega) (fun h189 => ?_) (fun h189 => ?_)
    · skip
      refine jw_iload hC dL_act_203 0 rfl ?_
      refine jw_iconst hC dL_act_205 ?_
      refine jw_icmp_ne (tgt := 220) hC dL_act_206 (by decide) (by omega) (by omega) (by omega) (by omega) (fun h206 => ?_) (fun h206 => ?_)
      · skip
        refine jw_iload hC dL_act_220 0 rfl ?_
        refine jw_iconst hC dL_act_222 ?_
        refine jw_icmp_ne (tgt := 239) hC dL_act_223 (by decide) (by omega) (by omega) (by omega) (by omega) (fun h223 => ?_) (fun h223 => ?_)
        · skip
          refine jw_iload_n hC dL_act_239 6 rfl rfl ?_
          refine jw_iconst hC dL_act_240 ?_
          refine jw_ishr hC dL_act_241 (fun b241 c241 => ?_)
          refine jw_bipush hC dL_act_242 (by decide) ?_
          refine jw_callS hC (c_L_low l E _ _ _ (by omega)) sS_L_26 dL_act_244 rfl rfl ⟨Nat.le_of_ble_eq_true rfl, Nat.le_of_ble_eq_true rfl⟩ ⟨Nat.zero_le _, Nat.zero_le _⟩ (Nat.le_of_ble_eq_true rfl) (fun v244 M244 g244 => ?_)
          obtain ⟨rfl, rfl⟩ := g244
          first
          | (have h9 : f_lo w 4 = 0 := by omega
             rw [show f_lo (i_shr w 2) 100 = f_sv (f_lo w 4) w by unfold f_sv; rw [if_pos h9]])
          | (have h9 : f_lo w 4 = 1 := by omega
             rw [show f_lo (i_shr w 2) 21 = f_sv (f_lo w 4) w by unfold f_sv; rw [if_neg (by omega), if_pos h9]])
          | (have h9 : f_lo w 4 = 2 := by omega
             rw [show 1 + f_lo (i_shr w 2) 9 = f_sv (f_lo w 4) w by unfold f_sv; rw [if_neg (by omega), if_neg (by omega), if_pos h9]])
          | (have h9 : f_lo w 4 = 3 := by omega
             rw [show f_lo (i_shr w 2) 10 = f_sv (f_lo w 4) w by unfold f_sv; rw [if_neg (by omega), if_neg (by omega), if_neg (by omega)]])
          refine jw_callV hC (c_X4_set l E M q4 q5 _ (by omega) (by omega) _ (by omega) (by omega) ⟨⟨by omega, by omega⟩, hsv⟩) sV_L_46 ewF_x4.o dL_act_247 rfl rfl ⟨Nat.le_of_ble_eq_true rfl, Nat.le_of_ble_eq_true rfl⟩ ⟨Nat.zero_le _, Nat.zero_le _⟩ (Nat.le_of_ble_eq_true rfl) (fun v247 M247 g247 => ?_)
          have op := op_set q4 q5 g247.2
          obtain ⟨rfl, -, -⟩ := id op
          refine jw_iret hC dL_act_250 ?_
          exact op
        · skip
          refine jw_iconst hC dL_act_226 ?_
          refine jw_iload_n hC dL_act_227 6 rfl rfl ?_
          refine jw_iconst hC dL_act_228 ?_
          refine jw_ishr hC dL_act_229 (fun b229 c229 => ?_)
          refine jw_bipush hC dL_act_230 (by decide) ?_
          refine jw_callS hC (c_L_low l E _ _ _ (by omega)) sS_L_26 dL_act_232 rfl rfl ⟨Nat.le_of_ble_eq_true rfl, Nat.le_of_ble_eq_true rfl⟩ ⟨Nat.zero_le _, Nat.zero_le _⟩ (Nat.le_of_ble_eq_true rfl) (fun v232 M232 g232 => ?_)
          obtain ⟨rfl, rfl⟩ := g232
          refine jw_iadd hC dL_act_235 ?_
          refine jw_goto (tgt := 247) hC dL_act_236 (by decide) ?_
          first
          | (have h9 : f_lo w 4 = 0 := by omega
             rw [show f_lo (i_shr w 2) 100 = f_sv (f_lo w 4) w by unfold f_sv; rw [if_pos h9]])
          | (have h9 : f_lo w 4 = 1 := by omega
             rw [show f_lo (i_shr w 2) 21 = f_sv (f_lo w 4) w by unfold f_sv; rw [if_neg (by omega), if_pos h9]])
          | (have h9 : f_lo w 4 = 2 := by omega
             rw [show 1 + f_lo (i_shr w 2) 9 = f_sv (f_lo w 4) w by unfold f_sv; rw [if_neg (by omega), if_neg (by omega), if_pos h9]])
          | (have h9 : f_lo w 4 = 3 := by omega
             rw [show f_lo (i_shr w 2) 10 = f_sv (f_lo w 4) w by unfold f_sv; rw [if_neg (by omega), if_neg (by omega), if_neg (by omega)]])
          refine jw_callV hC (c_X4_set l E M q4 q5 _ (by omega) (by omega) _ (by omega) (by omega) ⟨⟨by omega, by omega⟩, hsv⟩) sV_L_46 ewF_x4.o dL_act_247 rfl rfl ⟨Nat.le_of_ble_eq_true rfl, Nat.le_of_ble_eq_true rfl⟩ ⟨Nat.zero_le _, Nat.zero_le _⟩ (Nat.le_of_ble_eq_true rfl) (fun v247 M247 g247 => ?_)
          have op := op_set q4 q5 g247.2
          obtain ⟨rfl, -, -⟩ := id op
          refine jw_iret hC dL_act_250 ?_
          exact op
      · skip
        refine jw_iload_n hC dL_act_209 6 rfl rfl ?_
        refine jw_iconst hC dL_act_210 ?_
        refine jw_ishr hC dL_act_211 (fun b211 c211 => ?_)
        refine jw_bipush hC dL_act_212 (by decide) ?_
        refine jw_callS hC (c_L_low l E _ _ _ (by omega)) sS_L_26 dL_act_214 rfl rfl ⟨Nat.le_of_ble_eq_true rfl, Nat.le_of_ble_eq_true rfl⟩ ⟨Nat.zero_le _, Nat.zero_le _⟩ (Nat.le_of_ble_eq_true rfl) (fun v214 M214 g214 => ?_)
        obtain ⟨rfl, rfl⟩ := g214
        refine jw_goto (tgt := 247) hC dL_act_217 (by decide) ?_
        first
        | (have h9 : f_lo w 4 = 0 := by omega
           rw [show f_lo (i_shr w 2) 100 = f_sv (f_lo w 4) w by unfold f_sv; rw [if_pos h9]])
        | (have h9 : f_lo w 4 = 1 := by omega
           rw [show f_lo (i_shr w 2) 21 = f_sv (f_lo w 4) w by unfold f_sv; rw [if_neg (by omega), if_pos h9]])
        | (have h9 : f_lo w 4 = 2 := by omega
           rw [show 1 + f_lo (i_shr w 2) 9 = f_sv (f_lo w 4) w by unfold f_sv; rw [if_neg (by omega), if_neg (by omega), if_pos h9]])
        | (have h9 : f_lo w 4 = 3 := by omega
           rw [show f_lo (i_shr w 2) 10 = f_sv (f_lo w 4) w by unfold f_sv; rw [if_neg (by omega), if_neg (by omega), if_neg (by omega)]])
        refine jw_callV hC (c_X4_set l E M q4 q5 _ (by omega) (by omega) _ (by omega) (by omega) ⟨⟨by omega, by omega⟩, hsv⟩) sV_L_46 ewF_x4.o dL_act_247 rfl rfl ⟨Nat.le_of_ble_eq_true rfl, Nat.le_of_ble_eq_true rfl⟩ ⟨Nat.zero_le _, Nat.zero_le _⟩ (Nat.le_of_ble_eq_true rfl) (fun v247 M247 g247 => ?_)
        have op := op_set q4 q5 g247.2
        obtain ⟨rfl, -, -⟩ := id op
        refine jw_iret hC dL_act_250 ?_
        exact op
    · skip
      refine jw_iload_n hC dL_act_192 6 rfl rfl ?_
      refine jw_iconst hC dL_act_193 ?_
      refine jw_ishr hC dL_act_194 (fun b194 c194 => ?_)
      refine jw_bipush hC dL_act_195 (by decide) ?_
      refine jw_callS hC (c_L_low l E _ _ _ (by omega)) sS_L_26 dL_act_197 rfl rfl ⟨Nat.le_of_ble_eq_true rfl, Nat.le_of_ble_eq_true rfl⟩ ⟨Nat.zero_le _, Nat.zero_le _⟩ (Nat.le_of_ble_eq_true rfl) (fun v197 M197 g197 => ?_)
      obtain ⟨rfl, rfl⟩ := g197
      refine jw_goto (tgt := 247) hC dL_act_200 (by decide) ?_
      first
      | (have h9 : f_lo w 4 = 0 := by omega
         rw [show f_lo (i_shr w 2) 100 = f_sv (f_lo w 4) w by unfold f_sv; rw [if_pos h9]])
      | (have h9 : f_lo w 4 = 1 := by omega
         rw [show f_lo (i_shr w 2) 21 = f_sv (f_lo w 4) w by unfold f_sv; rw [if_neg (by omega), if_pos h9]])
      | (have h9 : f_lo w 4 = 2 := by omega
         rw [show 1 + f_lo (i_shr w 2) 9 = f_sv (f_lo w 4) w by unfold f_sv; rw [if_neg (by omega), if_neg (by omega), if_pos h9]])
      | (have h9 : f_lo w 4 = 3 := by omega
         rw [show f_lo (i_shr w 2) 10 = f_sv (f_lo w 4) w by unfold f_sv; rw [if_neg (by omega), if_neg (by omega), if_neg (by omega)]])
      refine jw_callV hC (c_X4_set l E M q4 q5 _ (by omega) (by omega) _ (by omega) (by omega) ⟨⟨by omega, by omega⟩, hsv⟩) sV_L_46 ewF_x4.o dL_act_247 rfl rfl ⟨Nat.le_of_ble_eq_true rfl, Nat.le_of_ble_eq_true rfl⟩ ⟨Nat.zero_le _, Nat.zero_le _⟩ (Nat.le_of_ble_eq_true rfl) (fun v247 M247 g247 => ?_)
      have op := op_set q4 q5 g247.2
      obtain ⟨rfl, -, -⟩ := id op
      refine jw_iret hC dL_act_250 ?_
      exact op
  · skip
    refine jw_tabIn (tgt := 251) hC dL_act_30 (by decide) (by decide) (by decide) (by decide) rfl (by decide) ?_
    refine jw_aload_n hC dL_act_251 3 rfl rfl ?_
    refine jw_iload_n hC dL_act_252 2 rfl rfl ?_
    refine jw_iload hC dL_act_253 1 rfl ?_
    refine jw_iload hC dL_act_255 0 rfl ?_
    refine jw_callV hC (c_X4_cast l E M h0 q4 q5 _ (by omega) (by omega) _ (by omega) (by omega) _ (by omega) (by omega) ⟨⟨by omega, by omega⟩, by omega, by omega, by omega, by omega⟩) sV_L_49 ewF_x4.o dL_act_257 rfl rfl ⟨Nat.le_of_ble_eq_true rfl, Nat.le_of_ble_eq_true rfl⟩ ⟨Nat.zero_le _, Nat.zero_le _⟩ (Nat.le_of_ble_eq_true rfl) (fun v257 M257 g257 => ?_)
    have op := op_cast q4 q5 g257.2
    obtain ⟨rfl, -, -⟩ := id op
    refine jw_iret hC dL_act_260 ?_
    exact op
  · skip
    refine jw_tabIn (tgt := 261) hC dL_act_30 (by decide) (by decide) (by decide) (by decide) rfl (by decide) ?_
    refine jw_aload_n hC dL_act_261 3 rfl rfl ?_
    refine jw_iload_n hC dL_act_262 2 rfl rfl ?_
    refine jw_iload hC dL_act_263 1 rfl ?_
    refine jw_iconst hC dL_act_265 ?_
    refine jw_isub hC dL_act_266 ?_
    refine jw_iload hC dL_act_267 0 rfl ?_
    refine jw_iconst hC dL_act_269 ?_
    refine jw_isub hC dL_act_270 ?_
    refine jw_iload_n hC dL_act_271 5 rfl rfl ?_
    refine jw_bipush hC dL_act_272 (by decide) ?_
    refine jw_ishr hC dL_act_274 (fun b274 c274 => ?_)
    refine jw_bipush hC dL_act_275 (by decide) ?_
    refine jw_callS hC (c_L_low l E _ _ _ (by omega)) sS_L_26 dL_act_277 rfl rfl ⟨Nat.le_of_ble_eq_true rfl, Nat.le_of_ble_eq_true rfl⟩ ⟨Nat.zero_le _, Nat.zero_le _⟩ (Nat.le_of_ble_eq_true rfl) (fun v277 M277 g277 => ?_)
    obtain ⟨rfl, rfl⟩ := g277
    refine jw_callV hC (c_X4_press l E M h0 q4 q5 _ (by omega) (by omega) _ (by omega) (by omega) _ (by omega) (by omega) _ (by omega) (by omega) ⟨⟨by omega, by omega⟩, by omega, by omega⟩) sV_L_52 ewF_x4.o dL_act_280 rfl rfl ⟨Nat.le_of_ble_eq_true rfl, Nat.le_of_ble_eq_true rfl⟩ ⟨Nat.zero_le _, Nat.zero_le _⟩ (Nat.le_of_ble_eq_true rfl) (fun v280 M280 g280 => ?_)
    have op := op_press q4 q5 g280.2
    obtain ⟨rfl, -, -⟩ := id op
    refine jw_iret hC dL_act_283 ?_
    exact op
  · skip
    refine jw_tabIn (tgt := 261) hC dL_act_30 (by decide) (by decide) (by decide) (by decide) rfl (by decide) ?_
    refine jw_aload_n hC dL_act_261 3 rfl rfl ?_
    refine jw_iload_n hC dL_act_262 2 rfl rfl ?_
    refine jw_iload hC dL_act_263 1 rfl ?_
    refine jw_iconst hC dL_act_265 ?_
    refine jw_isub hC dL_act_266 ?_
    refine jw_iload hC dL_act_267 0 rfl ?_
    refine jw_iconst hC dL_act_269 ?_
    refine jw_isub hC dL_act_270 ?_
    refine jw_iload_n hC dL_act_271 5 rfl rfl ?_
    refine jw_bipush hC dL_act_272 (by decide) ?_
    refine jw_ishr hC dL_act_274 (fun b274 c274 => ?_)
    refine jw_bipush hC dL_act_275 (by decide) ?_
    refine jw_callS hC (c_L_low l E _ _ _ (by omega)) sS_L_26 dL_act_277 rfl rfl ⟨Nat.le_of_ble_eq_true rfl, Nat.le_of_ble_eq_true rfl⟩ ⟨Nat.zero_le _, Nat.zero_le _⟩ (Nat.le_of_ble_eq_true rfl) (fun v277 M277 g277 => ?_)
    obtain ⟨rfl, rfl⟩ := g277
    refine jw_callV hC (c_X4_press l E M h0 q4 q5 _ (by omega) (by omega) _ (by omega) (by omega) _ (by omega) (by omega) _ (by omega) (by omega) ⟨⟨by omega, by omega⟩, by omega, by omega⟩) sV_L_52 ewF_x4.o dL_act_280 rfl rfl ⟨Nat.le_of_ble_eq_true rfl, Nat.le_of_ble_eq_true rfl⟩ ⟨Nat.zero_le _, Nat.zero_le _⟩ (Nat.le_of_ble_eq_true rfl) (fun v280 M280 g280 => ?_)
    have op := op_press q4 q5 g280.2
    obtain ⟨rfl, -, -⟩ := id op
    refine jw_iret hC dL_act_283 ?_
    exact op
  · skip
    refine jw_tabIn (tgt := 261) hC dL_act_30 (by decide) (by decide) (by decide) (by decide) rfl (by decide) ?_
    refine jw_aload_n hC dL_act_261 3 rfl rfl ?_
    refine jw_iload_n hC dL_act_262 2 rfl rfl ?_
    refine jw_iload hC dL_act_263 1 rfl ?_
    refine jw_iconst hC dL_act_265 ?_
    refine jw_isub hC dL_act_266 ?_
    refine jw_iload hC dL_act_267 0 rfl ?_
    refine jw_iconst hC dL_act_269 ?_
    refine jw_isub hC dL_act_270 ?_
    refine jw_iload_n hC dL_act_271 5 rfl rfl ?_
    refine jw_bipush hC dL_act_272 (by decide) ?_
    refine jw_ishr hC dL_act_274 (fun b274 c274 => ?_)
    refine jw_bipush hC dL_act_275 (by decide) ?_
    refine jw_callS hC (c_L_low l E _ _ _ (by omega)) sS_L_26 dL_act_277 rfl rfl ⟨Nat.le_of_ble_eq_true rfl, Nat.le_of_ble_eq_true rfl⟩ ⟨Nat.zero_le _, Nat.zero_le _⟩ (Nat.le_of_ble_eq_true rfl) (fun v277 M277 g277 => ?_)
    obtain ⟨rfl, rfl⟩ := g277
    refine jw_callV hC (c_X4_press l E M h0 q4 q5 _ (by omega) (by omega) _ (by omega) (by omega) _ (by omega) (by omega) _ (by omega) (by omega) ⟨⟨by omega, by omega⟩, by omega, by omega⟩) sV_L_52 ewF_x4.o dL_act_280 rfl rfl ⟨Nat.le_of_ble_eq_true rfl, Nat.le_of_ble_eq_true rfl⟩ ⟨Nat.zero_le _, Nat.zero_le _⟩ (Nat.le_of_ble_eq_true rfl) (fun v280 M280 g280 => ?_)
    have op := op_press q4 q5 g280.2
    obtain ⟨rfl, -, -⟩ := id op
    refine jw_iret hC dL_act_283 ?_
    exact op
  · skip
    refine jw_tabIn (tgt := 261) hC dL_act_30 (by decide) (by decide) (by decide) (by decide) rfl (by decide) ?_
    refine jw_aload_n hC dL_act_261 3 rfl rfl ?_
    refine jw_iload_n hC dL_act_262 2 rfl rfl ?_
    refine jw_iload hC dL_act_263 1 rfl ?_
    refine jw_iconst hC dL_act_265 ?_
    refine jw_isub hC dL_act_266 ?_
    refine jw_iload hC dL_act_267 0 rfl ?_
    refine jw_iconst hC dL_act_269 ?_
    refine jw_isub hC dL_act_270 ?_
    refine jw_iload_n hC dL_act_271 5 rfl rfl ?_
    refine jw_bipush hC dL_act_272 (by decide) ?_
    refine jw_ishr hC dL_act_274 (fun b274 c274 => ?_)
    refine jw_bipush hC dL_act_275 (by decide) ?_
    refine jw_callS hC (c_L_low l E _ _ _ (by omega)) sS_L_26 dL_act_277 rfl rfl ⟨Nat.le_of_ble_eq_true rfl, Nat.le_of_ble_eq_true rfl⟩ ⟨Nat.zero_le _, Nat.zero_le _⟩ (Nat.le_of_ble_eq_true rfl) (fun v277 M277 g277 => ?_)
    obtain ⟨rfl, rfl⟩ := g277
    refine jw_callV hC (c_X4_press l E M h0 q4 q5 _ (by omega) (by omega) _ (by omega) (by omega) _ (by omega) (by omega) _ (by omega) (by omega) ⟨⟨by omega, by omega⟩, by omega, by omega⟩) sV_L_52 ewF_x4.o dL_act_280 rfl rfl ⟨Nat.le_of_ble_eq_true rfl, Nat.le_of_ble_eq_true rfl⟩ ⟨Nat.zero_le _, Nat.zero_le _⟩ (Nat.le_of_ble_eq_true rfl) (fun v280 M280 g280 => ?_)
    have op := op_press q4 q5 g280.2
    obtain ⟨rfl, -, -⟩ := id op
    refine jw_iret hC dL_act_283 ?_
    exact op
  · skip
    refine jw_tabIn (tgt := 261) hC dL_act_30 (by decide) (by decide) (by decide) (by decide) rfl (by decide) ?_
    refine jw_aload_n hC dL_act_261 3 rfl rfl ?_
    refine jw_iload_n hC dL_act_262 2 rfl rfl ?_
    refine jw_iload hC dL_act_263 1 rfl ?_
    refine jw_iconst hC dL_act_265 ?_
    refine jw_isub hC dL_act_266 ?_
    refine jw_iload hC dL_act_267 0 rfl ?_
    refine jw_iconst hC dL_act_269 ?_
    refine jw_isub hC dL_act_270 ?_
    refine jw_iload_n hC dL_act_271 5 rfl rfl ?_
    refine jw_bipush hC dL_act_272 (by decide) ?_
    refine jw_ishr hC dL_act_274 (fun b274 c274 => ?_)
    refine jw_bipush hC dL_act_275 (by decide) ?_
    refine jw_callS hC (c_L_low l E _ _ _ (by omega)) sS_L_26 dL_act_277 rfl rfl ⟨Nat.le_of_ble_eq_true rfl, Nat.le_of_ble_eq_true rfl⟩ ⟨Nat.zero_le _, Nat.zero_le _⟩ (Nat.le_of_ble_eq_true rfl) (fun v277 M277 g277 => ?_)
    obtain ⟨rfl, rfl⟩ := g277
    refine jw_callV hC (c_X4_press l E M h0 q4 q5 _ (by omega) (by omega) _ (by omega) (by omega) _ (by omega) (by omega) _ (by omega) (by omega) ⟨⟨by omega, by omega⟩, by omega, by omega⟩) sV_L_52 ewF_x4.o dL_act_280 rfl rfl ⟨Nat.le_of_ble_eq_true rfl, Nat.le_of_ble_eq_true rfl⟩ ⟨Nat.zero_le _, Nat.zero_le _⟩ (Nat.le_of_ble_eq_true rfl) (fun v280 M280 g280 => ?_)
    have op := op_press q4 q5 g280.2
    obtain ⟨rfl, -, -⟩ := id op
    refine jw_iret hC dL_act_283 ?_
    exact op
  · skip
    refine jw_tabOut (tgt := 284) hC dL_act_30 (by decide) (by decide) (by decide) (by decide) ?_
    refine jw_aload_n hC dL_act_284 3 rfl rfl ?_
    refine jw_iload_n hC dL_act_285 2 rfl rfl ?_
    refine jw_iload_n hC dL_act_286 5 rfl rfl ?_
    refine jw_iconst hC dL_act_287 ?_
    refine jw_callS hC (c_L_low l E _ _ _ (by omega)) sS_L_26 dL_act_288 rfl rfl ⟨Nat.le_of_ble_eq_true rfl, Nat.le_of_ble_eq_true rfl⟩ ⟨Nat.zero_le _, Nat.zero_le _⟩ (Nat.le_of_ble_eq_true rfl) (fun v288 M288 g288 => ?_)
    obtain ⟨rfl, rfl⟩ := g288
    refine jw_iload_n hC dL_act_291 5 rfl rfl ?_
    refine jw_iconst hC dL_act_292 ?_
    refine jw_ishr hC dL_act_293 (fun b293 c293 => ?_)
    refine jw_iconst hC dL_act_294 ?_
    refine jw_callS hC (c_L_low l E _ _ _ (by omega)) sS_L_26 dL_act_295 rfl rfl ⟨Nat.le_of_ble_eq_true rfl, Nat.le_of_ble_eq_true rfl⟩ ⟨Nat.zero_le _, Nat.zero_le _⟩ (Nat.le_of_ble_eq_true rfl) (fun v295 M295 g295 => ?_)
    obtain ⟨rfl, rfl⟩ := g295
    refine jw_iload_n hC dL_act_298 5 rfl rfl ?_
    refine jw_bipush hC dL_act_299 (by decide) ?_
    refine jw_ishr hC dL_act_301 (fun b301 c301 => ?_)
    refine jw_bipush hC dL_act_302 (by decide) ?_
    refine jw_callS hC (c_L_low l E _ _ _ (by omega)) sS_L_26 dL_act_304 rfl rfl ⟨Nat.le_of_ble_eq_true rfl, Nat.le_of_ble_eq_true rfl⟩ ⟨Nat.zero_le _, Nat.zero_le _⟩ (Nat.le_of_ble_eq_true rfl) (fun v304 M304 g304 => ?_)
    obtain ⟨rfl, rfl⟩ := g304
    refine jw_callV hC (c_X4_point l E M q4 q5 _ (by omega) (by omega) _ (by omega) (by omega) _ (by omega) (by omega) _ (by omega) (by omega) ⟨⟨⟨by omega, by omega⟩, by omega, by omega, by omega, by omega⟩, by omega, by omega⟩) sV_L_55 ewF_x4.o dL_act_307 rfl rfl ⟨Nat.le_of_ble_eq_true rfl, Nat.le_of_ble_eq_true rfl⟩ ⟨Nat.zero_le _, Nat.zero_le _⟩ (Nat.le_of_ble_eq_true rfl) (fun v307 M307 g307 => ?_)
    have op := op_point q4 q5 g307.2
    obtain ⟨rfl, -, -⟩ := id op
    refine jw_iret hC dL_act_310 ?_
    exact op
  · skip
    refine jw_tabOut (tgt := 284) hC dL_act_30 (by decide) (by decide) (by decide) (by decide) ?_
    refine jw_aload_n hC dL_act_284 3 rfl rfl ?_
    refine jw_iload_n hC dL_act_285 2 rfl rfl ?_
    refine jw_iload_n hC dL_act_286 5 rfl rfl ?_
    refine jw_iconst hC dL_act_287 ?_
    refine jw_callS hC (c_L_low l E _ _ _ (by omega)) sS_L_26 dL_act_288 rfl rfl ⟨Nat.le_of_ble_eq_true rfl, Nat.le_of_ble_eq_true rfl⟩ ⟨Nat.zero_le _, Nat.zero_le _⟩ (Nat.le_of_ble_eq_true rfl) (fun v288 M288 g288 => ?_)
    obtain ⟨rfl, rfl⟩ := g288
    refine jw_iload_n hC dL_act_291 5 rfl rfl ?_
    refine jw_iconst hC dL_act_292 ?_
    refine jw_ishr hC dL_act_293 (fun b293 c293 => ?_)
    refine jw_iconst hC dL_act_294 ?_
    refine jw_callS hC (c_L_low l E _ _ _ (by omega)) sS_L_26 dL_act_295 rfl rfl ⟨Nat.le_of_ble_eq_true rfl, Nat.le_of_ble_eq_true rfl⟩ ⟨Nat.zero_le _, Nat.zero_le _⟩ (Nat.le_of_ble_eq_true rfl) (fun v295 M295 g295 => ?_)
    obtain ⟨rfl, rfl⟩ := g295
    refine jw_iload_n hC dL_act_298 5 rfl rfl ?_
    refine jw_bipush hC dL_act_299 (by decide) ?_
    refine jw_ishr hC dL_act_301 (fun b301 c301 => ?_)
    refine jw_bipush hC dL_act_302 (by decide) ?_
    refine jw_callS hC (c_L_low l E _ _ _ (by omega)) sS_L_26 dL_act_304 rfl rfl ⟨Nat.le_of_ble_eq_true rfl, Nat.le_of_ble_eq_true rfl⟩ ⟨Nat.zero_le _, Nat.zero_le _⟩ (Nat.le_of_ble_eq_true rfl) (fun v304 M304 g304 => ?_)
    obtain ⟨rfl, rfl⟩ := g304
    refine jw_callV hC (c_X4_point l E M q4 q5 _ (by omega) (by omega) _ (by omega) (by omega) _ (by omega) (by omega) _ (by omega) (by omega) ⟨⟨⟨by omega, by omega⟩, by omega, by omega, by omega, by omega⟩, by omega, by omega⟩) sV_L_55 ewF_x4.o dL_act_307 rfl rfl ⟨Nat.le_of_ble_eq_true rfl, Nat.le_of_ble_eq_true rfl⟩ ⟨Nat.zero_le _, Nat.zero_le _⟩ (Nat.le_of_ble_eq_true rfl) (fun v307 M307 g307 => ?_)
    have op := op_point q4 q5 g307.2
    obtain ⟨rfl, -, -⟩ := id op
    refine jw_iret hC dL_act_310 ?_
    exact op
  · skip
    refine jw_tabOut (tgt := 284) hC dL_act_30 (by decide) (by decide) (by decide) (by decide) ?_
    refine jw_aload_n hC dL_act_284 3 rfl rfl ?_
    refine jw_iload_n hC dL_act_285 2 rfl rfl ?_
    refine jw_iload_n hC dL_act_286 5 rfl rfl ?_
    refine jw_iconst hC dL_act_287 ?_
    refine jw_callS hC (c_L_low l E _ _ _ (by omega)) sS_L_26 dL_act_288 rfl rfl ⟨Nat.le_of_ble_eq_true rfl, Nat.le_of_ble_eq_true rfl⟩ ⟨Nat.zero_le _, Nat.zero_le _⟩ (Nat.le_of_ble_eq_true rfl) (fun v288 M288 g288 => ?_)
    obtain ⟨rfl, rfl⟩ := g288
    refine jw_iload_n hC dL_act_291 5 rfl rfl ?_
    refine jw_iconst hC dL_act_292 ?_
    refine jw_ishr hC dL_act_293 (fun b293 c293 => ?_)
    refine jw_iconst hC dL_act_294 ?_
    refine jw_callS hC (c_L_low l E _ _ _ (by omega)) sS_L_26 dL_act_295 rfl rfl ⟨Nat.le_of_ble_eq_true rfl, Nat.le_of_ble_eq_true rfl⟩ ⟨Nat.zero_le _, Nat.zero_le _⟩ (Nat.le_of_ble_eq_true rfl) (fun v295 M295 g295 => ?_)
    obtain ⟨rfl, rfl⟩ := g295
    refine jw_iload_n hC dL_act_298 5 rfl rfl ?_
    refine jw_bipush hC dL_act_299 (by decide) ?_
    refine jw_ishr hC dL_act_301 (fun b301 c301 => ?_)
    refine jw_bipush hC dL_act_302 (by decide) ?_
    refine jw_callS hC (c_L_low l E _ _ _ (by omega)) sS_L_26 dL_act_304 rfl rfl ⟨Nat.le_of_ble_eq_true rfl, Nat.le_of_ble_eq_true rfl⟩ ⟨Nat.zero_le _, Nat.zero_le _⟩ (Nat.le_of_ble_eq_true rfl) (fun v304 M304 g304 => ?_)
    obtain ⟨rfl, rfl⟩ := g304
    refine jw_callV hC (c_X4_point l E M q4 q5 _ (by omega) (by omega) _ (by omega) (by omega) _ (by omega) (by omega) _ (by omega) (by omega) ⟨⟨⟨by omega, by omega⟩, by omega, by omega, by omega, by omega⟩, by omega, by omega⟩) sV_L_55 ewF_x4.o dL_act_307 rfl rfl ⟨Nat.le_of_ble_eq_true rfl, Nat.le_of_ble_eq_true rfl⟩ ⟨Nat.zero_le _, Nat.zero_le _⟩ (Nat.le_of_ble_eq_true rfl) (fun v307 M307 g307 => ?_)
    have op := op_point q4 q5 g307.2
    obtain ⟨rfl, -, -⟩ := id op
    refine jw_iret hC dL_act_310 ?_
    exact op
  · skip
    refine jw_tabOut (tgt := 284) hC dL_act_30 (by decide) (by decide) (by decide) (by decide) ?_
    refine jw_aload_n hC dL_act_284 3 rfl rfl ?_
    refine jw_iload_n hC dL_act_285 2 rfl rfl ?_
    refine jw_iload_n hC dL_act_286 5 rfl rfl ?_
    refine jw_iconst hC dL_act_287 ?_
    refine jw_callS hC (c_L_low l E _ _ _ (by omega)) sS_L_26 dL_act_288 rfl rfl ⟨Nat.le_of_ble_eq_true rfl, Nat.le_of_ble_eq_true rfl⟩ ⟨Nat.zero_le _, Nat.zero_le _⟩ (Nat.le_of_ble_eq_true rfl) (fun v288 M288 g288 => ?_)
    obtain ⟨rfl, rfl⟩ := g288
    refine jw_iload_n hC dL_act_291 5 rfl rfl ?_
    refine jw_iconst hC dL_act_292 ?_
    refine jw_ishr hC dL_act_293 (fun b293 c293 => ?_)
    refine jw_iconst hC dL_act_294 ?_
    refine jw_callS hC (c_L_low l E _ _ _ (by omega)) sS_L_26 dL_act_295 rfl rfl ⟨Nat.le_of_ble_eq_true rfl, Nat.le_of_ble_eq_true rfl⟩ ⟨Nat.zero_le _, Nat.zero_le _⟩ (Nat.le_of_ble_eq_true rfl) (fun v295 M295 g295 => ?_)
    obtain ⟨rfl, rfl⟩ := g295
    refine jw_iload_n hC dL_act_298 5 rfl rfl ?_
    refine jw_bipush hC dL_act_299 (by decide) ?_
    refine jw_ishr hC dL_act_301 (fun b301 c301 => ?_)
    refine jw_bipush hC dL_act_302 (by decide) ?_
    refine jw_callS hC (c_L_low l E _ _ _ (by omega)) sS_L_26 dL_act_304 rfl rfl ⟨Nat.le_of_ble_eq_true rfl, Nat.le_of_ble_eq_true rfl⟩ ⟨Nat.zero_le _, Nat.zero_le _⟩ (Nat.le_of_ble_eq_true rfl) (fun v304 M304 g304 => ?_)
    obtain ⟨rfl, rfl⟩ := g304
    refine jw_callV hC (c_X4_point l E M q4 q5 _ (by omega) (by omega) _ (by omega) (by omega) _ (by omega) (by omega) _ (by omega) (by omega) ⟨⟨⟨by omega, by omega⟩, by omega, by omega, by omega, by omega⟩, by omega, by omega⟩) sV_L_55 ewF_x4.o dL_act_307 rfl rfl ⟨Nat.le_of_ble_eq_true rfl, Nat.le_of_ble_eq_true rfl⟩ ⟨Nat.zero_le _, Nat.zero_le _⟩ (Nat.le_of_ble_eq_true rfl) (fun v307 M307 g307 => ?_)
    have op := op_point q4 q5 g307.2
    obtain ⟨rfl, -, -⟩ := id op
    refine jw_iret hC dL_act_310 ?_
    exact op
  · skip
    refine jw_tabOut (tgt := 284) hC dL_act_30 (by decide) (by decide) (by decide) (by decide) ?_
    refine jw_aload_n hC dL_act_284 3 rfl rfl ?_
    refine jw_iload_n hC dL_act_285 2 rfl rfl ?_
    refine jw_iload_n hC dL_act_286 5 rfl rfl ?_
    refine jw_iconst hC dL_act_287 ?_
    refine jw_callS hC (c_L_low l E _ _ _ (by omega)) sS_L_26 dL_act_288 rfl rfl ⟨Nat.le_of_ble_eq_true rfl, Nat.le_of_ble_eq_true rfl⟩ ⟨Nat.zero_le _, Nat.zero_le _⟩ (Nat.le_of_ble_eq_true rfl) (fun v288 M288 g288 => ?_)
    obtain ⟨rfl, rfl⟩ := g288
    refine jw_iload_n hC dL_act_291 5 rfl rfl ?_
    refine jw_iconst hC dL_act_292 ?_
    refine jw_ishr hC dL_act_293 (fun b293 c293 => ?_)
    refine jw_iconst hC dL_act_294 ?_
    refine jw_callS hC (c_L_low l E _ _ _ (by omega)) sS_L_26 dL_act_295 rfl rfl ⟨Nat.le_of_ble_eq_true rfl, Nat.le_of_ble_eq_true rfl⟩ ⟨Nat.zero_le _, Nat.zero_le _⟩ (Nat.le_of_ble_eq_true rfl) (fun v295 M295 g295 => ?_)
    obtain ⟨rfl, rfl⟩ := g295
    refine jw_iload_n hC dL_act_298 5 rfl rfl ?_
    refine jw_bipush hC dL_act_299 (by decide) ?_
    refine jw_ishr hC dL_act_301 (fun b301 c301 => ?_)
    refine jw_bipush hC dL_act_302 (by decide) ?_
    refine jw_callS hC (c_L_low l E _ _ _ (by omega)) sS_L_26 dL_act_304 rfl rfl ⟨Nat.le_of_ble_eq_true rfl, Nat.le_of_ble_eq_true rfl⟩ ⟨Nat.zero_le _, Nat.zero_le _⟩ (Nat.le_of_ble_eq_true rfl) (fun v304 M304 g304 => ?_)
    obtain ⟨rfl, rfl⟩ := g304
    refine jw_callV hC (c_X4_point l E M q4 q5 _ (by omega) (by omega) _ (by omega) (by omega) _ (by omega) (by omega) _ (by omega) (by omega) ⟨⟨⟨by omega, by omega⟩, by omega, by omega, by omega, by omega⟩, by omega, by omega⟩) sV_L_55 ewF_x4.o dL_act_307 rfl rfl ⟨Nat.le_of_ble_eq_true rfl, Nat.le_of_ble_eq_true rfl⟩ ⟨Nat.zero_le _, Nat.zero_le _⟩ (Nat.le_of_ble_eq_true rfl) (fun v307 M307 g307 => ?_)
    have op := op_point q4 q5 g307.2
    obtain ⟨rfl, -, -⟩ := id op
    refine jw_iret hC dL_act_310 ?_
    exact op
end
section
/-! CONSTRUCTORS: a world that grows, cell by cell: kJ pc L S ws -/
theorem kx_lt {D : va_G} {cl : List vw_C} {ws : va_W} {H1 : Heap} (h : va_P D cl ws H1) {k : Nat} {q : Nat × va_E} (hk : ws[k]? = some q) : q.1 < H1.size := (h k q hk).lt
abbrev kty (T : Nat → ClassId) : List (ClassId × FieldType) := [(T 0, .int), (T 1, .boolean), (T 2, .int), (T 3, .object "EmbossPress$State")]
/-- an array of n whole numbers or booleans (t 0 or 1), all 0 -/
def kA (T : Nat → ClassId) (t n : Nat) : va_E := .inl (T t, n, .inl (fun _ => Int32.ofInt 0))
/-- the cell of FIRST_VALUES -/
def kF (fv : Nat) (T : Nat → ClassId) (A : Nat → Prop) (H : Heap) : Prop := ∃ cell : Cell, H[fv]? = some cell ∧ (∀ k, cell.vm ≠ .statics k) ∧ cell.vm ≠ .unknown ∧ cell.cls = T 0 ∧ cell.slots = (vp_cell (T 0) (4, .inl (fun k => Int32.ofInt (g_first k)))).slots ∧ ¬ A fv
def kZ (fv : Nat) (T : Nat → ClassId) (A : Nat → Prop) (U : State) (H : Heap) : Prop := va_Z "EmbossPress" "FIRST_VALUES" "[I" (.ref fv) A U H ∧ kF fv T A H
theorem kZ.mv {fv : Nat} {T : Nat → ClassId} {A B : Nat → Prop} {u U : State} {H H1 : Heap} (h : kZ fv T A u H) (hvm : u.vm.Alike U.vm) (hq : ∀ a : Nat, a < H.size → ¬ A a → H1[a]? = H[a]?) (hAB : ∀ q, B q → A q) : kZ fv T B U H1 := by
  obtain ⟨h1, cell, a1, a2, a3, a4, a5, a6⟩ := h
  exact ⟨((h1.moved hvm).kept hq).narrow hAB, cell, by rw [hq fv (Array.getElem?_eq_some_iff.mp a1).1 a6]; exact a1, a2, a3, a4, a5, fun z => a6 (hAB _ z)⟩
def kN (U : State) : Prop := ew_N U ∧ va_Nw (.castable "[I" "java/lang/Cloneable") U ∧ va_AO "EmbossPress$State" U
theorem kN.moved {s U : State} (hW : s.WarmedH U.vm) (h : kN s) : kN U := ⟨h.1.moved hW, va_Nw.warmC hW h.2.1, va_AO.moved hW.alike h.2.2⟩
theorem kN.same {u U : State} (hv : u.vm = U.vm) (h : kN u) : kN U := ⟨h.1.same hv, va_Nw.same rfl hv h.2.1, va_AO.moved (by rw [hv]; exact Vm.Alike.refl U.vm) h.2.2⟩
def k1 (h0 sz : Nat) : Nat → Prop := fun q => q = h0 ∨ sz ≤ q
abbrev k_rm (d nc ns : Nat) : Room := { frames := d, cells := nc, slots := ns, locals := 60 * d }
def kB (D : va_G) (T : Nat → ClassId) (fv h0 : Nat) (e0 : va_E) (sz : Nat) (U : State) : Prop := U.heap.size = sz ∧ (va_P D vwCl [(h0, e0)] U.heap ∧ h0 < sz) ∧ va_K D vwCl (kty T) U ∧ kN U ∧ kZ fv T (k1 h0 sz) U U.heap
def kQ (D : va_G) (B : va_W → Prop) (A : Nat → Prop) : Array Value → State → Outcome → State → Prop := fun _ st oc t => (∃ ws1 : va_W, oc = .returned none ∧ B ws1 ∧ va_P D vwCl ws1 t.heap ∧ va_D A ws1) ∧ va_F A st t
/-- a constructor's contract: the cell h0, with e0, becomes the cells of B -/
def Ck (l : Launch) (D : va_G) (T : Nat → ClassId) (fv : Nat) (y : MethodName) (cd : Cond) (d nc ns h0 : Nat) (e0 : va_E) (B : va_W → Prop) : Prop :=
  ∀ sz : Nat, Met l y (cd :: WW) (k_rm d nc ns) (va_Pc [.ref h0] (kB D T fv h0 e0 sz)) (kQ D B (k1 h0 sz)) nc ns (k1 h0 sz)
theorem kB_blind {D : va_G} {T : Nat → ClassId} {fv h0 sz : Nat} {e0 : va_E} {As : List Value} : FrameBlind (va_Pc As (kB D T fv h0 e0 sz)) := by
  intro a U g mk q
  obtain ⟨q0, q1, q2, q3, q4, q5⟩ := q
  exact ⟨q0, q1, q2, va_K.moved (u := U) (U := U.calling g mk a) (Vm.Alike.refl U.vm) q3, kN.same (u := U) (U := U.calling g mk a) rfl q4, kZ.mv (u := U) (U := U.calling g mk a) q5 (Vm.Alike.refl U.vm) (fun _ _ _ => rfl) (fun _ h => h)⟩
section KW
variable {p : Program} {l : Launch} {e : Env} {R : Room} {s : State} {m : MethodId} {args : Array Value} {below : List Frame} {meth : Method} {c : Code} {D : va_G} {T : Nat → ClassId} {fv : Nat} {A : Nat → Prop} {cc : ByteArray} {nL : Nat} {own : String} {cells slots : Nat} {Q : State → Prop} {pc : Nat} {L L' : List (Nat × Value)} {S : List Value} {ws ws' : va_W}
def kC (p : Program) (s : State) (m : MethodId) (args : Array Value) (meth : Method) (c : Code) (D : va_G) (T : Nat → ClassId) (fv : Nat) (A : Nat → Prop) (cc : ByteArray) (nL : Nat) (own : String) : Prop :=
  p.tables.exec = Jvm.exec ∧ c.code = cc ∧ c.maxLocals = nL ∧ s.vm.findClass own = some m.cls ∧ (∀ w ∈ WW, w.before args s = true) ∧ va_K D vwCl (kty T) s ∧ meth.locks = false ∧ (∀ q : Nat, s.heap.size ≤ q → A q) ∧ kN s ∧ kZ fv T A s s.heap
def kJ (p : Program) (l : Launch) (e : Env) (R : Room) (s : State) (m : MethodId) (args : Array Value) (below : List Frame) (meth : Method) (c : Code) (D : va_G) (A : Nat → Prop) (nL : Nat) (cells slots : Nat) (Q : State → Prop) (pc : Nat) (L : List (Nat × Value)) (S : List Value) (ws : va_W) : Prop :=
  ∀ (ls : Array Slot) (H : Heap) (locs : List Loc), lv_has ls nL L → va_P D vwCl ws H → va_D A ws → va_S A s.heap H locs → W p l e R s m args below meth c H locs cells slots Q (F0 m pc ls S)
theorem kw_eq (h : ws = ws') (k : kJ p l e R s m args below meth c D A nL cells slots Q pc L S ws') : kJ p l e R s m args below meth c D A nL cells slots Q pc L S ws := by rw [h]; exact k
theorem kw_widen {k n : Nat} (h1 : cells ≤ k) (h2 : slots ≤ n) (k9 : kJ p l e R s m args below meth c D A nL k n Q pc L S ws) : kJ p l e R s m args below meth c D A nL cells slots Q pc L S ws := fun ls H locs hl hP hD hS => W.widen h1 h2 (k9 ls H locs hl hP hD hS)
theorem kw_aload_n (hC : kC p s m args meth c D T fv A cc nL own) {kk : Fin 4} {i x : Nat} (hd : decode cc pc = .ok (.aload_n kk, 1)) (j : Nat) (hi : (kk : Nat) = i) (hj : L[j]? = some (i, .ref x)) (k : kJ p l e R s m args below meth c D A nL cells slots Q (pc + 1) L (.ref x :: S) ws) : kJ p l e R s m args below meth c D A nL cells slots Q pc L S ws :=
  fun ls H locs hl hP hD hS => lv_aload_n hC.1 hC.2.1 hd hi (lv_at hl j hj) (k ls H locs hl hP hD hS)
theorem kw_astore_n (hC : kC p s m args meth c D T fv A cc nL own) {kk : Fin 4} {i x : Nat} (hd : decode cc pc = .ok (.astore_n kk, 1)) (hi : (kk : Nat) = i) (hn : i < nL) (hf : (i, Value.ref x) :: L.filter (fun q => !(q.1 == i) && !(q.1 + 1 == i && q.2.category == 2)) = L') (k : kJ p l e R s m args below meth c D A nL cells slots Q (pc + 1) L' S ws) : kJ p l e R s m args below meth c D A nL cells slots Q pc L (.ref x :: S) ws :=
  fun ls H locs hl hP hD hS => lv_astore_n hC.1 hC.2.1 hd hi hl hn hf (fun ls2 hl2 => k ls2 H locs hl2 hP hD hS)
theorem kw_istore_n (hC : kC p s m args meth c D T fv A cc nL own) {kk : Fin 4} {i : Nat} {x : Int} (hd : decode cc pc = .ok (.istore_n kk, 1)) (hi : (kk : Nat) = i) (hn : i < nL) (hf : (i, Value.int (Int32.ofInt x)) :: L.filter (fun q => !(q.1 == i) && !(q.1 + 1 == i && q.2.category == 2)) = L') (k : kJ p l e R s m args below meth c D A nL cells slots Q (pc + 1) L' S ws) : kJ p l e R s m args below meth c D A nL cells slots Q pc L (vI x :: S) ws :=
  fun ls H locs hl hP hD hS => lv_istore_n hC.1 hC.2.1 hd hi hl hn hf (fun ls2 hl2 => k ls2 H locs hl2 hP hD hS)
theorem kw_istore (hC : kC p s m args meth c D T fv A cc nL own) {i : Nat} {x : Int} (hd : decode cc pc = .ok (.istore i, 2)) (hn : i < nL) (hf : (i, Value.int (Int32.ofInt x)) :: L.filter (fun q => !(q.1 == i) && !(q.1 + 1 == i && q.2.category == 2)) = L') (k : kJ p l e R s m args below meth c D A nL cells slots Q (pc + 2) L' S ws) : kJ p l e R s m args below meth c D A nL cells slots Q pc L (vI x :: S) ws :=
  fun ls H locs hl hP hD hS => lv_istore hC.1 hC.2.1 hd hl hn hf (fun ls2 hl2 => k ls2 H locs hl2 hP hD hS)
theorem kw_iload_n (hC : kC p s m args meth c D T fv A cc nL own) {kk : Fin 4} {i : Nat} {x : Int} (hd : decode cc pc = .ok (.iload_n kk, 1)) (j : Nat) (hi : (kk : Nat) = i) (hj : L[j]? = some (i, vI x)) (k : kJ p l e R s m args below meth c D A nL cells slots Q (pc + 1) L (vI x :: S) ws) : kJ p l e R s m args below meth c D A nL cells slots Q pc L S ws :=
  fun ls H locs hl hP hD hS => lv_iload_n hC.1 hC.2.1 hd hi (lv_at hl j hj) (k ls H locs hl hP hD hS)
theorem kw_iinc (hC : kC p s m args meth c D T fv A cc nL own) {i : Nat} {n x : Int} (hd : decode cc pc = .ok (.iinc i n, 3)) (j : Nat) (hj : L[j]? = some (i, vI x)) (hn : i < nL) (hf : (i, Value.int (Int32.ofInt (x + n))) :: L.filter (fun q => !(q.1 == i) && !(q.1 + 1 == i && q.2.category == 2)) = L') (k : kJ p l e R s m args below meth c D A nL cells slots Q (pc + 3) L' S ws) : kJ p l e R s m args below meth c D A nL cells slots Q pc L S ws :=
  fun ls H locs hl hP hD hS => lv_iinc hC.1 hC.2.1 hd hl hj (Int32.ofInt_add x n).symm hn hf (fun ls2 hl2 => k ls2 H locs hl2 hP hD hS)
theorem kw_iconst (hC : kC p s m args meth c D T fv A cc nL own) {n : Int} (hd : decode cc pc = .ok (.iconst n, 1)) (k : kJ p l e R s m args below meth c D A nL cells slots Q (pc + 1) L (vI n :: S) ws) : kJ p l e R s m args below meth c D A nL cells slots Q pc L S ws :=
  fun ls H locs hl hP hD hS => lv_iconst hC.1 hC.2.1 hd rfl (k ls H locs hl hP hD hS)
theorem kw_bipush (hC : kC p s m args meth c D T fv A cc nL own) {n : Int} (hd : decode cc pc = .ok (.bipush n, 2)) (hv : (Int8.ofInt n).toInt32 = Int32.ofInt n) (k : kJ p l e R s m args below meth c D A nL cells slots Q (pc + 2) L (vI n :: S) ws) : kJ p l e R s m args below meth c D A nL cells slots Q pc L S ws :=
  fun ls H locs hl hP hD hS => lv_bipush hC.1 hC.2.1 hd hv (k ls H locs hl hP hD hS)
theorem kw_sipush (hC : kC p s m args meth c D T fv A cc nL own) {n : Int} (hd : decode cc pc = .ok (.sipush n, 3)) (hv : (Int16.ofInt n).toInt32 = Int32.ofInt n) (k : kJ p l e R s m args below meth c D A nL cells slots Q (pc + 3) L (vI n :: S) ws) : kJ p l e R s m args below meth c D A nL cells slots Q pc L S ws :=
  fun ls H locs hl hP hD hS => lv_sipush hC.1 hC.2.1 hd hv (k ls H locs hl hP hD hS)
theorem kw_goto (hC : kC p s m args meth c D T fv A cc nL own) {off : Int} {tgt : Nat} (hd : decode cc pc = .ok (.goto off, 3)) (ht : (pc : Int) + off = (tgt : Int)) (k : kJ p l e R s m args below meth c D A nL cells slots Q tgt L S ws) : kJ p l e R s m args below meth c D A nL cells slots Q pc L S ws :=
  fun ls H locs hl hP hD hS => lv_goto hC.1 hC.2.1 hd ht (k ls H locs hl hP hD hS)
theorem kw_ge (hC : kC p s m args meth c D T fv A cc nL own) {x y off : Int} {tgt : Nat} (hd : decode cc pc = .ok (.if_icmp .ge off, 3)) (ht : (pc : Int) + off = (tgt : Int)) (h : Int32.ofInt y ≤ Int32.ofInt x) (k : kJ p l e R s m args below meth c D A nL cells slots Q tgt L S ws) : kJ p l e R s m args below meth c D A nL cells slots Q pc L (vI y :: vI x :: S) ws :=
  fun ls H locs hl hP hD hS => lv_icmp_ge hC.1 hC.2.1 hd ht (fun _ => k ls H locs hl hP hD hS) (fun z => absurd h z)
theorem kw_lt (hC : kC p s m args meth c D T fv A cc nL own) {x y off : Int} {tgt : Nat} (hd : decode cc pc = .ok (.if_icmp .ge off, 3)) (ht : (pc : Int) + off = (tgt : Int)) (h : ¬ Int32.ofInt y ≤ Int32.ofInt x) (k : kJ p l e R s m args below meth c D A nL cells slots Q (pc + 3) L S ws) : kJ p l e R s m args below meth c D A nL cells slots Q pc L (vI y :: vI x :: S) ws :=
  fun ls H locs hl hP hD hS => lv_icmp_ge hC.1 hC.2.1 hd ht (fun z => absurd z h) (fun _ => k ls H locs hl hP hD hS)
/-- Object's constructor -/
theorem kw_obj (hC : kC p s m args meth c D T fv A cc nL own) {idx x : Nat} (hw : Cond.methodLink own idx Lib.objectInit ∈ WW) (hd : decode cc pc = .ok (.invokespecial idx, 3)) (hR : 1 ≤ R.frames ∧ 12 ≤ R.locals) (k : kJ p l e R s m args below meth c D A nL cells slots Q (pc + 3) L [] ws) : kJ p l e R s m args below meth c D A nL cells slots Q pc L [.ref x] ws := by
  intro ls H locs hl hP hD hS
  refine W.objInit hC.1 hC.2.1 hC.2.2.2.1 (hC.2.2.2.2.1 _ hw) (hC.2.2.2.2.1 _ w1_21) (hC.2.2.2.2.1 _ w1_22) rfl (by rw [hC.2.2.1]; exact hl.1) rfl hd hR.1 (by show 0 + 0 + 12 ≤ _; omega) ?_
  exact k ls H locs hl hP hD hS
/-- a new array of ints or booleans -/
theorem kw_newa (hC : kC p s m args meth c D T fv A cc nL own) {at0 : ArrayType} {ty : FieldType} (t N : Nat) {n : Int} (harr : Cond.arrayClass (newarray.typeOf at0) ∈ WW) (hty : newarray.typeOf at0 = ty) (ht : (kty T)[t]? = some (T t, ty)) (h0 : ∀ (cA : ClassId), vp_cell cA (N, .inl (fun _ => Int32.ofInt 0)) = arrV cA N (fun _ => defaultValue ty)) (hobj : ∀ C, ty ≠ .object C)
    (hn : n = (N : Int)) (hN : N < 100000) (hb : N * componentBytes ty ≤ 536870912) (hcs : cells + 1 ≤ R.cells ∧ slots + N ≤ R.slots) (hd : decode cc pc = .ok (.newarray at0, 2))
    (k : ∀ q : Nat, kJ p l e R s m args below meth c D A nL (cells + 1) (slots + N) Q (pc + 2) L (.ref q :: S) (ws ++ [(q, kA T t N)])) : kJ p l e R s m args below meth c D A nL cells slots Q pc L (vI n :: S) ws := by
  intro ls H locs hl hP hD hS
  subst hn
  have hcl := e32_clamp (a := (N : Int)) (by omega) (by omega)
  refine va_newa (a0 := (N, .inl (fun _ => Int32.ofInt 0))) hC.1 hC.2.1 (hC.2.2.2.2.1 _ harr) hty hC.2.2.2.2.2.1 hP hD hS hC.2.2.2.2.2.2.2.1 h0 (fun z => ?_) (by omega) hb hcs.1 hcs.2 hd (fun q cA H1 hK hP hD hS => ?_)
  · rw [Int32.lt_iff_toInt_lt, e32 (by omega) (by omega)] at z
    have : (0 : Int32).toInt = 0 := rfl
    omega
  · have h1 := (hK.2 (kty T).length (cA, ty) (by rw [List.getElem?_append_right (Nat.le_refl _)]; simp)).2
    have h2 := (hC.2.2.2.2.2.1.2 t _ ht).2
    have e9 : cA = T t := by
      cases ty with
      | object C => exact absurd rfl (hobj C)
      | _ => exact Option.some.inj (h1.symm.trans h2)
    rw [e9] at hP hD
    exact k q ls H1 locs hl hP hD hS
/-- a new row of states -/
theorem kw_anew (hC : kC p s m args meth c D T fv A cc nL own) {idx : Nat} (N : Nat) {n : Int} (hw : Cond.classLink own idx "EmbossPress$State" ∈ WW) (hn : n = (N : Int)) (hN : N < 100) (hcs : cells + 1 ≤ R.cells ∧ slots + N ≤ R.slots) (hd : decode cc pc = .ok (.anewarray idx, 3))
    (k : ∀ q : Nat, kJ p l e R s m args below meth c D A nL (cells + 1) (slots + N) Q (pc + 3) L (.ref q :: S) (ws ++ [(q, .inl (T 3, N, .inr (.inr (.inr (.inr (fun _ => none))))))])) : kJ p l e R s m args below meth c D A nL cells slots Q pc L (vI n :: S) ws := by
  intro ls H locs hl hP hD hS
  subst hn
  have hcl := e32_clamp (a := (N : Int)) (by omega) (by omega)
  refine va_newq (C := "EmbossPress$State") hC.1 hC.2.1 hC.2.2.2.1 (hC.2.2.2.2.1 _ hw) hC.2.2.2.2.2.2.2.2.1.2.2 hC.2.2.2.2.2.1 hP hD hS hC.2.2.2.2.2.2.2.1 (fun z => ?_) (by omega) (by omega) hcs.1 hcs.2 hd (fun q cA H1 hK hP hD hS => ?_)
  · rw [Int32.lt_iff_toInt_lt, e32 (by omega) (by omega)] at z
    have : (0 : Int32).toInt = 0 := rfl
    omega
  · obtain ⟨a1, a2, a3, a4, a5, a6⟩ := (hK.2 (kty T).length (cA, .object "EmbossPress$State") (by rw [List.getElem?_append_right (Nat.le_refl _)]; simp)).2
    obtain ⟨b1, b2, b3, b4, b5, b6⟩ := (hC.2.2.2.2.2.1.2 3 _ rfl).2
    have e9 : cA = T 3 := Option.some.inj (a6.symm.trans b6)
    rw [e9] at hP hD
    exact k q ls H1 locs hl hP hD hS
theorem kw_dup (hC : kC p s m args meth c D T fv A cc nL own) {x : Nat} (hd : decode cc pc = .ok (.dup, 1)) (k : kJ p l e R s m args below meth c D A nL cells slots Q (pc + 1) L (.ref x :: .ref x :: S) ws) : kJ p l e R s m args below meth c D A nL cells slots Q pc L (.ref x :: S) ws :=
  fun ls H locs hl hP hD hS => lv_dup hC.1 hC.2.1 hd rfl (k ls H locs hl hP hD hS)
/-- a final field's link in its own constructor -/
def ewLf (own : String) (idx ci k : Nat) (ty : FieldType) : Prop := ∃ (C : String) (T : u_T) (N : Nat) (tys : Nat → FieldType), ewK ci C T N tys ∧ k < N ∧ (T k).2.2.2 = true ∧ tys k = ty ∧ (T k).1 = own ∧ Cond.fieldLink own idx (T k).1 (T k).2.1 (T k).2.2.1 ∈ WW
theorem kw_putF (hC : kC p s m args meth c D T fv A cc nL own) {idx ci kI x a q0 : Nat} {fs : List Value} {ty : FieldType} (hin : meth.name = "<init>") (hL : ewLf own idx ci kI ty) (he : ws[q0]? = some (a, .inr (ci, fs))) (hfit : fits ty (.ref x) = true) (hnw : narrow ty (.ref x) = .ref x) (hlen : kI < fs.length) (hd : decode cc pc = .ok (.putfield idx, 3)) (hw : ws.set q0 (a, .inr (ci, fs.set kI (.ref x))) = ws')
    (k : kJ p l e R s m args below meth c D A nL cells slots Q (pc + 3) L S ws') : kJ p l e R s m args below meth c D A nL cells slots Q pc L (.ref x :: .ref a :: S) ws := by
  intro ls H locs hl hP hD hS
  obtain ⟨C, T0, N, tys, ⟨k1, k2, k3, k4⟩, h1, h2, h3, h4, h5⟩ := hL
  subst hw
  exact va_putF hC.1 hC.2.1 hC.2.2.2.2.1 k2 tys k3 k4 hC.2.2.2.1 hC.2.2.2.2.2.1 hP hD hS q0 he k1 kI h1 (hC.2.2.2.2.1 _ h5) (fun _ h9 => h9) h2 hin h4 (by rw [k3 kI h1, h3]) hnw hfit hlen hd (fun H1 locs1 hP hD hS => k ls H1 locs1 hl hP hD hS)
theorem kw_puti (hC : kC p s m args meth c D T fv A cc nL own) {idx ci kI a q0 : Nat} {x : Int} {fs : List Value} (hL : ewL own idx ci kI .int) (he : ws[q0]? = some (a, .inr (ci, fs))) (hlen : kI < fs.length) (hd : decode cc pc = .ok (.putfield idx, 3)) (hw : ws.set q0 (a, .inr (ci, fs.set kI (vI x))) = ws')
    (k : kJ p l e R s m args below meth c D A nL cells slots Q (pc + 3) L S ws') : kJ p l e R s m args below meth c D A nL cells slots Q pc L (vI x :: .ref a :: S) ws := by
  intro ls H locs hl hP hD hS
  obtain ⟨C, T0, N, tys, ⟨k1, k2, k3, k4⟩, h1, h2, h3, h5⟩ := hL
  subst hw
  exact va_put hC.1 hC.2.1 hC.2.2.2.2.1 k2 tys k3 k4 hC.2.2.2.1 hC.2.2.2.2.2.1 hP hD hS q0 he k1 kI h1 (hC.2.2.2.2.1 _ h5) (fun _ h9 => h9) h2 (by rw [k3 kI h1, h3]) rfl rfl hlen hd (fun H1 locs1 hP hD hS => k ls H1 locs1 hl hP hD hS)
theorem kw_getr (hC : kC p s m args meth c D T fv A cc nL own) {idx ci kI a q0 : Nat} {v : Value} {fs : List Value} (hL : ewLr own idx ci kI) (he : ws[q0]? = some (a, .inr (ci, fs))) (hv : fs[kI]? = some v) (hd : decode cc pc = .ok (.getfield idx, 3))
    (k : kJ p l e R s m args below meth c D A nL cells slots Q (pc + 3) L (v :: S) ws) : kJ p l e R s m args below meth c D A nL cells slots Q pc L (.ref a :: S) ws := by
  intro ls H locs hl hP hD hS
  obtain ⟨C, T0, N, tys, ⟨k1, k2, k3, k4⟩, h1, h5⟩ := hL
  exact va_get hC.1 hC.2.1 hC.2.2.2.2.1 k2 hC.2.2.2.1 hC.2.2.2.2.2.1 hP q0 he k1 kI h1 (hC.2.2.2.2.1 _ h5) (fun _ h9 => h9) hv hd (k ls H locs hl hP hD hS)
theorem kw_iast (hC : kC p s m args meth c D T fv A cc nL own) {a q0 n : Nat} {f : Nat → Int32} {i x : Int} (he : ws[q0]? = some (a, .inl (T 0, n, .inl f))) (hi : 0 ≤ i ∧ i < n ∧ n < 100000) (hd : decode cc pc = .ok (.iastore, 1)) (hw : ws.set q0 (a, .inl (T 0, n, .inl (upd f i.toNat (Int32.ofInt x)))) = ws')
    (k : kJ p l e R s m args below meth c D A nL cells slots Q (pc + 1) L S ws') : kJ p l e R s m args below meth c D A nL cells slots Q pc L (vI x :: vI i :: .ref a :: S) ws := by
  intro ls H locs hl hP hD hS
  have hcl := e32_clamp (a := i) hi.1 (by omega)
  have hcl : (Int32.ofInt i).toNatClampNeg = i.toNat := by omega
  subst hw
  refine va_iast hC.1 hC.2.1 hC.2.2.2.2.2.1 hP hD hS q0 0 he rfl (e32_in (n := n) hi.1 (by omega) (by omega)) hd (fun H1 locs1 hP hD hS => ?_)
  rw [hcl] at hP hD
  exact k ls H1 locs1 hl hP hD hS
theorem kw_astq (hC : kC p s m args meth c D T fv A cc nL own) {a q0 n v qk : Nat} {vs : List Value} {f : Nat → Option Nat} {i : Int} (he : ws[q0]? = some (a, .inl (T 3, n, .inr (.inr (.inr (.inr f)))))) (hv : ws[qk]? = some (v, .inr (6, vs))) (hi : 0 ≤ i ∧ i < n ∧ n < 100) (hd : decode cc pc = .ok (.aastore, 1)) (hw : ws.set q0 (a, .inl (T 3, n, .inr (.inr (.inr (.inr (va_up f i.toNat (some v))))))) = ws')
    (k : kJ p l e R s m args below meth c D A nL cells slots Q (pc + 1) L S ws') : kJ p l e R s m args below meth c D A nL cells slots Q pc L (.ref v :: vI i :: .ref a :: S) ws := by
  intro ls H locs hl hP hD hS
  have hcl := e32_clamp (a := i) hi.1 (by omega)
  have hcl : (Int32.ofInt i).toNatClampNeg = i.toNat := by omega
  subst hw
  refine va_astq (r := vwCl[6]) hC.1 hC.2.1 hC.2.2.2.2.2.1 hP hD hS q0 3 qk 6 he rfl hv rfl (e32_in (n := n) hi.1 (by omega) (by omega)) hd (fun H1 locs1 hP hD hS => ?_)
  rw [hcl] at hP hD
  exact k ls H1 locs1 hl hP hD hS
/-- behind a call of a constructor -/
theorem kw_run (hC : kC p s m args meth c D T fv A cc nL own) {S0 : List Value} {ls : Array Slot} {H : Heap} {locs : List Loc} {a : Array Value} {q nc ns : Nat} {e0 : va_E} {B : va_W → Prop}
    (hl : lv_has ls nL L) (hP : va_P D vwCl (ws ++ [(q, e0)]) H) (hD : va_D A (ws ++ [(q, e0)])) (hS : va_S A s.heap H locs) (hr : va_Run p l e R s m args below meth c H locs cells slots nc ns (F0 m pc ls S0) S (kQ D B (k1 q H.size) a) (k1 q H.size))
    (k : ∀ ws1 : va_W, B ws1 → kJ p l e R s m args below meth c D A nL (cells + nc) (slots + ns) Q (pc + 3) L S (ws ++ ws1)) : W p l e R s m args below meth c H locs cells slots Q (F0 m pc ls S0) := by
  intro T9 hT X
  obtain ⟨v, st0, t, T', Lc, h0, X', hL, e1, e2, ⟨⟨ws1, hv, hB, hP1, hD1⟩, hz, hk⟩, st⟩ := hr T9 hT X
  cases hv
  rw [h0] at hz hk
  have hq : A q := hD.2 ws.length (q, e0) (by rw [List.getElem?_append_right (Nat.le_refl _)]; simp)
  have hAA : ∀ x : Nat, k1 q H.size x → A x := by
    rintro x (rfl | hx)
    · exact hq
    · exact hC.2.2.2.2.2.2.2.1 x (Nat.le_trans hS.1 hx)
  have hw : ∀ (i : Nat) (x : Nat × va_E), ws[i]? = some x → (ws ++ [(q, e0)])[i]? = some x := fun i x hx => by
    rw [List.getElem?_append_left (List.getElem?_eq_some_iff.mp hx).1]; exact hx
  have hne : ∀ (i : Nat) (x : Nat × va_E), ws[i]? = some x → x.1 < H.size ∧ x.1 ≠ q := fun i x hx => by
    refine ⟨kx_lt hP (hw i x hx), fun z => ?_⟩
    have h1 := hD.1 i ws.length x (q, e0) (hw i x hx) (by rw [List.getElem?_append_right (Nat.le_refl _)]; simp) z
    have h2 := (List.getElem?_eq_some_iff.mp hx).1
    omega
  have hP2 : va_P D vwCl ws T'.heap := va_P.kept (fun i x hx => hP i x (hw i x hx)) (fun i x hx => by
    rw [e1, hk x.1 (hne i x hx).1 (fun z => by
      rcases z with z | z
      · exact (hne i x hx).2 z
      · have := (hne i x hx).1
        omega)])
  have hP3 : va_P D vwCl (ws ++ ws1) T'.heap := va_P.app hP2 (by rw [e1]; exact hP1)
  have hD0 : va_D A ws := ⟨fun i j x y hx hy hxy => hD.1 i j x y (hw i x hx) (hw j y hy) hxy, fun i x hx => hD.2 i x (hw i x hx)⟩
  have hD3 : va_D A (ws ++ ws1) := va_D.app hD0 (hD1.weaken (fun _ _ _ h => hAA _ h)) (fun i j x y hx hy => by
    have h1 := hne i x hx
    rcases hD1.2 j y hy with z | z
    · rw [z]; exact h1.2
    · omega)
  have hS3 : va_S A s.heap T'.heap (locs ++ Lc) := ⟨by rw [e1]; exact Nat.le_trans hS.1 hz, fun x h1 h2 => by
      rw [e1, hk x (Nat.lt_of_lt_of_le h1 hS.1) (fun z => h2 (hAA x z))]
      exact hS.2.1 x h1 h2, fun x hx => by
      rcases List.mem_append.mp hx with h | h
      · exact hS.2.2 x h
      · exact hAA _ (hL x h)⟩
  obtain ⟨t2, a1, b1⟩ := k ws1 hB ls T'.heap (locs ++ Lc) hl hP3 hD3 hS3 T' rfl X'
  exact ⟨t2, st t2 a1, b1⟩
theorem kw_pre (hC : kC p s m args meth c D T fv A cc nL own) {H : Heap} {locs : List Loc} {q : Nat} {e0 : va_E} (hP : va_P D vwCl (ws ++ [(q, e0)]) H) (hD : va_D A (ws ++ [(q, e0)])) (hS : va_S A s.heap H locs) : ∀ U : State, U.heap = H → s.WarmedH U.vm → va_Pc [.ref q] (kB D T fv q e0 H.size) ([.ref q] : List Value).toArray U := by
  intro U hU hW
  have hlast : (ws ++ [(q, e0)])[ws.length]? = some (q, e0) := by rw [List.getElem?_append_right (Nat.le_refl _)]; simp
  refine ⟨rfl, by rw [hU], ⟨?_, kx_lt hP hlast⟩, va_K.moved hW.alike hC.2.2.2.2.2.1, hC.2.2.2.2.2.2.2.2.1.moved hW, ?_⟩
  · rw [hU]
    intro i x hx
    have hz : i < 1 := (List.getElem?_eq_some_iff.mp hx).1
    rw [show i = 0 by omega] at hx
    cases hx
    exact hP _ _ hlast
  · rw [hU]
    refine hC.2.2.2.2.2.2.2.2.2.mv hW.alike hS.2.1 (fun x hx => ?_)
    rcases hx with rfl | hx
    · exact hD.2 _ _ hlast
    · exact hC.2.2.2.2.2.2.2.1 x (Nat.le_trans hS.1 hx)
/-- what 'new' stands on -/
def ewNew (own : String) (idx ci : Nat) (fs : List Value) : Prop := ∃ (C : String) (T : u_T) (N : Nat) (tys : Nat → FieldType), ewK ci C T N tys ∧ Cond.classLink own idx C ∈ WW ∧ Cond.instantiable C N ∈ WW ∧ Cond.initialized C ∈ WW ∧ (∀ j, j < N → defaultValue (tys j) = vp_V fs j) ∧ fs.length = N
/-- new C(); a nest mate's constructor -/
theorem kw_makeN (hC : kC p s m args meth c D T fv A cc nL own) {ix ic ci d nc ns : Nat} {fs : List Value} {y : MethodName} {bytes : ByteArray} {B : Nat → va_W → Prop} (hN : ewNew own ix ci fs) (hM : ∀ h0 : Nat, Ck l D T fv y (.code y bytes 1 none) d nc ns h0 (.inr (ci, fs)) (B h0))
    (hlk : Cond.methodLinkNest own ic y "EmbossPress" ∈ NWL) (hy : Cond.code y bytes 1 none ∈ WW ∧ Cond.initialized y.cls ∈ WW ∧ Cond.instanceMethod y ∈ WW ∧ y.name = "<init>" ∧ (y.cls ≠ "java/lang/invoke/MethodHandle" ∧ y.cls ≠ "java/lang/invoke/VarHandle" ∧ (parseMethodDescriptor y.desc).map (fun d => d.parameters.length) = some 0))
    (hR : d + 1 ≤ R.frames ∧ 8 + (1 + 11) + 60 * d ≤ R.locals) (hcs : cells + 1 + nc ≤ R.cells ∧ slots + fs.length + ns ≤ R.slots) (hSS : (S.map fun v => v.category).sum ≤ 7)
    (d0 : decode cc pc = .ok (.new ix, 3)) (d3 : decode cc (pc + 3) = .ok (.dup, 1)) (d4 : decode cc (pc + 4) = .ok (.invokespecial ic, 3))
    (k : ∀ (q : Nat) (ws1 : va_W), B q ws1 → kJ p l e R s m args below meth c D A nL (cells + 1 + nc) (slots + fs.length + ns) Q (pc + 7) L (.ref q :: S) (ws ++ ws1)) : kJ p l e R s m args below meth c D A nL cells slots Q pc L S ws := by
  intro ls H locs hl hP hD hS
  obtain ⟨C, T0, N, tys, ⟨k1_, k2, k3, k4⟩, h1, h2, h3, h4, rfl⟩ := hN
  refine va_new hC.1 hC.2.1 hC.2.2.2.2.1 k2 tys k3 hC.2.2.2.1 (hC.2.2.2.2.1 _ h1) (hC.2.2.2.2.1 _ h2) (hC.2.2.2.2.1 _ h3) hC.2.2.2.2.2.1 hP hD hS hC.2.2.2.2.2.2.2.1 k1_ h4 (by omega) (by omega) d0 (fun q H1 hP hD hS => ?_)
  refine lv_dup hC.1 hC.2.1 d3 rfl ?_
  have hG : GoodIn WW (Cond.code y bytes 1 none :: WW) := by
    intro w hw
    have hm : w ∈ WW := by
      rcases List.mem_cons.mp hw with rfl | hw
      · exact hy.1
      · exact hw
    exact ⟨hm, ww_good hm⟩
  have cw := va_cnB (R := R) (rm := k_rm d nc ns) (mc := nc) (ms := ns) 0 hC.2.2.2.2.1 hG rfl rfl rfl (hC.2.2.2.2.2.2.2.2.1.1.1 _ hlk) (hC.2.2.2.2.1 _ hy.2.1) hy.2.2.2.2 hR
  exact kw_run hC hl hP hD hS (va_runIN (As := []) (rest := .ref q :: S) ⟨hC.1, hC.2.1, hC.2.2.1, hC.2.2.2.1, hC.2.2.2.2.1⟩ (hM q H1.size) ⟨cw, hy.2.2.2.1, hC.2.2.2.2.1 _ hy.2.2.1⟩ ⟨kB_blind, kw_pre hC hP hD hS⟩ rfl rfl hl.1 rfl (by show 2 * 0 + (1 + (S.map fun v => v.category).sum) ≤ 8; omega) d4 (by omega)) (fun ws1 hB => k q ws1 hB)
/-- .. a public one -/
theorem kw_makeP (hC : kC p s m args meth c D T fv A cc nL own) {ix ic ci d nc ns mL : Nat} {fs : List Value} {y : MethodName} {bytes : ByteArray} {B : Nat → va_W → Prop} (hN : ewNew own ix ci fs) (hM : ∀ h0 : Nat, Ck l D T fv y (.code y bytes mL none) d nc ns h0 (.inr (ci, fs)) (B h0))
    (hlk : Cond.methodLink own ic y ∈ WW) (hy : Cond.code y bytes mL none ∈ WW ∧ Cond.initialized y.cls ∈ WW ∧ Cond.instanceMethod y ∈ WW ∧ y.name = "<init>" ∧ (y.cls ≠ "java/lang/invoke/MethodHandle" ∧ y.cls ≠ "java/lang/invoke/VarHandle" ∧ (parseMethodDescriptor y.desc).map (fun d => d.parameters.length) = some 0))
    (hR : d + 1 ≤ R.frames ∧ 8 + (mL + 11) + 60 * d ≤ R.locals) (hcs : cells + 1 + nc ≤ R.cells ∧ slots + fs.length + ns ≤ R.slots) (hSS : (S.map fun v => v.category).sum ≤ 7)
    (d0 : decode cc pc = .ok (.new ix, 3)) (d3 : decode cc (pc + 3) = .ok (.dup, 1)) (d4 : decode cc (pc + 4) = .ok (.invokespecial ic, 3))
    (k : ∀ (q : Nat) (ws1 : va_W), B q ws1 → kJ p l e R s m args below meth c D A nL (cells + 1 + nc) (slots + fs.length + ns) Q (pc + 7) L (.ref q :: S) (ws ++ ws1)) : kJ p l e R s m args below meth c D A nL cells slots Q pc L S ws := by
  intro ls H locs hl hP hD hS
  obtain ⟨C, T0, N, tys, ⟨k1_, k2, k3, k4⟩, h1, h2, h3, h4, rfl⟩ := hN
  refine va_new hC.1 hC.2.1 hC.2.2.2.2.1 k2 tys k3 hC.2.2.2.1 (hC.2.2.2.2.1 _ h1) (hC.2.2.2.2.1 _ h2) (hC.2.2.2.2.1 _ h3) hC.2.2.2.2.2.1 hP hD hS hC.2.2.2.2.2.2.2.1 k1_ h4 (by omega) (by omega) d0 (fun q H1 hP hD hS => ?_)
  refine lv_dup hC.1 hC.2.1 d3 rfl ?_
  have hG : GoodIn WW (Cond.code y bytes mL none :: WW) := by
    intro w hw
    have hm : w ∈ WW := by
      rcases List.mem_cons.mp hw with rfl | hw
      · exact hy.1
      · exact hw
    exact ⟨hm, ww_good hm⟩
  have cw := cwI (R := R) (rm := k_rm d nc ns) (mc := nc) (ms := ns) 0 hC.2.2.2.2.1 hG rfl rfl rfl (hC.2.2.2.2.1 _ hy.2.1) (hC.2.2.2.2.1 _ hlk) (hC.2.2.2.2.1 _ hy.2.2.1) hy.2.2.2.1 hy.2.2.2.2 hR
  exact kw_run hC hl hP hD hS (va_runI (As := []) (rest := .ref q :: S) ⟨hC.1, hC.2.1, hC.2.2.1, hC.2.2.2.1, hC.2.2.2.2.1⟩ (hM q H1.size) cw ⟨kB_blind, kw_pre hC hP hD hS⟩ rfl rfl hl.1 rfl (by show 2 * 0 + (1 + (S.map fun v => v.category).sum) ≤ 8; omega) d4 (by omega)) (fun ws1 hB => k q ws1 hB)
theorem kw_vret (hC : kC p s m args meth c D T fv A cc nL own) (hr : meth.sig.returnType = none) {B : va_W → Prop} (hd : decode cc pc = .ok (.return_, 1)) (h : B ws) : kJ p l e R s m args below meth c D A nL cells slots (MQ below (kQ D B A) args s cells slots A) pc L [] ws := by
  intro ls H locs hl hP hD hS
  exact W.vret hC.1 hC.2.1 hr (fun t ht hW => ⟨⟨ws, rfl, h, by rw [ht]; exact hP, hD⟩, hS.F ht⟩) hS.2.2 hd hC.2.2.2.2.2.2.1
end KW
/-- a constructor's contract, by the walk of its body -/
theorem ck_of {l : Launch} {D : va_G} {T : Nat → ClassId} {fv : Nat} {y : MethodName} {cc : ByteArray} {mL d nc ns h0 : Nat} {e0 : va_E} {B : va_W → Prop} (hy : plainName y.cls = true) (hy2 : y.name = "<init>") (hlen : 1 ≤ mL)
    (body : ∀ (p : Program) (e : Env) (s : State) (m : MethodId) (args : Array Value) (below : List Frame) (meth : Method) (c : Code) (A : Nat → Prop), kC p s m args meth c D T fv A cc mL y.cls → meth.sig.returnType = none → meth.name = "<init>" → kJ p l e (k_rm d nc ns) s m args below meth c D A mL 0 0 (MQ below (kQ D B A) args s nc ns A) 0 [(0, .ref h0)] [] [(h0, e0)]) : Ck l D T fv y (.code y cc mL none) d nc ns h0 e0 B := by
  intro sz
  refine Met.ofW (cc := cc) (maxL := mL) (ret := none) hy rfl ?_
  intro p e s m args below meth c s₁ B9 hml hv
  obtain ⟨rfl, hsz, ⟨hP, hlt⟩, hK, hN, hZ⟩ := hv
  subst hsz
  have hts := atoms_spec (ws := Cond.code y cc mL none :: WW) B9.pre
  have hC : kC p s m ([.ref h0] : List Value).toArray meth c D T fv (k1 h0 s.heap.size) cc mL y.cls := ⟨B9.exec, B9.bytes, hml, findClass_of_methodNamed B9.named, fun w h => hts w (List.mem_cons_of_mem _ h), hK, B9.notSynchronized, fun q h => Or.inr h, hN, hZ⟩
  have hl := lv_entry ([.ref h0]) (n := mL) hlen
  rw [lg_entry_eq]
  refine body p e s m _ below meth c (k1 h0 s.heap.size) hC B9.returns ((name_of_methodNamed B9.named B9.method).1.trans hy2) _ s.heap [] hl hP ⟨fun i j x y hx hy _ => ?_, fun i x hx => ?_⟩ va_S.rf
  · have h1 : i < 1 := (List.getElem?_eq_some_iff.mp hx).1
    have h2 : j < 1 := (List.getElem?_eq_some_iff.mp hy).1
    omega
  · have h1 : i < 1 := (List.getElem?_eq_some_iff.mp hx).1
    rw [show i = 0 by omega] at hx
    cases hx
    exact Or.inl rfl
end
