def RX0 : String := "CharactersMultiplied$Arithmetic"
def TX0 : u_T := fun k => match k with
  | 0 => ("CharactersMultiplied$Arithmetic", "shapes", "LCharactersMultiplied$Shapes;", true)
  | 1 => ("CharactersMultiplied$Arithmetic", "rims", "LCharactersMultiplied$Rims;", true)
  | 2 => ("CharactersMultiplied$Arithmetic", "characters", "LCharactersMultiplied$Characters;", true)
  | 3 => ("CharactersMultiplied$Arithmetic", "numbers", "LCharactersMultiplied$Numbers;", true)
  | 4 => ("CharactersMultiplied$Arithmetic", "sums", "LCharactersMultiplied$Sums;", true)
  | _ => ("CharactersMultiplied$Arithmetic", "totals", "[J", true)
def tyX0 : Nat → FieldType := fun k => match k with
  | 0 => .object "CharactersMultiplied$Shapes"
  | 1 => .object "CharactersMultiplied$Rims"
  | 2 => .object "CharactersMultiplied$Characters"
  | 3 => .object "CharactersMultiplied$Numbers"
  | 4 => .object "CharactersMultiplied$Sums"
  | _ => .array .long
abbrev wsX00 : List Cond := u_ws RX0 TX0 6
theorem nmX0 : ∀ a, a < 6 → ∀ b, b < 6 → a ≠ b → (TX0 a).2.1 ≠ (TX0 b).2.1 := by decide +kernel
theorem tyX0_ok : ∀ k, k < 6 → parseFieldDescriptor (TX0 k).2.2.1 = some (tyX0 k) := by decide +kernel
abbrev cX0_init : ByteArray := prog_2_method_1_code
def yX0_init : MethodName := ⟨RX0, "<init>", "(LCharactersMultiplied$Shapes;LCharactersMultiplied$Rims;LCharactersMultiplied$Characters;LCharactersMultiplied$Numbers;LCharactersMultiplied$Sums;)V"⟩
abbrev cX0_begin : ByteArray := prog_2_method_2_code
def yX0_begin : MethodName := ⟨RX0, "begin", "()V"⟩
abbrev cX0_add : ByteArray := prog_2_method_3_code
def yX0_add : MethodName := ⟨RX0, "add", "(IJ)V"⟩
abbrev cX0_draftsTotals : ByteArray := prog_2_method_4_code
def yX0_draftsTotals : MethodName := ⟨RX0, "draftsTotals", "(I)Z"⟩
abbrev cX0_draftsPlus : ByteArray := prog_2_method_5_code
def yX0_draftsPlus : MethodName := ⟨RX0, "draftsPlus", "(III)Z"⟩
abbrev cX0_draftsTimes : ByteArray := prog_2_method_6_code
def yX0_draftsTimes : MethodName := ⟨RX0, "draftsTimes", "(II)Z"⟩
abbrev cX0_addProduct : ByteArray := prog_2_method_7_code
def yX0_addProduct : MethodName := ⟨RX0, "addProduct", "(IIIJ)V"⟩
abbrev cX0_draftsAbout : ByteArray := prog_2_method_8_code
def yX0_draftsAbout : MethodName := ⟨RX0, "draftsAbout", "(I)Z"⟩
abbrev cX0_draftsRestricted : ByteArray := prog_2_method_9_code
def yX0_draftsRestricted : MethodName := ⟨RX0, "draftsRestricted", "(I)Z"⟩
abbrev cX0_draftsInduced : ByteArray := prog_2_method_10_code
def yX0_draftsInduced : MethodName := ⟨RX0, "draftsInduced", "(I)Z"⟩
abbrev cX0_valueAt : ByteArray := prog_2_method_11_code
def yX0_valueAt : MethodName := ⟨RX0, "valueAt", "(II)J"⟩
abbrev cX0_innerOf : ByteArray := prog_2_method_12_code
def yX0_innerOf : MethodName := ⟨RX0, "innerOf", "(II)J"⟩
def RX1 : String := "CharactersMultiplied$Characters"
def TX1 : u_T := fun k => match k with
  | 0 => ("CharactersMultiplied$Characters", "shapes", "LCharactersMultiplied$Shapes;", true)
  | _ => ("CharactersMultiplied$Characters", "table", "[I", true)
def tyX1 : Nat → FieldType := fun k => match k with
  | 0 => .object "CharactersMultiplied$Shapes"
  | _ => .array .int
abbrev wsX10 : List Cond := u_ws RX1 TX1 2
theorem nmX1 : ∀ a, a < 2 → ∀ b, b < 2 → a ≠ b → (TX1 a).2.1 ≠ (TX1 b).2.1 := by decide +kernel
theorem tyX1_ok : ∀ k, k < 2 → parseFieldDescriptor (TX1 k).2.2.1 = some (tyX1 k) := by decide +kernel
abbrev cX1_init : ByteArray := prog_3_method_1_code
def yX1_init : MethodName := ⟨RX1, "<init>", "(LCharactersMultiplied$Shapes;LCharactersMultiplied$Rims;)V"⟩
abbrev cX1_addRim : ByteArray := prog_3_method_2_code
def yX1_addRim : MethodName := ⟨RX1, "addRim", "(IIII)V"⟩
abbrev cX1_at : ByteArray := prog_3_method_3_code
def yX1_at : MethodName := ⟨RX1, "at", "(II)I"⟩
abbrev cX1_atPlace : ByteArray := prog_3_method_4_code
def yX1_atPlace : MethodName := ⟨RX1, "atPlace", "(II)I"⟩
def RX2 : String := "CharactersMultiplied$Kinds"
def TX2 : u_T := fun k => match k with
  | _ => ("CharactersMultiplied$Kinds", "shapes", "LCharactersMultiplied$Shapes;", true)
def tyX2 : Nat → FieldType := fun k => match k with
  | _ => .object "CharactersMultiplied$Shapes"
abbrev wsX20 : List Cond := u_ws RX2 TX2 1
theorem nmX2 : ∀ a, a < 1 → ∀ b, b < 1 → a ≠ b → (TX2 a).2.1 ≠ (TX2 b).2.1 := by decide +kernel
theorem tyX2_ok : ∀ k, k < 1 → parseFieldDescriptor (TX2 k).2.2.1 = some (tyX2 k) := by decide +kernel
abbrev cX2_init : ByteArray := prog_4_method_1_code
def yX2_init : MethodName := ⟨RX2, "<init>", "(LCharactersMultiplied$Shapes;)V"⟩
abbrev cX2_bitsOf : ByteArray := prog_4_method_2_code
def yX2_bitsOf : MethodName := ⟨RX2, "bitsOf", "(I)I"⟩
abbrev cX2_isOf : ByteArray := prog_4_method_4_code
def yX2_isOf : MethodName := ⟨RX2, "isOf", "(II)Z"⟩
abbrev cX2_isStairs : ByteArray := prog_4_method_5_code
def yX2_isStairs : MethodName := ⟨RX2, "isStairs", "(II)Z"⟩
def RX3 : String := "CharactersMultiplied$Letters"
def TX3 : u_T := fun k => match k with
  | 0 => ("CharactersMultiplied$Letters", "shapes", "LCharactersMultiplied$Shapes;", true)
  | 1 => ("CharactersMultiplied$Letters", "sums", "LCharactersMultiplied$Sums;", true)
  | 2 => ("CharactersMultiplied$Letters", "letters", "[I", true)
  | 3 => ("CharactersMultiplied$Letters", "count", "I", false)
  | 4 => ("CharactersMultiplied$Letters", "next", "I", false)
  | _ => ("CharactersMultiplied$Letters", "size", "I", false)
def tyX3 : Nat → FieldType := fun k => match k with
  | 0 => .object "CharactersMultiplied$Shapes"
  | 1 => .object "CharactersMultiplied$Sums"
  | 2 => .array .int
  | 3 => .int
  | 4 => .int
  | _ => .int
abbrev wsX30 : List Cond := u_ws RX3 TX3 6
theorem nmX3 : ∀ a, a < 6 → ∀ b, b < 6 → a ≠ b → (TX3 a).2.1 ≠ (TX3 b).2.1 := by decide +kernel
theorem tyX3_ok : ∀ k, k < 6 → parseFieldDescriptor (TX3 k).2.2.1 = some (tyX3 k) := by decide +kernel
abbrev cX3_init : ByteArray := prog_5_method_1_code
def yX3_init : MethodName := ⟨RX3, "<init>", "(LCharactersMultiplied$Shapes;LCharactersMultiplied$Sums;)V"⟩
abbrev cX3_areFull : ByteArray := prog_5_method_2_code
def yX3_areFull : MethodName := ⟨RX3, "areFull", "()Z"⟩
abbrev cX3_howMany : ByteArray := prog_5_method_3_code
def yX3_howMany : MethodName := ⟨RX3, "howMany", "()I"⟩
abbrev cX3_add : ByteArray := prog_5_method_4_code
def yX3_add : MethodName := ⟨RX3, "add", "(I)V"⟩
abbrev cX3_forget : ByteArray := prog_5_method_5_code
def yX3_forget : MethodName := ⟨RX3, "forget", "()V"⟩
abbrev cX3_readToDraft : ByteArray := prog_5_method_6_code
def yX3_readToDraft : MethodName := ⟨RX3, "readToDraft", "()I"⟩
abbrev cX3_nextLetter : ByteArray := prog_5_method_7_code
def yX3_nextLetter : MethodName := ⟨RX3, "nextLetter", "()I"⟩
abbrev cX3_passes : ByteArray := prog_5_method_8_code
def yX3_passes : MethodName := ⟨RX3, "passes", "(I)Z"⟩
abbrev cX3_passesTerm : ByteArray := prog_5_method_9_code
def yX3_passesTerm : MethodName := ⟨RX3, "passesTerm", "(Z)Z"⟩
abbrev cX3_passNumber : ByteArray := prog_5_method_10_code
def yX3_passNumber : MethodName := ⟨RX3, "passNumber", "()I"⟩
abbrev cX3_passRows : ByteArray := prog_5_method_11_code
def yX3_passRows : MethodName := ⟨RX3, "passRows", "()I"⟩
def RX4 : String := "CharactersMultiplied$Lists"
def TX4 : u_T := fun k => match k with
  | 0 => ("CharactersMultiplied$Lists", "values", "[I", true)
  | _ => ("CharactersMultiplied$Lists", "lengths", "[I", true)
def tyX4 : Nat → FieldType := fun k => match k with
  | 0 => .array .int
  | _ => .array .int
abbrev wsX40 : List Cond := u_ws RX4 TX4 2
theorem nmX4 : ∀ a, a < 2 → ∀ b, b < 2 → a ≠ b → (TX4 a).2.1 ≠ (TX4 b).2.1 := by decide +kernel
theorem tyX4_ok : ∀ k, k < 2 → parseFieldDescriptor (TX4 k).2.2.1 = some (tyX4 k) := by decide +kernel
abbrev cX4_init : ByteArray := prog_6_method_1_code
def yX4_init : MethodName := ⟨RX4, "<init>", "()V"⟩
def RX5 : String := "CharactersMultiplied$Numbers"
def TX5 : u_T := fun k => match k with
  | 0 => ("CharactersMultiplied$Numbers", "shapes", "LCharactersMultiplied$Shapes;", true)
  | 1 => ("CharactersMultiplied$Numbers", "characters", "LCharactersMultiplied$Characters;", true)
  | _ => ("CharactersMultiplied$Numbers", "known", "[I", true)
def tyX5 : Nat → FieldType := fun k => match k with
  | 0 => .object "CharactersMultiplied$Shapes"
  | 1 => .object "CharactersMultiplied$Characters"
  | _ => .array .int
abbrev wsX50 : List Cond := u_ws RX5 TX5 3
theorem nmX5 : ∀ a, a < 3 → ∀ b, b < 3 → a ≠ b → (TX5 a).2.1 ≠ (TX5 b).2.1 := by decide +kernel
theorem tyX5_ok : ∀ k, k < 3 → parseFieldDescriptor (TX5 k).2.2.1 = some (tyX5 k) := by decide +kernel
abbrev cX5_init : ByteArray := prog_7_method_1_code
def yX5_init : MethodName := ⟨RX5, "<init>", "(LCharactersMultiplied$Shapes;LCharactersMultiplied$Characters;)V"⟩
abbrev cX5_at : ByteArray := prog_7_method_2_code
def yX5_at : MethodName := ⟨RX5, "at", "(III)I"⟩
abbrev cX5_atPlaces : ByteArray := prog_7_method_3_code
def yX5_atPlaces : MethodName := ⟨RX5, "atPlaces", "(IIII)I"⟩
abbrev cX5_indexOf : ByteArray := prog_7_method_4_code
def yX5_indexOf : MethodName := ⟨RX5, "indexOf", "(IIII)I"⟩
abbrev cX5_workedOut : ByteArray := prog_7_method_5_code
def yX5_workedOut : MethodName := ⟨RX5, "workedOut", "(IIII)I"⟩
abbrev cX5_lengthOfProduct : ByteArray := prog_7_method_6_code
def yX5_lengthOfProduct : MethodName := ⟨RX5, "lengthOfProduct", "(II)I"⟩
abbrev cX5_partOfProduct : ByteArray := prog_7_method_7_code
def yX5_partOfProduct : MethodName := ⟨RX5, "partOfProduct", "(III)I"⟩
abbrev cX5_greatestInProduct : ByteArray := prog_7_method_8_code
def yX5_greatestInProduct : MethodName := ⟨RX5, "greatestInProduct", "(II)I"⟩
abbrev cX5_first : ByteArray := prog_7_method_9_code
def yX5_first : MethodName := ⟨RX5, "first", "(I)I"⟩
abbrev cX5_end : ByteArray := prog_7_method_10_code
def yX5_end : MethodName := ⟨RX5, "end", "(I)I"⟩
abbrev cX5_grownTo : ByteArray := prog_7_method_11_code
def yX5_grownTo : MethodName := ⟨RX5, "grownTo", "(IIII)I"⟩
def RX6 : String := "CharactersMultiplied$Rims"
def TX6 : u_T := fun k => match k with
  | 0 => ("CharactersMultiplied$Rims", "shapes", "LCharactersMultiplied$Shapes;", true)
  | 1 => ("CharactersMultiplied$Rims", "hooks", "[I", true)
  | 2 => ("CharactersMultiplied$Rims", "lefts", "[I", true)
  | _ => ("CharactersMultiplied$Rims", "heights", "[I", true)
def tyX6 : Nat → FieldType := fun k => match k with
  | 0 => .object "CharactersMultiplied$Shapes"
  | 1 => .array .int
  | 2 => .array .int
  | _ => .array .int
abbrev wsX60 : List Cond := u_ws RX6 TX6 4
theorem nmX6 : ∀ a, a < 4 → ∀ b, b < 4 → a ≠ b → (TX6 a).2.1 ≠ (TX6 b).2.1 := by decide +kernel
theorem tyX6_ok : ∀ k, k < 4 → parseFieldDescriptor (TX6 k).2.2.1 = some (tyX6 k) := by decide +kernel
abbrev cX6_init : ByteArray := prog_8_method_1_code
def yX6_init : MethodName := ⟨RX6, "<init>", "(LCharactersMultiplied$Shapes;)V"⟩
abbrev cX6_note : ByteArray := prog_8_method_2_code
def yX6_note : MethodName := ⟨RX6, "note", "(IIII)V"⟩
abbrev cX6_shapeLeft : ByteArray := prog_8_method_3_code
def yX6_shapeLeft : MethodName := ⟨RX6, "shapeLeft", "(IIII)I"⟩
abbrev cX6_has : ByteArray := prog_8_method_4_code
def yX6_has : MethodName := ⟨RX6, "has", "(II)Z"⟩
abbrev cX6_hookBy : ByteArray := prog_8_method_5_code
def yX6_hookBy : MethodName := ⟨RX6, "hookBy", "(II)I"⟩
abbrev cX6_leftBy : ByteArray := prog_8_method_6_code
def yX6_leftBy : MethodName := ⟨RX6, "leftBy", "(II)I"⟩
abbrev cX6_heightBy : ByteArray := prog_8_method_7_code
def yX6_heightBy : MethodName := ⟨RX6, "heightBy", "(II)I"⟩
abbrev cX6_dimensionOf : ByteArray := prog_8_method_10_code
def yX6_dimensionOf : MethodName := ⟨RX6, "dimensionOf", "(I)I"⟩
def RX7 : String := "CharactersMultiplied$Shapes"
def TX7 : u_T := fun k => match k with
  | 0 => ("CharactersMultiplied$Shapes", "rows", "[I", true)
  | 1 => ("CharactersMultiplied$Shapes", "lengths", "[I", true)
  | 2 => ("CharactersMultiplied$Shapes", "sizes", "[I", true)
  | 3 => ("CharactersMultiplied$Shapes", "rests", "[I", true)
  | _ => ("CharactersMultiplied$Shapes", "orders", "[I", true)
def tyX7 : Nat → FieldType := fun k => match k with
  | 0 => .array .int
  | 1 => .array .int
  | 2 => .array .int
  | 3 => .array .int
  | _ => .array .int
abbrev wsX70 : List Cond := u_ws RX7 TX7 5
theorem nmX7 : ∀ a, a < 5 → ∀ b, b < 5 → a ≠ b → (TX7 a).2.1 ≠ (TX7 b).2.1 := by decide +kernel
theorem tyX7_ok : ∀ k, k < 5 → parseFieldDescriptor (TX7 k).2.2.1 = some (tyX7 k) := by decide +kernel
abbrev cX7_init : ByteArray := prog_9_method_1_code
def yX7_init : MethodName := ⟨RX7, "<init>", "()V"⟩
abbrev cX7_readRows : ByteArray := prog_9_method_2_code
def yX7_readRows : MethodName := ⟨RX7, "readRows", "(I)V"⟩
abbrev cX7_countOrders : ByteArray := prog_9_method_3_code
def yX7_countOrders : MethodName := ⟨RX7, "countOrders", "(I)I"⟩
abbrev cX7_factorial : ByteArray := prog_9_method_4_code
def yX7_factorial : MethodName := ⟨RX7, "factorial", "(I)I"⟩
abbrev cX7_keyWith : ByteArray := prog_9_method_5_code
def yX7_keyWith : MethodName := ⟨RX7, "keyWith", "(II)I"⟩
abbrev cX7_keyWithRows : ByteArray := prog_9_method_6_code
def yX7_keyWithRows : MethodName := ⟨RX7, "keyWithRows", "(III)I"⟩
abbrev cX7_find : ByteArray := prog_9_method_7_code
def yX7_find : MethodName := ⟨RX7, "find", "(II)I"⟩
abbrev cX7_has : ByteArray := prog_9_method_8_code
def yX7_has : MethodName := ⟨RX7, "has", "(I)Z"⟩
abbrev cX7_sizeOf : ByteArray := prog_9_method_9_code
def yX7_sizeOf : MethodName := ⟨RX7, "sizeOf", "(I)I"⟩
abbrev cX7_lengthOf : ByteArray := prog_9_method_10_code
def yX7_lengthOf : MethodName := ⟨RX7, "lengthOf", "(I)I"⟩
abbrev cX7_restOf : ByteArray := prog_9_method_11_code
def yX7_restOf : MethodName := ⟨RX7, "restOf", "(I)I"⟩
abbrev cX7_ordersOf : ByteArray := prog_9_method_12_code
def yX7_ordersOf : MethodName := ⟨RX7, "ordersOf", "(I)I"⟩
abbrev cX7_alike : ByteArray := prog_9_method_13_code
def yX7_alike : MethodName := ⟨RX7, "alike", "(II)Z"⟩
abbrev cX7_firstOf : ByteArray := prog_9_method_14_code
def yX7_firstOf : MethodName := ⟨RX7, "firstOf", "(I)I"⟩
abbrev cX7_countOf : ByteArray := prog_9_method_15_code
def yX7_countOf : MethodName := ⟨RX7, "countOf", "(I)I"⟩
abbrev cX7_placeOf : ByteArray := prog_9_method_16_code
def yX7_placeOf : MethodName := ⟨RX7, "placeOf", "(I)I"⟩
abbrev cX7_row : ByteArray := prog_9_method_17_code
def yX7_row : MethodName := ⟨RX7, "row", "(II)I"⟩
abbrev cX7_column : ByteArray := prog_9_method_18_code
def yX7_column : MethodName := ⟨RX7, "column", "(II)I"⟩
abbrev cX7_hookAt : ByteArray := prog_9_method_20_code
def yX7_hookAt : MethodName := ⟨RX7, "hookAt", "(III)I"⟩
abbrev cX7_turnedOf : ByteArray := prog_9_method_21_code
def yX7_turnedOf : MethodName := ⟨RX7, "turnedOf", "(I)I"⟩
abbrev cX7_grownTo : ByteArray := prog_9_method_22_code
def yX7_grownTo : MethodName := ⟨RX7, "grownTo", "(II)I"⟩
def RX8 : String := "CharactersMultiplied$Sums"
def TX8 : u_T := fun k => match k with
  | 0 => ("CharactersMultiplied$Sums", "sizes", "[I", true)
  | 1 => ("CharactersMultiplied$Sums", "coefficients", "[I", true)
  | 2 => ("CharactersMultiplied$Sums", "undoneSums", "[I", true)
  | 3 => ("CharactersMultiplied$Sums", "undos", "I", false)
  | 4 => ("CharactersMultiplied$Sums", "nextUndo", "I", false)
  | _ => ("CharactersMultiplied$Sums", "imageTaken", "Z", false)
def tyX8 : Nat → FieldType := fun k => match k with
  | 0 => .array .int
  | 1 => .array .int
  | 2 => .array .int
  | 3 => .int
  | 4 => .int
  | _ => .boolean
abbrev wsX80 : List Cond := u_ws RX8 TX8 6
theorem nmX8 : ∀ a, a < 6 → ∀ b, b < 6 → a ≠ b → (TX8 a).2.1 ≠ (TX8 b).2.1 := by decide +kernel
theorem tyX8_ok : ∀ k, k < 6 → parseFieldDescriptor (TX8 k).2.2.1 = some (tyX8 k) := by decide +kernel
abbrev cX8_init : ByteArray := prog_10_method_1_code
def yX8_init : MethodName := ⟨RX8, "<init>", "()V"⟩
abbrev cX8_has : ByteArray := prog_10_method_2_code
def yX8_has : MethodName := ⟨RX8, "has", "(I)Z"⟩
abbrev cX8_sizeOf : ByteArray := prog_10_method_3_code
def yX8_sizeOf : MethodName := ⟨RX8, "sizeOf", "(I)I"⟩
abbrev cX8_isMissing : ByteArray := prog_10_method_4_code
def yX8_isMissing : MethodName := ⟨RX8, "isMissing", "(I)Z"⟩
abbrev cX8_at : ByteArray := prog_10_method_5_code
def yX8_at : MethodName := ⟨RX8, "at", "(II)I"⟩
abbrev cX8_termsOf : ByteArray := prog_10_method_6_code
def yX8_termsOf : MethodName := ⟨RX8, "termsOf", "(I)I"⟩
abbrev cX8_firstTermOf : ByteArray := prog_10_method_7_code
def yX8_firstTermOf : MethodName := ⟨RX8, "firstTermOf", "(I)I"⟩
abbrev cX8_draftMissing : ByteArray := prog_10_method_10_code
def yX8_draftMissing : MethodName := ⟨RX8, "draftMissing", "()V"⟩
abbrev cX8_beginDraft : ByteArray := prog_10_method_11_code
def yX8_beginDraft : MethodName := ⟨RX8, "beginDraft", "(I)V"⟩
abbrev cX8_addToDraft : ByteArray := prog_10_method_12_code
def yX8_addToDraft : MethodName := ⟨RX8, "addToDraft", "(II)V"⟩
abbrev cX8_setInDraft : ByteArray := prog_10_method_13_code
def yX8_setInDraft : MethodName := ⟨RX8, "setInDraft", "(IJ)Z"⟩
abbrev cX8_keepDraft : ByteArray := prog_10_method_14_code
def yX8_keepDraft : MethodName := ⟨RX8, "keepDraft", "(I)V"⟩
abbrev cX8_copy : ByteArray := prog_10_method_19_code
def yX8_copy : MethodName := ⟨RX8, "copy", "(II)V"⟩
def RX9 : String := "CharactersMultiplied"
def TX9 : u_T := fun k => match k with
  | 0 => ("CharactersMultiplied", "shapes", "LCharactersMultiplied$Shapes;", true)
  | 1 => ("CharactersMultiplied", "rims", "LCharactersMultiplied$Rims;", true)
  | 2 => ("CharactersMultiplied", "kinds", "LCharactersMultiplied$Kinds;", true)
  | 3 => ("CharactersMultiplied", "characters", "LCharactersMultiplied$Characters;", true)
  | 4 => ("CharactersMultiplied", "numbers", "LCharactersMultiplied$Numbers;", true)
  | 5 => ("CharactersMultiplied", "sums", "LCharactersMultiplied$Sums;", true)
  | 6 => ("CharactersMultiplied", "arithmetic", "LCharactersMultiplied$Arithmetic;", true)
  | 7 => ("CharactersMultiplied", "letters", "LCharactersMultiplied$Letters;", true)
  | 8 => ("CharactersMultiplied", "lists", "LCharactersMultiplied$Lists;", true)
  | _ => ("CharactersMultiplied", "refusals", "[I", true)
def tyX9 : Nat → FieldType := fun k => match k with
  | 0 => .object "CharactersMultiplied$Shapes"
  | 1 => .object "CharactersMultiplied$Rims"
  | 2 => .object "CharactersMultiplied$Kinds"
  | 3 => .object "CharactersMultiplied$Characters"
  | 4 => .object "CharactersMultiplied$Numbers"
  | 5 => .object "CharactersMultiplied$Sums"
  | 6 => .object "CharactersMultiplied$Arithmetic"
  | 7 => .object "CharactersMultiplied$Letters"
  | 8 => .object "CharactersMultiplied$Lists"
  | _ => .array .int
abbrev wsX90 : List Cond := u_ws RX9 TX9 10
theorem nmX9 : ∀ a, a < 10 → ∀ b, b < 10 → a ≠ b → (TX9 a).2.1 ≠ (TX9 b).2.1 := by decide +kernel
theorem tyX9_ok : ∀ k, k < 10 → parseFieldDescriptor (TX9 k).2.2.1 = some (tyX9 k) := by decide +kernel
abbrev cX9_init : ByteArray := prog_1_method_1_code
def yX9_init : MethodName := ⟨RX9, "<init>", "()V"⟩
abbrev cX9_of : ByteArray := prog_1_method_2_code
def yX9_of : MethodName := ⟨RX9, "of", "(II)I"⟩
abbrev cX9_character : ByteArray := prog_1_method_9_code
def yX9_character : MethodName := ⟨RX9, "character", "(II)I"⟩
abbrev cX9_number : ByteArray := prog_1_method_12_code
def yX9_number : MethodName := ⟨RX9, "number", "(III)I"⟩
abbrev cX9_product : ByteArray := prog_1_method_13_code
def yX9_product : MethodName := ⟨RX9, "product", "(III)I"⟩
abbrev cX9_greatest : ByteArray := prog_1_method_14_code
def yX9_greatest : MethodName := ⟨RX9, "greatest", "(II)I"⟩
abbrev cX9_grown : ByteArray := prog_1_method_15_code
def yX9_grown : MethodName := ⟨RX9, "grown", "(II)I"⟩
abbrev cX9_canGrow : ByteArray := prog_1_method_16_code
def yX9_canGrow : MethodName := ⟨RX9, "canGrow", "(I)Z"⟩
abbrev cX9_settled : ByteArray := prog_1_method_17_code
def yX9_settled : MethodName := ⟨RX9, "settled", "(IIII)I"⟩
abbrev cX9_letter : ByteArray := prog_1_method_21_code
def yX9_letter : MethodName := ⟨RX9, "letter", "(I)I"⟩
abbrev cX9_reads : ByteArray := prog_1_method_22_code
def yX9_reads : MethodName := ⟨RX9, "reads", "(I)I"⟩
abbrev cX9_keepDraft : ByteArray := prog_1_method_23_code
def yX9_keepDraft : MethodName := ⟨RX9, "keepDraft", "(I)I"⟩
abbrev cX9_clear : ByteArray := prog_1_method_24_code
def yX9_clear : MethodName := ⟨RX9, "clear", "(I)I"⟩
abbrev cX9_sum : ByteArray := prog_1_method_25_code
def yX9_sum : MethodName := ⟨RX9, "sum", "(II)I"⟩
abbrev cX9_firstTerm : ByteArray := prog_1_method_26_code
def yX9_firstTerm : MethodName := ⟨RX9, "firstTerm", "(I)I"⟩
abbrev cX9_coefficient : ByteArray := prog_1_method_27_code
def yX9_coefficient : MethodName := ⟨RX9, "coefficient", "(II)I"⟩
abbrev cX9_makes : ByteArray := prog_1_method_28_code
def yX9_makes : MethodName := ⟨RX9, "makes", "(IIII)I"⟩
abbrev cX9_changed : ByteArray := prog_1_method_29_code
def yX9_changed : MethodName := ⟨RX9, "changed", "(II)I"⟩
abbrev cX9_value : ByteArray := prog_1_method_30_code
def yX9_value : MethodName := ⟨RX9, "value", "(II)J"⟩
abbrev cX9_inner : ByteArray := prog_1_method_31_code
def yX9_inner : MethodName := ⟨RX9, "inner", "(II)J"⟩
abbrev cX9_refuse : ByteArray := prog_1_method_45_code
def yX9_refuse : MethodName := ⟨RX9, "refuse", "(I)I"⟩
abbrev cX9_refuseFar : ByteArray := prog_1_method_46_code
def yX9_refuseFar : MethodName := ⟨RX9, "refuseFar", "(I)I"⟩
abbrev cX9_refuseFarLong : ByteArray := prog_1_method_47_code
def yX9_refuseFarLong : MethodName := ⟨RX9, "refuseFarLong", "(I)J"⟩
def RX10 : String := "CharactersMultipliedModel"
def TX10 : u_T := fun k => match k with
  | _ => ("", "", "", false)
def tyX10 : Nat → FieldType := fun k => match k with
  | _ => .int
abbrev wsX100 : List Cond := u_ws RX10 TX10 0
theorem nmX10 : ∀ a, a < 0 → ∀ b, b < 0 → a ≠ b → (TX10 a).2.1 ≠ (TX10 b).2.1 := by decide +kernel
theorem tyX10_ok : ∀ k, k < 0 → parseFieldDescriptor (TX10 k).2.2.1 = some (tyX10 k) := by decide +kernel
def RJ5 : String := "java/lang/AbstractStringBuilder"
def TJ5 : u_T := fun k => match k with
  | _ => ("", "", "", false)
def tyJ5 : Nat → FieldType := fun k => match k with
  | _ => .int
abbrev wsJ50 : List Cond := u_ws RJ5 TJ5 0
theorem nmJ5 : ∀ a, a < 0 → ∀ b, b < 0 → a ≠ b → (TJ5 a).2.1 ≠ (TJ5 b).2.1 := by decide +kernel
theorem tyJ5_ok : ∀ k, k < 0 → parseFieldDescriptor (TJ5 k).2.2.1 = some (tyJ5 k) := by decide +kernel
abbrev cJ5_init_d00df : ByteArray := prog_13_method_2_code
def yJ5_init_d00df : MethodName := ⟨RJ5, "<init>", "(I)V"⟩
abbrev cJ5_length_8abf5 : ByteArray := prog_13_method_6_code
def yJ5_length_8abf5 : MethodName := ⟨RJ5, "length", "()I"⟩
abbrev cJ5_ensureCapacityInternal_d00df : ByteArray := prog_13_method_9_code
def yJ5_ensureCapacityInternal_d00df : MethodName := ⟨RJ5, "ensureCapacityInternal", "(I)V"⟩
abbrev cJ5_newCapacity_0f7a4 : ByteArray := prog_13_method_10_code
def yJ5_newCapacity_0f7a4 : MethodName := ⟨RJ5, "newCapacity", "(I)I"⟩
abbrev cJ5_inflate_da8c8 : ByteArray := prog_13_method_11_code
def yJ5_inflate_da8c8 : MethodName := ⟨RJ5, "inflate", "()V"⟩
abbrev cJ5_append_cf1ce : ByteArray := prog_13_method_22_code
def yJ5_append_cf1ce : MethodName := ⟨RJ5, "append", "(Ljava/lang/String;)Ljava/lang/AbstractStringBuilder;"⟩
abbrev cJ5_appendNull_278bc : ByteArray := prog_13_method_26_code
def yJ5_appendNull_278bc : MethodName := ⟨RJ5, "appendNull", "()Ljava/lang/AbstractStringBuilder;"⟩
abbrev cJ5_append_c97b9 : ByteArray := prog_13_method_32_code
def yJ5_append_c97b9 : MethodName := ⟨RJ5, "append", "(I)Ljava/lang/AbstractStringBuilder;"⟩
abbrev cJ5_getValue_6d5f1 : ByteArray := prog_13_method_64_code
def yJ5_getValue_6d5f1 : MethodName := ⟨RJ5, "getValue", "()[B"⟩
abbrev cJ5_isLatin1_aae02 : ByteArray := prog_13_method_68_code
def yJ5_isLatin1_aae02 : MethodName := ⟨RJ5, "isLatin1", "()Z"⟩
abbrev cJ5_inflateIfNeededFor_a7421 : ByteArray := prog_13_method_71_code
def yJ5_inflateIfNeededFor_a7421 : MethodName := ⟨RJ5, "inflateIfNeededFor", "(Ljava/lang/String;)V"⟩
abbrev cJ5_putStringAt_47b60 : ByteArray := prog_13_method_73_code
def yJ5_putStringAt_47b60 : MethodName := ⟨RJ5, "putStringAt", "(ILjava/lang/String;)V"⟩
def RJ6 : String := "java/lang/Integer"
def TJ6 : u_T := fun k => match k with
  | _ => ("", "", "", false)
def tyJ6 : Nat → FieldType := fun k => match k with
  | _ => .int
abbrev wsJ60 : List Cond := u_ws RJ6 TJ6 0
theorem nmJ6 : ∀ a, a < 0 → ∀ b, b < 0 → a ≠ b → (TJ6 a).2.1 ≠ (TJ6 b).2.1 := by decide +kernel
theorem tyJ6_ok : ∀ k, k < 0 → parseFieldDescriptor (TJ6 k).2.2.1 = some (tyJ6 k) := by decide +kernel
abbrev cJ6_getChars_ba4f3 : ByteArray := prog_15_method_12_code
def yJ6_getChars_ba4f3 : MethodName := ⟨RJ6, "getChars", "(II[B)I"⟩
abbrev cJ6_stringSize_0f7a4 : ByteArray := prog_15_method_13_code
def yJ6_stringSize_0f7a4 : MethodName := ⟨RJ6, "stringSize", "(I)I"⟩
abbrev cJ6_bitCount_0f7a4 : ByteArray := prog_15_method_49_code
def yJ6_bitCount_0f7a4 : MethodName := ⟨RJ6, "bitCount", "(I)I"⟩
def RJ9 : String := "java/lang/Math"
def TJ9 : u_T := fun k => match k with
  | _ => ("", "", "", false)
def tyJ9 : Nat → FieldType := fun k => match k with
  | _ => .int
abbrev wsJ90 : List Cond := u_ws RJ9 TJ9 0
theorem nmJ9 : ∀ a, a < 0 → ∀ b, b < 0 → a ≠ b → (TJ9 a).2.1 ≠ (TJ9 b).2.1 := by decide +kernel
theorem tyJ9_ok : ∀ k, k < 0 → parseFieldDescriptor (TJ9 k).2.2.1 = some (tyJ9 k) := by decide +kernel
abbrev cJ9_abs_0f7a4 : ByteArray := prog_16_method_59_code
def yJ9_abs_0f7a4 : MethodName := ⟨RJ9, "abs", "(I)I"⟩
abbrev cJ9_max_7cf53 : ByteArray := prog_16_method_65_code
def yJ9_max_7cf53 : MethodName := ⟨RJ9, "max", "(II)I"⟩
abbrev cJ9_min_7cf53 : ByteArray := prog_16_method_69_code
def yJ9_min_7cf53 : MethodName := ⟨RJ9, "min", "(II)I"⟩
def RJ0 : String := "java/lang/String"
def TJ0 : u_T := fun k => match k with
  | 0 => ("java/lang/String", "value", "[B", true)
  | 1 => ("java/lang/String", "coder", "B", true)
  | 2 => ("java/lang/String", "hash", "I", false)
  | _ => ("java/lang/String", "hashIsZero", "Z", false)
def tyJ0 : Nat → FieldType := fun k => match k with
  | 0 => .array .byte
  | 1 => .byte
  | 2 => .int
  | _ => .boolean
abbrev wsJ00 : List Cond := u_ws RJ0 TJ0 4
theorem nmJ0 : ∀ a, a < 4 → ∀ b, b < 4 → a ≠ b → (TJ0 a).2.1 ≠ (TJ0 b).2.1 := by decide +kernel
theorem tyJ0_ok : ∀ k, k < 4 → parseFieldDescriptor (TJ0 k).2.2.1 = some (tyJ0 k) := by decide +kernel
abbrev cJ0_init_81219 : ByteArray := prog_17_method_53_code
def yJ0_init_81219 : MethodName := ⟨RJ0, "<init>", "(Ljava/lang/StringBuilder;)V"⟩
abbrev cJ0_length_8abf5 : ByteArray := prog_17_method_54_code
def yJ0_length_8abf5 : MethodName := ⟨RJ0, "length", "()I"⟩
abbrev cJ0_charAt_5068e : ByteArray := prog_17_method_56_code
def yJ0_charAt_5068e : MethodName := ⟨RJ0, "charAt", "(I)C"⟩
abbrev cJ0_getBytes_840e7 : ByteArray := prog_17_method_147_code
def yJ0_getBytes_840e7 : MethodName := ⟨RJ0, "getBytes", "([BIB)V"⟩
abbrev cJ0_init_db425 : ByteArray := prog_17_method_150_code
def yJ0_init_db425 : MethodName := ⟨RJ0, "<init>", "(Ljava/lang/AbstractStringBuilder;Ljava/lang/Void;)V"⟩
abbrev cJ0_coder_7d493 : ByteArray := prog_17_method_152_code
def yJ0_coder_7d493 : MethodName := ⟨RJ0, "coder", "()B"⟩
abbrev cJ0_isLatin1_aae02 : ByteArray := prog_17_method_154_code
def yJ0_isLatin1_aae02 : MethodName := ⟨RJ0, "isLatin1", "()Z"⟩
abbrev cJ0_checkIndex_df160 : ByteArray := prog_17_method_155_code
def yJ0_checkIndex_df160 : MethodName := ⟨RJ0, "checkIndex", "(II)V"⟩
abbrev cJ0_checkBoundsOffCount_cabcc : ByteArray := prog_17_method_157_code
def yJ0_checkBoundsOffCount_cabcc : MethodName := ⟨RJ0, "checkBoundsOffCount", "(III)I"⟩
abbrev cJ0_checkBoundsBeginEnd_23922 : ByteArray := prog_17_method_158_code
def yJ0_checkBoundsBeginEnd_23922 : MethodName := ⟨RJ0, "checkBoundsBeginEnd", "(III)V"⟩
def RJ4 : String := "java/lang/StringBuilder"
def TJ4 : u_T := fun k => match k with
  | 0 => ("java/lang/AbstractStringBuilder", "value", "[B", false)
  | 1 => ("java/lang/AbstractStringBuilder", "coder", "B", false)
  | 2 => ("java/lang/AbstractStringBuilder", "maybeLatin1", "Z", false)
  | _ => ("java/lang/AbstractStringBuilder", "count", "I", false)
def tyJ4 : Nat → FieldType := fun k => match k with
  | 0 => .array .byte
  | 1 => .byte
  | 2 => .boolean
  | _ => .int
abbrev wsJ40 : List Cond := u_ws RJ4 TJ4 4
theorem nmJ4 : ∀ a, a < 4 → ∀ b, b < 4 → a ≠ b → (TJ4 a).2.1 ≠ (TJ4 b).2.1 := by decide +kernel
theorem tyJ4_ok : ∀ k, k < 4 → parseFieldDescriptor (TJ4 k).2.2.1 = some (tyJ4 k) := by decide +kernel
abbrev cJ4_init_da8c8 : ByteArray := prog_18_method_1_code
def yJ4_init_da8c8 : MethodName := ⟨RJ4, "<init>", "()V"⟩
abbrev cJ4_append_15ec4 : ByteArray := prog_18_method_7_code
def yJ4_append_15ec4 : MethodName := ⟨RJ4, "append", "(Ljava/lang/String;)Ljava/lang/StringBuilder;"⟩
abbrev cJ4_append_bf812 : ByteArray := prog_18_method_15_code
def yJ4_append_bf812 : MethodName := ⟨RJ4, "append", "(I)Ljava/lang/StringBuilder;"⟩
abbrev cJ4_toString_0e30d : ByteArray := prog_18_method_42_code
def yJ4_toString_0e30d : MethodName := ⟨RJ4, "toString", "()Ljava/lang/String;"⟩
abbrev cJ4_length_8abf5 : ByteArray := prog_18_method_93_code
def yJ4_length_8abf5 : MethodName := ⟨RJ4, "length", "()I"⟩
def RJ1 : String := "java/lang/StringLatin1"
def TJ1 : u_T := fun k => match k with
  | _ => ("", "", "", false)
def tyJ1 : Nat → FieldType := fun k => match k with
  | _ => .int
abbrev wsJ10 : List Cond := u_ws RJ1 TJ1 0
theorem nmJ1 : ∀ a, a < 0 → ∀ b, b < 0 → a ≠ b → (TJ1 a).2.1 ≠ (TJ1 b).2.1 := by decide +kernel
theorem tyJ1_ok : ∀ k, k < 0 → parseFieldDescriptor (TJ1 k).2.2.1 = some (tyJ1 k) := by decide +kernel
abbrev cJ1_charAt_3b067 : ByteArray := prog_19_method_2_code
def yJ1_charAt_3b067 : MethodName := ⟨RJ1, "charAt", "([BI)C"⟩
abbrev cJ1_inflate_0e8fd : ByteArray := prog_19_method_50_code
def yJ1_inflate_0e8fd : MethodName := ⟨RJ1, "inflate", "([BI[BII)V"⟩
def RJ2 : String := "java/lang/StringUTF16"
def TJ2 : u_T := fun k => match k with
  | _ => ("", "", "", false)
def tyJ2 : Nat → FieldType := fun k => match k with
  | _ => .int
abbrev wsJ20 : List Cond := u_ws RJ2 TJ2 0
theorem nmJ2 : ∀ a, a < 0 → ∀ b, b < 0 → a ≠ b → (TJ2 a).2.1 ≠ (TJ2 b).2.1 := by decide +kernel
theorem tyJ2_ok : ∀ k, k < 0 → parseFieldDescriptor (TJ2 k).2.2.1 = some (tyJ2 k) := by decide +kernel
abbrev cJ2_newBytesFor_77867 : ByteArray := prog_20_method_2_code
def yJ2_newBytesFor_77867 : MethodName := ⟨RJ2, "newBytesFor", "(I)[B"⟩
abbrev cJ2_newBytesLength_0f7a4 : ByteArray := prog_20_method_3_code
def yJ2_newBytesLength_0f7a4 : MethodName := ⟨RJ2, "newBytesLength", "(I)I"⟩
abbrev cJ2_putChar_b72d1 : ByteArray := prog_20_method_4_code
def yJ2_putChar_b72d1 : MethodName := ⟨RJ2, "putChar", "([BII)V"⟩
abbrev cJ2_getChar_3b067 : ByteArray := prog_20_method_5_code
def yJ2_getChar_3b067 : MethodName := ⟨RJ2, "getChar", "([BI)C"⟩
abbrev cJ2_length_9d52b : ByteArray := prog_20_method_6_code
def yJ2_length_9d52b : MethodName := ⟨RJ2, "length", "([B)I"⟩
abbrev cJ2_coderFromArrayLen_85cad : ByteArray := prog_20_method_15_code
def yJ2_coderFromArrayLen_85cad : MethodName := ⟨RJ2, "coderFromArrayLen", "([BI)B"⟩
abbrev cJ2_compress_39247 : ByteArray := prog_20_method_17_code
def yJ2_compress_39247 : MethodName := ⟨RJ2, "compress", "([BII)[B"⟩
abbrev cJ2_compress_5af95 : ByteArray := prog_20_method_22_code
def yJ2_compress_5af95 : MethodName := ⟨RJ2, "compress", "([BI[BII)I"⟩
abbrev cJ2_getChars_46870 : ByteArray := prog_20_method_77_code
def yJ2_getChars_46870 : MethodName := ⟨RJ2, "getChars", "(III[B)I"⟩
abbrev cJ2_putCharsAt_cd4e5 : ByteArray := prog_20_method_81_code
def yJ2_putCharsAt_cd4e5 : MethodName := ⟨RJ2, "putCharsAt", "([BICCCC)I"⟩
abbrev cJ2_charAt_3b067 : ByteArray := prog_20_method_83_code
def yJ2_charAt_3b067 : MethodName := ⟨RJ2, "charAt", "([BI)C"⟩
abbrev cJ2_inflate_0e8fd : ByteArray := prog_20_method_86_code
def yJ2_inflate_0e8fd : MethodName := ⟨RJ2, "inflate", "([BI[BII)V"⟩
abbrev cJ2_getChars_ba4f3 : ByteArray := prog_20_method_89_code
def yJ2_getChars_ba4f3 : MethodName := ⟨RJ2, "getChars", "(II[B)I"⟩
abbrev cJ2_checkIndex_2214a : ByteArray := prog_20_method_91_code
def yJ2_checkIndex_2214a : MethodName := ⟨RJ2, "checkIndex", "(I[B)V"⟩
abbrev cJ2_checkBoundsBeginEnd_d044e : ByteArray := prog_20_method_93_code
def yJ2_checkBoundsBeginEnd_d044e : MethodName := ⟨RJ2, "checkBoundsBeginEnd", "(II[B)V"⟩
abbrev cJ2_checkBoundsOffCount_d044e : ByteArray := prog_20_method_94_code
def yJ2_checkBoundsOffCount_d044e : MethodName := ⟨RJ2, "checkBoundsOffCount", "(II[B)V"⟩
def RJ10 : String := "java/lang/System"
def TJ10 : u_T := fun k => match k with
  | _ => ("", "", "", false)
def tyJ10 : Nat → FieldType := fun k => match k with
  | _ => .int
abbrev wsJ100 : List Cond := u_ws RJ10 TJ10 0
theorem nmJ10 : ∀ a, a < 0 → ∀ b, b < 0 → a ≠ b → (TJ10 a).2.1 ≠ (TJ10 b).2.1 := by decide +kernel
theorem tyJ10_ok : ∀ k, k < 0 → parseFieldDescriptor (TJ10 k).2.2.1 = some (tyJ10 k) := by decide +kernel
def RJ7 : String := "java/util/Arrays"
def TJ7 : u_T := fun k => match k with
  | _ => ("", "", "", false)
def tyJ7 : Nat → FieldType := fun k => match k with
  | _ => .int
abbrev wsJ70 : List Cond := u_ws RJ7 TJ7 0
theorem nmJ7 : ∀ a, a < 0 → ∀ b, b < 0 → a ≠ b → (TJ7 a).2.1 ≠ (TJ7 b).2.1 := by decide +kernel
theorem tyJ7_ok : ∀ k, k < 0 → parseFieldDescriptor (TJ7 k).2.2.1 = some (tyJ7 k) := by decide +kernel
abbrev cJ7_copyOf_9075b : ByteArray := prog_22_method_121_code
def yJ7_copyOf_9075b : MethodName := ⟨RJ7, "copyOf", "([BI)[B"⟩
abbrev cJ7_checkLength_df160 : ByteArray := prog_22_method_131_code
def yJ7_checkLength_df160 : MethodName := ⟨RJ7, "checkLength", "(II)V"⟩
abbrev cJ7_copyOfRange_39247 : ByteArray := prog_22_method_132_code
def yJ7_copyOfRange_39247 : MethodName := ⟨RJ7, "copyOfRange", "([BII)[B"⟩
abbrev cJ7_copyOfRangeByte_39247 : ByteArray := prog_22_method_133_code
def yJ7_copyOfRangeByte_39247 : MethodName := ⟨RJ7, "copyOfRangeByte", "([BII)[B"⟩
def RJ8 : String := "jdk/internal/util/ArraysSupport"
def TJ8 : u_T := fun k => match k with
  | _ => ("", "", "", false)
def tyJ8 : Nat → FieldType := fun k => match k with
  | _ => .int
abbrev wsJ80 : List Cond := u_ws RJ8 TJ8 0
theorem nmJ8 : ∀ a, a < 0 → ∀ b, b < 0 → a ≠ b → (TJ8 a).2.1 ≠ (TJ8 b).2.1 := by decide +kernel
theorem tyJ8_ok : ∀ k, k < 0 → parseFieldDescriptor (TJ8 k).2.2.1 = some (tyJ8 k) := by decide +kernel
abbrev cJ8_newLength_cabcc : ByteArray := prog_23_method_27_code
def yJ8_newLength_cabcc : MethodName := ⟨RJ8, "newLength", "(III)I"⟩
abbrev cJ8_hugeLength_7cf53 : ByteArray := prog_23_method_28_code
def yJ8_hugeLength_7cf53 : MethodName := ⟨RJ8, "hugeLength", "(II)I"⟩
def RJ3 : String := "jdk/internal/util/Preconditions"
def TJ3 : u_T := fun k => match k with
  | _ => ("", "", "", false)
def tyJ3 : Nat → FieldType := fun k => match k with
  | _ => .int
abbrev wsJ30 : List Cond := u_ws RJ3 TJ3 0
theorem nmJ3 : ∀ a, a < 0 → ∀ b, b < 0 → a ≠ b → (TJ3 a).2.1 ≠ (TJ3 b).2.1 := by decide +kernel
theorem tyJ3_ok : ∀ k, k < 0 → parseFieldDescriptor (TJ3 k).2.2.1 = some (tyJ3 k) := by decide +kernel
abbrev cJ3_checkIndex_8e157 : ByteArray := prog_24_method_11_code
def yJ3_checkIndex_8e157 : MethodName := ⟨RJ3, "checkIndex", "(IILjava/util/function/BiFunction;)I"⟩
abbrev cJ3_checkFromToIndex_8c36e : ByteArray := prog_24_method_12_code
def yJ3_checkFromToIndex_8c36e : MethodName := ⟨RJ3, "checkFromToIndex", "(IIILjava/util/function/BiFunction;)I"⟩
abbrev cJ3_checkFromIndexSize_8c36e : ByteArray := prog_24_method_13_code
def yJ3_checkFromIndexSize_8c36e : MethodName := ⟨RJ3, "checkFromIndexSize", "(IIILjava/util/function/BiFunction;)I"⟩
def RL : String := "CharactersMultipliedLaw"
abbrev cL_cell : ByteArray := method_2_code
def yL_cell : MethodName := ⟨RL, "cell", "([II)I"⟩
abbrev cL_fill : ByteArray := method_3_code
def yL_fill : MethodName := ⟨RL, "fill", "([[II[IIII)I"⟩
abbrev cL_shapes : ByteArray := method_4_code
def yL_shapes : MethodName := ⟨RL, "shapes", "()[[I"⟩
abbrev cL_size : ByteArray := method_5_code
def yL_size : MethodName := ⟨RL, "size", "([I)I"⟩
abbrev cL_first : ByteArray := method_6_code
def yL_first : MethodName := ⟨RL, "first", "(I)I"⟩
abbrev cL_find : ByteArray := method_7_code
def yL_find : MethodName := ⟨RL, "find", "([[I[I)I"⟩
abbrev cL_times : ByteArray := method_8_code
def yL_times : MethodName := ⟨RL, "times", "(I)I"⟩
abbrev cL_orders : ByteArray := method_9_code
def yL_orders : MethodName := ⟨RL, "orders", "([I)I"⟩
abbrev cL_character : ByteArray := method_10_code
def yL_character : MethodName := ⟨RL, "character", "(I[II)I"⟩
abbrev cL_character_ : ByteArray := method_11_code
def yL_character_ : MethodName := ⟨RL, "character", "([I[I)I"⟩
abbrev cL_turned : ByteArray := method_12_code
def yL_turned : MethodName := ⟨RL, "turned", "([I)[I"⟩
abbrev cL_table : ByteArray := method_13_code
def yL_table : MethodName := ⟨RL, "table", "([[II)[[I"⟩
abbrev cL_told : ByteArray := method_14_code
def yL_told : MethodName := ⟨RL, "told", "(LCharactersMultiplied;I[[II[I)I"⟩
abbrev cL_drawn : ByteArray := method_15_code
def yL_drawn : MethodName := ⟨RL, "drawn", "([III)[I"⟩
abbrev cL_law : ByteArray := code
def yL_law : MethodName := ⟨RL, "law", "([I)Z"⟩
