def RJx4a65c : String := "java/util/ArrayList"
def TJx4a65c : u_T := fun k => match k with
  | 0 => ("java/util/AbstractList", "modCount", "I", false)
  | 1 => ("java/util/ArrayList", "elementData", "[Ljava/lang/Object;", false)
  | _ => ("java/util/ArrayList", "size", "I", false)
def tyJx4a65c : Nat → FieldType := fun k => match k with
  | 0 => .int
  | 1 => .array (.object "java/lang/Object")
  | _ => .int
abbrev wsJx4a65c0 : List Cond := u_ws RJx4a65c TJx4a65c 3
theorem nmJx4a65c : ∀ a, a < 3 → ∀ b, b < 3 → a ≠ b → (TJx4a65c a).2.1 ≠ (TJx4a65c b).2.1 := by decide +kernel
theorem tyJx4a65c_ok : ∀ k, k < 3 → parseFieldDescriptor (TJx4a65c k).2.2.1 = some (tyJx4a65c k) := by decide +kernel
def RX0 : String := "StaplePort$Clause"
def TX0 : u_T := fun k => match k with
  | 0 => ("StaplePort$Clause", "number", "I", false)
  | _ => ("StaplePort$Clause", "asked", "[I", true)
def tyX0 : Nat → FieldType := fun k => match k with
  | 0 => .int
  | _ => .array .int
abbrev wsX00 : List Cond := u_ws RX0 TX0 2
theorem nmX0 : ∀ a, a < 2 → ∀ b, b < 2 → a ≠ b → (TX0 a).2.1 ≠ (TX0 b).2.1 := by decide +kernel
theorem tyX0_ok : ∀ k, k < 2 → parseFieldDescriptor (TX0 k).2.2.1 = some (tyX0 k) := by decide +kernel
def RX1 : String := "StaplePort$Fleet"
def TX1 : u_T := fun k => match k with
  | 0 => ("StaplePort$Fleet", "number", "I", true)
  | 1 => ("StaplePort$Fleet", "sailed", "Z", false)
  | 2 => ("StaplePort$Fleet", "sold", "Z", false)
  | 3 => ("StaplePort$Fleet", "members", "Ljava/util/ArrayList;", true)
  | _ => ("StaplePort$Fleet", "parts", "[I", true)
def tyX1 : Nat → FieldType := fun k => match k with
  | 0 => .int
  | 1 => .boolean
  | 2 => .boolean
  | 3 => .object "java/util/ArrayList"
  | _ => .array .int
abbrev wsX10 : List Cond := u_ws RX1 TX1 5
theorem nmX1 : ∀ a, a < 5 → ∀ b, b < 5 → a ≠ b → (TX1 a).2.1 ≠ (TX1 b).2.1 := by decide +kernel
theorem tyX1_ok : ∀ k, k < 5 → parseFieldDescriptor (TX1 k).2.2.1 = some (tyX1 k) := by decide +kernel
def RX2 : String := "StaplePort$Licence"
def TX2 : u_T := fun k => match k with
  | 0 => ("StaplePort$Licence", "merchant", "I", true)
  | 1 => ("StaplePort$Licence", "sort", "I", true)
  | _ => ("StaplePort$Licence", "unused", "I", false)
def tyX2 : Nat → FieldType := fun k => match k with
  | 0 => .int
  | 1 => .int
  | _ => .int
abbrev wsX20 : List Cond := u_ws RX2 TX2 3
theorem nmX2 : ∀ a, a < 3 → ∀ b, b < 3 → a ≠ b → (TX2 a).2.1 ≠ (TX2 b).2.1 := by decide +kernel
theorem tyX2_ok : ∀ k, k < 3 → parseFieldDescriptor (TX2 k).2.2.1 = some (tyX2 k) := by decide +kernel
def RX3 : String := "StaplePort$Loading"
def TX3 : u_T := fun k => match k with
  | 0 => ("StaplePort$Loading", "from", "LStaplePort$Lot;", true)
  | _ => ("StaplePort$Loading", "sacks", "I", true)
def tyX3 : Nat → FieldType := fun k => match k with
  | 0 => .object "StaplePort$Lot"
  | _ => .int
abbrev wsX30 : List Cond := u_ws RX3 TX3 2
theorem nmX3 : ∀ a, a < 2 → ∀ b, b < 2 → a ≠ b → (TX3 a).2.1 ≠ (TX3 b).2.1 := by decide +kernel
theorem tyX3_ok : ∀ k, k < 2 → parseFieldDescriptor (TX3 k).2.2.1 = some (tyX3 k) := by decide +kernel
def RX4 : String := "StaplePort$Lot"
def TX4 : u_T := fun k => match k with
  | 0 => ("StaplePort$Lot", "merchant", "I", true)
  | 1 => ("StaplePort$Lot", "shire", "I", true)
  | 2 => ("StaplePort$Lot", "sort", "I", true)
  | 3 => ("StaplePort$Lot", "sacks", "I", true)
  | 4 => ("StaplePort$Lot", "broughtOn", "I", true)
  | 5 => ("StaplePort$Lot", "free", "Z", false)
  | 6 => ("StaplePort$Lot", "customedOn", "I", false)
  | 7 => ("StaplePort$Lot", "duty", "I", false)
  | 8 => ("StaplePort$Lot", "bond", "I", false)
  | 9 => ("StaplePort$Lot", "due", "I", false)
  | 10 => ("StaplePort$Lot", "paid", "I", false)
  | 11 => ("StaplePort$Lot", "loaded", "I", false)
  | _ => ("StaplePort$Lot", "lost", "I", false)
def tyX4 : Nat → FieldType := fun k => match k with
  | 0 => .int
  | 1 => .int
  | 2 => .int
  | 3 => .int
  | 4 => .int
  | 5 => .boolean
  | 6 => .int
  | 7 => .int
  | 8 => .int
  | 9 => .int
  | 10 => .int
  | 11 => .int
  | _ => .int
abbrev wsX40 : List Cond := u_ws RX4 TX4 13
theorem nmX4 : ∀ a, a < 13 → ∀ b, b < 13 → a ≠ b → (TX4 a).2.1 ≠ (TX4 b).2.1 := by decide +kernel
theorem tyX4_ok : ∀ k, k < 13 → parseFieldDescriptor (TX4 k).2.2.1 = some (tyX4 k) := by decide +kernel
def RX5 : String := "StaplePort$Reader"
def TX5 : u_T := fun k => match k with
  | 0 => ("StaplePort$Reader", "text", "[B", true)
  | 1 => ("StaplePort$Reader", "length", "I", true)
  | 2 => ("StaplePort$Reader", "start", "I", false)
  | _ => ("StaplePort$Reader", "end", "I", false)
def tyX5 : Nat → FieldType := fun k => match k with
  | 0 => .array .byte
  | 1 => .int
  | 2 => .int
  | _ => .int
abbrev wsX50 : List Cond := u_ws RX5 TX5 4
theorem nmX5 : ∀ a, a < 4 → ∀ b, b < 4 → a ≠ b → (TX5 a).2.1 ≠ (TX5 b).2.1 := by decide +kernel
theorem tyX5_ok : ∀ k, k < 4 → parseFieldDescriptor (TX5 k).2.2.1 = some (tyX5 k) := by decide +kernel
def RX6 : String := "StaplePort$Ship"
def TX6 : u_T := fun k => match k with
  | 0 => ("StaplePort$Ship", "fleet", "LStaplePort$Fleet;", true)
  | 1 => ("StaplePort$Ship", "room", "I", true)
  | 2 => ("StaplePort$Ship", "sacks", "I", false)
  | 3 => ("StaplePort$Ship", "lost", "Z", false)
  | _ => ("StaplePort$Ship", "cargo", "Ljava/util/ArrayList;", true)
def tyX6 : Nat → FieldType := fun k => match k with
  | 0 => .object "StaplePort$Fleet"
  | 1 => .int
  | 2 => .int
  | 3 => .boolean
  | _ => .object "java/util/ArrayList"
abbrev wsX60 : List Cond := u_ws RX6 TX6 5
theorem nmX6 : ∀ a, a < 5 → ∀ b, b < 5 → a ≠ b → (TX6 a).2.1 ≠ (TX6 b).2.1 := by decide +kernel
theorem tyX6_ok : ∀ k, k < 5 → parseFieldDescriptor (TX6 k).2.2.1 = some (tyX6 k) := by decide +kernel
def RX7 : String := "StaplePort$Statute"
def TX7 : u_T := fun k => match k with
  | 0 => ("StaplePort$Statute", "day", "I", true)
  | 1 => ("StaplePort$Statute", "undone", "Z", false)
  | 2 => ("StaplePort$Statute", "term", "I", false)
  | 3 => ("StaplePort$Statute", "lostEnds", "Z", false)
  | 4 => ("StaplePort$Statute", "duties", "Ljava/util/ArrayList;", true)
  | _ => ("StaplePort$Statute", "bans", "Ljava/util/ArrayList;", true)
def tyX7 : Nat → FieldType := fun k => match k with
  | 0 => .int
  | 1 => .boolean
  | 2 => .int
  | 3 => .boolean
  | 4 => .object "java/util/ArrayList"
  | _ => .object "java/util/ArrayList"
abbrev wsX70 : List Cond := u_ws RX7 TX7 6
theorem nmX7 : ∀ a, a < 6 → ∀ b, b < 6 → a ≠ b → (TX7 a).2.1 ≠ (TX7 b).2.1 := by decide +kernel
theorem tyX7_ok : ∀ k, k < 6 → parseFieldDescriptor (TX7 k).2.2.1 = some (tyX7 k) := by decide +kernel
def RX8 : String := "StaplePort"
def TX8 : u_T := fun k => match k with
  | 0 => ("StaplePort", "today", "I", false)
  | 1 => ("StaplePort", "men", "[I", true)
  | 2 => ("StaplePort", "merchants", "I", false)
  | 3 => ("StaplePort", "grown", "[I", true)
  | 4 => ("StaplePort", "tape", "[B", true)
  | 5 => ("StaplePort", "tapeLength", "I", false)
  | 6 => ("StaplePort", "faultPlace", "I", false)
  | 7 => ("StaplePort", "statutes", "Ljava/util/ArrayList;", true)
  | 8 => ("StaplePort", "licences", "Ljava/util/ArrayList;", true)
  | 9 => ("StaplePort", "lots", "Ljava/util/ArrayList;", true)
  | 10 => ("StaplePort", "rateUpper", "[I", true)
  | 11 => ("StaplePort", "rateLower", "[I", true)
  | 12 => ("StaplePort", "fleets", "Ljava/util/ArrayList;", true)
  | 13 => ("StaplePort", "ships", "Ljava/util/ArrayList;", true)
  | _ => ("StaplePort", "loadings", "I", false)
def tyX8 : Nat → FieldType := fun k => match k with
  | 0 => .int
  | 1 => .array .int
  | 2 => .int
  | 3 => .array .int
  | 4 => .array .byte
  | 5 => .int
  | 6 => .int
  | 7 => .object "java/util/ArrayList"
  | 8 => .object "java/util/ArrayList"
  | 9 => .object "java/util/ArrayList"
  | 10 => .array .int
  | 11 => .array .int
  | 12 => .object "java/util/ArrayList"
  | 13 => .object "java/util/ArrayList"
  | _ => .int
abbrev wsX80 : List Cond := u_ws RX8 TX8 15
theorem nmX8 : ∀ a, a < 15 → ∀ b, b < 15 → a ≠ b → (TX8 a).2.1 ≠ (TX8 b).2.1 := by decide +kernel
theorem tyX8_ok : ∀ k, k < 15 → parseFieldDescriptor (TX8 k).2.2.1 = some (tyX8 k) := by decide +kernel
def RX9 : String := "StaplePortModel"
def TX9 : u_T := fun k => match k with
  | 0 => ("StaplePortModel", "today", "I", false)
  | 1 => ("StaplePortModel", "merchants", "I", false)
  | 2 => ("StaplePortModel", "licences", "I", false)
  | 3 => ("StaplePortModel", "lots", "I", false)
  | 4 => ("StaplePortModel", "fleets", "I", false)
  | 5 => ("StaplePortModel", "ships", "I", false)
  | 6 => ("StaplePortModel", "loadings", "I", false)
  | 7 => ("StaplePortModel", "man", "[I", true)
  | 8 => ("StaplePortModel", "grown", "[I", true)
  | 9 => ("StaplePortModel", "licenceMerchant", "[I", true)
  | 10 => ("StaplePortModel", "licenceSort", "[I", true)
  | 11 => ("StaplePortModel", "licenceLeft", "[I", true)
  | 12 => ("StaplePortModel", "merchantOf", "[I", true)
  | 13 => ("StaplePortModel", "shireOf", "[I", true)
  | 14 => ("StaplePortModel", "sortOf", "[I", true)
  | 15 => ("StaplePortModel", "sacks", "[I", true)
  | 16 => ("StaplePortModel", "brought", "[I", true)
  | 17 => ("StaplePortModel", "duty", "[I", true)
  | 18 => ("StaplePortModel", "bond", "[I", true)
  | 19 => ("StaplePortModel", "due", "[I", true)
  | 20 => ("StaplePortModel", "paid", "[I", true)
  | 21 => ("StaplePortModel", "customed", "[I", true)
  | 22 => ("StaplePortModel", "isFree", "[Z", true)
  | 23 => ("StaplePortModel", "upper", "[I", true)
  | 24 => ("StaplePortModel", "lower", "[I", true)
  | 25 => ("StaplePortModel", "hasSailed", "[Z", true)
  | 26 => ("StaplePortModel", "isSold", "[Z", true)
  | 27 => ("StaplePortModel", "parts", "[I", true)
  | 28 => ("StaplePortModel", "fleetOf", "[I", true)
  | 29 => ("StaplePortModel", "room", "[I", true)
  | 30 => ("StaplePortModel", "isLost", "[Z", true)
  | 31 => ("StaplePortModel", "loadShip", "[I", true)
  | 32 => ("StaplePortModel", "loadLot", "[I", true)
  | 33 => ("StaplePortModel", "loadSacks", "[I", true)
  | 34 => ("StaplePortModel", "tape", "[B", true)
  | 35 => ("StaplePortModel", "text", "[B", true)
  | 36 => ("StaplePortModel", "taped", "I", false)
  | 37 => ("StaplePortModel", "size", "I", false)
  | 38 => ("StaplePortModel", "at", "I", false)
  | 39 => ("StaplePortModel", "fault", "I", false)
  | 40 => ("StaplePortModel", "statutes", "I", false)
  | 41 => ("StaplePortModel", "statements", "[I", true)
  | 42 => ("StaplePortModel", "adopted", "[I", true)
  | 43 => ("StaplePortModel", "isUndone", "[Z", true)
  | 44 => ("StaplePortModel", "kind", "[I", true)
  | 45 => ("StaplePortModel", "gives", "[I", true)
  | 46 => ("StaplePortModel", "conds", "[I", true)
  | 47 => ("StaplePortModel", "condWhat", "[I", true)
  | 48 => ("StaplePortModel", "condNumber", "[I", true)
  | 49 => ("StaplePortModel", "wordEnd", "I", false)
  | 50 => ("StaplePortModel", "number", "I", false)
  | 51 => ("StaplePortModel", "worth", "[I", true)
  | _ => ("StaplePortModel", "hasMore", "[Z", true)
def tyX9 : Nat → FieldType := fun k => match k with
  | 0 => .int
  | 1 => .int
  | 2 => .int
  | 3 => .int
  | 4 => .int
  | 5 => .int
  | 6 => .int
  | 7 => .array .int
  | 8 => .array .int
  | 9 => .array .int
  | 10 => .array .int
  | 11 => .array .int
  | 12 => .array .int
  | 13 => .array .int
  | 14 => .array .int
  | 15 => .array .int
  | 16 => .array .int
  | 17 => .array .int
  | 18 => .array .int
  | 19 => .array .int
  | 20 => .array .int
  | 21 => .array .int
  | 22 => .array .boolean
  | 23 => .array .int
  | 24 => .array .int
  | 25 => .array .boolean
  | 26 => .array .boolean
  | 27 => .array .int
  | 28 => .array .int
  | 29 => .array .int
  | 30 => .array .boolean
  | 31 => .array .int
  | 32 => .array .int
  | 33 => .array .int
  | 34 => .array .byte
  | 35 => .array .byte
  | 36 => .int
  | 37 => .int
  | 38 => .int
  | 39 => .int
  | 40 => .int
  | 41 => .array .int
  | 42 => .array .int
  | 43 => .array .boolean
  | 44 => .array .int
  | 45 => .array .int
  | 46 => .array .int
  | 47 => .array .int
  | 48 => .array .int
  | 49 => .int
  | 50 => .int
  | 51 => .array .int
  | _ => .array .boolean
abbrev wsX90 : List Cond := u_ws RX9 TX9 53
theorem nmX9 : ∀ a, a < 53 → ∀ b, b < 53 → a ≠ b → (TX9 a).2.1 ≠ (TX9 b).2.1 := by decide +kernel
theorem tyX9_ok : ∀ k, k < 53 → parseFieldDescriptor (TX9 k).2.2.1 = some (tyX9 k) := by decide +kernel
def RJ0 : String := "java/lang/String"
def RL : String := "StaplePortLaw"
def RJ9 : String := "java/lang/Math"
def RJ1 : String := "java/lang/StringLatin1"
def RJ3 : String := "jdk/internal/util/Preconditions"
def RJ15 : String := "java/util/Objects"
def RJ8 : String := "jdk/internal/util/ArraysSupport"
def RJxc12de : String := "java/util/AbstractList"
def RJxa1e45 : String := "java/util/AbstractCollection"
def ez_cl : List vw_C := [(RJx4a65c, TJx4a65c, 3), (RX0, TX0, 2), (RX1, TX1, 5), (RX2, TX2, 3), (RX3, TX3, 2), (RX4, TX4, 13), (RX5, TX5, 4), (RX6, TX6, 5), (RX7, TX7, 6), (RX8, TX8, 15), (RX9, TX9, 53)]
def ez_cns : List String := [RJx4a65c, RX0, RX1, RX2, RX3, RX4, RX5, RX6, RX7, RX8, RX9, RJ0, RL, RJ9, RJ1, RJ3, RJ15, RJ8, RJxc12de, RJxa1e45]
abbrev ez_MT : Type := MethodName × ByteArray × Nat × Option FieldType × Nat × Nat × Nat × Nat
def ez_M0 : List ez_MT := [(⟨"StaplePort$Clause", "<init>", "()V"⟩, prog_2_method_1_code, 1, none, 1, 1, 1, 2),
  (⟨"StaplePort$Clause", "ask", "(II)V"⟩, prog_2_method_2_code, 4, none, 1, 1, 3, 1),
  (⟨"StaplePort$Clause", "holds", "(III)Z"⟩, prog_2_method_3_code, 4, (some .boolean), 1, 1, 4, 1),
  (⟨"StaplePort$Clause", "fits", "(II)Z"⟩, prog_2_method_4_code, 3, (some .boolean), 1, 0, 3, 1),
  (⟨"StaplePort$Fleet", "<init>", "(I)V"⟩, prog_3_method_1_code, 2, none, 2, 4, 2, 2),
  (⟨"StaplePort$Fleet", "sacksAboard", "()I"⟩, prog_3_method_2_code, 3, (some .int), 2, 3, 1, 1),
  (⟨"StaplePort$Fleet", "divide", "(I)I"⟩, prog_3_method_3_code, 10, (some .int), 2, 5, 2, 1),
  (⟨"StaplePort$Fleet", "worthOfMerchants", "()[I"⟩, prog_3_method_4_code, 4, (some (.array .int)), 2, 4, 1, 1),
  (⟨"StaplePort$Fleet", "handOut", "(I[J)V"⟩, prog_3_method_5_code, 5, none, 2, 1, 3, 1),
  (⟨"StaplePort$Fleet", "greatest", "([J)I"⟩, prog_3_method_6_code, 3, (some .int), 2, 0, 1, 0),
  (⟨"StaplePort$Licence", "<init>", "(III)V"⟩, prog_4_method_1_code, 4, none, 3, 1, 4, 2),
  (⟨"StaplePort$Licence", "isFor", "(II)Z"⟩, prog_4_method_2_code, 3, (some .boolean), 3, 0, 3, 1),
  (⟨"StaplePort$Loading", "<init>", "(LStaplePort$Lot;I)V"⟩, prog_5_method_1_code, 3, none, 4, 1, 3, 2),
  (⟨"StaplePort$Lot", "<init>", "(IIIII)V"⟩, prog_6_method_1_code, 6, none, 5, 1, 6, 2),
  (⟨"StaplePort$Lot", "isCustomed", "()Z"⟩, prog_6_method_2_code, 1, (some .boolean), 5, 0, 1, 1),
  (⟨"StaplePort$Lot", "isLate", "(I)Z"⟩, prog_6_method_3_code, 2, (some .boolean), 5, 0, 2, 1),
  (⟨"StaplePort$Lot", "sacksThatPassed", "(I)I"⟩, prog_6_method_4_code, 2, (some .int), 5, 1, 2, 1),
  (⟨"StaplePort$Lot", "tell", "(II)I"⟩, prog_6_method_5_code, 3, (some .int), 5, 1, 3, 1),
  (⟨"StaplePort$Reader", "<init>", "([BI)V"⟩, prog_7_method_1_code, 3, none, 6, 1, 3, 2),
  (⟨"StaplePort$Reader", "readStatute", "(LStaplePort$Statute;)Z"⟩, prog_7_method_2_code, 4, (some .boolean), 6, 8, 2, 1),
  (⟨"StaplePort$Reader", "readDuty", "(LStaplePort$Statute;)Z"⟩, prog_7_method_3_code, 3, (some .boolean), 6, 7, 2, 1),
  (⟨"StaplePort$Reader", "readForbid", "(LStaplePort$Statute;)Z"⟩, prog_7_method_4_code, 3, (some .boolean), 6, 7, 2, 1),
  (⟨"StaplePort$Reader", "readTerm", "(LStaplePort$Statute;)Z"⟩, prog_7_method_5_code, 2, (some .boolean), 6, 5, 2, 1),
  (⟨"StaplePort$Reader", "readLost", "(LStaplePort$Statute;)Z"⟩, prog_7_method_6_code, 2, (some .boolean), 6, 5, 2, 1),
  (⟨"StaplePort$Reader", "readConds", "(LStaplePort$Clause;)Z"⟩, prog_7_method_7_code, 5, (some .boolean), 6, 5, 2, 1),
  (⟨"StaplePort$Reader", "took", "(Ljava/lang/String;)Z"⟩, prog_7_method_8_code, 3, (some .boolean), 6, 4, 2, 1),
  (⟨"StaplePort$Reader", "takeNumber", "()I"⟩, prog_7_method_9_code, 3, (some .int), 6, 2, 1, 1)]
def ez_M1 : List ez_MT := [(⟨"StaplePort$Reader", "goToNextToken", "()V"⟩, prog_7_method_10_code, 2, none, 6, 1, 1, 1),
  (⟨"StaplePort$Reader", "byteAt", "(I)I"⟩, prog_7_method_11_code, 2, (some .int), 6, 0, 2, 1),
  (⟨"StaplePort$Reader", "isBlank", "(I)Z"⟩, prog_7_method_12_code, 1, (some .boolean), 6, 0, 1, 0),
  (⟨"StaplePort$Reader", "isLetter", "(I)Z"⟩, prog_7_method_13_code, 1, (some .boolean), 6, 0, 1, 0),
  (⟨"StaplePort$Reader", "isDigit", "(I)Z"⟩, prog_7_method_14_code, 1, (some .boolean), 6, 0, 1, 0),
  (⟨"StaplePort$Ship", "<init>", "(LStaplePort$Fleet;I)V"⟩, prog_8_method_1_code, 3, none, 7, 4, 3, 2),
  (⟨"StaplePort$Ship", "take", "(LStaplePort$Lot;I)V"⟩, prog_8_method_2_code, 3, none, 7, 7, 3, 1),
  (⟨"StaplePort$Ship", "goDown", "(Z)I"⟩, prog_8_method_3_code, 6, (some .int), 7, 3, 2, 1),
  (⟨"StaplePort$Ship", "addWorth", "([I)V"⟩, prog_8_method_4_code, 5, none, 7, 3, 2, 1),
  (⟨"StaplePort$Ship", "tell", "(I)I"⟩, prog_8_method_5_code, 2, (some .int), 7, 0, 2, 1),
  (⟨"StaplePort$Statute", "<init>", "(I)V"⟩, prog_9_method_1_code, 2, none, 8, 4, 2, 2),
  (⟨"StaplePort$Statute", "dutyOfSack", "(III)I"⟩, prog_9_method_2_code, 6, (some .int), 8, 3, 4, 1),
  (⟨"StaplePort$Statute", "forbids", "(III)Z"⟩, prog_9_method_3_code, 5, (some .boolean), 8, 3, 4, 1),
  (⟨"StaplePort", "<init>", "()V"⟩, prog_1_method_1_code, 1, none, 9, 4, 1, 2),
  (⟨"StaplePort", "day", "(I)Z"⟩, prog_1_method_2_code, 2, (some .boolean), 9, 0, 2, 1),
  (⟨"StaplePort", "merchant", "(I)I"⟩, prog_1_method_3_code, 2, (some .int), 9, 1, 2, 1),
  (⟨"StaplePort", "grow", "(III)I"⟩, prog_1_method_4_code, 4, (some .int), 9, 2, 4, 1),
  (⟨"StaplePort", "feed", "(IIIII)I"⟩, prog_1_method_5_code, 6, (some .int), 9, 1, 6, 1),
  (⟨"StaplePort", "adopt", "(I)I"⟩, prog_1_method_6_code, 5, (some .int), 9, 9, 2, 1),
  (⟨"StaplePort", "fault", "()I"⟩, prog_1_method_7_code, 1, (some .int), 9, 0, 1, 1),
  (⟨"StaplePort", "undo", "(I)Z"⟩, prog_1_method_8_code, 3, (some .boolean), 9, 3, 2, 1),
  (⟨"StaplePort", "force", "(I)I"⟩, prog_1_method_9_code, 2, (some .int), 9, 4, 2, 1),
  (⟨"StaplePort", "licence", "(III)I"⟩, prog_1_method_10_code, 4, (some .int), 9, 7, 4, 1),
  (⟨"StaplePort", "left", "(I)I"⟩, prog_1_method_11_code, 2, (some .int), 9, 3, 2, 1),
  (⟨"StaplePort", "bring", "(IIII)I"⟩, prog_1_method_12_code, 8, (some .int), 9, 7, 5, 1),
  (⟨"StaplePort", "custom", "(I)I"⟩, prog_1_method_13_code, 4, (some .int), 9, 5, 2, 1),
  (⟨"StaplePort", "half", "(II)I"⟩, prog_1_method_14_code, 4, (some .int), 9, 4, 3, 1)]
def ez_M2 : List ez_MT := [(⟨"StaplePort", "rate", "(III)Z"⟩, prog_1_method_15_code, 4, (some .boolean), 9, 1, 4, 1),
  (⟨"StaplePort", "pay", "(III)I"⟩, prog_1_method_16_code, 6, (some .int), 9, 4, 4, 1),
  (⟨"StaplePort", "lot", "(II)I"⟩, prog_1_method_17_code, 4, (some .int), 9, 4, 3, 1),
  (⟨"StaplePort", "over", "(I)I"⟩, prog_1_method_18_code, 3, (some .int), 9, 5, 2, 1),
  (⟨"StaplePort", "fleet", "()I"⟩, prog_1_method_19_code, 1, (some .int), 9, 7, 1, 1),
  (⟨"StaplePort", "ship", "(II)I"⟩, prog_1_method_20_code, 5, (some .int), 9, 7, 3, 1),
  (⟨"StaplePort", "load", "(IIII)I"⟩, prog_1_method_21_code, 7, (some .int), 9, 8, 5, 1),
  (⟨"StaplePort", "sail", "(I)I"⟩, prog_1_method_22_code, 3, (some .int), 9, 4, 2, 1),
  (⟨"StaplePort", "sink", "(I)I"⟩, prog_1_method_23_code, 4, (some .int), 9, 5, 2, 1),
  (⟨"StaplePort", "sell", "(II)I"⟩, prog_1_method_24_code, 4, (some .int), 9, 6, 3, 1),
  (⟨"StaplePort", "part", "(II)I"⟩, prog_1_method_25_code, 4, (some .int), 9, 4, 3, 1),
  (⟨"StaplePort", "shipOf", "(II)I"⟩, prog_1_method_26_code, 4, (some .int), 9, 4, 3, 1),
  (⟨"StaplePort", "sum", "(III)I"⟩, prog_1_method_27_code, 5, (some .int), 9, 4, 4, 1),
  (⟨"StaplePort", "count", "(I)I"⟩, prog_1_method_28_code, 2, (some .int), 9, 4, 2, 1),
  (⟨"StaplePort", "within", "(III)Z"⟩, prog_1_method_29_code, 3, (some .boolean), 9, 0, 3, 0),
  (⟨"StaplePort", "isShire", "(I)Z"⟩, prog_1_method_30_code, 1, (some .boolean), 9, 1, 1, 0),
  (⟨"StaplePort", "isSort", "(I)Z"⟩, prog_1_method_31_code, 1, (some .boolean), 9, 1, 1, 0),
  (⟨"StaplePort", "isMerchant", "(I)Z"⟩, prog_1_method_32_code, 2, (some .boolean), 9, 1, 2, 1),
  (⟨"StaplePort", "lotAt", "(I)LStaplePort$Lot;"⟩, prog_1_method_33_code, 2, (some (.object "StaplePort$Lot")), 9, 3, 2, 1),
  (⟨"StaplePort", "fleetAt", "(I)LStaplePort$Fleet;"⟩, prog_1_method_34_code, 2, (some (.object "StaplePort$Fleet")), 9, 3, 2, 1),
  (⟨"StaplePort", "shipAt", "(I)LStaplePort$Ship;"⟩, prog_1_method_35_code, 2, (some (.object "StaplePort$Ship")), 9, 3, 2, 1),
  (⟨"StaplePort", "putOnTape", "(I)V"⟩, prog_1_method_36_code, 3, none, 9, 0, 2, 1),
  (⟨"StaplePort", "numberInForce", "(I)I"⟩, prog_1_method_37_code, 4, (some .int), 9, 3, 2, 1),
  (⟨"StaplePort", "inForce", "(I)LStaplePort$Statute;"⟩, prog_1_method_38_code, 3, (some (.object "StaplePort$Statute")), 9, 4, 2, 1),
  (⟨"StaplePort", "dutyBy", "(LStaplePort$Statute;LStaplePort$Lot;)I"⟩, prog_1_method_39_code, 3, (some .int), 9, 4, 3, 1),
  (⟨"StaplePort", "licensedSacks", "(II)I"⟩, prog_1_method_40_code, 6, (some .int), 9, 3, 3, 1),
  (⟨"StaplePort", "useLicences", "(III)V"⟩, prog_1_method_41_code, 8, none, 9, 3, 4, 1)]
def ez_M3 : List ez_MT := [(⟨"StaplePort", "firstHalf", "(I)I"⟩, prog_1_method_42_code, 1, (some .int), 9, 0, 1, 0),
  (⟨"StaplePort", "secondHalf", "(I)I"⟩, prog_1_method_43_code, 1, (some .int), 9, 0, 1, 0),
  (⟨"StaplePort", "lotOfHalves", "(II)LStaplePort$Lot;"⟩, prog_1_method_44_code, 8, (some (.object "StaplePort$Lot")), 9, 4, 3, 1),
  (⟨"StaplePort", "worthOf", "(II)I"⟩, prog_1_method_45_code, 4, (some .int), 9, 0, 3, 1),
  (⟨"StaplePort", "sacksOfLots", "(III)I"⟩, prog_1_method_46_code, 7, (some .int), 9, 3, 4, 1),
  (⟨"StaplePort", "openBonds", "()I"⟩, prog_1_method_47_code, 3, (some .int), 9, 3, 1, 1),
  (⟨"StaplePort", "lateBonds", "()I"⟩, prog_1_method_48_code, 3, (some .int), 9, 3, 1, 1),
  (⟨"StaplePort", "paidInAll", "()I"⟩, prog_1_method_49_code, 3, (some .int), 9, 3, 1, 1),
  (⟨"StaplePortModel", "<init>", "()V"⟩, prog_11_method_1_code, 1, none, 10, 1, 1, 2),
  (⟨"StaplePortModel", "isIn", "(III)Z"⟩, prog_11_method_2_code, 3, (some .boolean), 10, 0, 3, 0),
  (⟨"StaplePortModel", "isMerchant", "(I)Z"⟩, prog_11_method_3_code, 2, (some .boolean), 10, 1, 2, 1),
  (⟨"StaplePortModel", "isLot", "(I)Z"⟩, prog_11_method_4_code, 2, (some .boolean), 10, 1, 2, 1),
  (⟨"StaplePortModel", "isFleet", "(I)Z"⟩, prog_11_method_5_code, 2, (some .boolean), 10, 1, 2, 1),
  (⟨"StaplePortModel", "isShip", "(I)Z"⟩, prog_11_method_6_code, 2, (some .boolean), 10, 1, 2, 1),
  (⟨"StaplePortModel", "day", "(I)Z"⟩, prog_11_method_7_code, 2, (some .boolean), 10, 0, 2, 1),
  (⟨"StaplePortModel", "merchant", "(I)I"⟩, prog_11_method_8_code, 2, (some .int), 10, 1, 2, 1),
  (⟨"StaplePortModel", "isWool", "(II)Z"⟩, prog_11_method_9_code, 2, (some .boolean), 10, 1, 2, 0),
  (⟨"StaplePortModel", "grow", "(III)I"⟩, prog_11_method_10_code, 4, (some .int), 10, 2, 4, 1),
  (⟨"StaplePortModel", "feed", "(IIIII)I"⟩, prog_11_method_11_code, 6, (some .int), 10, 1, 6, 1),
  (⟨"StaplePortModel", "four", "(I)V"⟩, prog_11_method_12_code, 3, none, 10, 0, 2, 1),
  (⟨"StaplePortModel", "blanks", "()V"⟩, prog_11_method_13_code, 1, none, 10, 0, 1, 1),
  (⟨"StaplePortModel", "word", "()J"⟩, prog_11_method_14_code, 3, (some .long), 10, 1, 1, 1),
  (⟨"StaplePortModel", "takes", "(J)Z"⟩, prog_11_method_15_code, 3, (some .boolean), 10, 2, 2, 1),
  (⟨"StaplePortModel", "takesNumber", "()Z"⟩, prog_11_method_16_code, 2, (some .boolean), 10, 1, 1, 1),
  (⟨"StaplePortModel", "cond", "()I"⟩, prog_11_method_17_code, 3, (some .int), 10, 2, 1, 1),
  (⟨"StaplePortModel", "takesConds", "(I)Z"⟩, prog_11_method_18_code, 3, (some .boolean), 10, 3, 2, 1),
  (⟨"StaplePortModel", "statement", "(I)Z"⟩, prog_11_method_19_code, 2, (some .boolean), 10, 4, 2, 1)]
def ez_M4 : List ez_MT := [(⟨"StaplePortModel", "adopt", "(I)I"⟩, prog_11_method_20_code, 3, (some .int), 10, 5, 2, 1),
  (⟨"StaplePortModel", "fault", "()I"⟩, prog_11_method_21_code, 1, (some .int), 10, 0, 1, 1),
  (⟨"StaplePortModel", "undo", "(I)Z"⟩, prog_11_method_22_code, 2, (some .boolean), 10, 1, 2, 1),
  (⟨"StaplePortModel", "force", "(I)I"⟩, prog_11_method_23_code, 4, (some .int), 10, 1, 2, 1),
  (⟨"StaplePortModel", "holds", "(IIII)Z"⟩, prog_11_method_24_code, 8, (some .boolean), 10, 0, 5, 1),
  (⟨"StaplePortModel", "dutyBy", "(II)I"⟩, prog_11_method_25_code, 4, (some .int), 10, 1, 3, 1),
  (⟨"StaplePortModel", "isForbidden", "(IIII)Z"⟩, prog_11_method_26_code, 7, (some .boolean), 10, 1, 5, 1),
  (⟨"StaplePortModel", "lastOf", "(I)I"⟩, prog_11_method_27_code, 5, (some .int), 10, 2, 2, 1),
  (⟨"StaplePortModel", "licence", "(III)I"⟩, prog_11_method_28_code, 4, (some .int), 10, 2, 4, 1),
  (⟨"StaplePortModel", "left", "(I)I"⟩, prog_11_method_29_code, 2, (some .int), 10, 1, 2, 1),
  (⟨"StaplePortModel", "bring", "(IIII)I"⟩, prog_11_method_30_code, 11, (some .int), 10, 2, 5, 1),
  (⟨"StaplePortModel", "custom", "(I)I"⟩, prog_11_method_31_code, 2, (some .int), 10, 3, 2, 1),
  (⟨"StaplePortModel", "halfOf", "(II)I"⟩, prog_11_method_32_code, 2, (some .int), 10, 0, 2, 0),
  (⟨"StaplePortModel", "half", "(II)I"⟩, prog_11_method_33_code, 3, (some .int), 10, 2, 3, 1),
  (⟨"StaplePortModel", "rate", "(III)Z"⟩, prog_11_method_34_code, 4, (some .boolean), 10, 1, 4, 1),
  (⟨"StaplePortModel", "pay", "(III)I"⟩, prog_11_method_35_code, 6, (some .int), 10, 2, 4, 1),
  (⟨"StaplePortModel", "loaded", "(IZ)I"⟩, prog_11_method_36_code, 5, (some .int), 10, 0, 3, 1),
  (⟨"StaplePortModel", "isLate", "(I)Z"⟩, prog_11_method_37_code, 2, (some .boolean), 10, 0, 2, 1),
  (⟨"StaplePortModel", "one", "(Z)I"⟩, prog_11_method_38_code, 1, (some .int), 10, 0, 1, 0),
  (⟨"StaplePortModel", "lot", "(II)I"⟩, prog_11_method_39_code, 3, (some .int), 10, 2, 3, 1),
  (⟨"StaplePortModel", "over", "(I)I"⟩, prog_11_method_40_code, 2, (some .int), 10, 2, 2, 1),
  (⟨"StaplePortModel", "fleet", "()I"⟩, prog_11_method_41_code, 1, (some .int), 10, 0, 1, 1),
  (⟨"StaplePortModel", "ship", "(II)I"⟩, prog_11_method_42_code, 3, (some .int), 10, 2, 3, 1),
  (⟨"StaplePortModel", "sacksIn", "(I)I"⟩, prog_11_method_43_code, 4, (some .int), 10, 0, 2, 1),
  (⟨"StaplePortModel", "load", "(IIII)I"⟩, prog_11_method_44_code, 7, (some .int), 10, 2, 5, 1),
  (⟨"StaplePortModel", "sail", "(I)I"⟩, prog_11_method_45_code, 4, (some .int), 10, 2, 2, 1),
  (⟨"StaplePortModel", "sink", "(I)I"⟩, prog_11_method_46_code, 6, (some .int), 10, 3, 2, 1)]
def ez_M5 : List ez_MT := [(⟨"StaplePortModel", "sell", "(II)I"⟩, prog_11_method_47_code, 8, (some .int), 10, 2, 3, 1),
  (⟨"StaplePortModel", "part", "(II)I"⟩, prog_11_method_48_code, 3, (some .int), 10, 2, 3, 1),
  (⟨"StaplePortModel", "shipOf", "(II)I"⟩, prog_11_method_49_code, 3, (some .int), 10, 2, 3, 1),
  (⟨"StaplePortModel", "sum", "(III)I"⟩, prog_11_method_50_code, 9, (some .int), 10, 2, 4, 1),
  (⟨"StaplePortModel", "count", "(I)I"⟩, prog_11_method_51_code, 4, (some .int), 10, 1, 2, 1),
  (⟨"java/lang/String", "length", "()I"⟩, prog_16_method_54_code, 1, (some .int), 11, 1, 1, 1),
  (⟨"java/lang/String", "charAt", "(I)C"⟩, prog_16_method_56_code, 2, (some .char), 11, 3, 2, 1),
  (⟨"java/lang/String", "coder", "()B"⟩, prog_16_method_152_code, 1, (some .byte), 11, 0, 1, 1),
  (⟨"java/lang/String", "isLatin1", "()Z"⟩, prog_16_method_154_code, 1, (some .boolean), 11, 0, 1, 1),
  (⟨"java/lang/String", "checkIndex", "(II)V"⟩, prog_16_method_155_code, 2, none, 11, 1, 2, 0),
  (⟨"java/lang/StringLatin1", "charAt", "([BI)C"⟩, prog_17_method_2_code, 2, (some .char), 14, 2, 2, 0),
  (⟨"java/util/AbstractCollection", "<init>", "()V"⟩, prog_20_method_1_code, 1, none, 19, 1, 1, 2),
  (⟨"java/util/AbstractList", "<init>", "()V"⟩, prog_21_method_1_code, 1, none, 18, 2, 1, 2),
  (⟨"java/util/ArrayList", "<init>", "()V"⟩, prog_22_method_2_code, 1, none, 0, 3, 1, 2),
  (⟨"java/util/ArrayList", "grow", "(I)[Ljava/lang/Object;"⟩, prog_22_method_6_code, 4, (some (.array (.object "java/lang/Object"))), 0, 3, 2, 1),
  (⟨"java/util/ArrayList", "grow", "()[Ljava/lang/Object;"⟩, prog_22_method_7_code, 1, (some (.array (.object "java/lang/Object"))), 0, 4, 1, 1),
  (⟨"java/util/ArrayList", "size", "()I"⟩, prog_22_method_8_code, 1, (some .int), 0, 0, 1, 1),
  (⟨"java/util/ArrayList", "elementData", "(I)Ljava/lang/Object;"⟩, prog_22_method_18_code, 2, (some (.object "java/lang/Object")), 0, 0, 2, 1),
  (⟨"java/util/ArrayList", "get", "(I)Ljava/lang/Object;"⟩, prog_22_method_20_code, 2, (some (.object "java/lang/Object")), 0, 2, 2, 1),
  (⟨"java/util/ArrayList", "add", "(Ljava/lang/Object;[Ljava/lang/Object;I)V"⟩, prog_22_method_24_code, 4, none, 0, 5, 4, 1),
  (⟨"java/util/ArrayList", "add", "(Ljava/lang/Object;)Z"⟩, prog_22_method_25_code, 2, (some .boolean), 0, 6, 2, 1),
  (⟨"java/util/Objects", "checkIndex", "(II)I"⟩, prog_26_method_17_code, 2, (some .int), 16, 1, 2, 0),
  (⟨"jdk/internal/util/ArraysSupport", "newLength", "(III)I"⟩, prog_29_method_27_code, 4, (some .int), 17, 1, 3, 0),
  (⟨"jdk/internal/util/Preconditions", "checkIndex", "(IILjava/util/function/BiFunction;)I"⟩, prog_30_method_11_code, 3, (some .int), 15, 0, 3, 0),
  (⟨"StaplePortLaw", "law", "([I)Z"⟩, code, 4, (some .boolean), 12, 10, 1, 0)]
def ez_M : List ez_MT := ez_M0 ++ (ez_M1 ++ (ez_M2 ++ (ez_M3 ++ (ez_M4 ++ (ez_M5)))))
def ez_m (k : Nat) : ez_MT := ez_M.getD k (⟨"", "", ""⟩, ⟨#[]⟩, 0, none, 0, 0, 0, 0)
def ez_y (k : Nat) : MethodName := (ez_m k).1
def ez_code (k : Nat) : ByteArray := (ez_m k).2.1
def ez_ml (k : Nat) : Nat := (ez_m k).2.2.1
def ez_ret (k : Nat) : Option FieldType := (ez_m k).2.2.2.1
def ez_ow (k : Nat) : Nat := (ez_m k).2.2.2.2.1
def ez_dep (k : Nat) : Nat := (ez_m k).2.2.2.2.2.1
def ez_na (k : Nat) : Nat := (ez_m k).2.2.2.2.2.2.1
def ez_kd (k : Nat) : Nat := (ez_m k).2.2.2.2.2.2.2
def ez_cn (o : Nat) : String := ez_cns.getD o ""
def ez_mw : List (Nat × Nat × Nat × Nat) := [(329, 63, 328, 0), (353, 63, 351, 352), (506, 63, 504, 505), (510, 63, 509, 16), (654, 70, 653, 0), (755, 70, 753, 754), (777, 70, 775, 776), (781, 70, 780, 25), (790, 70, 789, 26), (793, 70, 792, 0), (471, 68, 470, 0), (518, 68, 516, 517), (736, 72, 735, 0), (528, 69, 527, 0), (597, 69, 595, 596), (641, 69, 639, 640), (820, 69, 818, 819), (636, 69, 634, 635), (228, 57, 227, 0), (250, 57, 248, 249), (324, 57, 323, 4), (417, 57, 416, 10), (422, 57, 421, 11), (427, 57, 426, 12), (342, 57, 341, 5), (272, 57, 271, 3), (349, 57, 348, 6), (254, 57, 253, 1), (258, 57, 257, 2), (261, 57, 260, 0), (264, 57, 263, 0), (267, 57, 266, 0), (690, 71, 689, 0), (731, 71, 729, 730), (766, 71, 764, 765), (785, 71, 783, 784), (807, 71, 805, 806), (196, 56, 195, 0), (605, 56, 603, 604), (499, 56, 497, 498), (77, 51, 76, 0), (158, 51, 156, 157), (162, 51, 160, 161), (169, 51, 167, 168), (179, 51, 177, 178), (187, 51, 185, 186), (434, 51, 432, 433), (438, 51, 436, 437), (454, 51, 452, 453), (462, 51, 460, 461), (487, 51, 485, 486), (491, 51, 489, 490), (589, 51, 587, 588), (609, 51, 607, 608), (619, 51, 617, 618), (623, 51, 621, 622), (632, 51, 630, 631), (645, 51, 643, 644), (649, 51, 647, 648), (681, 51, 679, 680), (719, 51, 717, 718), (751, 51, 749, 750), (762, 51, 760, 761), (772, 51, 770, 771), (799, 51, 797, 798), (803, 51, 801, 802), (811, 51, 809, 810), (824, 51, 822, 823), (165, 51, 164, 0), (172, 51, 171, 0), (175, 51, 174, 0), (466, 51, 465, 14), (593, 51, 592, 19), (685, 51, 684, 22), (723, 51, 722, 23), (183, 51, 182, 0), (458, 51, 457, 13), (495, 51, 494, 15), (601, 51, 600, 20), (514, 51, 513, 17), (522, 51, 521, 18), (612, 51, 611, 0), (615, 51, 614, 0), (727, 51, 726, 24), (628, 51, 627, 21), (816, 51, 815, 27), (828, 51, 827, 28), (832, 51, 831, 29), (837, 51, 836, 30), (842, 55, 841, 0), (1015, 55, 1014, 0), (1092, 55, 1091, 39), (1118, 55, 1117, 42), (1174, 55, 1173, 47), (1182, 55, 1181, 48), (1008, 55, 1006, 1007), (1012, 55, 1010, 1011), (1022, 55, 1021, 0), (1019, 55, 1017, 1018), (1026, 55, 1024, 1025), (1030, 55, 1029, 31), (1038, 55, 1037, 32), (1051, 55, 1050, 35), (1047, 55, 1046, 34), (1066, 55, 1065, 38), (1059, 55, 1058, 37), (1055, 55, 1054, 36), (1042, 55, 1041, 33), (1034, 55, 1032, 1033), (1076, 55, 1074, 1075), (1080, 55, 1078, 1079), (1084, 55, 1082, 1083), (1109, 55, 1108, 41), (1122, 55, 1121, 43), (1105, 55, 1104, 40), (1126, 55, 1125, 44), (1088, 55, 1086, 1087), (1096, 55, 1094, 1095), (1100, 55, 1098, 1099), (1114, 55, 1112, 1113), (1133, 55, 1132, 0), (1130, 55, 1128, 1129), (1137, 55, 1135, 1136), (1141, 55, 1139, 1140), (1158, 55, 1157, 46), (1154, 55, 1153, 45), (1150, 55, 1149, 0), (1147, 55, 1145, 1146), (1162, 55, 1160, 1161), (1166, 55, 1164, 1165), (1170, 55, 1168, 1169), (1186, 55, 1185, 49), (1178, 55, 1176, 1177), (1190, 55, 1188, 1189), (1194, 55, 1192, 1193), (1198, 55, 1196, 1197), (1203, 55, 1201, 1202), (1207, 55, 1205, 1206), (1211, 55, 1209, 1210), (1216, 55, 1214, 1215), (276, 59, 274, 275), (286, 59, 284, 285), (280, 59, 278, 279), (290, 59, 288, 289), (296, 59, 295, 0), (293, 60, 292, 0), (91, 52, 90, 0), (88, 53, 87, 0), (85, 54, 84, 0), (371, 54, 370, 9), (367, 54, 366, 8), (191, 54, 189, 190), (450, 54, 448, 449), (442, 54, 440, 441), (363, 54, 362, 7), (359, 54, 357, 358), (445, 67, 444, 0), (374, 64, 373, 0), (301, 61, 300, 0), (0, 0, 0, 0)]
def ez_ft : List (List (Nat × Nat × Nat × Nat × Nat)) := [[(9, 0, 1, 2, 95), (48, 0, 2, 0, 96), (63, 0, 0, 0, 98)],
  [(9, 1, 1, 2, 333)],
  [(12, 2, 3, 2, 663), (18, 2, 4, 2, 665), (22, 2, 0, 0, 658), (36, 7, 2, 0, 699), (47, 7, 3, 1, 702)],
  [(7, 3, 0, 0, 473), (13, 3, 1, 0, 474), (16, 3, 2, 0, 475)],
  [(7, 4, 0, 2, 738), (13, 4, 1, 0, 740)],
  [(9, 5, 6, 0, 543), (15, 5, 8, 0, 547), (18, 5, 9, 0, 550), (21, 5, 0, 0, 530), (24, 5, 1, 0, 533), (27, 5, 2, 0, 535), (30, 5, 3, 0, 538), (33, 5, 4, 0, 540), (40, 5, 11, 0, 555), (43, 5, 12, 0, 558), (46, 5, 5, 1, 541), (50, 5, 7, 0, 545), (53, 5, 10, 0, 552)],
  [(9, 6, 0, 2, 233), (21, 6, 1, 0, 234), (28, 6, 2, 0, 235), (69, 1, 0, 0, 332), (72, 8, 4, 2, 208), (86, 8, 5, 2, 210), (89, 8, 2, 0, 203), (93, 8, 3, 1, 205), (109, 6, 3, 0, 237)],
  [(12, 7, 4, 2, 704), (18, 7, 0, 2, 694), (22, 7, 1, 0, 696), (35, 7, 2, 0, 698), (38, 5, 11, 0, 554), (43, 7, 3, 1, 701), (55, 4, 0, 2, 739), (59, 5, 12, 0, 557), (61, 4, 1, 0, 741), (62, 5, 8, 0, 548), (65, 5, 0, 0, 531), (72, 5, 2, 0, 536), (75, 2, 0, 0, 659), (80, 2, 1, 1, 660)],
  [(10, 8, 4, 2, 207), (16, 8, 5, 2, 209), (19, 8, 0, 0, 200), (37, 1, 0, 0, 331)],
  [(9, 9, 1, 2, 110), (13, 9, 3, 2, 112), (16, 9, 4, 2, 113), (20, 9, 6, 0, 115), (27, 9, 7, 2, 116), (31, 9, 8, 2, 117), (34, 9, 9, 2, 118), (37, 9, 10, 2, 119), (40, 9, 11, 2, 120), (43, 9, 12, 2, 121), (46, 9, 13, 2, 122), (49, 9, 0, 0, 109), (56, 9, 2, 0, 111), (66, 9, 5, 0, 114), (90, 6, 2, 0, 236), (101, 8, 1, 1, 202), (117, 3, 2, 0, 476), (139, 5, 5, 1, 542), (150, 5, 6, 0, 544), (157, 5, 7, 0, 546), (160, 5, 8, 0, 549), (163, 8, 2, 0, 204), (166, 5, 9, 0, 551), (176, 5, 10, 0, 553), (192, 2, 1, 1, 661), (200, 2, 3, 2, 664), (211, 7, 0, 2, 695), (215, 5, 3, 0, 539), (218, 5, 11, 0, 556), (221, 7, 1, 0, 697), (224, 7, 2, 0, 700), (225, 9, 14, 0, 123), (235, 7, 3, 1, 703), (238, 2, 2, 1, 662), (241, 8, 3, 1, 206), (252, 2, 4, 2, 666), (271, 8, 0, 0, 201), (274, 5, 2, 0, 537), (277, 5, 0, 0, 532), (280, 5, 1, 0, 534)],
  [(7, 10, 7, 2, 851), (13, 10, 8, 2, 852), (16, 10, 9, 2, 853), (19, 10, 10, 2, 854), (22, 10, 11, 2, 855), (25, 10, 12, 2, 856), (28, 10, 13, 2, 857), (31, 10, 14, 2, 858), (34, 10, 15, 2, 859), (37, 10, 16, 2, 860), (40, 10, 17, 2, 861), (43, 10, 18, 2, 862), (46, 10, 19, 2, 863), (49, 10, 20, 2, 864), (52, 10, 21, 2, 865), (55, 10, 22, 2, 866), (59, 10, 23, 2, 867), (62, 10, 24, 2, 868), (65, 10, 25, 2, 869), (68, 10, 26, 2, 870), (71, 10, 27, 2, 871), (74, 10, 28, 2, 872), (77, 10, 29, 2, 873), (80, 10, 30, 2, 874), (83, 10, 31, 2, 875), (86, 10, 32, 2, 876), (89, 10, 33, 2, 877), (92, 10, 34, 2, 878), (96, 10, 35, 2, 879), (99, 10, 39, 0, 883), (103, 10, 41, 2, 885), (106, 10, 42, 2, 886), (109, 10, 43, 2, 887), (112, 10, 44, 2, 888), (115, 10, 45, 2, 889), (118, 10, 46, 2, 890), (121, 10, 47, 2, 891), (124, 10, 48, 2, 892), (127, 10, 51, 2, 895), (130, 10, 52, 2, 896), (133, 10, 1, 0, 845), (140, 10, 3, 0, 847), (143, 10, 4, 0, 848), (146, 10, 5, 0, 849), (149, 10, 0, 0, 844), (156, 10, 36, 0, 880), (163, 10, 38, 0, 882), (166, 10, 37, 0, 881), (172, 10, 49, 0, 893), (179, 10, 50, 0, 894), (218, 10, 40, 0, 884), (235, 10, 2, 0, 846), (263, 10, 6, 0, 850)],
  [(9, 11, 0, 2, 1237), (15, 11, 1, 3, 1238)],
  [],
  [],
  [],
  [],
  [],
  [],
  [(7, 0, 0, 0, 97)],
  []]
def ez_st_ : List (List (Nat × Nat × Nat)) := [[(39, 0, 93)],
  [],
  [],
  [],
  [],
  [],
  [],
  [],
  [],
  [],
  [],
  [(38, 1, 281), (1053, 2, 297)],
  [],
  [],
  [],
  [],
  [],
  [],
  [],
  []]
def ez_mt : List (List (Nat × Nat × Nat × Nat)) := [[(1, 147, 0, 86), (66, 9001, 0, 382), (69, 149, 0, 368), (73, 157, 0, 372), (79, 9002, 0, 410), (118, 156, 0, 443), (123, 152, 0, 447), (129, 150, 0, 364), (131, 154, 0, 360)],
  [(1, 9000, 0, 330), (13, 68, 1, 1), (19, 3, 0, 507)],
  [(3, 9000, 0, 655), (11, 148, 0, 657), (26, 151, 0, 756), (30, 153, 0, 757), (39, 7, 0, 778), (43, 8, 0, 787), (51, 35, 0, 782), (55, 9, 0, 791)],
  [(1, 9000, 0, 472)],
  [(1, 9000, 0, 737)],
  [(3, 9000, 0, 529), (36, 14, 0, 637), (56, 15, 0, 638)],
  [(3, 9000, 0, 229), (15, 9003, 0, 230), (25, 27, 0, 251), (33, 25, 0, 269), (37, 20, 0, 321), (43, 21, 0, 414), (48, 22, 0, 419), (53, 23, 0, 424), (58, 0, 1, 0), (59, 24, 0, 339), (65, 26, 0, 346), (78, 155, 0, 356), (105, 1, 0, 350), (112, 140, 0, 273), (116, 28, 0, 255), (120, 141, 0, 283), (124, 31, 0, 265), (128, 29, 0, 259), (131, 30, 0, 262)],
  [(3, 9000, 0, 691), (11, 148, 0, 693), (28, 12, 0, 734), (31, 155, 0, 747), (47, 151, 0, 767), (51, 153, 0, 768), (68, 68, 1, 2)],
  [(1, 9000, 0, 197), (9, 148, 0, 199), (23, 151, 0, 500), (27, 153, 0, 501), (33, 2, 0, 503)],
  [(1, 9000, 0, 78), (26, 148, 0, 83), (52, 68, 0, 163), (59, 69, 0, 170), (63, 70, 0, 173), (69, 75, 0, 180), (73, 151, 0, 188), (79, 37, 0, 194), (83, 18, 0, 226), (86, 19, 0, 247), (93, 155, 0, 430), (97, 153, 0, 439), (105, 76, 0, 455), (109, 71, 0, 463), (114, 10, 0, 469), (120, 77, 0, 492), (124, 39, 0, 496), (127, 79, 0, 511), (131, 80, 0, 519), (136, 13, 0, 526), (142, 72, 0, 590), (146, 14, 0, 594), (153, 78, 0, 598), (169, 81, 0, 610), (172, 82, 0, 613), (179, 84, 0, 625), (182, 17, 0, 633), (187, 4, 0, 652), (188, 73, 0, 682), (197, 32, 0, 688), (203, 74, 0, 720), (207, 83, 0, 724), (228, 33, 0, 728), (232, 5, 0, 752), (244, 34, 0, 763), (249, 6, 0, 774), (255, 36, 0, 804), (258, 85, 0, 813), (262, 86, 0, 825), (265, 87, 0, 829), (268, 88, 0, 834), (283, 38, 0, 602), (286, 11, 0, 515), (290, 9003, 0, 523), (295, 16, 0, 817), (298, 15, 0, 833)],
  [(1, 9000, 0, 843), (136, 90, 0, 1013), (152, 97, 0, 1020), (159, 100, 0, 1027), (169, 101, 0, 1035), (175, 102, 0, 1048), (188, 105, 0, 1056), (192, 104, 0, 1063), (198, 103, 0, 1044), (202, 106, 0, 1052), (221, 107, 0, 1039), (224, 112, 0, 1106), (228, 111, 0, 1101), (232, 91, 0, 1089), (238, 114, 0, 1102), (241, 9003, 0, 1110), (247, 92, 0, 1115), (250, 113, 0, 1119), (253, 115, 0, 1123), (256, 120, 0, 1131), (260, 9002, 0, 1143), (266, 126, 0, 1148), (270, 125, 0, 1151), (273, 124, 0, 1155), (277, 93, 0, 1171), (280, 94, 0, 1179), (283, 131, 0, 1183)],
  [(335, 142, 0, 277), (492, 143, 0, 287), (495, 145, 0, 291), (1059, 158, 0, 299)],
  [(9, 40, 0, 75), (12, 89, 0, 840), (13, 41, 0, 155), (17, 95, 0, 1005), (18, 42, 0, 159), (22, 96, 0, 1009), (23, 43, 0, 166), (27, 98, 0, 1016), (28, 44, 0, 176), (32, 99, 0, 1023), (33, 45, 0, 184), (36, 108, 0, 1031), (37, 46, 0, 431), (41, 109, 0, 1073), (42, 47, 0, 435), (45, 110, 0, 1077), (46, 48, 0, 451), (49, 111, 0, 1081), (50, 49, 0, 459), (53, 116, 0, 1085), (54, 50, 0, 484), (57, 117, 0, 1093), (58, 51, 0, 488), (62, 118, 0, 1097), (63, 52, 0, 586), (66, 119, 0, 1111), (67, 53, 0, 606), (71, 121, 0, 1127), (72, 54, 0, 616), (76, 122, 0, 1134), (77, 55, 0, 620), (80, 123, 0, 1138), (81, 56, 0, 629), (84, 127, 0, 1144), (85, 57, 0, 642), (88, 128, 0, 1159), (89, 58, 0, 646), (92, 129, 0, 1163), (93, 59, 0, 678), (96, 130, 0, 1167), (97, 60, 0, 716), (100, 132, 0, 1175), (101, 61, 0, 748), (104, 133, 0, 1187), (105, 62, 0, 759), (108, 134, 0, 1191), (109, 63, 0, 769), (112, 135, 0, 1195), (113, 64, 0, 796), (116, 136, 0, 1200), (117, 65, 0, 800), (120, 137, 0, 1204), (121, 66, 0, 808), (124, 138, 0, 1208), (125, 67, 0, 821), (128, 139, 0, 1213)],
  [],
  [(9, 144, 0, 294)],
  [],
  [(105, 158, 0, 446)],
  [(194, 9002, 0, 375)],
  [(1, 146, 0, 89)],
  [(1, 9000, 0, 92)]]
def ez_ct : List (List (Nat × Nat × Nat)) := [[(7, 100, 411)],
  [],
  [(9, 0, 656), (34, 7, 758)],
  [],
  [],
  [],
  [(56, 1, 325)],
  [(9, 0, 692), (26, 4, 732)],
  [(7, 0, 198), (31, 1, 502)],
  [(24, 0, 81), (77, 8, 192), (81, 6, 224), (112, 3, 467), (134, 5, 524), (185, 2, 650), (195, 7, 686)],
  [],
  [],
  [(7, 9, 73), (10, 10, 838)],
  [],
  [],
  [],
  [],
  [],
  [],
  []]
def ez_it : List (List (Nat × Int32 × Nat)) := [[],
  [],
  [],
  [],
  [],
  [],
  [],
  [],
  [],
  [(175, 100000, 624), (248, 1000000, 773), (257, (-100000), 812)],
  [(259, 100000, 1142), (286, 1000000, 1199), (287, (-100000), 1212)],
  [],
  [],
  [],
  [],
  [],
  [],
  [(200, 2147483639, 378)],
  [],
  []]
def ez_lt : List (List (Nat × Int64 × Nat)) := [[],
  [],
  [(59, (-1), 794)],
  [],
  [],
  [],
  [],
  [],
  [],
  [],
  [(182, 1936683636, 1060), (184, 7168366, 1061), (186, 495672980069, 1062), (196, 1685419129, 1043), (206, 26995, 1067), (208, 112628846455140, 1068), (210, 1952805485, 1069), (212, 1819243380, 1070), (214, 1701733491, 1071), (216, 126943688025203, 1072)],
  [],
  [],
  [],
  [],
  [],
  [],
  [],
  [],
  []]
def ez_sx : List (Nat × String) := [(31, "duty"), (99, "sort"), (101, "man"), (103, "shire"), (63, "is"), (84, ";"), (41, "forbid"), (46, "term"), (51, "lost"), (91, "ends"), (97, "stands")]
def ez_fl (k i : Nat) : Option (Nat × Nat × Nat × Nat) := ((ez_ft.getD (ez_ow k) []).lookup i)
def ez_sl (k i : Nat) : Option (Nat × Nat) := ((ez_st_.getD (ez_ow k) []).lookup i)
def ez_mk (k i : Nat) : Option (Nat × Nat × Nat) := ((ez_mt.getD (ez_ow k) []).lookup i)
def ez_ck (k i : Nat) : Option (Nat × Nat) := ((ez_ct.getD (ez_ow k) []).lookup i)
def ez_ik (k i : Nat) : Option (Int32 × Nat) := ((ez_it.getD (ez_ow k) []).lookup i)
def ez_lk (k i : Nat) : Option (Int64 × Nat) := ((ez_lt.getD (ez_ow k) []).lookup i)
def ez_ss (k i : Nat) : Option Nat := if ez_ow k = 6 then ez_sx.findIdx? (fun q => q.1 == i) else none
