def RX0 : String := "CinnamonPeelers$Bale"
def TX0 : u_T := fun k => match k with
  | 0 => ("CinnamonPeelers$Bale", "family", "I", true)
  | 1 => ("CinnamonPeelers$Bale", "grade", "I", true)
  | 2 => ("CinnamonPeelers$Bale", "day", "I", true)
  | 3 => ("CinnamonPeelers$Bale", "chest", "I", true)
  | 4 => ("CinnamonPeelers$Bale", "isDue", "Z", true)
  | _ => ("CinnamonPeelers$Bale", "paid", "I", true)
def tyX0 : Nat → FieldType := fun k => match k with
  | 0 => .int
  | 1 => .int
  | 2 => .int
  | 3 => .int
  | 4 => .boolean
  | _ => .int
abbrev wsX00 : List Cond := u_ws RX0 TX0 6
theorem nmX0 : ∀ a, a < 6 → ∀ b, b < 6 → a ≠ b → (TX0 a).2.1 ≠ (TX0 b).2.1 := by decide +kernel
theorem tyX0_ok : ∀ k, k < 6 → parseFieldDescriptor (TX0 k).2.2.1 = some (tyX0 k) := by decide +kernel
abbrev cX0_init : ByteArray := prog_2_method_1_code
def yX0_init : MethodName := ⟨RX0, "<init>", "(IIIIZI)V"⟩
def RX1 : String := "CinnamonPeelers$Chest"
def TX1 : u_T := fun k => match k with
  | 0 => ("CinnamonPeelers$Chest", "grade", "I", true)
  | 1 => ("CinnamonPeelers$Chest", "firstBale", "I", true)
  | _ => ("CinnamonPeelers$Chest", "held", "I", false)
def tyX1 : Nat → FieldType := fun k => match k with
  | 0 => .int
  | 1 => .int
  | _ => .int
abbrev wsX10 : List Cond := u_ws RX1 TX1 3
theorem nmX1 : ∀ a, a < 3 → ∀ b, b < 3 → a ≠ b → (TX1 a).2.1 ≠ (TX1 b).2.1 := by decide +kernel
theorem tyX1_ok : ∀ k, k < 3 → parseFieldDescriptor (TX1 k).2.2.1 = some (tyX1 k) := by decide +kernel
abbrev cX1_init : ByteArray := prog_3_method_1_code
def yX1_init : MethodName := ⟨RX1, "<init>", "(II)V"⟩
abbrev cX1_isOpenTo : ByteArray := prog_3_method_2_code
def yX1_isOpenTo : MethodName := ⟨RX1, "isOpenTo", "(I)Z"⟩
def RX2 : String := "CinnamonPeelers$Family"
def TX2 : u_T := fun k => match k with
  | 0 => ("CinnamonPeelers$Family", "due", "I", true)
  | 1 => ("CinnamonPeelers$Family", "gave", "I", false)
  | 2 => ("CinnamonPeelers$Family", "lacks", "I", false)
  | _ => ("CinnamonPeelers$Family", "paid", "I", false)
def tyX2 : Nat → FieldType := fun k => match k with
  | 0 => .int
  | 1 => .int
  | 2 => .int
  | _ => .int
abbrev wsX20 : List Cond := u_ws RX2 TX2 4
theorem nmX2 : ∀ a, a < 4 → ∀ b, b < 4 → a ≠ b → (TX2 a).2.1 ≠ (TX2 b).2.1 := by decide +kernel
theorem tyX2_ok : ∀ k, k < 4 → parseFieldDescriptor (TX2 k).2.2.1 = some (tyX2 k) := by decide +kernel
abbrev cX2_init : ByteArray := prog_4_method_1_code
def yX2_init : MethodName := ⟨RX2, "<init>", "(I)V"⟩
abbrev cX2_beginYear : ByteArray := prog_4_method_2_code
def yX2_beginYear : MethodName := ⟨RX2, "beginYear", "()V"⟩
abbrev cX2_owesAndGives : ByteArray := prog_4_method_3_code
def yX2_owesAndGives : MethodName := ⟨RX2, "owesAndGives", "()Z"⟩
def RX3 : String := "CinnamonPeelers$Garden"
def TX3 : u_T := fun k => match k with
  | _ => ("CinnamonPeelers$Garden", "family", "I", true)
def tyX3 : Nat → FieldType := fun k => match k with
  | _ => .int
abbrev wsX30 : List Cond := u_ws RX3 TX3 1
theorem nmX3 : ∀ a, a < 1 → ∀ b, b < 1 → a ≠ b → (TX3 a).2.1 ≠ (TX3 b).2.1 := by decide +kernel
theorem tyX3_ok : ∀ k, k < 1 → parseFieldDescriptor (TX3 k).2.2.1 = some (tyX3 k) := by decide +kernel
abbrev cX3_init : ByteArray := prog_5_method_1_code
def yX3_init : MethodName := ⟨RX3, "<init>", "(I)V"⟩
abbrev cX3_isOpenTo : ByteArray := prog_5_method_2_code
def yX3_isOpenTo : MethodName := ⟨RX3, "isOpenTo", "(I)Z"⟩
def RX4 : String := "CinnamonPeelers$Joiner"
def TX4 : u_T := fun k => match k with
  | 0 => ("CinnamonPeelers$Joiner", "numbers", "[I", true)
  | 1 => ("CinnamonPeelers$Joiner", "lengths", "[I", true)
  | 2 => ("CinnamonPeelers$Joiner", "tastes", "[I", true)
  | 3 => ("CinnamonPeelers$Joiner", "tastiest", "[I", true)
  | 4 => ("CinnamonPeelers$Joiner", "tried", "[I", true)
  | 5 => ("CinnamonPeelers$Joiner", "best", "[I", true)
  | 6 => ("CinnamonPeelers$Joiner", "held", "I", false)
  | _ => ("CinnamonPeelers$Joiner", "bestTaste", "I", false)
def tyX4 : Nat → FieldType := fun k => match k with
  | 0 => .array .int
  | 1 => .array .int
  | 2 => .array .int
  | 3 => .array .int
  | 4 => .array .int
  | 5 => .array .int
  | 6 => .int
  | _ => .int
abbrev wsX40 : List Cond := u_ws RX4 TX4 8
theorem nmX4 : ∀ a, a < 8 → ∀ b, b < 8 → a ≠ b → (TX4 a).2.1 ≠ (TX4 b).2.1 := by decide +kernel
theorem tyX4_ok : ∀ k, k < 8 → parseFieldDescriptor (TX4 k).2.2.1 = some (tyX4 k) := by decide +kernel
abbrev cX4_init : ByteArray := prog_6_method_1_code
def yX4_init : MethodName := ⟨RX4, "<init>", "()V"⟩
abbrev cX4_clear : ByteArray := prog_6_method_2_code
def yX4_clear : MethodName := ⟨RX4, "clear", "()V"⟩
abbrev cX4_hasRoom : ByteArray := prog_6_method_3_code
def yX4_hasRoom : MethodName := ⟨RX4, "hasRoom", "()Z"⟩
abbrev cX4_take : ByteArray := prog_6_method_4_code
def yX4_take : MethodName := ⟨RX4, "take", "(III)V"⟩
abbrev cX4_sizeOfBest : ByteArray := prog_6_method_5_code
def yX4_sizeOfBest : MethodName := ⟨RX4, "sizeOfBest", "(II)I"⟩
abbrev cX4_partOfBest : ByteArray := prog_6_method_6_code
def yX4_partOfBest : MethodName := ⟨RX4, "partOfBest", "(I)I"⟩
abbrev cX4_fillTastiest : ByteArray := prog_6_method_7_code
def yX4_fillTastiest : MethodName := ⟨RX4, "fillTastiest", "()V"⟩
abbrev cX4_isAsTasty : ByteArray := prog_6_method_8_code
def yX4_isAsTasty : MethodName := ⟨RX4, "isAsTasty", "(II)Z"⟩
abbrev cX4_chooseFrom : ByteArray := prog_6_method_9_code
def yX4_chooseFrom : MethodName := ⟨RX4, "chooseFrom", "(IIIII)V"⟩
abbrev cX4_finish : ByteArray := prog_6_method_10_code
def yX4_finish : MethodName := ⟨RX4, "finish", "(IIII)V"⟩
def RX5 : String := "CinnamonPeelers$Packer"
def TX5 : u_T := fun k => match k with
  | 0 => ("CinnamonPeelers$Packer", "lengths", "[I", true)
  | 1 => ("CinnamonPeelers$Packer", "quillSets", "[I", true)
  | 2 => ("CinnamonPeelers$Packer", "groupStarts", "[I", true)
  | 3 => ("CinnamonPeelers$Packer", "known", "[I", true)
  | 4 => ("CinnamonPeelers$Packer", "held", "I", false)
  | 5 => ("CinnamonPeelers$Packer", "found", "I", false)
  | _ => ("CinnamonPeelers$Packer", "fewestParts", "I", false)
def tyX5 : Nat → FieldType := fun k => match k with
  | 0 => .array .int
  | 1 => .array .int
  | 2 => .array .int
  | 3 => .array .int
  | 4 => .int
  | 5 => .int
  | _ => .int
abbrev wsX50 : List Cond := u_ws RX5 TX5 7
theorem nmX5 : ∀ a, a < 7 → ∀ b, b < 7 → a ≠ b → (TX5 a).2.1 ≠ (TX5 b).2.1 := by decide +kernel
theorem tyX5_ok : ∀ k, k < 7 → parseFieldDescriptor (TX5 k).2.2.1 = some (tyX5 k) := by decide +kernel
abbrev cX5_init : ByteArray := prog_7_method_1_code
def yX5_init : MethodName := ⟨RX5, "<init>", "()V"⟩
abbrev cX5_clear : ByteArray := prog_7_method_2_code
def yX5_clear : MethodName := ⟨RX5, "clear", "()V"⟩
abbrev cX5_takes : ByteArray := prog_7_method_3_code
def yX5_takes : MethodName := ⟨RX5, "takes", "(I)Z"⟩
abbrev cX5_mostQuills : ByteArray := prog_7_method_4_code
def yX5_mostQuills : MethodName := ⟨RX5, "mostQuills", "(II)I"⟩
abbrev cX5_collect : ByteArray := prog_7_method_5_code
def yX5_collect : MethodName := ⟨RX5, "collect", "(IIIII)V"⟩
abbrev cX5_mostOf : ByteArray := prog_7_method_6_code
def yX5_mostOf : MethodName := ⟨RX5, "mostOf", "(II)I"⟩
abbrev cX5_mostByFirst : ByteArray := prog_7_method_7_code
def yX5_mostByFirst : MethodName := ⟨RX5, "mostByFirst", "(II)I"⟩
def RX6 : String := "CinnamonPeelers$Quill"
def TX6 : u_T := fun k => match k with
  | 0 => ("CinnamonPeelers$Quill", "family", "I", true)
  | 1 => ("CinnamonPeelers$Quill", "day", "I", true)
  | 2 => ("CinnamonPeelers$Quill", "bale", "I", false)
  | 3 => ("CinnamonPeelers$Quill", "taste", "I", false)
  | 4 => ("CinnamonPeelers$Quill", "parts", "[I", true)
  | 5 => ("CinnamonPeelers$Quill", "taken", "I", false)
  | 6 => ("CinnamonPeelers$Quill", "widest", "I", false)
  | _ => ("CinnamonPeelers$Quill", "mildest", "I", false)
def tyX6 : Nat → FieldType := fun k => match k with
  | 0 => .int
  | 1 => .int
  | 2 => .int
  | 3 => .int
  | 4 => .array .int
  | 5 => .int
  | 6 => .int
  | _ => .int
abbrev wsX60 : List Cond := u_ws RX6 TX6 8
theorem nmX6 : ∀ a, a < 8 → ∀ b, b < 8 → a ≠ b → (TX6 a).2.1 ≠ (TX6 b).2.1 := by decide +kernel
theorem tyX6_ok : ∀ k, k < 8 → parseFieldDescriptor (TX6 k).2.2.1 = some (tyX6 k) := by decide +kernel
abbrev cX6_init : ByteArray := prog_8_method_1_code
def yX6_init : MethodName := ⟨RX6, "<init>", "(III)V"⟩
abbrev cX6_take : ByteArray := prog_8_method_2_code
def yX6_take : MethodName := ⟨RX6, "take", "(III)V"⟩
abbrev cX6_size : ByteArray := prog_8_method_3_code
def yX6_size : MethodName := ⟨RX6, "size", "()I"⟩
abbrev cX6_partAt : ByteArray := prog_8_method_4_code
def yX6_partAt : MethodName := ⟨RX6, "partAt", "(I)I"⟩
abbrev cX6_grade : ByteArray := prog_8_method_5_code
def yX6_grade : MethodName := ⟨RX6, "grade", "()I"⟩
abbrev cX6_isLoose : ByteArray := prog_8_method_6_code
def yX6_isLoose : MethodName := ⟨RX6, "isLoose", "(II)Z"⟩
def RX7 : String := "CinnamonPeelers$Strip"
def TX7 : u_T := fun k => match k with
  | 0 => ("CinnamonPeelers$Strip", "family", "I", true)
  | 1 => ("CinnamonPeelers$Strip", "garden", "I", true)
  | 2 => ("CinnamonPeelers$Strip", "length", "I", true)
  | 3 => ("CinnamonPeelers$Strip", "width", "I", true)
  | 4 => ("CinnamonPeelers$Strip", "taste", "I", true)
  | 5 => ("CinnamonPeelers$Strip", "day", "I", true)
  | _ => ("CinnamonPeelers$Strip", "quill", "I", false)
def tyX7 : Nat → FieldType := fun k => match k with
  | 0 => .int
  | 1 => .int
  | 2 => .int
  | 3 => .int
  | 4 => .int
  | 5 => .int
  | _ => .int
abbrev wsX70 : List Cond := u_ws RX7 TX7 7
theorem nmX7 : ∀ a, a < 7 → ∀ b, b < 7 → a ≠ b → (TX7 a).2.1 ≠ (TX7 b).2.1 := by decide +kernel
theorem tyX7_ok : ∀ k, k < 7 → parseFieldDescriptor (TX7 k).2.2.1 = some (tyX7 k) := by decide +kernel
abbrev cX7_init : ByteArray := prog_9_method_1_code
def yX7_init : MethodName := ⟨RX7, "<init>", "(IIIIII)V"⟩
def RX8 : String := "CinnamonPeelers$Weather"
def TX8 : u_T := fun k => match k with
  | _ => ("CinnamonPeelers$Weather", "wet", "[Z", true)
def tyX8 : Nat → FieldType := fun k => match k with
  | _ => .array .boolean
abbrev wsX80 : List Cond := u_ws RX8 TX8 1
theorem nmX8 : ∀ a, a < 1 → ∀ b, b < 1 → a ≠ b → (TX8 a).2.1 ≠ (TX8 b).2.1 := by decide +kernel
theorem tyX8_ok : ∀ k, k < 1 → parseFieldDescriptor (TX8 k).2.2.1 = some (tyX8 k) := by decide +kernel
abbrev cX8_init : ByteArray := prog_10_method_1_code
def yX8_init : MethodName := ⟨RX8, "<init>", "()V"⟩
abbrev cX8_tell : ByteArray := prog_10_method_2_code
def yX8_tell : MethodName := ⟨RX8, "tell", "(IZ)V"⟩
abbrev cX8_endOfDryDays : ByteArray := prog_10_method_3_code
def yX8_endOfDryDays : MethodName := ⟨RX8, "endOfDryDays", "(II)I"⟩
def RX9 : String := "CinnamonPeelers"
def TX9 : u_T := fun k => match k with
  | 0 => ("CinnamonPeelers", "families", "Ljava/util/ArrayList;", true)
  | 1 => ("CinnamonPeelers", "gardens", "Ljava/util/ArrayList;", true)
  | 2 => ("CinnamonPeelers", "strips", "Ljava/util/ArrayList;", true)
  | 3 => ("CinnamonPeelers", "quills", "Ljava/util/ArrayList;", true)
  | 4 => ("CinnamonPeelers", "bales", "Ljava/util/ArrayList;", true)
  | 5 => ("CinnamonPeelers", "chests", "Ljava/util/ArrayList;", true)
  | 6 => ("CinnamonPeelers", "weather", "LCinnamonPeelers$Weather;", true)
  | 7 => ("CinnamonPeelers", "joiner", "LCinnamonPeelers$Joiner;", true)
  | 8 => ("CinnamonPeelers", "packer", "LCinnamonPeelers$Packer;", true)
  | 9 => ("CinnamonPeelers", "prices", "[I", true)
  | 10 => ("CinnamonPeelers", "span", "I", false)
  | 11 => ("CinnamonPeelers", "lap", "I", false)
  | 12 => ("CinnamonPeelers", "today", "I", false)
  | _ => ("CinnamonPeelers", "troubleNow", "I", false)
def tyX9 : Nat → FieldType := fun k => match k with
  | 0 => .object "java/util/ArrayList"
  | 1 => .object "java/util/ArrayList"
  | 2 => .object "java/util/ArrayList"
  | 3 => .object "java/util/ArrayList"
  | 4 => .object "java/util/ArrayList"
  | 5 => .object "java/util/ArrayList"
  | 6 => .object "CinnamonPeelers$Weather"
  | 7 => .object "CinnamonPeelers$Joiner"
  | 8 => .object "CinnamonPeelers$Packer"
  | 9 => .array .int
  | 10 => .int
  | 11 => .int
  | 12 => .int
  | _ => .int
abbrev wsX90 : List Cond := u_ws RX9 TX9 14
theorem nmX9 : ∀ a, a < 14 → ∀ b, b < 14 → a ≠ b → (TX9 a).2.1 ≠ (TX9 b).2.1 := by decide +kernel
theorem tyX9_ok : ∀ k, k < 14 → parseFieldDescriptor (TX9 k).2.2.1 = some (tyX9 k) := by decide +kernel
abbrev cX9_init : ByteArray := prog_1_method_1_code
def yX9_init : MethodName := ⟨RX9, "<init>", "()V"⟩
abbrev cX9_family : ByteArray := prog_1_method_2_code
def yX9_family : MethodName := ⟨RX9, "family", "(I)I"⟩
abbrev cX9_garden : ByteArray := prog_1_method_3_code
def yX9_garden : MethodName := ⟨RX9, "garden", "(I)I"⟩
abbrev cX9_set : ByteArray := prog_1_method_4_code
def yX9_set : MethodName := ⟨RX9, "set", "(II)Z"⟩
abbrev cX9_price : ByteArray := prog_1_method_5_code
def yX9_price : MethodName := ⟨RX9, "price", "(II)Z"⟩
abbrev cX9_rain : ByteArray := prog_1_method_6_code
def yX9_rain : MethodName := ⟨RX9, "rain", "(IZ)Z"⟩
abbrev cX9_cut : ByteArray := prog_1_method_7_code
def yX9_cut : MethodName := ⟨RX9, "cut", "(IIIII)I"⟩
abbrev cX9_pass : ByteArray := prog_1_method_8_code
def yX9_pass : MethodName := ⟨RX9, "pass", "(I)I"⟩
abbrev cX9_strip : ByteArray := prog_1_method_9_code
def yX9_strip : MethodName := ⟨RX9, "strip", "(II)I"⟩
abbrev cX9_ready : ByteArray := prog_1_method_10_code
def yX9_ready : MethodName := ⟨RX9, "ready", "(I)I"⟩
abbrev cX9_dryOn : ByteArray := prog_1_method_11_code
def yX9_dryOn : MethodName := ⟨RX9, "dryOn", "(I)I"⟩
abbrev cX9_join : ByteArray := prog_1_method_12_code
def yX9_join : MethodName := ⟨RX9, "join", "(I)I"⟩
abbrev cX9_could : ByteArray := prog_1_method_13_code
def yX9_could : MethodName := ⟨RX9, "could", "(I)I"⟩
abbrev cX9_most : ByteArray := prog_1_method_14_code
def yX9_most : MethodName := ⟨RX9, "most", "(I)I"⟩
abbrev cX9_quill : ByteArray := prog_1_method_15_code
def yX9_quill : MethodName := ⟨RX9, "quill", "(II)I"⟩
abbrev cX9_part : ByteArray := prog_1_method_16_code
def yX9_part : MethodName := ⟨RX9, "part", "(II)I"⟩
abbrev cX9_bale : ByteArray := prog_1_method_17_code
def yX9_bale : MethodName := ⟨RX9, "bale", "(II)I"⟩
abbrev cX9_baleOf : ByteArray := prog_1_method_18_code
def yX9_baleOf : MethodName := ⟨RX9, "baleOf", "(II)I"⟩
abbrev cX9_about : ByteArray := prog_1_method_19_code
def yX9_about : MethodName := ⟨RX9, "about", "(II)I"⟩
abbrev cX9_chest : ByteArray := prog_1_method_20_code
def yX9_chest : MethodName := ⟨RX9, "chest", "(II)I"⟩
abbrev cX9_share : ByteArray := prog_1_method_21_code
def yX9_share : MethodName := ⟨RX9, "share", "(II)I"⟩
abbrev cX9_traced : ByteArray := prog_1_method_22_code
def yX9_traced : MethodName := ⟨RX9, "traced", "(III)I"⟩
abbrev cX9_count : ByteArray := prog_1_method_23_code
def yX9_count : MethodName := ⟨RX9, "count", "(I)I"⟩
abbrev cX9_trouble : ByteArray := prog_1_method_24_code
def yX9_trouble : MethodName := ⟨RX9, "trouble", "()I"⟩
abbrev cX9_refuse : ByteArray := prog_1_method_25_code
def yX9_refuse : MethodName := ⟨RX9, "refuse", "(I)I"⟩
abbrev cX9_accept : ByteArray := prog_1_method_26_code
def yX9_accept : MethodName := ⟨RX9, "accept", "(I)I"⟩
abbrev cX9_ended : ByteArray := prog_1_method_27_code
def yX9_ended : MethodName := ⟨RX9, "ended", "(I)Z"⟩
abbrev cX9_isFrom : ByteArray := prog_1_method_28_code
def yX9_isFrom : MethodName := ⟨RX9, "isFrom", "(III)Z"⟩
abbrev cX9_isGrade : ByteArray := prog_1_method_29_code
def yX9_isGrade : MethodName := ⟨RX9, "isGrade", "(I)Z"⟩
abbrev cX9_isFamily : ByteArray := prog_1_method_30_code
def yX9_isFamily : MethodName := ⟨RX9, "isFamily", "(I)Z"⟩
abbrev cX9_isGarden : ByteArray := prog_1_method_31_code
def yX9_isGarden : MethodName := ⟨RX9, "isGarden", "(I)Z"⟩
abbrev cX9_isStrip : ByteArray := prog_1_method_32_code
def yX9_isStrip : MethodName := ⟨RX9, "isStrip", "(I)Z"⟩
abbrev cX9_isQuill : ByteArray := prog_1_method_33_code
def yX9_isQuill : MethodName := ⟨RX9, "isQuill", "(I)Z"⟩
abbrev cX9_isBale : ByteArray := prog_1_method_34_code
def yX9_isBale : MethodName := ⟨RX9, "isBale", "(I)Z"⟩
abbrev cX9_isChest : ByteArray := prog_1_method_35_code
def yX9_isChest : MethodName := ⟨RX9, "isChest", "(I)Z"⟩
abbrev cX9_thisYear : ByteArray := prog_1_method_36_code
def yX9_thisYear : MethodName := ⟨RX9, "thisYear", "()I"⟩
abbrev cX9_beginYear : ByteArray := prog_1_method_37_code
def yX9_beginYear : MethodName := ⟨RX9, "beginYear", "()V"⟩
abbrev cX9_dayOfDryness : ByteArray := prog_1_method_38_code
def yX9_dayOfDryness : MethodName := ⟨RX9, "dayOfDryness", "(LCinnamonPeelers$Strip;)I"⟩
abbrev cX9_isDry : ByteArray := prog_1_method_39_code
def yX9_isDry : MethodName := ⟨RX9, "isDry", "(LCinnamonPeelers$Strip;)Z"⟩
abbrev cX9_mayBeJoined : ByteArray := prog_1_method_40_code
def yX9_mayBeJoined : MethodName := ⟨RX9, "mayBeJoined", "(LCinnamonPeelers$Strip;I)Z"⟩
abbrev cX9_findBest : ByteArray := prog_1_method_41_code
def yX9_findBest : MethodName := ⟨RX9, "findBest", "(I)I"⟩
abbrev cX9_putInto : ByteArray := prog_1_method_42_code
def yX9_putInto : MethodName := ⟨RX9, "putInto", "(LCinnamonPeelers$Quill;I)V"⟩
abbrev cX9_stripsOf : ByteArray := prog_1_method_43_code
def yX9_stripsOf : MethodName := ⟨RX9, "stripsOf", "(I)I"⟩
abbrev cX9_quillsInNoBale : ByteArray := prog_1_method_44_code
def yX9_quillsInNoBale : MethodName := ⟨RX9, "quillsInNoBale", "(I)I"⟩
abbrev cX9_looseOf : ByteArray := prog_1_method_45_code
def yX9_looseOf : MethodName := ⟨RX9, "looseOf", "(II)I"⟩
abbrev cX9_bindQuills : ByteArray := prog_1_method_46_code
def yX9_bindQuills : MethodName := ⟨RX9, "bindQuills", "(III)V"⟩
abbrev cX9_reckon : ByteArray := prog_1_method_47_code
def yX9_reckon : MethodName := ⟨RX9, "reckon", "(III)LCinnamonPeelers$Bale;"⟩
abbrev cX9_chestFor : ByteArray := prog_1_method_48_code
def yX9_chestFor : MethodName := ⟨RX9, "chestFor", "(I)I"⟩
abbrev cX9_putInChest : ByteArray := prog_1_method_49_code
def yX9_putInChest : MethodName := ⟨RX9, "putInChest", "(III)V"⟩
abbrev cX9_chestOf : ByteArray := prog_1_method_50_code
def yX9_chestOf : MethodName := ⟨RX9, "chestOf", "(LCinnamonPeelers$Strip;)I"⟩
def RX10 : String := "CinnamonPeelersModel"
def TX10 : u_T := fun k => match k with
  | 0 => ("CinnamonPeelersModel", "thrown", "I", false)
  | 1 => ("CinnamonPeelersModel", "trouble", "I", false)
  | 2 => ("CinnamonPeelersModel", "families", "I", false)
  | 3 => ("CinnamonPeelersModel", "gardens", "I", false)
  | 4 => ("CinnamonPeelersModel", "strips", "I", false)
  | 5 => ("CinnamonPeelersModel", "quills", "I", false)
  | 6 => ("CinnamonPeelersModel", "bales", "I", false)
  | 7 => ("CinnamonPeelersModel", "chests", "I", false)
  | 8 => ("CinnamonPeelersModel", "today", "I", false)
  | 9 => ("CinnamonPeelersModel", "span", "I", false)
  | 10 => ("CinnamonPeelersModel", "lap", "I", false)
  | 11 => ("CinnamonPeelersModel", "due", "[I", true)
  | 12 => ("CinnamonPeelersModel", "gave", "[I", true)
  | 13 => ("CinnamonPeelersModel", "lacks", "[I", true)
  | 14 => ("CinnamonPeelersModel", "paid", "[I", true)
  | 15 => ("CinnamonPeelersModel", "gardenOf", "[I", true)
  | 16 => ("CinnamonPeelersModel", "price", "[I", true)
  | 17 => ("CinnamonPeelersModel", "isRain", "[Z", true)
  | 18 => ("CinnamonPeelersModel", "family", "[I", true)
  | 19 => ("CinnamonPeelersModel", "garden", "[I", true)
  | 20 => ("CinnamonPeelersModel", "length", "[I", true)
  | 21 => ("CinnamonPeelersModel", "width", "[I", true)
  | 22 => ("CinnamonPeelersModel", "taste", "[I", true)
  | 23 => ("CinnamonPeelersModel", "cutOn", "[I", true)
  | 24 => ("CinnamonPeelersModel", "quillOf", "[I", true)
  | 25 => ("CinnamonPeelersModel", "quillFamily", "[I", true)
  | 26 => ("CinnamonPeelersModel", "quillGrade", "[I", true)
  | 27 => ("CinnamonPeelersModel", "quillDay", "[I", true)
  | 28 => ("CinnamonPeelersModel", "quillParts", "[I", true)
  | 29 => ("CinnamonPeelersModel", "baleOf", "[I", true)
  | 30 => ("CinnamonPeelersModel", "part", "[I", true)
  | 31 => ("CinnamonPeelersModel", "baleFamily", "[I", true)
  | 32 => ("CinnamonPeelersModel", "baleGrade", "[I", true)
  | 33 => ("CinnamonPeelersModel", "baleDay", "[I", true)
  | 34 => ("CinnamonPeelersModel", "baleChest", "[I", true)
  | 35 => ("CinnamonPeelersModel", "balePaid", "[I", true)
  | 36 => ("CinnamonPeelersModel", "chestGrade", "[I", true)
  | 37 => ("CinnamonPeelersModel", "chestMany", "[I", true)
  | 38 => ("CinnamonPeelersModel", "chestFirst", "[I", true)
  | 39 => ("CinnamonPeelersModel", "isDue", "[Z", true)
  | 40 => ("CinnamonPeelersModel", "may", "[I", true)
  | 41 => ("CinnamonPeelersModel", "chosen", "[I", true)
  | 42 => ("CinnamonPeelersModel", "best", "[I", true)
  | 43 => ("CinnamonPeelersModel", "mays", "I", false)
  | 44 => ("CinnamonPeelersModel", "bestParts", "I", false)
  | 45 => ("CinnamonPeelersModel", "bestTaste", "I", false)
  | _ => ("CinnamonPeelersModel", "makes", "[I", true)
def tyX10 : Nat → FieldType := fun k => match k with
  | 0 => .int
  | 1 => .int
  | 2 => .int
  | 3 => .int
  | 4 => .int
  | 5 => .int
  | 6 => .int
  | 7 => .int
  | 8 => .int
  | 9 => .int
  | 10 => .int
  | 11 => .array .int
  | 12 => .array .int
  | 13 => .array .int
  | 14 => .array .int
  | 15 => .array .int
  | 16 => .array .int
  | 17 => .array .boolean
  | 18 => .array .int
  | 19 => .array .int
  | 20 => .array .int
  | 21 => .array .int
  | 22 => .array .int
  | 23 => .array .int
  | 24 => .array .int
  | 25 => .array .int
  | 26 => .array .int
  | 27 => .array .int
  | 28 => .array .int
  | 29 => .array .int
  | 30 => .array .int
  | 31 => .array .int
  | 32 => .array .int
  | 33 => .array .int
  | 34 => .array .int
  | 35 => .array .int
  | 36 => .array .int
  | 37 => .array .int
  | 38 => .array .int
  | 39 => .array .boolean
  | 40 => .array .int
  | 41 => .array .int
  | 42 => .array .int
  | 43 => .int
  | 44 => .int
  | 45 => .int
  | _ => .array .int
abbrev wsX100 : List Cond := u_ws RX10 TX10 47
theorem nmX10 : ∀ a, a < 47 → ∀ b, b < 47 → a ≠ b → (TX10 a).2.1 ≠ (TX10 b).2.1 := by decide +kernel
theorem tyX10_ok : ∀ k, k < 47 → parseFieldDescriptor (TX10 k).2.2.1 = some (tyX10 k) := by decide +kernel
abbrev cX10_thrown : ByteArray := prog_12_method_1_code
def yX10_thrown : MethodName := ⟨RX10, "thrown", "()I"⟩
abbrev cX10_refused : ByteArray := prog_12_method_2_code
def yX10_refused : MethodName := ⟨RX10, "refused", "(I)I"⟩
abbrev cX10_denied : ByteArray := prog_12_method_3_code
def yX10_denied : MethodName := ⟨RX10, "denied", "(I)Z"⟩
abbrev cX10_done : ByteArray := prog_12_method_4_code
def yX10_done : MethodName := ⟨RX10, "done", "(I)I"⟩
abbrev cX10_granted : ByteArray := prog_12_method_5_code
def yX10_granted : MethodName := ⟨RX10, "granted", "()Z"⟩
abbrev cX10_in : ByteArray := prog_12_method_6_code
def yX10_in : MethodName := ⟨RX10, "in", "(III)Z"⟩
abbrev cX10_init : ByteArray := prog_12_method_7_code
def yX10_init : MethodName := ⟨RX10, "<init>", "()V"⟩
abbrev cX10_isFamily : ByteArray := prog_12_method_8_code
def yX10_isFamily : MethodName := ⟨RX10, "isFamily", "(I)Z"⟩
abbrev cX10_isGarden : ByteArray := prog_12_method_9_code
def yX10_isGarden : MethodName := ⟨RX10, "isGarden", "(I)Z"⟩
abbrev cX10_isStrip : ByteArray := prog_12_method_10_code
def yX10_isStrip : MethodName := ⟨RX10, "isStrip", "(I)Z"⟩
abbrev cX10_family : ByteArray := prog_12_method_11_code
def yX10_family : MethodName := ⟨RX10, "family", "(I)I"⟩
abbrev cX10_garden : ByteArray := prog_12_method_12_code
def yX10_garden : MethodName := ⟨RX10, "garden", "(I)I"⟩
abbrev cX10_set : ByteArray := prog_12_method_13_code
def yX10_set : MethodName := ⟨RX10, "set", "(II)Z"⟩
abbrev cX10_price : ByteArray := prog_12_method_14_code
def yX10_price : MethodName := ⟨RX10, "price", "(II)Z"⟩
abbrev cX10_rain : ByteArray := prog_12_method_15_code
def yX10_rain : MethodName := ⟨RX10, "rain", "(IZ)Z"⟩
abbrev cX10_cut : ByteArray := prog_12_method_16_code
def yX10_cut : MethodName := ⟨RX10, "cut", "(IIIII)I"⟩
abbrev cX10_pass : ByteArray := prog_12_method_17_code
def yX10_pass : MethodName := ⟨RX10, "pass", "(I)I"⟩
abbrev cX10_dry : ByteArray := prog_12_method_18_code
def yX10_dry : MethodName := ⟨RX10, "dry", "(I)I"⟩
abbrev cX10_mayBe : ByteArray := prog_12_method_19_code
def yX10_mayBe : MethodName := ⟨RX10, "mayBe", "(II)Z"⟩
abbrev cX10_strip : ByteArray := prog_12_method_20_code
def yX10_strip : MethodName := ⟨RX10, "strip", "(II)I"⟩
abbrev cX10_ready : ByteArray := prog_12_method_21_code
def yX10_ready : MethodName := ⟨RX10, "ready", "(I)I"⟩
abbrev cX10_dryOn : ByteArray := prog_12_method_22_code
def yX10_dryOn : MethodName := ⟨RX10, "dryOn", "(I)I"⟩
abbrev cX10_finds : ByteArray := prog_12_method_23_code
def yX10_finds : MethodName := ⟨RX10, "finds", "(I)V"⟩
abbrev cX10_choose : ByteArray := prog_12_method_24_code
def yX10_choose : MethodName := ⟨RX10, "choose", "(IIIII)V"⟩
abbrev cX10_gradeOf : ByteArray := prog_12_method_25_code
def yX10_gradeOf : MethodName := ⟨RX10, "gradeOf", "(I)I"⟩
abbrev cX10_join : ByteArray := prog_12_method_26_code
def yX10_join : MethodName := ⟨RX10, "join", "(I)I"⟩
abbrev cX10_could : ByteArray := prog_12_method_27_code
def yX10_could : MethodName := ⟨RX10, "could", "(I)I"⟩
abbrev cX10_most : ByteArray := prog_12_method_28_code
def yX10_most : MethodName := ⟨RX10, "most", "(I)I"⟩
abbrev cX10_isQuill : ByteArray := prog_12_method_29_code
def yX10_isQuill : MethodName := ⟨RX10, "isQuill", "(II)Z"⟩
abbrev cX10_quill : ByteArray := prog_12_method_30_code
def yX10_quill : MethodName := ⟨RX10, "quill", "(II)I"⟩
abbrev cX10_part : ByteArray := prog_12_method_31_code
def yX10_part : MethodName := ⟨RX10, "part", "(II)I"⟩
abbrev cX10_bale : ByteArray := prog_12_method_32_code
def yX10_bale : MethodName := ⟨RX10, "bale", "(II)I"⟩
abbrev cX10_isLoose : ByteArray := prog_12_method_33_code
def yX10_isLoose : MethodName := ⟨RX10, "isLoose", "(II)Z"⟩
abbrev cX10_baleOf : ByteArray := prog_12_method_34_code
def yX10_baleOf : MethodName := ⟨RX10, "baleOf", "(II)I"⟩
abbrev cX10_about : ByteArray := prog_12_method_35_code
def yX10_about : MethodName := ⟨RX10, "about", "(II)I"⟩
abbrev cX10_chest : ByteArray := prog_12_method_36_code
def yX10_chest : MethodName := ⟨RX10, "chest", "(II)I"⟩
abbrev cX10_chestOf : ByteArray := prog_12_method_37_code
def yX10_chestOf : MethodName := ⟨RX10, "chestOf", "(I)I"⟩
abbrev cX10_share : ByteArray := prog_12_method_38_code
def yX10_share : MethodName := ⟨RX10, "share", "(II)I"⟩
abbrev cX10_traced : ByteArray := prog_12_method_39_code
def yX10_traced : MethodName := ⟨RX10, "traced", "(III)I"⟩
abbrev cX10_count : ByteArray := prog_12_method_40_code
def yX10_count : MethodName := ⟨RX10, "count", "(I)I"⟩
abbrev cX10_trouble : ByteArray := prog_12_method_41_code
def yX10_trouble : MethodName := ⟨RX10, "trouble", "()I"⟩
def RJx145de : String := "java/io/Serializable"
def TJx145de : u_T := fun k => match k with
  | _ => ("", "", "", false)
def tyJx145de : Nat → FieldType := fun k => match k with
  | _ => .int
abbrev wsJx145de0 : List Cond := u_ws RJx145de TJx145de 0
theorem nmJx145de : ∀ a, a < 0 → ∀ b, b < 0 → a ≠ b → (TJx145de a).2.1 ≠ (TJx145de b).2.1 := by decide +kernel
theorem tyJx145de_ok : ∀ k, k < 0 → parseFieldDescriptor (TJx145de k).2.2.1 = some (tyJx145de k) := by decide +kernel
def RJx8e188 : String := "java/lang/Cloneable"
def TJx8e188 : u_T := fun k => match k with
  | _ => ("", "", "", false)
def tyJx8e188 : Nat → FieldType := fun k => match k with
  | _ => .int
abbrev wsJx8e1880 : List Cond := u_ws RJx8e188 TJx8e188 0
theorem nmJx8e188 : ∀ a, a < 0 → ∀ b, b < 0 → a ≠ b → (TJx8e188 a).2.1 ≠ (TJx8e188 b).2.1 := by decide +kernel
theorem tyJx8e188_ok : ∀ k, k < 0 → parseFieldDescriptor (TJx8e188 k).2.2.1 = some (tyJx8e188 k) := by decide +kernel
def RJ6 : String := "java/lang/Integer"
def TJ6 : u_T := fun k => match k with
  | _ => ("", "", "", false)
def tyJ6 : Nat → FieldType := fun k => match k with
  | _ => .int
abbrev wsJ60 : List Cond := u_ws RJ6 TJ6 0
theorem nmJ6 : ∀ a, a < 0 → ∀ b, b < 0 → a ≠ b → (TJ6 a).2.1 ≠ (TJ6 b).2.1 := by decide +kernel
theorem tyJ6_ok : ∀ k, k < 0 → parseFieldDescriptor (TJ6 k).2.2.1 = some (tyJ6 k) := by decide +kernel
abbrev cJ6_bitCount_0f7a4 : ByteArray := prog_16_method_49_code
def yJ6_bitCount_0f7a4 : MethodName := ⟨RJ6, "bitCount", "(I)I"⟩
def RJxab1ab : String := "java/lang/Iterable"
def TJxab1ab : u_T := fun k => match k with
  | _ => ("", "", "", false)
def tyJxab1ab : Nat → FieldType := fun k => match k with
  | _ => .int
abbrev wsJxab1ab0 : List Cond := u_ws RJxab1ab TJxab1ab 0
theorem nmJxab1ab : ∀ a, a < 0 → ∀ b, b < 0 → a ≠ b → (TJxab1ab a).2.1 ≠ (TJxab1ab b).2.1 := by decide +kernel
theorem tyJxab1ab_ok : ∀ k, k < 0 → parseFieldDescriptor (TJxab1ab k).2.2.1 = some (tyJxab1ab k) := by decide +kernel
def RJ9 : String := "java/lang/Math"
def TJ9 : u_T := fun k => match k with
  | _ => ("", "", "", false)
def tyJ9 : Nat → FieldType := fun k => match k with
  | _ => .int
abbrev wsJ90 : List Cond := u_ws RJ9 TJ9 0
theorem nmJ9 : ∀ a, a < 0 → ∀ b, b < 0 → a ≠ b → (TJ9 a).2.1 ≠ (TJ9 b).2.1 := by decide +kernel
theorem tyJ9_ok : ∀ k, k < 0 → parseFieldDescriptor (TJ9 k).2.2.1 = some (tyJ9 k) := by decide +kernel
abbrev cJ9_max_7cf53 : ByteArray := prog_18_method_65_code
def yJ9_max_7cf53 : MethodName := ⟨RJ9, "max", "(II)I"⟩
abbrev cJ9_min_7cf53 : ByteArray := prog_18_method_69_code
def yJ9_min_7cf53 : MethodName := ⟨RJ9, "min", "(II)I"⟩
def RJ0 : String := "java/lang/String"
def TJ0 : u_T := fun k => match k with
  | _ => ("", "", "", false)
def tyJ0 : Nat → FieldType := fun k => match k with
  | _ => .int
abbrev wsJ00 : List Cond := u_ws RJ0 TJ0 0
theorem nmJ0 : ∀ a, a < 0 → ∀ b, b < 0 → a ≠ b → (TJ0 a).2.1 ≠ (TJ0 b).2.1 := by decide +kernel
theorem tyJ0_ok : ∀ k, k < 0 → parseFieldDescriptor (TJ0 k).2.2.1 = some (tyJ0 k) := by decide +kernel
def RJ10 : String := "java/lang/System"
def TJ10 : u_T := fun k => match k with
  | _ => ("", "", "", false)
def tyJ10 : Nat → FieldType := fun k => match k with
  | _ => .int
abbrev wsJ100 : List Cond := u_ws RJ10 TJ10 0
theorem nmJ10 : ∀ a, a < 0 → ∀ b, b < 0 → a ≠ b → (TJ10 a).2.1 ≠ (TJ10 b).2.1 := by decide +kernel
theorem tyJ10_ok : ∀ k, k < 0 → parseFieldDescriptor (TJ10 k).2.2.1 = some (tyJ10 k) := by decide +kernel
def RJxa1e45 : String := "java/util/AbstractCollection"
def TJxa1e45 : u_T := fun k => match k with
  | _ => ("", "", "", false)
def tyJxa1e45 : Nat → FieldType := fun k => match k with
  | _ => .int
abbrev wsJxa1e450 : List Cond := u_ws RJxa1e45 TJxa1e45 0
theorem nmJxa1e45 : ∀ a, a < 0 → ∀ b, b < 0 → a ≠ b → (TJxa1e45 a).2.1 ≠ (TJxa1e45 b).2.1 := by decide +kernel
theorem tyJxa1e45_ok : ∀ k, k < 0 → parseFieldDescriptor (TJxa1e45 k).2.2.1 = some (tyJxa1e45 k) := by decide +kernel
abbrev cJxa1e45_init_da8c8 : ByteArray := prog_23_method_1_code
def yJxa1e45_init_da8c8 : MethodName := ⟨RJxa1e45, "<init>", "()V"⟩
def RJxc12de : String := "java/util/AbstractList"
def TJxc12de : u_T := fun k => match k with
  | _ => ("", "", "", false)
def tyJxc12de : Nat → FieldType := fun k => match k with
  | _ => .int
abbrev wsJxc12de0 : List Cond := u_ws RJxc12de TJxc12de 0
theorem nmJxc12de : ∀ a, a < 0 → ∀ b, b < 0 → a ≠ b → (TJxc12de a).2.1 ≠ (TJxc12de b).2.1 := by decide +kernel
theorem tyJxc12de_ok : ∀ k, k < 0 → parseFieldDescriptor (TJxc12de k).2.2.1 = some (tyJxc12de k) := by decide +kernel
abbrev cJxc12de_init_da8c8 : ByteArray := prog_24_method_1_code
def yJxc12de_init_da8c8 : MethodName := ⟨RJxc12de, "<init>", "()V"⟩
def RJx4a65c : String := "java/util/ArrayList"
def TJx4a65c : u_T := fun k => match k with
  | 0 => ("java/util/AbstractList", "modCount", "I", false)
  | 1 => ("java/util/ArrayList", "elementData", "[Ljava/lang/Object;", false)
  | _ => ("java/util/ArrayList", "size", "I", false)
def tyJx4a65c : Nat → FieldType := fun k => match k with
  | 0 => .int
  | 1 => .array (.object "java/lang/Object")
  | _ => .int
abbrev wsJx4a65c0 : List Cond := u_ws RJx4a65c TJx4a65c 3
theorem nmJx4a65c : ∀ a, a < 3 → ∀ b, b < 3 → a ≠ b → (TJx4a65c a).2.1 ≠ (TJx4a65c b).2.1 := by decide +kernel
theorem tyJx4a65c_ok : ∀ k, k < 3 → parseFieldDescriptor (TJx4a65c k).2.2.1 = some (tyJx4a65c k) := by decide +kernel
abbrev cJx4a65c_init_da8c8 : ByteArray := prog_25_method_2_code
def yJx4a65c_init_da8c8 : MethodName := ⟨RJx4a65c, "<init>", "()V"⟩
abbrev cJx4a65c_grow_92f84 : ByteArray := prog_25_method_6_code
def yJx4a65c_grow_92f84 : MethodName := ⟨RJx4a65c, "grow", "(I)[Ljava/lang/Object;"⟩
abbrev cJx4a65c_grow_d5877 : ByteArray := prog_25_method_7_code
def yJx4a65c_grow_d5877 : MethodName := ⟨RJx4a65c, "grow", "()[Ljava/lang/Object;"⟩
abbrev cJx4a65c_size_8abf5 : ByteArray := prog_25_method_8_code
def yJx4a65c_size_8abf5 : MethodName := ⟨RJx4a65c, "size", "()I"⟩
abbrev cJx4a65c_elementData_915e3 : ByteArray := prog_25_method_18_code
def yJx4a65c_elementData_915e3 : MethodName := ⟨RJx4a65c, "elementData", "(I)Ljava/lang/Object;"⟩
abbrev cJx4a65c_get_915e3 : ByteArray := prog_25_method_20_code
def yJx4a65c_get_915e3 : MethodName := ⟨RJx4a65c, "get", "(I)Ljava/lang/Object;"⟩
abbrev cJx4a65c_add_72be8 : ByteArray := prog_25_method_24_code
def yJx4a65c_add_72be8 : MethodName := ⟨RJx4a65c, "add", "(Ljava/lang/Object;[Ljava/lang/Object;I)V"⟩
abbrev cJx4a65c_add_9ea2d : ByteArray := prog_25_method_25_code
def yJx4a65c_add_9ea2d : MethodName := ⟨RJx4a65c, "add", "(Ljava/lang/Object;)Z"⟩
def RJ7 : String := "java/util/Arrays"
def TJ7 : u_T := fun k => match k with
  | _ => ("", "", "", false)
def tyJ7 : Nat → FieldType := fun k => match k with
  | _ => .int
abbrev wsJ70 : List Cond := u_ws RJ7 TJ7 0
theorem nmJ7 : ∀ a, a < 0 → ∀ b, b < 0 → a ≠ b → (TJ7 a).2.1 ≠ (TJ7 b).2.1 := by decide +kernel
theorem tyJ7_ok : ∀ k, k < 0 → parseFieldDescriptor (TJ7 k).2.2.1 = some (tyJ7 k) := by decide +kernel
abbrev cJ7_copyOf_1904c : ByteArray := prog_26_method_119_code
def yJ7_copyOf_1904c : MethodName := ⟨RJ7, "copyOf", "([Ljava/lang/Object;I)[Ljava/lang/Object;"⟩
abbrev cJ7_copyOf_6403c : ByteArray := prog_26_method_120_code
def yJ7_copyOf_6403c : MethodName := ⟨RJ7, "copyOf", "([Ljava/lang/Object;ILjava/lang/Class;)[Ljava/lang/Object;"⟩
def RJx5ef63 : String := "java/util/Collection"
def TJx5ef63 : u_T := fun k => match k with
  | _ => ("", "", "", false)
def tyJx5ef63 : Nat → FieldType := fun k => match k with
  | _ => .int
abbrev wsJx5ef630 : List Cond := u_ws RJx5ef63 TJx5ef63 0
theorem nmJx5ef63 : ∀ a, a < 0 → ∀ b, b < 0 → a ≠ b → (TJx5ef63 a).2.1 ≠ (TJx5ef63 b).2.1 := by decide +kernel
theorem tyJx5ef63_ok : ∀ k, k < 0 → parseFieldDescriptor (TJx5ef63 k).2.2.1 = some (tyJx5ef63 k) := by decide +kernel
def RJxbd725 : String := "java/util/List"
def TJxbd725 : u_T := fun k => match k with
  | _ => ("", "", "", false)
def tyJxbd725 : Nat → FieldType := fun k => match k with
  | _ => .int
abbrev wsJxbd7250 : List Cond := u_ws RJxbd725 TJxbd725 0
theorem nmJxbd725 : ∀ a, a < 0 → ∀ b, b < 0 → a ≠ b → (TJxbd725 a).2.1 ≠ (TJxbd725 b).2.1 := by decide +kernel
theorem tyJxbd725_ok : ∀ k, k < 0 → parseFieldDescriptor (TJxbd725 k).2.2.1 = some (tyJxbd725 k) := by decide +kernel
def RJ15 : String := "java/util/Objects"
def TJ15 : u_T := fun k => match k with
  | _ => ("", "", "", false)
def tyJ15 : Nat → FieldType := fun k => match k with
  | _ => .int
abbrev wsJ150 : List Cond := u_ws RJ15 TJ15 0
theorem nmJ15 : ∀ a, a < 0 → ∀ b, b < 0 → a ≠ b → (TJ15 a).2.1 ≠ (TJ15 b).2.1 := by decide +kernel
theorem tyJ15_ok : ∀ k, k < 0 → parseFieldDescriptor (TJ15 k).2.2.1 = some (tyJ15 k) := by decide +kernel
abbrev cJ15_checkIndex_7cf53 : ByteArray := prog_30_method_17_code
def yJ15_checkIndex_7cf53 : MethodName := ⟨RJ15, "checkIndex", "(II)I"⟩
def RJxf0a74 : String := "java/util/RandomAccess"
def TJxf0a74 : u_T := fun k => match k with
  | _ => ("", "", "", false)
def tyJxf0a74 : Nat → FieldType := fun k => match k with
  | _ => .int
abbrev wsJxf0a740 : List Cond := u_ws RJxf0a74 TJxf0a74 0
theorem nmJxf0a74 : ∀ a, a < 0 → ∀ b, b < 0 → a ≠ b → (TJxf0a74 a).2.1 ≠ (TJxf0a74 b).2.1 := by decide +kernel
theorem tyJxf0a74_ok : ∀ k, k < 0 → parseFieldDescriptor (TJxf0a74 k).2.2.1 = some (tyJxf0a74 k) := by decide +kernel
def RJxa66e6 : String := "java/util/SequencedCollection"
def TJxa66e6 : u_T := fun k => match k with
  | _ => ("", "", "", false)
def tyJxa66e6 : Nat → FieldType := fun k => match k with
  | _ => .int
abbrev wsJxa66e60 : List Cond := u_ws RJxa66e6 TJxa66e6 0
theorem nmJxa66e6 : ∀ a, a < 0 → ∀ b, b < 0 → a ≠ b → (TJxa66e6 a).2.1 ≠ (TJxa66e6 b).2.1 := by decide +kernel
theorem tyJxa66e6_ok : ∀ k, k < 0 → parseFieldDescriptor (TJxa66e6 k).2.2.1 = some (tyJxa66e6 k) := by decide +kernel
def RJ8 : String := "jdk/internal/util/ArraysSupport"
def TJ8 : u_T := fun k => match k with
  | _ => ("", "", "", false)
def tyJ8 : Nat → FieldType := fun k => match k with
  | _ => .int
abbrev wsJ80 : List Cond := u_ws RJ8 TJ8 0
theorem nmJ8 : ∀ a, a < 0 → ∀ b, b < 0 → a ≠ b → (TJ8 a).2.1 ≠ (TJ8 b).2.1 := by decide +kernel
theorem tyJ8_ok : ∀ k, k < 0 → parseFieldDescriptor (TJ8 k).2.2.1 = some (tyJ8 k) := by decide +kernel
abbrev cJ8_newLength_cabcc : ByteArray := prog_33_method_27_code
def yJ8_newLength_cabcc : MethodName := ⟨RJ8, "newLength", "(III)I"⟩
abbrev cJ8_hugeLength_7cf53 : ByteArray := prog_33_method_28_code
def yJ8_hugeLength_7cf53 : MethodName := ⟨RJ8, "hugeLength", "(II)I"⟩
def RJ3 : String := "jdk/internal/util/Preconditions"
def TJ3 : u_T := fun k => match k with
  | _ => ("", "", "", false)
def tyJ3 : Nat → FieldType := fun k => match k with
  | _ => .int
abbrev wsJ30 : List Cond := u_ws RJ3 TJ3 0
theorem nmJ3 : ∀ a, a < 0 → ∀ b, b < 0 → a ≠ b → (TJ3 a).2.1 ≠ (TJ3 b).2.1 := by decide +kernel
theorem tyJ3_ok : ∀ k, k < 0 → parseFieldDescriptor (TJ3 k).2.2.1 = some (tyJ3 k) := by decide +kernel
abbrev cJ3_checkIndex_8e157 : ByteArray := prog_34_method_11_code
def yJ3_checkIndex_8e157 : MethodName := ⟨RJ3, "checkIndex", "(IILjava/util/function/BiFunction;)I"⟩
def RL : String := "CinnamonPeelersLaw"
abbrev cL_part : ByteArray := method_3_code
def yL_part : MethodName := ⟨RL, "part", "(LCinnamonPeelers;II[J)I"⟩
abbrev cL_law : ByteArray := code
def yL_law : MethodName := ⟨RL, "law", "([I)Z"⟩
abbrev vwCl : List vw_C := [(RJx4a65c, TJx4a65c, 3), (RX0, TX0, 6), (RX1, TX1, 3), (RX2, TX2, 4), (RX3, TX3, 1), (RX4, TX4, 8), (RX5, TX5, 7), (RX6, TX6, 8), (RX7, TX7, 7), (RX8, TX8, 1), (RX9, TX9, 14), (RX10, TX10, 47)]
