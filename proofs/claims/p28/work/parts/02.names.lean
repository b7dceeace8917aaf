/-! ===== BEGIN printed: names, fields, word lists, decode rows ===== -/
def RX0 : String := "GliderDay$Flight"
def TX0 : u_T := fun k => match k with
  | 0 => ("GliderDay$Flight", "number", "I", true)
  | 1 => ("GliderDay$Flight", "member", "LGliderDay$Member;", true)
  | 2 => ("GliderDay$Flight", "second", "LGliderDay$Member;", true)
  | 3 => ("GliderDay$Flight", "glider", "LGliderDay$Glider;", true)
  | 4 => ("GliderDay$Flight", "height", "I", false)
  | 5 => ("GliderDay$Flight", "minutes", "I", false)
  | 6 => ("GliderDay$Flight", "state", "I", false)
  | 7 => ("GliderDay$Flight", "askedAt", "I", false)
  | 8 => ("GliderDay$Flight", "begin", "I", false)
  | 9 => ("GliderDay$Flight", "landing", "I", false)
  | _ => ("GliderDay$Flight", "cost", "I", false)
def tyX0 : Nat → FieldType := fun k => match k with
  | 0 => .int
  | 1 => .object "GliderDay$Member"
  | 2 => .object "GliderDay$Member"
  | 3 => .object "GliderDay$Glider"
  | 4 => .int
  | 5 => .int
  | 6 => .int
  | 7 => .int
  | 8 => .int
  | 9 => .int
  | _ => .int
abbrev wsX00 : List Cond := u_ws RX0 TX0 11
theorem nmX0 : ∀ a, a < 11 → ∀ b, b < 11 → a ≠ b → (TX0 a).2.1 ≠ (TX0 b).2.1 := by decide +kernel
theorem tyX0_ok : ∀ k, k < 11 → parseFieldDescriptor (TX0 k).2.2.1 = some (tyX0 k) := by decide +kernel
abbrev cX0_init : ByteArray := prog_2_method_1_code
def yX0_init : MethodName := ⟨RX0, "<init>", "(ILGliderDay$Member;LGliderDay$Member;LGliderDay$Glider;)V"⟩
def RX1 : String := "GliderDay$Glider"
def TX1 : u_T := fun k => match k with
  | 0 => ("GliderDay$Glider", "number", "I", true)
  | 1 => ("GliderDay$Glider", "seats", "I", true)
  | 2 => ("GliderDay$Glider", "rate", "I", true)
  | 3 => ("GliderDay$Glider", "limit", "I", true)
  | 4 => ("GliderDay$Glider", "state", "I", false)
  | 5 => ("GliderDay$Glider", "isBarred", "Z", false)
  | 6 => ("GliderDay$Glider", "isCalled", "Z", false)
  | 7 => ("GliderDay$Glider", "landings", "I", false)
  | 8 => ("GliderDay$Glider", "minutes", "I", false)
  | _ => ("GliderDay$Glider", "flight", "LGliderDay$Flight;", false)
def tyX1 : Nat → FieldType := fun k => match k with
  | 0 => .int
  | 1 => .int
  | 2 => .int
  | 3 => .int
  | 4 => .int
  | 5 => .boolean
  | 6 => .boolean
  | 7 => .int
  | 8 => .int
  | _ => .object "GliderDay$Flight"
abbrev wsX10 : List Cond := u_ws RX1 TX1 10
theorem nmX1 : ∀ a, a < 10 → ∀ b, b < 10 → a ≠ b → (TX1 a).2.1 ≠ (TX1 b).2.1 := by decide +kernel
theorem tyX1_ok : ∀ k, k < 10 → parseFieldDescriptor (TX1 k).2.2.1 = some (tyX1 k) := by decide +kernel
abbrev cX1_init : ByteArray := prog_3_method_1_code
def yX1_init : MethodName := ⟨RX1, "<init>", "(IIII)V"⟩
def RX2 : String := "GliderDay$Member"
def TX2 : u_T := fun k => match k with
  | 0 => ("GliderDay$Member", "number", "I", true)
  | 1 => ("GliderDay$Member", "level", "I", false)
  | 2 => ("GliderDay$Member", "isFlying", "Z", false)
  | 3 => ("GliderDay$Member", "landings", "I", false)
  | 4 => ("GliderDay$Member", "minutes", "I", false)
  | 5 => ("GliderDay$Member", "lessons", "I", false)
  | 6 => ("GliderDay$Member", "solos", "I", false)
  | _ => ("GliderDay$Member", "bill", "I", false)
def tyX2 : Nat → FieldType := fun k => match k with
  | 0 => .int
  | 1 => .int
  | 2 => .boolean
  | 3 => .int
  | 4 => .int
  | 5 => .int
  | 6 => .int
  | _ => .int
abbrev wsX20 : List Cond := u_ws RX2 TX2 8
theorem nmX2 : ∀ a, a < 8 → ∀ b, b < 8 → a ≠ b → (TX2 a).2.1 ≠ (TX2 b).2.1 := by decide +kernel
theorem tyX2_ok : ∀ k, k < 8 → parseFieldDescriptor (TX2 k).2.2.1 = some (tyX2 k) := by decide +kernel
abbrev cX2_init : ByteArray := prog_4_method_1_code
def yX2_init : MethodName := ⟨RX2, "<init>", "(II)V"⟩
def RX3 : String := "GliderDay"
def TX3 : u_T := fun k => match k with
  | 0 => ("GliderDay", "members", "Ljava/util/ArrayList;", true)
  | 1 => ("GliderDay", "gliders", "Ljava/util/ArrayList;", true)
  | 2 => ("GliderDay", "flights", "Ljava/util/ArrayList;", true)
  | 3 => ("GliderDay", "listed", "Ljava/util/ArrayList;", true)
  | 4 => ("GliderDay", "waiting", "Ljava/util/ArrayList;", true)
  | 5 => ("GliderDay", "tugsDue", "[I", true)
  | 6 => ("GliderDay", "tugs", "I", false)
  | 7 => ("GliderDay", "cablesTaken", "I", false)
  | 8 => ("GliderDay", "cablesDue", "I", false)
  | 9 => ("GliderDay", "time", "I", false)
  | 10 => ("GliderDay", "wind", "I", false)
  | 11 => ("GliderDay", "sunset", "I", false)
  | _ => ("GliderDay", "busyUntil", "I", false)
def tyX3 : Nat → FieldType := fun k => match k with
  | 0 => .object "java/util/ArrayList"
  | 1 => .object "java/util/ArrayList"
  | 2 => .object "java/util/ArrayList"
  | 3 => .object "java/util/ArrayList"
  | 4 => .object "java/util/ArrayList"
  | 5 => .array .int
  | 6 => .int
  | 7 => .int
  | 8 => .int
  | 9 => .int
  | 10 => .int
  | 11 => .int
  | _ => .int
abbrev wsX30 : List Cond := u_ws RX3 TX3 13
theorem nmX3 : ∀ a, a < 13 → ∀ b, b < 13 → a ≠ b → (TX3 a).2.1 ≠ (TX3 b).2.1 := by decide +kernel
theorem tyX3_ok : ∀ k, k < 13 → parseFieldDescriptor (TX3 k).2.2.1 = some (tyX3 k) := by decide +kernel
abbrev cX3_init : ByteArray := prog_1_method_1_code
def yX3_init : MethodName := ⟨RX3, "<init>", "()V"⟩
abbrev cX3_addMember : ByteArray := prog_1_method_2_code
def yX3_addMember : MethodName := ⟨RX3, "addMember", "(I)I"⟩
abbrev cX3_addGlider : ByteArray := prog_1_method_3_code
def yX3_addGlider : MethodName := ⟨RX3, "addGlider", "(III)I"⟩
abbrev cX3_setWind : ByteArray := prog_1_method_4_code
def yX3_setWind : MethodName := ⟨RX3, "setWind", "(I)I"⟩
abbrev cX3_setTugs : ByteArray := prog_1_method_6_code
def yX3_setTugs : MethodName := ⟨RX3, "setTugs", "(I)I"⟩
abbrev cX3_member : ByteArray := prog_1_method_9_code
def yX3_member : MethodName := ⟨RX3, "member", "(II)I"⟩
abbrev cX3_glider : ByteArray := prog_1_method_10_code
def yX3_glider : MethodName := ⟨RX3, "glider", "(II)I"⟩
abbrev cX3_ask : ByteArray := prog_1_method_11_code
def yX3_ask : MethodName := ⟨RX3, "ask", "(IIIII)I"⟩
abbrev cX3_tick : ByteArray := prog_1_method_16_code
def yX3_tick : MethodName := ⟨RX3, "tick", "(I)I"⟩
abbrev cX3_flight : ByteArray := prog_1_method_18_code
def yX3_flight : MethodName := ⟨RX3, "flight", "(II)I"⟩
abbrev cX3_count : ByteArray := prog_1_method_19_code
def yX3_count : MethodName := ⟨RX3, "count", "(I)I"⟩
abbrev cX3_isBusy : ByteArray := prog_1_method_20_code
def yX3_isBusy : MethodName := ⟨RX3, "isBusy", "()Z"⟩
abbrev cX3_bill : ByteArray := prog_1_method_21_code
def yX3_bill : MethodName := ⟨RX3, "bill", "(I)I"⟩
abbrev cX3_income : ByteArray := prog_1_method_23_code
def yX3_income : MethodName := ⟨RX3, "income", "()I"⟩
abbrev cX3_waited : ByteArray := prog_1_method_25_code
def yX3_waited : MethodName := ⟨RX3, "waited", "()D"⟩
abbrev cX3_isWithin : ByteArray := prog_1_method_31_code
def yX3_isWithin : MethodName := ⟨RX3, "isWithin", "(III)Z"⟩
abbrev cX3_isHeight : ByteArray := prog_1_method_32_code
def yX3_isHeight : MethodName := ⟨RX3, "isHeight", "(I)Z"⟩
abbrev cX3_memberAt : ByteArray := prog_1_method_33_code
def yX3_memberAt : MethodName := ⟨RX3, "memberAt", "(I)LGliderDay$Member;"⟩
abbrev cX3_gliderAt : ByteArray := prog_1_method_34_code
def yX3_gliderAt : MethodName := ⟨RX3, "gliderAt", "(I)LGliderDay$Glider;"⟩
abbrev cX3_flightAt : ByteArray := prog_1_method_35_code
def yX3_flightAt : MethodName := ⟨RX3, "flightAt", "(I)LGliderDay$Flight;"⟩
abbrev cX3_takeOffList : ByteArray := prog_1_method_38_code
def yX3_takeOffList : MethodName := ⟨RX3, "takeOffList", "(I)V"⟩
abbrev cX3_memberFact : ByteArray := prog_1_method_39_code
def yX3_memberFact : MethodName := ⟨RX3, "memberFact", "(LGliderDay$Member;I)I"⟩
abbrev cX3_gliderFact : ByteArray := prog_1_method_40_code
def yX3_gliderFact : MethodName := ⟨RX3, "gliderFact", "(LGliderDay$Glider;I)I"⟩
abbrev cX3_flightFact : ByteArray := prog_1_method_41_code
def yX3_flightFact : MethodName := ⟨RX3, "flightFact", "(LGliderDay$Flight;I)I"⟩
abbrev cX3_countOf : ByteArray := prog_1_method_42_code
def yX3_countOf : MethodName := ⟨RX3, "countOf", "(I)I"⟩
abbrev cX3_glidersInTheAir : ByteArray := prog_1_method_43_code
def yX3_glidersInTheAir : MethodName := ⟨RX3, "glidersInTheAir", "()I"⟩
abbrev cX3_tugsTaken : ByteArray := prog_1_method_44_code
def yX3_tugsTaken : MethodName := ⟨RX3, "tugsTaken", "()I"⟩
abbrev cX3_freeTugs : ByteArray := prog_1_method_45_code
def yX3_freeTugs : MethodName := ⟨RX3, "freeTugs", "()I"⟩
abbrev cX3_hasTeacher : ByteArray := prog_1_method_47_code
def yX3_hasTeacher : MethodName := ⟨RX3, "hasTeacher", "(LGliderDay$Flight;)Z"⟩
abbrev cX3_needsTeacher : ByteArray := prog_1_method_48_code
def yX3_needsTeacher : MethodName := ⟨RX3, "needsTeacher", "(LGliderDay$Member;)Z"⟩
abbrev cX3_windLimitOf : ByteArray := prog_1_method_49_code
def yX3_windLimitOf : MethodName := ⟨RX3, "windLimitOf", "(I)I"⟩
abbrev cX3_hasFlyingMember : ByteArray := prog_1_method_50_code
def yX3_hasFlyingMember : MethodName := ⟨RX3, "hasFlyingMember", "(LGliderDay$Flight;)Z"⟩
abbrev cX3_isTooWindyFor : ByteArray := prog_1_method_51_code
def yX3_isTooWindyFor : MethodName := ⟨RX3, "isTooWindyFor", "(LGliderDay$Flight;)Z"⟩
abbrev cX3_hasNothingToLaunch : ByteArray := prog_1_method_52_code
def yX3_hasNothingToLaunch : MethodName := ⟨RX3, "hasNothingToLaunch", "(LGliderDay$Flight;)Z"⟩
abbrev cX3_reasonAgainst : ByteArray := prog_1_method_53_code
def yX3_reasonAgainst : MethodName := ⟨RX3, "reasonAgainst", "(LGliderDay$Flight;)I"⟩
abbrev cX3_passMinute : ByteArray := prog_1_method_54_code
def yX3_passMinute : MethodName := ⟨RX3, "passMinute", "()Z"⟩
abbrev cX3_freeCables : ByteArray := prog_1_method_55_code
def yX3_freeCables : MethodName := ⟨RX3, "freeCables", "()V"⟩
abbrev cX3_freeDueTugs : ByteArray := prog_1_method_56_code
def yX3_freeDueTugs : MethodName := ⟨RX3, "freeDueTugs", "()V"⟩
abbrev cX3_beginToWait : ByteArray := prog_1_method_57_code
def yX3_beginToWait : MethodName := ⟨RX3, "beginToWait", "()V"⟩
abbrev cX3_mustLand : ByteArray := prog_1_method_58_code
def yX3_mustLand : MethodName := ⟨RX3, "mustLand", "(LGliderDay$Glider;)Z"⟩
abbrev cX3_landFirstWaiting : ByteArray := prog_1_method_59_code
def yX3_landFirstWaiting : MethodName := ⟨RX3, "landFirstWaiting", "()V"⟩
abbrev cX3_land : ByteArray := prog_1_method_60_code
def yX3_land : MethodName := ⟨RX3, "land", "(LGliderDay$Glider;LGliderDay$Flight;)V"⟩
abbrev cX3_launchPrice : ByteArray := prog_1_method_61_code
def yX3_launchPrice : MethodName := ⟨RX3, "launchPrice", "(I)I"⟩
abbrev cX3_writeDown : ByteArray := prog_1_method_62_code
def yX3_writeDown : MethodName := ⟨RX3, "writeDown", "(LGliderDay$Flight;I)V"⟩
abbrev cX3_bringDown : ByteArray := prog_1_method_63_code
def yX3_bringDown : MethodName := ⟨RX3, "bringDown", "(LGliderDay$Member;I)V"⟩
abbrev cX3_startFirstThatCan : ByteArray := prog_1_method_64_code
def yX3_startFirstThatCan : MethodName := ⟨RX3, "startFirstThatCan", "()Z"⟩
abbrev cX3_start : ByteArray := prog_1_method_65_code
def yX3_start : MethodName := ⟨RX3, "start", "(LGliderDay$Flight;)V"⟩
abbrev cX3_takeCable : ByteArray := prog_1_method_66_code
def yX3_takeCable : MethodName := ⟨RX3, "takeCable", "()V"⟩
abbrev cX3_takeTug : ByteArray := prog_1_method_67_code
def yX3_takeTug : MethodName := ⟨RX3, "takeTug", "(I)V"⟩
def RX4 : String := "GliderDayModel"
def TX4 : u_T := fun k => match k with
  | _ => ("", "", "", false)
def tyX4 : Nat → FieldType := fun k => match k with
  | _ => .int
abbrev wsX40 : List Cond := u_ws RX4 TX4 0
theorem nmX4 : ∀ a, a < 0 → ∀ b, b < 0 → a ≠ b → (TX4 a).2.1 ≠ (TX4 b).2.1 := by decide +kernel
theorem tyX4_ok : ∀ k, k < 0 → parseFieldDescriptor (TX4 k).2.2.1 = some (tyX4 k) := by decide +kernel
def RJx145de : String := "java/io/Serializable"
def TJx145de : u_T := fun k => match k with
  | _ => ("", "", "", false)
def tyJx145de : Nat → FieldType := fun k => match k with
  | _ => .int
abbrev wsJx145de0 : List Cond := u_ws RJx145de TJx145de 0
theorem nmJx145de : ∀ a, a < 0 → ∀ b, b < 0 → a ≠ b → (TJx145de a).2.1 ≠ (TJx145de b).2.1 := by decide +kernel
theorem tyJx145de_ok : ∀ k, k < 0 → parseFieldDescriptor (TJx145de k).2.2.1 = some (tyJx145de k) := by decide +kernel
def RJx8e188 : String := "java/lang/Cloneable"
def TJx8e188 : u_T := fun k => match k with
  | _ => ("", "", "", false)
def tyJx8e188 : Nat → FieldType := fun k => match k with
  | _ => .int
abbrev wsJx8e1880 : List Cond := u_ws RJx8e188 TJx8e188 0
theorem nmJx8e188 : ∀ a, a < 0 → ∀ b, b < 0 → a ≠ b → (TJx8e188 a).2.1 ≠ (TJx8e188 b).2.1 := by decide +kernel
theorem tyJx8e188_ok : ∀ k, k < 0 → parseFieldDescriptor (TJx8e188 k).2.2.1 = some (tyJx8e188 k) := by decide +kernel
def RJxab1ab : String := "java/lang/Iterable"
def TJxab1ab : u_T := fun k => match k with
  | _ => ("", "", "", false)
def tyJxab1ab : Nat → FieldType := fun k => match k with
  | _ => .int
abbrev wsJxab1ab0 : List Cond := u_ws RJxab1ab TJxab1ab 0
theorem nmJxab1ab : ∀ a, a < 0 → ∀ b, b < 0 → a ≠ b → (TJxab1ab a).2.1 ≠ (TJxab1ab b).2.1 := by decide +kernel
theorem tyJxab1ab_ok : ∀ k, k < 0 → parseFieldDescriptor (TJxab1ab k).2.2.1 = some (tyJxab1ab k) := by decide +kernel
def RJ9 : String := "java/lang/Math"
def TJ9 : u_T := fun k => match k with
  | _ => ("", "", "", false)
def tyJ9 : Nat → FieldType := fun k => match k with
  | _ => .int
abbrev wsJ90 : List Cond := u_ws RJ9 TJ9 0
theorem nmJ9 : ∀ a, a < 0 → ∀ b, b < 0 → a ≠ b → (TJ9 a).2.1 ≠ (TJ9 b).2.1 := by decide +kernel
theorem tyJ9_ok : ∀ k, k < 0 → parseFieldDescriptor (TJ9 k).2.2.1 = some (tyJ9 k) := by decide +kernel
abbrev cJ9_abs_0f7a4 : ByteArray := prog_14_method_59_code
def yJ9_abs_0f7a4 : MethodName := ⟨RJ9, "abs", "(I)I"⟩
abbrev cJ9_max_7cf53 : ByteArray := prog_14_method_65_code
def yJ9_max_7cf53 : MethodName := ⟨RJ9, "max", "(II)I"⟩
abbrev cJ9_min_7cf53 : ByteArray := prog_14_method_69_code
def yJ9_min_7cf53 : MethodName := ⟨RJ9, "min", "(II)I"⟩
def RJ0 : String := "java/lang/String"
def TJ0 : u_T := fun k => match k with
  | _ => ("", "", "", false)
def tyJ0 : Nat → FieldType := fun k => match k with
  | _ => .int
abbrev wsJ00 : List Cond := u_ws RJ0 TJ0 0
theorem nmJ0 : ∀ a, a < 0 → ∀ b, b < 0 → a ≠ b → (TJ0 a).2.1 ≠ (TJ0 b).2.1 := by decide +kernel
theorem tyJ0_ok : ∀ k, k < 0 → parseFieldDescriptor (TJ0 k).2.2.1 = some (tyJ0 k) := by decide +kernel
def RJ10 : String := "java/lang/System"
def TJ10 : u_T := fun k => match k with
  | _ => ("", "", "", false)
def tyJ10 : Nat → FieldType := fun k => match k with
  | _ => .int
abbrev wsJ100 : List Cond := u_ws RJ10 TJ10 0
theorem nmJ10 : ∀ a, a < 0 → ∀ b, b < 0 → a ≠ b → (TJ10 a).2.1 ≠ (TJ10 b).2.1 := by decide +kernel
theorem tyJ10_ok : ∀ k, k < 0 → parseFieldDescriptor (TJ10 k).2.2.1 = some (tyJ10 k) := by decide +kernel
def RJxa1e45 : String := "java/util/AbstractCollection"
def TJxa1e45 : u_T := fun k => match k with
  | _ => ("", "", "", false)
def tyJxa1e45 : Nat → FieldType := fun k => match k with
  | _ => .int
abbrev wsJxa1e450 : List Cond := u_ws RJxa1e45 TJxa1e45 0
theorem nmJxa1e45 : ∀ a, a < 0 → ∀ b, b < 0 → a ≠ b → (TJxa1e45 a).2.1 ≠ (TJxa1e45 b).2.1 := by decide +kernel
theorem tyJxa1e45_ok : ∀ k, k < 0 → parseFieldDescriptor (TJxa1e45 k).2.2.1 = some (tyJxa1e45 k) := by decide +kernel
abbrev cJxa1e45_init_da8c8 : ByteArray := prog_19_method_1_code
def yJxa1e45_init_da8c8 : MethodName := ⟨RJxa1e45, "<init>", "()V"⟩
def RJxc12de : String := "java/util/AbstractList"
def TJxc12de : u_T := fun k => match k with
  | _ => ("", "", "", false)
def tyJxc12de : Nat → FieldType := fun k => match k with
  | _ => .int
abbrev wsJxc12de0 : List Cond := u_ws RJxc12de TJxc12de 0
theorem nmJxc12de : ∀ a, a < 0 → ∀ b, b < 0 → a ≠ b → (TJxc12de a).2.1 ≠ (TJxc12de b).2.1 := by decide +kernel
theorem tyJxc12de_ok : ∀ k, k < 0 → parseFieldDescriptor (TJxc12de k).2.2.1 = some (tyJxc12de k) := by decide +kernel
abbrev cJxc12de_init_da8c8 : ByteArray := prog_20_method_1_code
def yJxc12de_init_da8c8 : MethodName := ⟨RJxc12de, "<init>", "()V"⟩
def RJx4a65c : String := "java/util/ArrayList"
def TJx4a65c : u_T := fun k => match k with
  | 0 => ("java/util/AbstractList", "modCount", "I", false)
  | 1 => ("java/util/ArrayList", "elementData", "[Ljava/lang/Object;", false)
  | _ => ("java/util/ArrayList", "size", "I", false)
def tyJx4a65c : Nat → FieldType := fun k => match k with
  | 0 => .int
  | 1 => .array (.object "java/lang/Object")
  | _ => .int
abbrev wsJx4a65c0 : List Cond := u_ws RJx4a65c TJx4a65c 3
theorem nmJx4a65c : ∀ a, a < 3 → ∀ b, b < 3 → a ≠ b → (TJx4a65c a).2.1 ≠ (TJx4a65c b).2.1 := by decide +kernel
theorem tyJx4a65c_ok : ∀ k, k < 3 → parseFieldDescriptor (TJx4a65c k).2.2.1 = some (tyJx4a65c k) := by decide +kernel
abbrev cJx4a65c_init_da8c8 : ByteArray := prog_21_method_2_code
def yJx4a65c_init_da8c8 : MethodName := ⟨RJx4a65c, "<init>", "()V"⟩
abbrev cJx4a65c_grow_92f84 : ByteArray := prog_21_method_6_code
def yJx4a65c_grow_92f84 : MethodName := ⟨RJx4a65c, "grow", "(I)[Ljava/lang/Object;"⟩
abbrev cJx4a65c_grow_d5877 : ByteArray := prog_21_method_7_code
def yJx4a65c_grow_d5877 : MethodName := ⟨RJx4a65c, "grow", "()[Ljava/lang/Object;"⟩
abbrev cJx4a65c_size_8abf5 : ByteArray := prog_21_method_8_code
def yJx4a65c_size_8abf5 : MethodName := ⟨RJx4a65c, "size", "()I"⟩
abbrev cJx4a65c_isEmpty_aae02 : ByteArray := prog_21_method_9_code
def yJx4a65c_isEmpty_aae02 : MethodName := ⟨RJx4a65c, "isEmpty", "()Z"⟩
abbrev cJx4a65c_elementData_915e3 : ByteArray := prog_21_method_18_code
def yJx4a65c_elementData_915e3 : MethodName := ⟨RJx4a65c, "elementData", "(I)Ljava/lang/Object;"⟩
abbrev cJx4a65c_get_915e3 : ByteArray := prog_21_method_20_code
def yJx4a65c_get_915e3 : MethodName := ⟨RJx4a65c, "get", "(I)Ljava/lang/Object;"⟩
abbrev cJx4a65c_add_72be8 : ByteArray := prog_21_method_24_code
def yJx4a65c_add_72be8 : MethodName := ⟨RJx4a65c, "add", "(Ljava/lang/Object;[Ljava/lang/Object;I)V"⟩
abbrev cJx4a65c_add_9ea2d : ByteArray := prog_21_method_25_code
def yJx4a65c_add_9ea2d : MethodName := ⟨RJx4a65c, "add", "(Ljava/lang/Object;)Z"⟩
abbrev cJx4a65c_remove_915e3 : ByteArray := prog_21_method_29_code
def yJx4a65c_remove_915e3 : MethodName := ⟨RJx4a65c, "remove", "(I)Ljava/lang/Object;"⟩
abbrev cJx4a65c_fastRemove_b59b0 : ByteArray := prog_21_method_39_code
def yJx4a65c_fastRemove_b59b0 : MethodName := ⟨RJx4a65c, "fastRemove", "([Ljava/lang/Object;I)V"⟩
def RJ7 : String := "java/util/Arrays"
def TJ7 : u_T := fun k => match k with
  | _ => ("", "", "", false)
def tyJ7 : Nat → FieldType := fun k => match k with
  | _ => .int
abbrev wsJ70 : List Cond := u_ws RJ7 TJ7 0
theorem nmJ7 : ∀ a, a < 0 → ∀ b, b < 0 → a ≠ b → (TJ7 a).2.1 ≠ (TJ7 b).2.1 := by decide +kernel
theorem tyJ7_ok : ∀ k, k < 0 → parseFieldDescriptor (TJ7 k).2.2.1 = some (tyJ7 k) := by decide +kernel
abbrev cJ7_copyOf_1904c : ByteArray := prog_22_method_119_code
def yJ7_copyOf_1904c : MethodName := ⟨RJ7, "copyOf", "([Ljava/lang/Object;I)[Ljava/lang/Object;"⟩
abbrev cJ7_copyOf_6403c : ByteArray := prog_22_method_120_code
def yJ7_copyOf_6403c : MethodName := ⟨RJ7, "copyOf", "([Ljava/lang/Object;ILjava/lang/Class;)[Ljava/lang/Object;"⟩
def RJx5ef63 : String := "java/util/Collection"
def TJx5ef63 : u_T := fun k => match k with
  | _ => ("", "", "", false)
def tyJx5ef63 : Nat → FieldType := fun k => match k with
  | _ => .int
abbrev wsJx5ef630 : List Cond := u_ws RJx5ef63 TJx5ef63 0
theorem nmJx5ef63 : ∀ a, a < 0 → ∀ b, b < 0 → a ≠ b → (TJx5ef63 a).2.1 ≠ (TJx5ef63 b).2.1 := by decide +kernel
theorem tyJx5ef63_ok : ∀ k, k < 0 → parseFieldDescriptor (TJx5ef63 k).2.2.1 = some (tyJx5ef63 k) := by decide +kernel
def RJxbd725 : String := "java/util/List"
def TJxbd725 : u_T := fun k => match k with
  | _ => ("", "", "", false)
def tyJxbd725 : Nat → FieldType := fun k => match k with
  | _ => .int
abbrev wsJxbd7250 : List Cond := u_ws RJxbd725 TJxbd725 0
theorem nmJxbd725 : ∀ a, a < 0 → ∀ b, b < 0 → a ≠ b → (TJxbd725 a).2.1 ≠ (TJxbd725 b).2.1 := by decide +kernel
theorem tyJxbd725_ok : ∀ k, k < 0 → parseFieldDescriptor (TJxbd725 k).2.2.1 = some (tyJxbd725 k) := by decide +kernel
def RJ15 : String := "java/util/Objects"
def TJ15 : u_T := fun k => match k with
  | _ => ("", "", "", false)
def tyJ15 : Nat → FieldType := fun k => match k with
  | _ => .int
abbrev wsJ150 : List Cond := u_ws RJ15 TJ15 0
theorem nmJ15 : ∀ a, a < 0 → ∀ b, b < 0 → a ≠ b → (TJ15 a).2.1 ≠ (TJ15 b).2.1 := by decide +kernel
theorem tyJ15_ok : ∀ k, k < 0 → parseFieldDescriptor (TJ15 k).2.2.1 = some (tyJ15 k) := by decide +kernel
abbrev cJ15_checkIndex_7cf53 : ByteArray := prog_25_method_17_code
def yJ15_checkIndex_7cf53 : MethodName := ⟨RJ15, "checkIndex", "(II)I"⟩
def RJxf0a74 : String := "java/util/RandomAccess"
def TJxf0a74 : u_T := fun k => match k with
  | _ => ("", "", "", false)
def tyJxf0a74 : Nat → FieldType := fun k => match k with
  | _ => .int
abbrev wsJxf0a740 : List Cond := u_ws RJxf0a74 TJxf0a74 0
theorem nmJxf0a74 : ∀ a, a < 0 → ∀ b, b < 0 → a ≠ b → (TJxf0a74 a).2.1 ≠ (TJxf0a74 b).2.1 := by decide +kernel
theorem tyJxf0a74_ok : ∀ k, k < 0 → parseFieldDescriptor (TJxf0a74 k).2.2.1 = some (tyJxf0a74 k) := by decide +kernel
def RJxa66e6 : String := "java/util/SequencedCollection"
def TJxa66e6 : u_T := fun k => match k with
  | _ => ("", "", "", false)
def tyJxa66e6 : Nat → FieldType := fun k => match k with
  | _ => .int
abbrev wsJxa66e60 : List Cond := u_ws RJxa66e6 TJxa66e6 0
theorem nmJxa66e6 : ∀ a, a < 0 → ∀ b, b < 0 → a ≠ b → (TJxa66e6 a).2.1 ≠ (TJxa66e6 b).2.1 := by decide +kernel
theorem tyJxa66e6_ok : ∀ k, k < 0 → parseFieldDescriptor (TJxa66e6 k).2.2.1 = some (tyJxa66e6 k) := by decide +kernel
def RJ8 : String := "jdk/internal/util/ArraysSupport"
def TJ8 : u_T := fun k => match k with
  | _ => ("", "", "", false)
def tyJ8 : Nat → FieldType := fun k => match k with
  | _ => .int
abbrev wsJ80 : List Cond := u_ws RJ8 TJ8 0
theorem nmJ8 : ∀ a, a < 0 → ∀ b, b < 0 → a ≠ b → (TJ8 a).2.1 ≠ (TJ8 b).2.1 := by decide +kernel
theorem tyJ8_ok : ∀ k, k < 0 → parseFieldDescriptor (TJ8 k).2.2.1 = some (tyJ8 k) := by decide +kernel
abbrev cJ8_newLength_cabcc : ByteArray := prog_28_method_27_code
def yJ8_newLength_cabcc : MethodName := ⟨RJ8, "newLength", "(III)I"⟩
abbrev cJ8_hugeLength_7cf53 : ByteArray := prog_28_method_28_code
def yJ8_hugeLength_7cf53 : MethodName := ⟨RJ8, "hugeLength", "(II)I"⟩
def RJ3 : String := "jdk/internal/util/Preconditions"
def TJ3 : u_T := fun k => match k with
  | _ => ("", "", "", false)
def tyJ3 : Nat → FieldType := fun k => match k with
  | _ => .int
abbrev wsJ30 : List Cond := u_ws RJ3 TJ3 0
theorem nmJ3 : ∀ a, a < 0 → ∀ b, b < 0 → a ≠ b → (TJ3 a).2.1 ≠ (TJ3 b).2.1 := by decide +kernel
theorem tyJ3_ok : ∀ k, k < 0 → parseFieldDescriptor (TJ3 k).2.2.1 = some (tyJ3 k) := by decide +kernel
abbrev cJ3_checkIndex_8e157 : ByteArray := prog_29_method_11_code
def yJ3_checkIndex_8e157 : MethodName := ⟨RJ3, "checkIndex", "(IILjava/util/function/BiFunction;)I"⟩
def RL : String := "GliderDayLaw"
abbrev cL_below : ByteArray := method_2_code
def yL_below : MethodName := ⟨RL, "below", "(II)I"⟩
abbrev cL_cell : ByteArray := method_3_code
def yL_cell : MethodName := ⟨RL, "cell", "([II)I"⟩
abbrev cL_people : ByteArray := method_4_code
def yL_people : MethodName := ⟨RL, "people", "(LGliderDay;[I[I[I[I[I)V"⟩
abbrev cL_law : ByteArray := code
def yL_law : MethodName := ⟨RL, "law", "([I)Z"⟩
abbrev vwCl : List vw_C := [(RJx4a65c, TJx4a65c, 3), (RX0, TX0, 11), (RX1, TX1, 10), (RX2, TX2, 8), (RX3, TX3, 13)]
/-- the good words of the tables: every method here has them all -/
def WALL : List Cond := lw_tbl.filter goodWord
theorem mW {w : Cond} (i : Nat) (h : lw_tbl[i]? = some w) (g : goodWord w = true) : w ∈ WALL := List.mem_filter.mpr ⟨List.mem_of_getElem? h, g⟩
theorem WALL_tbl : ∀ w ∈ WALL, w ∈ lw_tbl := fun _ h => (List.mem_filter.mp h).1
theorem WALL_good : ∀ w ∈ WALL, goodWord w = true := fun _ h => (List.mem_filter.mp h).2
