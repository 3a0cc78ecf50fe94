def RX0 : String := "SelfishTown$Crowd"
def TX0 : u_T := fun k => match k with
  | 0 => ("SelfishTown$Crowd", "town", "LSelfishTown$Town;", true)
  | 1 => ("SelfishTown$Crowd", "paths", "LSelfishTown$Paths;", true)
  | 2 => ("SelfishTown$Crowd", "choices", "[I", true)
  | 3 => ("SelfishTown$Crowd", "uses", "[I", true)
  | 4 => ("SelfishTown$Crowd", "times", "[I", true)
  | 5 => ("SelfishTown$Crowd", "costs", "[I", true)
  | 6 => ("SelfishTown$Crowd", "staying", "[I", true)
  | _ => ("SelfishTown$Crowd", "costsBefore", "[I", true)
def tyX0 : Nat → FieldType := fun k => match k with
  | 0 => .object "SelfishTown$Town"
  | 1 => .object "SelfishTown$Paths"
  | 2 => .array .int
  | 3 => .array .int
  | 4 => .array .int
  | 5 => .array .int
  | 6 => .array .int
  | _ => .array .int
abbrev wsX00 : List Cond := u_ws RX0 TX0 8
theorem nmX0 : ∀ a, a < 8 → ∀ b, b < 8 → a ≠ b → (TX0 a).2.1 ≠ (TX0 b).2.1 := by decide +kernel
theorem tyX0_ok : ∀ k, k < 8 → parseFieldDescriptor (TX0 k).2.2.1 = some (tyX0 k) := by decide +kernel
set_option maxRecDepth 10000 in
theorem nf_X0 : ∀ j, j < 8 → defaultValue (tyX0 j) = vp_V (.null :: .null :: .null :: .null :: .null :: .null :: .null :: .null :: []) j := fun j hj => by
  rcases (show j = 0 ∨ j = 1 ∨ j = 2 ∨ j = 3 ∨ j = 4 ∨ j = 5 ∨ j = 6 ∨ j = 7 by omega) with rfl | rfl | rfl | rfl | rfl | rfl | rfl | rfl <;> rfl
abbrev cX0_init : ByteArray := prog_2_method_1_code
def yX0_init : MethodName := ⟨RX0, "<init>", "(LSelfishTown$Town;LSelfishTown$Paths;)V"⟩
abbrev cX0_empty : ByteArray := prog_2_method_2_code
def yX0_empty : MethodName := ⟨RX0, "empty", "()V"⟩
abbrev cX0_gather : ByteArray := prog_2_method_3_code
def yX0_gather : MethodName := ⟨RX0, "gather", "()V"⟩
abbrev cX0_put : ByteArray := prog_2_method_4_code
def yX0_put : MethodName := ⟨RX0, "put", "(II)V"⟩
abbrev cX0_addUses : ByteArray := prog_2_method_5_code
def yX0_addUses : MethodName := ⟨RX0, "addUses", "(II)V"⟩
abbrev cX0_putAll : ByteArray := prog_2_method_6_code
def yX0_putAll : MethodName := ⟨RX0, "putAll", "([I)V"⟩
abbrev cX0_saveTo : ByteArray := prog_2_method_7_code
def yX0_saveTo : MethodName := ⟨RX0, "saveTo", "([I)V"⟩
abbrev cX0_along : ByteArray := prog_2_method_8_code
def yX0_along : MethodName := ⟨RX0, "along", "(II[I)I"⟩
abbrev cX0_timeOf : ByteArray := prog_2_method_9_code
def yX0_timeOf : MethodName := ⟨RX0, "timeOf", "(I)I"⟩
abbrev cX0_costOf : ByteArray := prog_2_method_10_code
def yX0_costOf : MethodName := ⟨RX0, "costOf", "(I)I"⟩
abbrev cX0_sum : ByteArray := prog_2_method_11_code
def yX0_sum : MethodName := ⟨RX0, "sum", "()I"⟩
abbrev cX0_most : ByteArray := prog_2_method_12_code
def yX0_most : MethodName := ⟨RX0, "most", "()I"⟩
abbrev cX0_held : ByteArray := prog_2_method_13_code
def yX0_held : MethodName := ⟨RX0, "held", "()I"⟩
abbrev cX0_cheapest : ByteArray := prog_2_method_14_code
def yX0_cheapest : MethodName := ⟨RX0, "cheapest", "(I)I"⟩
abbrev cX0_leastRestless : ByteArray := prog_2_method_15_code
def yX0_leastRestless : MethodName := ⟨RX0, "leastRestless", "()I"⟩
abbrev cX0_isAtRest : ByteArray := prog_2_method_16_code
def yX0_isAtRest : MethodName := ⟨RX0, "isAtRest", "()Z"⟩
abbrev cX0_everybody : ByteArray := prog_2_method_17_code
def yX0_everybody : MethodName := ⟨RX0, "everybody", "()I"⟩
abbrev cX0_goToFirst : ByteArray := prog_2_method_18_code
def yX0_goToFirst : MethodName := ⟨RX0, "goToFirst", "(I)V"⟩
abbrev cX0_goToNext : ByteArray := prog_2_method_19_code
def yX0_goToNext : MethodName := ⟨RX0, "goToNext", "(I)Z"⟩
abbrev cX0_goToHabit : ByteArray := prog_2_method_20_code
def yX0_goToHabit : MethodName := ⟨RX0, "goToHabit", "(I)V"⟩
abbrev cX0_goToRest : ByteArray := prog_2_method_21_code
def yX0_goToRest : MethodName := ⟨RX0, "goToRest", "(I)Z"⟩
abbrev cX0_leastHeap : ByteArray := prog_2_method_22_code
def yX0_leastHeap : MethodName := ⟨RX0, "leastHeap", "()I"⟩
abbrev cX0_canAgree : ByteArray := prog_2_method_23_code
def yX0_canAgree : MethodName := ⟨RX0, "canAgree", "(I)Z"⟩
abbrev cX0_allGain : ByteArray := prog_2_method_24_code
def yX0_allGain : MethodName := ⟨RX0, "allGain", "(I)Z"⟩
def RX1 : String := "SelfishTown$Driver"
def TX1 : u_T := fun k => match k with
  | 0 => ("SelfishTown$Driver", "from", "I", false)
  | 1 => ("SelfishTown$Driver", "to", "I", false)
  | _ => ("SelfishTown$Driver", "choice", "I", false)
def tyX1 : Nat → FieldType := fun k => match k with
  | 0 => .int
  | 1 => .int
  | _ => .int
abbrev wsX10 : List Cond := u_ws RX1 TX1 3
theorem nmX1 : ∀ a, a < 3 → ∀ b, b < 3 → a ≠ b → (TX1 a).2.1 ≠ (TX1 b).2.1 := by decide +kernel
theorem tyX1_ok : ∀ k, k < 3 → parseFieldDescriptor (TX1 k).2.2.1 = some (tyX1 k) := by decide +kernel
set_option maxRecDepth 10000 in
theorem nf_X1 : ∀ j, j < 3 → defaultValue (tyX1 j) = vp_V (.int 0 :: .int 0 :: .int 0 :: []) j := fun j hj => by
  rcases (show j = 0 ∨ j = 1 ∨ j = 2 by omega) with rfl | rfl | rfl <;> rfl
abbrev cX1_init : ByteArray := prog_3_method_1_code
def yX1_init : MethodName := ⟨RX1, "<init>", "()V"⟩
abbrev cX1_begin : ByteArray := prog_3_method_2_code
def yX1_begin : MethodName := ⟨RX1, "begin", "(II)V"⟩
abbrev cX1_become : ByteArray := prog_3_method_3_code
def yX1_become : MethodName := ⟨RX1, "become", "(LSelfishTown$Driver;)V"⟩
def RX2 : String := "SelfishTown$Fraction"
def TX2 : u_T := fun k => match k with
  | 0 => ("SelfishTown$Fraction", "above", "J", false)
  | _ => ("SelfishTown$Fraction", "below", "J", false)
def tyX2 : Nat → FieldType := fun k => match k with
  | 0 => .long
  | _ => .long
abbrev wsX20 : List Cond := u_ws RX2 TX2 2
theorem nmX2 : ∀ a, a < 2 → ∀ b, b < 2 → a ≠ b → (TX2 a).2.1 ≠ (TX2 b).2.1 := by decide +kernel
theorem tyX2_ok : ∀ k, k < 2 → parseFieldDescriptor (TX2 k).2.2.1 = some (tyX2 k) := by decide +kernel
set_option maxRecDepth 10000 in
theorem nf_X2 : ∀ j, j < 2 → defaultValue (tyX2 j) = vp_V (.long 0 :: .long 0 :: []) j := fun j hj => by
  rcases (show j = 0 ∨ j = 1 by omega) with rfl | rfl <;> rfl
abbrev cX2_init : ByteArray := prog_4_method_1_code
def yX2_init : MethodName := ⟨RX2, "<init>", "()V"⟩
abbrev cX2_put : ByteArray := prog_4_method_2_code
def yX2_put : MethodName := ⟨RX2, "put", "(JJ)V"⟩
abbrev cX2_commonDivisor : ByteArray := prog_4_method_3_code
def yX2_commonDivisor : MethodName := ⟨RX2, "commonDivisor", "(JJ)J"⟩
abbrev cX2_exceeds : ByteArray := prog_4_method_4_code
def yX2_exceeds : MethodName := ⟨RX2, "exceeds", "(JJ)Z"⟩
abbrev cX2_part : ByteArray := prog_4_method_5_code
def yX2_part : MethodName := ⟨RX2, "part", "(I)J"⟩
def RX3 : String := "SelfishTown$History"
def TX3 : u_T := fun k => match k with
  | 0 => ("SelfishTown$History", "ring", "[LSelfishTown$Town;", true)
  | 1 => ("SelfishTown$History", "size", "I", false)
  | _ => ("SelfishTown$History", "next", "I", false)
def tyX3 : Nat → FieldType := fun k => match k with
  | 0 => .array (.object "SelfishTown$Town")
  | 1 => .int
  | _ => .int
abbrev wsX30 : List Cond := u_ws RX3 TX3 3
theorem nmX3 : ∀ a, a < 3 → ∀ b, b < 3 → a ≠ b → (TX3 a).2.1 ≠ (TX3 b).2.1 := by decide +kernel
theorem tyX3_ok : ∀ k, k < 3 → parseFieldDescriptor (TX3 k).2.2.1 = some (tyX3 k) := by decide +kernel
set_option maxRecDepth 10000 in
theorem nf_X3 : ∀ j, j < 3 → defaultValue (tyX3 j) = vp_V (.null :: .int 0 :: .int 0 :: []) j := fun j hj => by
  rcases (show j = 0 ∨ j = 1 ∨ j = 2 by omega) with rfl | rfl | rfl <;> rfl
abbrev cX3_init : ByteArray := prog_5_method_1_code
def yX3_init : MethodName := ⟨RX3, "<init>", "()V"⟩
abbrev cX3_keep : ByteArray := prog_5_method_2_code
def yX3_keep : MethodName := ⟨RX3, "keep", "(LSelfishTown$Town;)V"⟩
abbrev cX3_takeBack : ByteArray := prog_5_method_3_code
def yX3_takeBack : MethodName := ⟨RX3, "takeBack", "(LSelfishTown$Town;)V"⟩
def RX4 : String := "SelfishTown$Paths"
def TX4 : u_T := fun k => match k with
  | 0 => ("SelfishTown$Paths", "counts", "[I", true)
  | 1 => ("SelfishTown$Paths", "lengths", "[I", true)
  | 2 => ("SelfishTown$Paths", "bits", "[I", true)
  | 3 => ("SelfishTown$Paths", "roads", "[I", true)
  | 4 => ("SelfishTown$Paths", "trail", "[I", true)
  | _ => ("SelfishTown$Paths", "drivers", "I", false)
def tyX4 : Nat → FieldType := fun k => match k with
  | 0 => .array .int
  | 1 => .array .int
  | 2 => .array .int
  | 3 => .array .int
  | 4 => .array .int
  | _ => .int
abbrev wsX40 : List Cond := u_ws RX4 TX4 6
theorem nmX4 : ∀ a, a < 6 → ∀ b, b < 6 → a ≠ b → (TX4 a).2.1 ≠ (TX4 b).2.1 := by decide +kernel
theorem tyX4_ok : ∀ k, k < 6 → parseFieldDescriptor (TX4 k).2.2.1 = some (tyX4 k) := by decide +kernel
set_option maxRecDepth 10000 in
theorem nf_X4 : ∀ j, j < 6 → defaultValue (tyX4 j) = vp_V (.null :: .null :: .null :: .null :: .null :: .int 0 :: []) j := fun j hj => by
  rcases (show j = 0 ∨ j = 1 ∨ j = 2 ∨ j = 3 ∨ j = 4 ∨ j = 5 by omega) with rfl | rfl | rfl | rfl | rfl | rfl <;> rfl
abbrev cX4_init : ByteArray := prog_6_method_1_code
def yX4_init : MethodName := ⟨RX4, "<init>", "()V"⟩
abbrev cX4_find : ByteArray := prog_6_method_2_code
def yX4_find : MethodName := ⟨RX4, "find", "(LSelfishTown$Town;I)V"⟩
abbrev cX4_extend : ByteArray := prog_6_method_3_code
def yX4_extend : MethodName := ⟨RX4, "extend", "(LSelfishTown$Town;IIIII)V"⟩
abbrev cX4_add : ByteArray := prog_6_method_4_code
def yX4_add : MethodName := ⟨RX4, "add", "(II)V"⟩
abbrev cX4_habitCount : ByteArray := prog_6_method_5_code
def yX4_habitCount : MethodName := ⟨RX4, "habitCount", "()I"⟩
abbrev cX4_haveRoad : ByteArray := prog_6_method_6_code
def yX4_haveRoad : MethodName := ⟨RX4, "haveRoad", "(I)Z"⟩
def RX5 : String := "SelfishTown$Road"
def TX5 : u_T := fun k => match k with
  | 0 => ("SelfishTown$Road", "kind", "I", false)
  | 1 => ("SelfishTown$Road", "from", "I", false)
  | 2 => ("SelfishTown$Road", "to", "I", false)
  | 3 => ("SelfishTown$Road", "a", "I", false)
  | 4 => ("SelfishTown$Road", "b", "I", false)
  | 5 => ("SelfishTown$Road", "toll", "I", false)
  | 6 => ("SelfishTown$Road", "open", "Z", false)
  | 7 => ("SelfishTown$Road", "ints", "Z", false)
  | 8 => ("SelfishTown$Road", "size", "I", false)
  | _ => ("SelfishTown$Road", "row", "[I", true)
def tyX5 : Nat → FieldType := fun k => match k with
  | 0 => .int
  | 1 => .int
  | 2 => .int
  | 3 => .int
  | 4 => .int
  | 5 => .int
  | 6 => .boolean
  | 7 => .boolean
  | 8 => .int
  | _ => .array .int
abbrev wsX50 : List Cond := u_ws RX5 TX5 10
theorem nmX5 : ∀ a, a < 10 → ∀ b, b < 10 → a ≠ b → (TX5 a).2.1 ≠ (TX5 b).2.1 := by decide +kernel
theorem tyX5_ok : ∀ k, k < 10 → parseFieldDescriptor (TX5 k).2.2.1 = some (tyX5 k) := by decide +kernel
set_option maxRecDepth 10000 in
theorem nf_X5 : ∀ j, j < 10 → defaultValue (tyX5 j) = vp_V (.int 0 :: .int 0 :: .int 0 :: .int 0 :: .int 0 :: .int 0 :: .int 0 :: .int 0 :: .int 0 :: .null :: []) j := fun j hj => by
  rcases (show j = 0 ∨ j = 1 ∨ j = 2 ∨ j = 3 ∨ j = 4 ∨ j = 5 ∨ j = 6 ∨ j = 7 ∨ j = 8 ∨ j = 9 by omega) with rfl | rfl | rfl | rfl | rfl | rfl | rfl | rfl | rfl | rfl <;> rfl
abbrev cX5_init : ByteArray := prog_7_method_1_code
def yX5_init : MethodName := ⟨RX5, "<init>", "()V"⟩
abbrev cX5_begin : ByteArray := prog_7_method_2_code
def yX5_begin : MethodName := ⟨RX5, "begin", "(IIIII)V"⟩
abbrev cX5_become : ByteArray := prog_7_method_3_code
def yX5_become : MethodName := ⟨RX5, "become", "(LSelfishTown$Road;)V"⟩
abbrev cX5_mostValue : ByteArray := prog_7_method_4_code
def yX5_mostValue : MethodName := ⟨RX5, "mostValue", "()I"⟩
abbrev cX5_time : ByteArray := prog_7_method_5_code
def yX5_time : MethodName := ⟨RX5, "time", "(I)I"⟩
abbrev cX5_lesson : ByteArray := prog_7_method_6_code
def yX5_lesson : MethodName := ⟨RX5, "lesson", "(I)I"⟩
def RX6 : String := "SelfishTown$Stream"
def TX6 : u_T := fun k => match k with
  | 0 => ("SelfishTown$Stream", "town", "LSelfishTown$Town;", true)
  | 1 => ("SelfishTown$Stream", "level", "LSelfishTown$Fraction;", true)
  | 2 => ("SelfishTown$Stream", "part", "LSelfishTown$Fraction;", true)
  | 3 => ("SelfishTown$Stream", "from", "I", false)
  | 4 => ("SelfishTown$Stream", "to", "I", false)
  | 5 => ("SelfishTown$Stream", "much", "I", false)
  | _ => ("SelfishTown$Stream", "steepness", "I", false)
def tyX6 : Nat → FieldType := fun k => match k with
  | 0 => .object "SelfishTown$Town"
  | 1 => .object "SelfishTown$Fraction"
  | 2 => .object "SelfishTown$Fraction"
  | 3 => .int
  | 4 => .int
  | 5 => .int
  | _ => .int
abbrev wsX60 : List Cond := u_ws RX6 TX6 7
theorem nmX6 : ∀ a, a < 7 → ∀ b, b < 7 → a ≠ b → (TX6 a).2.1 ≠ (TX6 b).2.1 := by decide +kernel
theorem tyX6_ok : ∀ k, k < 7 → parseFieldDescriptor (TX6 k).2.2.1 = some (tyX6 k) := by decide +kernel
set_option maxRecDepth 10000 in
theorem nf_X6 : ∀ j, j < 7 → defaultValue (tyX6 j) = vp_V (.null :: .null :: .null :: .int 0 :: .int 0 :: .int 0 :: .int 0 :: []) j := fun j hj => by
  rcases (show j = 0 ∨ j = 1 ∨ j = 2 ∨ j = 3 ∨ j = 4 ∨ j = 5 ∨ j = 6 by omega) with rfl | rfl | rfl | rfl | rfl | rfl | rfl <;> rfl
abbrev cX6_init : ByteArray := prog_8_method_1_code
def yX6_init : MethodName := ⟨RX6, "<init>", "(LSelfishTown$Town;)V"⟩
abbrev cX6_flow : ByteArray := prog_8_method_2_code
def yX6_flow : MethodName := ⟨RX6, "flow", "(IIII)Z"⟩
abbrev cX6_isTaken : ByteArray := prog_8_method_3_code
def yX6_isTaken : MethodName := ⟨RX6, "isTaken", "(LSelfishTown$Road;)Z"⟩
abbrev cX6_slopeOf : ByteArray := prog_8_method_4_code
def yX6_slopeOf : MethodName := ⟨RX6, "slopeOf", "(LSelfishTown$Road;)J"⟩
abbrev cX6_lowerLevel : ByteArray := prog_8_method_5_code
def yX6_lowerLevel : MethodName := ⟨RX6, "lowerLevel", "(LSelfishTown$Road;Z)V"⟩
abbrev cX6_findShareOf : ByteArray := prog_8_method_6_code
def yX6_findShareOf : MethodName := ⟨RX6, "findShareOf", "(I)V"⟩
abbrev cX6_liftOf : ByteArray := prog_8_method_7_code
def yX6_liftOf : MethodName := ⟨RX6, "liftOf", "(LSelfishTown$Road;)J"⟩
abbrev cX6_leastFlat : ByteArray := prog_8_method_8_code
def yX6_leastFlat : MethodName := ⟨RX6, "leastFlat", "()I"⟩
abbrev cX6_putWhatIsLeft : ByteArray := prog_8_method_9_code
def yX6_putWhatIsLeft : MethodName := ⟨RX6, "putWhatIsLeft", "()V"⟩
def RX7 : String := "SelfishTown$Survey"
def TX7 : u_T := fun k => match k with
  | 0 => ("SelfishTown$Survey", "bestHabit", "[I", true)
  | 1 => ("SelfishTown$Survey", "bestSum", "I", false)
  | 2 => ("SelfishTown$Survey", "leastMost", "I", false)
  | 3 => ("SelfishTown$Survey", "restCount", "I", false)
  | 4 => ("SelfishTown$Survey", "leastRest", "I", false)
  | _ => ("SelfishTown$Survey", "greatestRest", "I", false)
def tyX7 : Nat → FieldType := fun k => match k with
  | 0 => .array .int
  | 1 => .int
  | 2 => .int
  | 3 => .int
  | 4 => .int
  | _ => .int
abbrev wsX70 : List Cond := u_ws RX7 TX7 6
theorem nmX7 : ∀ a, a < 6 → ∀ b, b < 6 → a ≠ b → (TX7 a).2.1 ≠ (TX7 b).2.1 := by decide +kernel
theorem tyX7_ok : ∀ k, k < 6 → parseFieldDescriptor (TX7 k).2.2.1 = some (tyX7 k) := by decide +kernel
set_option maxRecDepth 10000 in
theorem nf_X7 : ∀ j, j < 6 → defaultValue (tyX7 j) = vp_V (.null :: .int 0 :: .int 0 :: .int 0 :: .int 0 :: .int 0 :: []) j := fun j hj => by
  rcases (show j = 0 ∨ j = 1 ∨ j = 2 ∨ j = 3 ∨ j = 4 ∨ j = 5 by omega) with rfl | rfl | rfl | rfl | rfl | rfl <;> rfl
abbrev cX7_init : ByteArray := prog_9_method_1_code
def yX7_init : MethodName := ⟨RX7, "<init>", "()V"⟩
abbrev cX7_goThrough : ByteArray := prog_9_method_2_code
def yX7_goThrough : MethodName := ⟨RX7, "goThrough", "(LSelfishTown$Crowd;)V"⟩
abbrev cX7_note : ByteArray := prog_9_method_3_code
def yX7_note : MethodName := ⟨RX7, "note", "(LSelfishTown$Crowd;)V"⟩
def RX8 : String := "SelfishTown$Town"
def TX8 : u_T := fun k => match k with
  | 0 => ("SelfishTown$Town", "roads", "[LSelfishTown$Road;", true)
  | 1 => ("SelfishTown$Town", "drivers", "[LSelfishTown$Driver;", true)
  | 2 => ("SelfishTown$Town", "roadCount", "I", false)
  | _ => ("SelfishTown$Town", "driverCount", "I", false)
def tyX8 : Nat → FieldType := fun k => match k with
  | 0 => .array (.object "SelfishTown$Road")
  | 1 => .array (.object "SelfishTown$Driver")
  | 2 => .int
  | _ => .int
abbrev wsX80 : List Cond := u_ws RX8 TX8 4
theorem nmX8 : ∀ a, a < 4 → ∀ b, b < 4 → a ≠ b → (TX8 a).2.1 ≠ (TX8 b).2.1 := by decide +kernel
theorem tyX8_ok : ∀ k, k < 4 → parseFieldDescriptor (TX8 k).2.2.1 = some (tyX8 k) := by decide +kernel
set_option maxRecDepth 10000 in
theorem nf_X8 : ∀ j, j < 4 → defaultValue (tyX8 j) = vp_V (.null :: .null :: .int 0 :: .int 0 :: []) j := fun j hj => by
  rcases (show j = 0 ∨ j = 1 ∨ j = 2 ∨ j = 3 by omega) with rfl | rfl | rfl | rfl <;> rfl
abbrev cX8_init : ByteArray := prog_10_method_1_code
def yX8_init : MethodName := ⟨RX8, "<init>", "()V"⟩
abbrev cX8_become : ByteArray := prog_10_method_2_code
def yX8_become : MethodName := ⟨RX8, "become", "(LSelfishTown$Town;)V"⟩
abbrev cX8_roadAt : ByteArray := prog_10_method_3_code
def yX8_roadAt : MethodName := ⟨RX8, "roadAt", "(I)LSelfishTown$Road;"⟩
abbrev cX8_driverAt : ByteArray := prog_10_method_4_code
def yX8_driverAt : MethodName := ⟨RX8, "driverAt", "(I)LSelfishTown$Driver;"⟩
abbrev cX8_openRoads : ByteArray := prog_10_method_5_code
def yX8_openRoads : MethodName := ⟨RX8, "openRoads", "()I"⟩
abbrev cX8_tables : ByteArray := prog_10_method_6_code
def yX8_tables : MethodName := ⟨RX8, "tables", "()I"⟩
abbrev cX8_choosers : ByteArray := prog_10_method_7_code
def yX8_choosers : MethodName := ⟨RX8, "choosers", "()I"⟩
abbrev cX8_isHabit : ByteArray := prog_10_method_8_code
def yX8_isHabit : MethodName := ⟨RX8, "isHabit", "()Z"⟩
def RX9 : String := "SelfishTown"
def TX9 : u_T := fun k => match k with
  | 0 => ("SelfishTown", "town", "LSelfishTown$Town;", true)
  | 1 => ("SelfishTown", "history", "LSelfishTown$History;", true)
  | 2 => ("SelfishTown", "paths", "LSelfishTown$Paths;", true)
  | 3 => ("SelfishTown", "detours", "LSelfishTown$Paths;", true)
  | 4 => ("SelfishTown", "crowd", "LSelfishTown$Crowd;", true)
  | 5 => ("SelfishTown", "detoured", "LSelfishTown$Crowd;", true)
  | 6 => ("SelfishTown", "survey", "LSelfishTown$Survey;", true)
  | 7 => ("SelfishTown", "stream", "LSelfishTown$Stream;", true)
  | _ => ("SelfishTown", "ratio", "LSelfishTown$Fraction;", true)
def tyX9 : Nat → FieldType := fun k => match k with
  | 0 => .object "SelfishTown$Town"
  | 1 => .object "SelfishTown$History"
  | 2 => .object "SelfishTown$Paths"
  | 3 => .object "SelfishTown$Paths"
  | 4 => .object "SelfishTown$Crowd"
  | 5 => .object "SelfishTown$Crowd"
  | 6 => .object "SelfishTown$Survey"
  | 7 => .object "SelfishTown$Stream"
  | _ => .object "SelfishTown$Fraction"
abbrev wsX90 : List Cond := u_ws RX9 TX9 9
theorem nmX9 : ∀ a, a < 9 → ∀ b, b < 9 → a ≠ b → (TX9 a).2.1 ≠ (TX9 b).2.1 := by decide +kernel
theorem tyX9_ok : ∀ k, k < 9 → parseFieldDescriptor (TX9 k).2.2.1 = some (tyX9 k) := by decide +kernel
set_option maxRecDepth 10000 in
theorem nf_X9 : ∀ j, j < 9 → defaultValue (tyX9 j) = vp_V (.null :: .null :: .null :: .null :: .null :: .null :: .null :: .null :: .null :: []) j := fun j hj => by
  rcases (show j = 0 ∨ j = 1 ∨ j = 2 ∨ j = 3 ∨ j = 4 ∨ j = 5 ∨ j = 6 ∨ j = 7 ∨ j = 8 by omega) with rfl | rfl | rfl | rfl | rfl | rfl | rfl | rfl | rfl <;> rfl
abbrev cX9_init : ByteArray := prog_1_method_1_code
def yX9_init : MethodName := ⟨RX9, "<init>", "()V"⟩
abbrev cX9_road : ByteArray := prog_1_method_2_code
def yX9_road : MethodName := ⟨RX9, "road", "(IIIII)I"⟩
abbrev cX9_open : ByteArray := prog_1_method_3_code
def yX9_open : MethodName := ⟨RX9, "open", "(II)I"⟩
abbrev cX9_table : ByteArray := prog_1_method_4_code
def yX9_table : MethodName := ⟨RX9, "table", "(III)I"⟩
abbrev cX9_enter : ByteArray := prog_1_method_5_code
def yX9_enter : MethodName := ⟨RX9, "enter", "(III)I"⟩
abbrev cX9_copy : ByteArray := prog_1_method_6_code
def yX9_copy : MethodName := ⟨RX9, "copy", "(III)I"⟩
abbrev cX9_toll : ByteArray := prog_1_method_7_code
def yX9_toll : MethodName := ⟨RX9, "toll", "(II)I"⟩
abbrev cX9_about : ByteArray := prog_1_method_8_code
def yX9_about : MethodName := ⟨RX9, "about", "(II)I"⟩
abbrev cX9_isOf : ByteArray := prog_1_method_9_code
def yX9_isOf : MethodName := ⟨RX9, "isOf", "(II)I"⟩
abbrev cX9_takes : ByteArray := prog_1_method_10_code
def yX9_takes : MethodName := ⟨RX9, "takes", "(II)I"⟩
abbrev cX9_driver : ByteArray := prog_1_method_11_code
def yX9_driver : MethodName := ⟨RX9, "driver", "(II)I"⟩
abbrev cX9_ways : ByteArray := prog_1_method_12_code
def yX9_ways : MethodName := ⟨RX9, "ways", "(I)I"⟩
abbrev cX9_way : ByteArray := prog_1_method_13_code
def yX9_way : MethodName := ⟨RX9, "way", "(III)I"⟩
abbrev cX9_choose : ByteArray := prog_1_method_14_code
def yX9_choose : MethodName := ⟨RX9, "choose", "(II)I"⟩
abbrev cX9_told : ByteArray := prog_1_method_15_code
def yX9_told : MethodName := ⟨RX9, "told", "(II)I"⟩
abbrev cX9_now : ByteArray := prog_1_method_16_code
def yX9_now : MethodName := ⟨RX9, "now", "(I)I"⟩
abbrev cX9_store : ByteArray := prog_1_method_17_code
def yX9_store : MethodName := ⟨RX9, "store", "()I"⟩
abbrev cX9_reply : ByteArray := prog_1_method_18_code
def yX9_reply : MethodName := ⟨RX9, "reply", "(I)I"⟩
abbrev cX9_habits : ByteArray := prog_1_method_19_code
def yX9_habits : MethodName := ⟨RX9, "habits", "()I"⟩
abbrev cX9_habit : ByteArray := prog_1_method_20_code
def yX9_habit : MethodName := ⟨RX9, "habit", "(I)I"⟩
abbrev cX9_best : ByteArray := prog_1_method_21_code
def yX9_best : MethodName := ⟨RX9, "best", "()I"⟩
abbrev cX9_rests : ByteArray := prog_1_method_22_code
def yX9_rests : MethodName := ⟨RX9, "rests", "()I"⟩
abbrev cX9_rest : ByteArray := prog_1_method_23_code
def yX9_rest : MethodName := ⟨RX9, "rest", "(I)I"⟩
abbrev cX9_extreme : ByteArray := prog_1_method_24_code
def yX9_extreme : MethodName := ⟨RX9, "extreme", "(I)I"⟩
abbrev cX9_price : ByteArray := prog_1_method_25_code
def yX9_price : MethodName := ⟨RX9, "price", "(I)I"⟩
abbrev cX9_harms : ByteArray := prog_1_method_26_code
def yX9_harms : MethodName := ⟨RX9, "harms", "()I"⟩
abbrev cX9_agrees : ByteArray := prog_1_method_27_code
def yX9_agrees : MethodName := ⟨RX9, "agrees", "()I"⟩
abbrev cX9_better : ByteArray := prog_1_method_28_code
def yX9_better : MethodName := ⟨RX9, "better", "(I)I"⟩
abbrev cX9_queue : ByteArray := prog_1_method_29_code
def yX9_queue : MethodName := ⟨RX9, "queue", "()I"⟩
abbrev cX9_teach : ByteArray := prog_1_method_30_code
def yX9_teach : MethodName := ⟨RX9, "teach", "()I"⟩
abbrev cX9_level : ByteArray := prog_1_method_31_code
def yX9_level : MethodName := ⟨RX9, "level", "(IIIII)J"⟩
abbrev cX9_share : ByteArray := prog_1_method_32_code
def yX9_share : MethodName := ⟨RX9, "share", "(IIII)J"⟩
abbrev cX9_undo : ByteArray := prog_1_method_33_code
def yX9_undo : MethodName := ⟨RX9, "undo", "()I"⟩
abbrev cX9_count : ByteArray := prog_1_method_34_code
def yX9_count : MethodName := ⟨RX9, "count", "(I)I"⟩
abbrev cX9_isKind : ByteArray := prog_1_method_35_code
def yX9_isKind : MethodName := ⟨RX9, "isKind", "(I)Z"⟩
abbrev cX9_isBit : ByteArray := prog_1_method_36_code
def yX9_isBit : MethodName := ⟨RX9, "isBit", "(I)Z"⟩
abbrev cX9_arePlaces : ByteArray := prog_1_method_37_code
def yX9_arePlaces : MethodName := ⟨RX9, "arePlaces", "(II)Z"⟩
abbrev cX9_isStream : ByteArray := prog_1_method_38_code
def yX9_isStream : MethodName := ⟨RX9, "isStream", "(III)Z"⟩
abbrev cX9_slotOf : ByteArray := prog_1_method_39_code
def yX9_slotOf : MethodName := ⟨RX9, "slotOf", "(II)I"⟩
abbrev cX9_roadsHaveChanged : ByteArray := prog_1_method_40_code
def yX9_roadsHaveChanged : MethodName := ⟨RX9, "roadsHaveChanged", "()V"⟩
abbrev cX9_makeChoices : ByteArray := prog_1_method_41_code
def yX9_makeChoices : MethodName := ⟨RX9, "makeChoices", "()V"⟩
abbrev cX9_goToBest : ByteArray := prog_1_method_42_code
def yX9_goToBest : MethodName := ⟨RX9, "goToBest", "()V"⟩
abbrev cX9_worstWithout : ByteArray := prog_1_method_43_code
def yX9_worstWithout : MethodName := ⟨RX9, "worstWithout", "(II)I"⟩
def RX10 : String := "SelfishTownModel"
def TX10 : u_T := fun k => match k with
  | 0 => ("SelfishTownModel", "thrown", "I", false)
  | 1 => ("SelfishTownModel", "roads", "I", false)
  | 2 => ("SelfishTownModel", "kind", "[I", true)
  | 3 => ("SelfishTownModel", "from", "[I", true)
  | 4 => ("SelfishTownModel", "to", "[I", true)
  | 5 => ("SelfishTownModel", "slope", "[I", true)
  | 6 => ("SelfishTownModel", "base", "[I", true)
  | 7 => ("SelfishTownModel", "toll", "[I", true)
  | 8 => ("SelfishTownModel", "isOpen", "[I", true)
  | 9 => ("SelfishTownModel", "wide", "[I", true)
  | 10 => ("SelfishTownModel", "tableLong", "[I", true)
  | 11 => ("SelfishTownModel", "table", "[I", true)
  | 12 => ("SelfishTownModel", "drivers", "I", false)
  | 13 => ("SelfishTownModel", "goesFrom", "[I", true)
  | 14 => ("SelfishTownModel", "goesTo", "[I", true)
  | 15 => ("SelfishTownModel", "choice", "[I", true)
  | 16 => ("SelfishTownModel", "old", "[I", true)
  | 17 => ("SelfishTownModel", "keptEnd", "I", false)
  | 18 => ("SelfishTownModel", "kept", "I", false)
  | 19 => ("SelfishTownModel", "pen", "I", false)
  | 20 => ("SelfishTownModel", "allMany", "[I", true)
  | 21 => ("SelfishTownModel", "allLong", "[I", true)
  | 22 => ("SelfishTownModel", "allWays", "[I", true)
  | 23 => ("SelfishTownModel", "wayLong", "I", false)
  | 24 => ("SelfishTownModel", "way", "[I", true)
  | 25 => ("SelfishTownModel", "walked", "I", false)
  | 26 => ("SelfishTownModel", "walk", "[I", true)
  | 27 => ("SelfishTownModel", "use", "[I", true)
  | 28 => ("SelfishTownModel", "replyCost", "I", false)
  | 29 => ("SelfishTownModel", "wayMany", "[I", true)
  | 30 => ("SelfishTownModel", "saved", "[I", true)
  | 31 => ("SelfishTownModel", "bestHabit", "I", false)
  | 32 => ("SelfishTownModel", "bestSum", "I", false)
  | 33 => ("SelfishTownModel", "restMany", "I", false)
  | 34 => ("SelfishTownModel", "restAsked", "I", false)
  | 35 => ("SelfishTownModel", "restHabit", "I", false)
  | 36 => ("SelfishTownModel", "restLeast", "I", false)
  | 37 => ("SelfishTownModel", "restGreatest", "I", false)
  | 38 => ("SelfishTownModel", "mostLeast", "I", false)
  | 39 => ("SelfishTownModel", "costNow", "[I", true)
  | 40 => ("SelfishTownModel", "levelUp", "J", false)
  | 41 => ("SelfishTownModel", "levelDown", "J", false)
  | 42 => ("SelfishTownModel", "shareUp", "J", false)
  | _ => ("SelfishTownModel", "shareDown", "J", false)
def tyX10 : Nat → FieldType := fun k => match k with
  | 0 => .int
  | 1 => .int
  | 2 => .array .int
  | 3 => .array .int
  | 4 => .array .int
  | 5 => .array .int
  | 6 => .array .int
  | 7 => .array .int
  | 8 => .array .int
  | 9 => .array .int
  | 10 => .array .int
  | 11 => .array .int
  | 12 => .int
  | 13 => .array .int
  | 14 => .array .int
  | 15 => .array .int
  | 16 => .array .int
  | 17 => .int
  | 18 => .int
  | 19 => .int
  | 20 => .array .int
  | 21 => .array .int
  | 22 => .array .int
  | 23 => .int
  | 24 => .array .int
  | 25 => .int
  | 26 => .array .int
  | 27 => .array .int
  | 28 => .int
  | 29 => .array .int
  | 30 => .array .int
  | 31 => .int
  | 32 => .int
  | 33 => .int
  | 34 => .int
  | 35 => .int
  | 36 => .int
  | 37 => .int
  | 38 => .int
  | 39 => .array .int
  | 40 => .long
  | 41 => .long
  | 42 => .long
  | _ => .long
abbrev wsX100 : List Cond := u_ws RX10 TX10 44
theorem nmX10 : ∀ a, a < 44 → ∀ b, b < 44 → a ≠ b → (TX10 a).2.1 ≠ (TX10 b).2.1 := by decide +kernel
theorem tyX10_ok : ∀ k, k < 44 → parseFieldDescriptor (TX10 k).2.2.1 = some (tyX10 k) := by decide +kernel
set_option maxRecDepth 10000 in
theorem nf_X10 : ∀ j, j < 44 → defaultValue (tyX10 j) = vp_V (.int 0 :: .int 0 :: .null :: .null :: .null :: .null :: .null :: .null :: .null :: .null :: .null :: .null :: .int 0 :: .null :: .null :: .null :: .null :: .int 0 :: .int 0 :: .int 0 :: .null :: .null :: .null :: .int 0 :: .null :: .int 0 :: .null :: .null :: .int 0 :: .null :: .null :: .int 0 :: .int 0 :: .int 0 :: .int 0 :: .int 0 :: .int 0 :: .int 0 :: .int 0 :: .null :: .long 0 :: .long 0 :: .long 0 :: .long 0 :: []) j := fun j hj => by
  rcases (show j = 0 ∨ j = 1 ∨ j = 2 ∨ j = 3 ∨ j = 4 ∨ j = 5 ∨ j = 6 ∨ j = 7 ∨ j = 8 ∨ j = 9 ∨ j = 10 ∨ j = 11 ∨ j = 12 ∨ j = 13 ∨ j = 14 ∨ j = 15 ∨ j = 16 ∨ j = 17 ∨ j = 18 ∨ j = 19 ∨ j = 20 ∨ j = 21 ∨ j = 22 ∨ j = 23 ∨ j = 24 ∨ j = 25 ∨ j = 26 ∨ j = 27 ∨ j = 28 ∨ j = 29 ∨ j = 30 ∨ j = 31 ∨ j = 32 ∨ j = 33 ∨ j = 34 ∨ j = 35 ∨ j = 36 ∨ j = 37 ∨ j = 38 ∨ j = 39 ∨ j = 40 ∨ j = 41 ∨ j = 42 ∨ j = 43 by omega) with rfl | rfl | rfl | rfl | rfl | rfl | rfl | rfl | rfl | rfl | rfl | rfl | rfl | rfl | rfl | rfl | rfl | rfl | rfl | rfl | rfl | rfl | rfl | rfl | rfl | rfl | rfl | rfl | rfl | rfl | rfl | rfl | rfl | rfl | rfl | rfl | rfl | rfl | rfl | rfl | rfl | rfl | rfl | rfl <;> rfl
abbrev cX10_init : ByteArray := prog_12_method_1_code
def yX10_init : MethodName := ⟨RX10, "<init>", "()V"⟩
abbrev cX10_in : ByteArray := prog_12_method_3_code
def yX10_in : MethodName := ⟨RX10, "in", "(III)Z"⟩
abbrev cX10_write : ByteArray := prog_12_method_4_code
def yX10_write : MethodName := ⟨RX10, "write", "([II)V"⟩
abbrev cX10_read : ByteArray := prog_12_method_5_code
def yX10_read : MethodName := ⟨RX10, "read", "([II)V"⟩
abbrev cX10_keep : ByteArray := prog_12_method_6_code
def yX10_keep : MethodName := ⟨RX10, "keep", "()V"⟩
abbrev cX10_undo : ByteArray := prog_12_method_7_code
def yX10_undo : MethodName := ⟨RX10, "undo", "()I"⟩
abbrev cX10_isPlace : ByteArray := prog_12_method_8_code
def yX10_isPlace : MethodName := ⟨RX10, "isPlace", "(I)Z"⟩
abbrev cX10_isRoad : ByteArray := prog_12_method_9_code
def yX10_isRoad : MethodName := ⟨RX10, "isRoad", "(I)Z"⟩
abbrev cX10_isDriver : ByteArray := prog_12_method_10_code
def yX10_isDriver : MethodName := ⟨RX10, "isDriver", "(I)Z"⟩
abbrev cX10_forgetChoices : ByteArray := prog_12_method_11_code
def yX10_forgetChoices : MethodName := ⟨RX10, "forgetChoices", "()V"⟩
abbrev cX10_road : ByteArray := prog_12_method_12_code
def yX10_road : MethodName := ⟨RX10, "road", "(IIIII)I"⟩
abbrev cX10_open : ByteArray := prog_12_method_13_code
def yX10_open : MethodName := ⟨RX10, "open", "(II)I"⟩
abbrev cX10_table : ByteArray := prog_12_method_14_code
def yX10_table : MethodName := ⟨RX10, "table", "(III)I"⟩
abbrev cX10_enter : ByteArray := prog_12_method_15_code
def yX10_enter : MethodName := ⟨RX10, "enter", "(III)I"⟩
abbrev cX10_copy : ByteArray := prog_12_method_16_code
def yX10_copy : MethodName := ⟨RX10, "copy", "(III)I"⟩
abbrev cX10_toll : ByteArray := prog_12_method_17_code
def yX10_toll : MethodName := ⟨RX10, "toll", "(II)I"⟩
abbrev cX10_takesOf : ByteArray := prog_12_method_18_code
def yX10_takesOf : MethodName := ⟨RX10, "takesOf", "(II)I"⟩
abbrev cX10_takes : ByteArray := prog_12_method_19_code
def yX10_takes : MethodName := ⟨RX10, "takes", "(II)I"⟩
abbrev cX10_isOf : ByteArray := prog_12_method_20_code
def yX10_isOf : MethodName := ⟨RX10, "isOf", "(II)I"⟩
abbrev cX10_walkFrom : ByteArray := prog_12_method_21_code
def yX10_walkFrom : MethodName := ⟨RX10, "walkFrom", "(III)V"⟩
abbrev cX10_findAll : ByteArray := prog_12_method_22_code
def yX10_findAll : MethodName := ⟨RX10, "findAll", "()V"⟩
abbrev cX10_findWay : ByteArray := prog_12_method_23_code
def yX10_findWay : MethodName := ⟨RX10, "findWay", "(II)I"⟩
abbrev cX10_waysOf : ByteArray := prog_12_method_24_code
def yX10_waysOf : MethodName := ⟨RX10, "waysOf", "(I)I"⟩
abbrev cX10_driver : ByteArray := prog_12_method_25_code
def yX10_driver : MethodName := ⟨RX10, "driver", "(II)I"⟩
abbrev cX10_ways : ByteArray := prog_12_method_26_code
def yX10_ways : MethodName := ⟨RX10, "ways", "(I)I"⟩
abbrev cX10_way : ByteArray := prog_12_method_27_code
def yX10_way : MethodName := ⟨RX10, "way", "(III)I"⟩
abbrev cX10_choose : ByteArray := prog_12_method_28_code
def yX10_choose : MethodName := ⟨RX10, "choose", "(II)I"⟩
abbrev cX10_findUse : ByteArray := prog_12_method_29_code
def yX10_findUse : MethodName := ⟨RX10, "findUse", "(I)V"⟩
abbrev cX10_costBeside : ByteArray := prog_12_method_30_code
def yX10_costBeside : MethodName := ⟨RX10, "costBeside", "(Z)I"⟩
abbrev cX10_costOf : ByteArray := prog_12_method_31_code
def yX10_costOf : MethodName := ⟨RX10, "costOf", "(IZ)I"⟩
abbrev cX10_about : ByteArray := prog_12_method_32_code
def yX10_about : MethodName := ⟨RX10, "about", "(II)I"⟩
abbrev cX10_told : ByteArray := prog_12_method_33_code
def yX10_told : MethodName := ⟨RX10, "told", "(II)I"⟩
abbrev cX10_haveAll : ByteArray := prog_12_method_34_code
def yX10_haveAll : MethodName := ⟨RX10, "haveAll", "()Z"⟩
abbrev cX10_sumNow : ByteArray := prog_12_method_35_code
def yX10_sumNow : MethodName := ⟨RX10, "sumNow", "()I"⟩
abbrev cX10_mostNow : ByteArray := prog_12_method_36_code
def yX10_mostNow : MethodName := ⟨RX10, "mostNow", "()I"⟩
abbrev cX10_replyOf : ByteArray := prog_12_method_37_code
def yX10_replyOf : MethodName := ⟨RX10, "replyOf", "(I)I"⟩
abbrev cX10_restless : ByteArray := prog_12_method_38_code
def yX10_restless : MethodName := ⟨RX10, "restless", "()I"⟩
abbrev cX10_now : ByteArray := prog_12_method_39_code
def yX10_now : MethodName := ⟨RX10, "now", "(I)I"⟩
abbrev cX10_store : ByteArray := prog_12_method_40_code
def yX10_store : MethodName := ⟨RX10, "store", "()I"⟩
abbrev cX10_reply : ByteArray := prog_12_method_41_code
def yX10_reply : MethodName := ⟨RX10, "reply", "(I)I"⟩
abbrev cX10_habitMany : ByteArray := prog_12_method_42_code
def yX10_habitMany : MethodName := ⟨RX10, "habitMany", "()I"⟩
abbrev cX10_lay : ByteArray := prog_12_method_43_code
def yX10_lay : MethodName := ⟨RX10, "lay", "(I)V"⟩
abbrev cX10_save : ByteArray := prog_12_method_44_code
def yX10_save : MethodName := ⟨RX10, "save", "()V"⟩
abbrev cX10_restore : ByteArray := prog_12_method_45_code
def yX10_restore : MethodName := ⟨RX10, "restore", "()V"⟩
abbrev cX10_search : ByteArray := prog_12_method_46_code
def yX10_search : MethodName := ⟨RX10, "search", "(II)V"⟩
abbrev cX10_habits : ByteArray := prog_12_method_47_code
def yX10_habits : MethodName := ⟨RX10, "habits", "()I"⟩
abbrev cX10_habit : ByteArray := prog_12_method_48_code
def yX10_habit : MethodName := ⟨RX10, "habit", "(I)I"⟩
abbrev cX10_best : ByteArray := prog_12_method_49_code
def yX10_best : MethodName := ⟨RX10, "best", "()I"⟩
abbrev cX10_rests : ByteArray := prog_12_method_50_code
def yX10_rests : MethodName := ⟨RX10, "rests", "()I"⟩
abbrev cX10_rest : ByteArray := prog_12_method_51_code
def yX10_rest : MethodName := ⟨RX10, "rest", "(I)I"⟩
abbrev cX10_extreme : ByteArray := prog_12_method_52_code
def yX10_extreme : MethodName := ⟨RX10, "extreme", "(I)I"⟩
abbrev cX10_divisor : ByteArray := prog_12_method_53_code
def yX10_divisor : MethodName := ⟨RX10, "divisor", "(JJ)J"⟩
abbrev cX10_price : ByteArray := prog_12_method_54_code
def yX10_price : MethodName := ⟨RX10, "price", "(I)I"⟩
abbrev cX10_harms : ByteArray := prog_12_method_55_code
def yX10_harms : MethodName := ⟨RX10, "harms", "()I"⟩
abbrev cX10_agree : ByteArray := prog_12_method_56_code
def yX10_agree : MethodName := ⟨RX10, "agree", "(II)Z"⟩
abbrev cX10_agrees : ByteArray := prog_12_method_57_code
def yX10_agrees : MethodName := ⟨RX10, "agrees", "()I"⟩
abbrev cX10_better : ByteArray := prog_12_method_58_code
def yX10_better : MethodName := ⟨RX10, "better", "(I)I"⟩
abbrev cX10_queue : ByteArray := prog_12_method_59_code
def yX10_queue : MethodName := ⟨RX10, "queue", "()I"⟩
abbrev cX10_teach : ByteArray := prog_12_method_60_code
def yX10_teach : MethodName := ⟨RX10, "teach", "()I"⟩
abbrev cX10_isOfStream : ByteArray := prog_12_method_61_code
def yX10_isOfStream : MethodName := ⟨RX10, "isOfStream", "(III)Z"⟩
abbrev cX10_isFlat : ByteArray := prog_12_method_62_code
def yX10_isFlat : MethodName := ⟨RX10, "isFlat", "(I)Z"⟩
abbrev cX10_steepOf : ByteArray := prog_12_method_63_code
def yX10_steepOf : MethodName := ⟨RX10, "steepOf", "(II)I"⟩
abbrev cX10_findLevel : ByteArray := prog_12_method_64_code
def yX10_findLevel : MethodName := ⟨RX10, "findLevel", "(IIII)Z"⟩
abbrev cX10_level : ByteArray := prog_12_method_65_code
def yX10_level : MethodName := ⟨RX10, "level", "(IIIII)J"⟩
abbrev cX10_findShare : ByteArray := prog_12_method_66_code
def yX10_findShare : MethodName := ⟨RX10, "findShare", "(II)V"⟩
abbrev cX10_share : ByteArray := prog_12_method_67_code
def yX10_share : MethodName := ⟨RX10, "share", "(IIII)J"⟩
abbrev cX10_count : ByteArray := prog_12_method_68_code
def yX10_count : MethodName := ⟨RX10, "count", "(I)I"⟩
def RJ7 : String := "java/util/Arrays"
abbrev cJ7_fill_53178 : ByteArray := prog_15_method_103_code
def yJ7_fill_53178 : MethodName := ⟨RJ7, "fill", "([II)V"⟩
def RL : String := "SelfishTownLaw"
abbrev cL_law : ByteArray := code
def yL_law : MethodName := ⟨RL, "law", "([I)Z"⟩
abbrev vwCl : List vw_C := [(RX0, TX0, 8), (RX1, TX1, 3), (RX2, TX2, 2), (RX3, TX3, 3), (RX4, TX4, 6), (RX5, TX5, 10), (RX6, TX6, 7), (RX7, TX7, 6), (RX8, TX8, 4), (RX9, TX9, 9), (RX10, TX10, 44)]
def nw_L : List Cond := [Cond.fieldLinkNest RX6 55 "SelfishTown$Road" "kind" "I" "SelfishTown", Cond.fieldLinkNest RX9 137 "SelfishTown$Road" "kind" "I" "SelfishTown", Cond.fieldLinkNest RX6 64 "SelfishTown$Road" "from" "I" "SelfishTown", Cond.fieldLinkNest RX4 60 "SelfishTown$Road" "from" "I" "SelfishTown", Cond.fieldLinkNest RX9 140 "SelfishTown$Road" "from" "I" "SelfishTown", Cond.fieldLinkNest RX6 65 "SelfishTown$Road" "to" "I" "SelfishTown", Cond.fieldLinkNest RX4 61 "SelfishTown$Road" "to" "I" "SelfishTown", Cond.fieldLinkNest RX9 143 "SelfishTown$Road" "to" "I" "SelfishTown", Cond.fieldLinkNest RX6 66 "SelfishTown$Road" "a" "I" "SelfishTown", Cond.fieldLinkNest RX9 146 "SelfishTown$Road" "a" "I" "SelfishTown", Cond.fieldLinkNest RX6 69 "SelfishTown$Road" "b" "I" "SelfishTown", Cond.fieldLinkNest RX9 149 "SelfishTown$Road" "b" "I" "SelfishTown", Cond.fieldLinkNest RX0 54 "SelfishTown$Road" "toll" "I" "SelfishTown", Cond.fieldLinkNest RX9 134 "SelfishTown$Road" "toll" "I" "SelfishTown", Cond.fieldLinkNest RX6 60 "SelfishTown$Road" "open" "Z" "SelfishTown", Cond.fieldLinkNest RX4 54 "SelfishTown$Road" "open" "Z" "SelfishTown", Cond.fieldLinkNest RX9 103 "SelfishTown$Road" "open" "Z" "SelfishTown", Cond.fieldLinkNest RX8 39 "SelfishTown$Road" "open" "Z" "SelfishTown", Cond.fieldLinkNest RX9 107 "SelfishTown$Road" "ints" "Z" "SelfishTown", Cond.fieldLinkNest RX9 110 "SelfishTown$Road" "size" "I" "SelfishTown", Cond.fieldLinkNest RX8 43 "SelfishTown$Road" "size" "I" "SelfishTown", Cond.fieldLinkNest RX9 113 "SelfishTown$Road" "row" "[I" "SelfishTown", Cond.fieldLinkNest RX4 39 "SelfishTown$Driver" "from" "I" "SelfishTown", Cond.fieldLinkNest RX9 197 "SelfishTown$Driver" "from" "I" "SelfishTown", Cond.fieldLinkNest RX4 64 "SelfishTown$Driver" "to" "I" "SelfishTown", Cond.fieldLinkNest RX9 198 "SelfishTown$Driver" "to" "I" "SelfishTown", Cond.fieldLinkNest RX0 73 "SelfishTown$Driver" "choice" "I" "SelfishTown", Cond.fieldLinkNest RX8 46 "SelfishTown$Driver" "choice" "I" "SelfishTown", Cond.fieldLinkNest RX9 194 "SelfishTown$Driver" "choice" "I" "SelfishTown", Cond.fieldLinkNest RX0 44 "SelfishTown$Town" "roads" "[LSelfishTown$Road;" "SelfishTown", Cond.fieldLinkNest RX6 43 "SelfishTown$Town" "roads" "[LSelfishTown$Road;" "SelfishTown", Cond.fieldLinkNest RX9 83 "SelfishTown$Town" "roads" "[LSelfishTown$Road;" "SelfishTown", Cond.fieldLinkNest RX4 51 "SelfishTown$Town" "roads" "[LSelfishTown$Road;" "SelfishTown", Cond.fieldLinkNest RX4 36 "SelfishTown$Town" "drivers" "[LSelfishTown$Driver;" "SelfishTown", Cond.fieldLinkNest RX0 69 "SelfishTown$Town" "drivers" "[LSelfishTown$Driver;" "SelfishTown", Cond.fieldLinkNest RX9 165 "SelfishTown$Town" "drivers" "[LSelfishTown$Driver;" "SelfishTown", Cond.fieldLinkNest RX0 38 "SelfishTown$Town" "roadCount" "I" "SelfishTown", Cond.fieldLinkNest RX6 38 "SelfishTown$Town" "roadCount" "I" "SelfishTown", Cond.fieldLinkNest RX9 76 "SelfishTown$Town" "roadCount" "I" "SelfishTown", Cond.fieldLinkNest RX4 48 "SelfishTown$Town" "roadCount" "I" "SelfishTown", Cond.fieldLinkNest RX4 27 "SelfishTown$Town" "driverCount" "I" "SelfishTown", Cond.fieldLinkNest RX0 66 "SelfishTown$Town" "driverCount" "I" "SelfishTown", Cond.fieldLinkNest RX9 162 "SelfishTown$Town" "driverCount" "I" "SelfishTown", Cond.fieldLinkNest RX9 304 "SelfishTown$History" "size" "I" "SelfishTown", Cond.fieldLinkNest RX9 182 "SelfishTown$Paths" "counts" "[I" "SelfishTown", Cond.fieldLinkNest RX0 115 "SelfishTown$Paths" "counts" "[I" "SelfishTown", Cond.fieldLinkNest RX0 89 "SelfishTown$Paths" "lengths" "[I" "SelfishTown", Cond.fieldLinkNest RX9 189 "SelfishTown$Paths" "lengths" "[I" "SelfishTown", Cond.fieldLinkNest RX0 102 "SelfishTown$Paths" "bits" "[I" "SelfishTown", Cond.fieldLinkNest RX0 94 "SelfishTown$Paths" "roads" "[I" "SelfishTown", Cond.fieldLinkNest RX9 192 "SelfishTown$Paths" "roads" "[I" "SelfishTown", Cond.fieldLinkNest RX9 317 "SelfishTown$Crowd" "choices" "[I" "SelfishTown", Cond.fieldLinkNest RX9 155 "SelfishTown$Crowd" "uses" "[I" "SelfishTown", Cond.fieldLinkNest RX9 320 "SelfishTown$Survey" "bestHabit" "[I" "SelfishTown", Cond.fieldLinkNest RX9 240 "SelfishTown$Survey" "bestSum" "I" "SelfishTown", Cond.fieldLinkNest RX9 259 "SelfishTown$Survey" "leastMost" "I" "SelfishTown", Cond.fieldLinkNest RX9 247 "SelfishTown$Survey" "restCount" "I" "SelfishTown", Cond.fieldLinkNest RX9 253 "SelfishTown$Survey" "leastRest" "I" "SelfishTown", Cond.fieldLinkNest RX9 256 "SelfishTown$Survey" "greatestRest" "I" "SelfishTown", Cond.fieldLinkNest RX6 100 "SelfishTown$Fraction" "above" "J" "SelfishTown", Cond.fieldLinkNest RX6 89 "SelfishTown$Fraction" "below" "J" "SelfishTown", Cond.fieldLinkNest RX9 296 "SelfishTown$Stream" "level" "LSelfishTown$Fraction;" "SelfishTown", Cond.fieldLinkNest RX9 302 "SelfishTown$Stream" "part" "LSelfishTown$Fraction;" "SelfishTown", Cond.methodLinkNest RX9 11 yX8_init "SelfishTown", Cond.methodLinkNest RX8 23 yX5_init "SelfishTown", Cond.methodLinkNest RX8 24 yX1_init "SelfishTown", Cond.methodLinkNest RX9 18 yX3_init "SelfishTown", Cond.methodLinkNest RX3 17 yX8_init "SelfishTown", Cond.methodLinkNest RX9 25 yX4_init "SelfishTown", Cond.methodLinkNest RX9 35 yX0_init "SelfishTown", Cond.methodLinkNest RX9 47 yX7_init "SelfishTown", Cond.methodLinkNest RX9 54 yX6_init "SelfishTown", Cond.methodLinkNest RX6 11 yX2_init "SelfishTown", Cond.methodLinkNest RX9 63 yX2_init "SelfishTown", Cond.methodLinkNest RX9 80 yX3_keep "SelfishTown", Cond.methodLinkNest RX3 22 yX8_become "SelfishTown", Cond.methodLinkNest RX8 29 yX5_become "SelfishTown", Cond.methodLinkNest RX8 36 yX1_become "SelfishTown", Cond.methodLinkNest RX9 87 yX5_begin "SelfishTown", Cond.methodLinkNest RX9 174 yX4_find "SelfishTown", Cond.methodLinkNest RX4 69 yX9_slotOf "SelfishTown", Cond.methodLinkNest RX9 96 yX8_roadAt "SelfishTown", Cond.methodLinkNest RX9 123 yX5_mostValue "SelfishTown", Cond.methodLinkNest RX9 152 yX0_gather "SelfishTown", Cond.methodLinkNest RX0 48 yX5_time "SelfishTown", Cond.methodLinkNest RX0 85 yX9_slotOf "SelfishTown", Cond.methodLinkNest RX9 158 yX5_time "SelfishTown", Cond.methodLinkNest RX9 169 yX1_begin "SelfishTown", Cond.methodLinkNest RX9 178 yX8_driverAt "SelfishTown", Cond.methodLinkNest RX9 199 yX0_timeOf "SelfishTown", Cond.methodLinkNest RX9 202 yX0_costOf "SelfishTown", Cond.methodLinkNest RX9 205 yX8_isHabit "SelfishTown", Cond.methodLinkNest RX9 209 yX0_sum "SelfishTown", Cond.methodLinkNest RX9 212 yX0_most "SelfishTown", Cond.methodLinkNest RX9 215 yX0_isAtRest "SelfishTown", Cond.methodLinkNest RX9 218 yX0_held "SelfishTown", Cond.methodLinkNest RX9 221 yX0_cheapest "SelfishTown", Cond.methodLinkNest RX9 224 yX4_habitCount "SelfishTown", Cond.methodLinkNest RX9 227 yX0_empty "SelfishTown", Cond.methodLinkNest RX9 230 yX0_goToHabit "SelfishTown", Cond.methodLinkNest RX9 243 yX7_goThrough "SelfishTown", Cond.methodLinkNest RX7 15 yX0_everybody "SelfishTown", Cond.methodLinkNest RX7 38 yX0_goToFirst "SelfishTown", Cond.methodLinkNest RX7 50 yX0_sum "SelfishTown", Cond.methodLinkNest RX7 53 yX0_saveTo "SelfishTown", Cond.methodLinkNest RX7 57 yX0_most "SelfishTown", Cond.methodLinkNest RX7 66 yX0_leastRestless "SelfishTown", Cond.methodLinkNest RX7 46 yX0_goToNext "SelfishTown", Cond.methodLinkNest RX9 323 yX0_putAll "SelfishTown", Cond.methodLinkNest RX9 250 yX0_goToRest "SelfishTown", Cond.methodLinkNest RX9 262 yX2_put "SelfishTown", Cond.methodLinkNest RX9 266 yX2_part "SelfishTown", Cond.methodLinkNest RX9 327 yX4_haveRoad "SelfishTown", Cond.methodLinkNest RX9 273 yX0_leastHeap "SelfishTown", Cond.methodLinkNest RX9 276 yX0_leastRestless "SelfishTown", Cond.methodLinkNest RX9 279 yX0_put "SelfishTown", Cond.methodLinkNest RX9 281 yX5_lesson "SelfishTown", Cond.methodLinkNest RX9 290 yX6_flow "SelfishTown", Cond.methodLinkNest RX6 78 yX2_exceeds "SelfishTown", Cond.methodLinkNest RX6 82 yX2_put "SelfishTown", Cond.methodLinkNest RX9 299 yX6_findShareOf "SelfishTown", Cond.methodLinkNest RX9 305 yX3_takeBack "SelfishTown", Cond.methodLinkNest RX9 308 yX8_openRoads "SelfishTown", Cond.methodLinkNest RX9 311 yX8_tables "SelfishTown", Cond.methodLinkNest RX9 314 yX8_choosers "SelfishTown"]
