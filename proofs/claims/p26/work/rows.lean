section
-- ===== PART A: goes FIRST, ahead of the names: the tables' words, and 'selects' of the private methods out of them =====
/-- a private method of a class that the tables say can be made, by its rows of tables_1 -/
def lw_okq (q : MethodName × Nat) : Prop := (q.1.cls ≠ "java/lang/invoke/MethodHandle" ∧ q.1.cls ≠ "java/lang/invoke/VarHandle") ∧ Cond.instantiable q.1.cls q.2 ∈ tables_1 ∧ Cond.privateMethod q.1 ∈ tables_1 ∧ Cond.instanceMethod q.1 ∈ tables_1
theorem lw_p0 : lw_okq (⟨"PaddleRows", "recorded", "(I)I"⟩, 7) := ⟨⟨by decide +kernel, by decide +kernel⟩, List.mem_of_getElem? (i := 11) (by decide +kernel), List.mem_of_getElem? (i := 228) (by decide +kernel), List.mem_of_getElem? (i := 229) (by decide +kernel)⟩
theorem lw_p1 : lw_okq (⟨"PaddleRows", "peakWithPeriod", "(IIII)I"⟩, 7) := ⟨⟨by decide +kernel, by decide +kernel⟩, List.mem_of_getElem? (i := 11) (by decide +kernel), List.mem_of_getElem? (i := 488) (by decide +kernel), List.mem_of_getElem? (i := 489) (by decide +kernel)⟩
def lw_privs_1 : List (MethodName × Nat) := [(⟨"PaddleRows", "recorded", "(I)I"⟩, 7), (⟨"PaddleRows", "peakWithPeriod", "(IIII)I"⟩, 7)]
theorem lw_r1 : ∀ q ∈ lw_privs_1, lw_okq q := List.forall_mem_cons.mpr ⟨lw_p0, List.forall_mem_cons.mpr ⟨lw_p1, fun _ h => absurd h List.not_mem_nil⟩⟩
def lw_privs : List (MethodName × Nat) := lw_privs_1
def lw_tbl : List Cond := k2_sels lw_privs ++ tables_1
theorem lw_privs_ok : ∀ q ∈ lw_privs, lw_okq q := lw_r1
-- ===== end of PART A
/-! names (out of claim/NAMES.whole.lean.txt: its head of names and its decode rows) -/
def RX0 : String := "PaddleRows$Gauge"
def TX0 : u_T := fun k => match k with
  | 0 => ("PaddleRows$Gauge", "notes", "[I", true)
  | 1 => ("PaddleRows$Gauge", "cell", "I", false)
  | 2 => ("PaddleRows$Gauge", "known", "I", false)
  | _ => ("PaddleRows$Gauge", "next", "I", false)
def tyX0 : Nat → FieldType := fun k => match k with
  | 0 => .array .int
  | 1 => .int
  | 2 => .int
  | _ => .int
theorem nmX0 : ∀ a, a < 4 → ∀ b, b < 4 → a ≠ b → (TX0 a).2.1 ≠ (TX0 b).2.1 := by decide +kernel
theorem tyX0_ok : ∀ k, k < 4 → parseFieldDescriptor (TX0 k).2.2.1 = some (tyX0 k) := by decide +kernel
abbrev cX0_init : ByteArray := prog_2_method_1_code
def yX0_init : MethodName := ⟨RX0, "<init>", "()V"⟩
abbrev cX0_copyFrom : ByteArray := prog_2_method_2_code
def yX0_copyFrom : MethodName := ⟨RX0, "copyFrom", "(LPaddleRows$Gauge;)V"⟩
abbrev cX0_startIn : ByteArray := prog_2_method_3_code
def yX0_startIn : MethodName := ⟨RX0, "startIn", "(I)V"⟩
abbrev cX0_note : ByteArray := prog_2_method_4_code
def yX0_note : MethodName := ⟨RX0, "note", "(I)V"⟩
abbrev cX0_levelAgo : ByteArray := prog_2_method_5_code
def yX0_levelAgo : MethodName := ⟨RX0, "levelAgo", "(I)I"⟩
abbrev cX0_greatest : ByteArray := prog_2_method_6_code
def yX0_greatest : MethodName := ⟨RX0, "greatest", "()I"⟩
abbrev cX0_least : ByteArray := prog_2_method_7_code
def yX0_least : MethodName := ⟨RX0, "least", "()I"⟩
abbrev cX0_rises : ByteArray := prog_2_method_8_code
def yX0_rises : MethodName := ⟨RX0, "rises", "()I"⟩
def RX1 : String := "PaddleRows$History"
def TX1 : u_T := fun k => match k with
  | 0 => ("PaddleRows$History", "states", "[LPaddleRows$Tank;", true)
  | _ => ("PaddleRows$History", "size", "I", false)
def tyX1 : Nat → FieldType := fun k => match k with
  | 0 => .array (.object "PaddleRows$Tank")
  | _ => .int
theorem nmX1 : ∀ a, a < 2 → ∀ b, b < 2 → a ≠ b → (TX1 a).2.1 ≠ (TX1 b).2.1 := by decide +kernel
theorem tyX1_ok : ∀ k, k < 2 → parseFieldDescriptor (TX1 k).2.2.1 = some (tyX1 k) := by decide +kernel
abbrev cX1_init : ByteArray := prog_3_method_1_code
def yX1_init : MethodName := ⟨RX1, "<init>", "()V"⟩
abbrev cX1_push : ByteArray := prog_3_method_2_code
def yX1_push : MethodName := ⟨RX1, "push", "(LPaddleRows$Tank;)V"⟩
abbrev cX1_dropOldest : ByteArray := prog_3_method_3_code
def yX1_dropOldest : MethodName := ⟨RX1, "dropOldest", "()V"⟩
def RX2 : String := "PaddleRows$Pad"
def TX2 : u_T := fun k => match k with
  | 0 => ("PaddleRows$Pad", "signs", "[C", true)
  | 1 => ("PaddleRows$Pad", "length", "I", false)
  | 2 => ("PaddleRows$Pad", "at", "I", false)
  | 3 => ("PaddleRows$Pad", "kind", "I", false)
  | 4 => ("PaddleRows$Pad", "target", "I", false)
  | 5 => ("PaddleRows$Pad", "sort", "I", false)
  | 6 => ("PaddleRows$Pad", "value", "I", false)
  | 7 => ("PaddleRows$Pad", "period", "I", false)
  | _ => ("PaddleRows$Pad", "phase", "I", false)
def tyX2 : Nat → FieldType := fun k => match k with
  | 0 => .array .char
  | 1 => .int
  | 2 => .int
  | 3 => .int
  | 4 => .int
  | 5 => .int
  | 6 => .int
  | 7 => .int
  | _ => .int
theorem nmX2 : ∀ a, a < 9 → ∀ b, b < 9 → a ≠ b → (TX2 a).2.1 ≠ (TX2 b).2.1 := by decide +kernel
theorem tyX2_ok : ∀ k, k < 9 → parseFieldDescriptor (TX2 k).2.2.1 = some (tyX2 k) := by decide +kernel
abbrev cX2_init : ByteArray := prog_4_method_1_code
def yX2_init : MethodName := ⟨RX2, "<init>", "()V"⟩
def RX3 : String := "PaddleRows$Paddle"
def TX3 : u_T := fun k => match k with
  | 0 => ("PaddleRows$Paddle", "cell", "I", false)
  | 1 => ("PaddleRows$Paddle", "sort", "I", false)
  | 2 => ("PaddleRows$Paddle", "height", "I", false)
  | 3 => ("PaddleRows$Paddle", "period", "I", false)
  | 4 => ("PaddleRows$Paddle", "phase", "I", false)
  | _ => ("PaddleRows$Paddle", "goes", "Z", false)
def tyX3 : Nat → FieldType := fun k => match k with
  | 0 => .int
  | 1 => .int
  | 2 => .int
  | 3 => .int
  | 4 => .int
  | _ => .boolean
theorem nmX3 : ∀ a, a < 6 → ∀ b, b < 6 → a ≠ b → (TX3 a).2.1 ≠ (TX3 b).2.1 := by decide +kernel
theorem tyX3_ok : ∀ k, k < 6 → parseFieldDescriptor (TX3 k).2.2.1 = some (tyX3 k) := by decide +kernel
abbrev cX3_init : ByteArray := prog_5_method_1_code
def yX3_init : MethodName := ⟨RX3, "<init>", "()V"⟩
abbrev cX3_copyFrom : ByteArray := prog_5_method_2_code
def yX3_copyFrom : MethodName := ⟨RX3, "copyFrom", "(LPaddleRows$Paddle;)V"⟩
abbrev cX3_isRecipe : ByteArray := prog_5_method_3_code
def yX3_isRecipe : MethodName := ⟨RX3, "isRecipe", "(IIII)Z"⟩
abbrev cX3_pushAt : ByteArray := prog_5_method_4_code
def yX3_pushAt : MethodName := ⟨RX3, "pushAt", "(I)I"⟩
def RX4 : String := "PaddleRows$Tank"
def TX4 : u_T := fun k => match k with
  | 0 => ("PaddleRows$Tank", "settings", "[I", true)
  | 1 => ("PaddleRows$Tank", "levels", "[I", true)
  | 2 => ("PaddleRows$Tank", "speeds", "[I", true)
  | 3 => ("PaddleRows$Tank", "paddles", "[LPaddleRows$Paddle;", true)
  | 4 => ("PaddleRows$Tank", "gauges", "[LPaddleRows$Gauge;", true)
  | 5 => ("PaddleRows$Tank", "paddleCount", "I", false)
  | 6 => ("PaddleRows$Tank", "gaugeCount", "I", false)
  | _ => ("PaddleRows$Tank", "steps", "I", false)
def tyX4 : Nat → FieldType := fun k => match k with
  | 0 => .array .int
  | 1 => .array .int
  | 2 => .array .int
  | 3 => .array (.object "PaddleRows$Paddle")
  | 4 => .array (.object "PaddleRows$Gauge")
  | 5 => .int
  | 6 => .int
  | _ => .int
theorem nmX4 : ∀ a, a < 8 → ∀ b, b < 8 → a ≠ b → (TX4 a).2.1 ≠ (TX4 b).2.1 := by decide +kernel
theorem tyX4_ok : ∀ k, k < 8 → parseFieldDescriptor (TX4 k).2.2.1 = some (tyX4 k) := by decide +kernel
abbrev cX4_init : ByteArray := prog_6_method_1_code
def yX4_init : MethodName := ⟨RX4, "<init>", "()V"⟩
abbrev cX4_copyFrom : ByteArray := prog_6_method_2_code
def yX4_copyFrom : MethodName := ⟨RX4, "copyFrom", "(LPaddleRows$Tank;)V"⟩
abbrev cX4_changeSetting : ByteArray := prog_6_method_3_code
def yX4_changeSetting : MethodName := ⟨RX4, "changeSetting", "(II)I"⟩
abbrev cX4_placePaddle : ByteArray := prog_6_method_4_code
def yX4_placePaddle : MethodName := ⟨RX4, "placePaddle", "(IIIII)I"⟩
abbrev cX4_rankIn : ByteArray := prog_6_method_5_code
def yX4_rankIn : MethodName := ⟨RX4, "rankIn", "(I)I"⟩
abbrev cX4_openRank : ByteArray := prog_6_method_6_code
def yX4_openRank : MethodName := ⟨RX4, "openRank", "(I)I"⟩
abbrev cX4_removePaddle : ByteArray := prog_6_method_7_code
def yX4_removePaddle : MethodName := ⟨RX4, "removePaddle", "(I)I"⟩
abbrev cX4_startPaddle : ByteArray := prog_6_method_8_code
def yX4_startPaddle : MethodName := ⟨RX4, "startPaddle", "(I)I"⟩
abbrev cX4_placeGauge : ByteArray := prog_6_method_9_code
def yX4_placeGauge : MethodName := ⟨RX4, "placeGauge", "(I)I"⟩
abbrev cX4_changeLevel : ByteArray := prog_6_method_10_code
def yX4_changeLevel : MethodName := ⟨RX4, "changeLevel", "(II)I"⟩
abbrev cX4_passSteps : ByteArray := prog_6_method_11_code
def yX4_passSteps : MethodName := ⟨RX4, "passSteps", "(I)I"⟩
abbrev cX4_step : ByteArray := prog_6_method_12_code
def yX4_step : MethodName := ⟨RX4, "step", "()I"⟩
abbrev cX4_movePaddles : ByteArray := prog_6_method_13_code
def yX4_movePaddles : MethodName := ⟨RX4, "movePaddles", "()I"⟩
abbrev cX4_moveWater : ByteArray := prog_6_method_14_code
def yX4_moveWater : MethodName := ⟨RX4, "moveWater", "()V"⟩
abbrev cX4_calmBeach : ByteArray := prog_6_method_15_code
def yX4_calmBeach : MethodName := ⟨RX4, "calmBeach", "()V"⟩
abbrev cX4_isCrest : ByteArray := prog_6_method_16_code
def yX4_isCrest : MethodName := ⟨RX4, "isCrest", "(I)Z"⟩
abbrev cX4_isTrough : ByteArray := prog_6_method_17_code
def yX4_isTrough : MethodName := ⟨RX4, "isTrough", "(I)Z"⟩
abbrev cX4_isCalm : ByteArray := prog_6_method_18_code
def yX4_isCalm : MethodName := ⟨RX4, "isCalm", "()Z"⟩
abbrev cX4_cellsThatAre : ByteArray := prog_6_method_19_code
def yX4_cellsThatAre : MethodName := ⟨RX4, "cellsThatAre", "(I)J"⟩
abbrev cX4_isPlace : ByteArray := prog_6_method_20_code
def yX4_isPlace : MethodName := ⟨RX4, "isPlace", "(II)Z"⟩
abbrev cX4_sumOfLevels : ByteArray := prog_6_method_21_code
def yX4_sumOfLevels : MethodName := ⟨RX4, "sumOfLevels", "()I"⟩
abbrev cX4_motion : ByteArray := prog_6_method_22_code
def yX4_motion : MethodName := ⟨RX4, "motion", "()I"⟩
abbrev cX4_farthestLevel : ByteArray := prog_6_method_23_code
def yX4_farthestLevel : MethodName := ⟨RX4, "farthestLevel", "()I"⟩
abbrev cX4_lastUnevenCell : ByteArray := prog_6_method_24_code
def yX4_lastUnevenCell : MethodName := ⟨RX4, "lastUnevenCell", "()I"⟩
def RX5 : String := "PaddleRows"
def TX5 : u_T := fun k => match k with
  | 0 => ("PaddleRows", "tank", "LPaddleRows$Tank;", true)
  | 1 => ("PaddleRows", "pad", "LPaddleRows$Pad;", true)
  | 2 => ("PaddleRows", "history", "LPaddleRows$History;", true)
  | 3 => ("PaddleRows", "slots", "[LPaddleRows$Tank;", true)
  | 4 => ("PaddleRows", "slotFilled", "[Z", true)
  | 5 => ("PaddleRows", "before", "LPaddleRows$Tank;", true)
  | _ => ("PaddleRows", "trial", "LPaddleRows$Tank;", true)
def tyX5 : Nat → FieldType := fun k => match k with
  | 0 => .object "PaddleRows$Tank"
  | 1 => .object "PaddleRows$Pad"
  | 2 => .object "PaddleRows$History"
  | 3 => .array (.object "PaddleRows$Tank")
  | 4 => .array .boolean
  | 5 => .object "PaddleRows$Tank"
  | _ => .object "PaddleRows$Tank"
theorem nmX5 : ∀ a, a < 7 → ∀ b, b < 7 → a ≠ b → (TX5 a).2.1 ≠ (TX5 b).2.1 := by decide +kernel
theorem tyX5_ok : ∀ k, k < 7 → parseFieldDescriptor (TX5 k).2.2.1 = some (tyX5 k) := by decide +kernel
abbrev cX5_init : ByteArray := prog_1_method_1_code
def yX5_init : MethodName := ⟨RX5, "<init>", "()V"⟩
abbrev cX5_set : ByteArray := prog_1_method_2_code
def yX5_set : MethodName := ⟨RX5, "set", "(II)I"⟩
abbrev cX5_paddle : ByteArray := prog_1_method_3_code
def yX5_paddle : MethodName := ⟨RX5, "paddle", "(IIIII)I"⟩
abbrev cX5_lift : ByteArray := prog_1_method_4_code
def yX5_lift : MethodName := ⟨RX5, "lift", "(I)I"⟩
abbrev cX5_again : ByteArray := prog_1_method_5_code
def yX5_again : MethodName := ⟨RX5, "again", "(I)I"⟩
abbrev cX5_gauge : ByteArray := prog_1_method_6_code
def yX5_gauge : MethodName := ⟨RX5, "gauge", "(I)I"⟩
abbrev cX5_level : ByteArray := prog_1_method_7_code
def yX5_level : MethodName := ⟨RX5, "level", "(II)I"⟩
abbrev cX5_pass : ByteArray := prog_1_method_8_code
def yX5_pass : MethodName := ⟨RX5, "pass", "(I)I"⟩
abbrev cX5_recorded : ByteArray := prog_1_method_9_code
def yX5_recorded : MethodName := ⟨RX5, "recorded", "(I)I"⟩
abbrev cX5_cell : ByteArray := prog_1_method_10_code
def yX5_cell : MethodName := ⟨RX5, "cell", "(II)I"⟩
abbrev cX5_ofPaddle : ByteArray := prog_1_method_11_code
def yX5_ofPaddle : MethodName := ⟨RX5, "ofPaddle", "(II)I"⟩
abbrev cX5_ofGauge : ByteArray := prog_1_method_12_code
def yX5_ofGauge : MethodName := ⟨RX5, "ofGauge", "(II)I"⟩
abbrev cX5_noted : ByteArray := prog_1_method_13_code
def yX5_noted : MethodName := ⟨RX5, "noted", "(II)I"⟩
abbrev cX5_places : ByteArray := prog_1_method_14_code
def yX5_places : MethodName := ⟨RX5, "places", "(I)J"⟩
abbrev cX5_count : ByteArray := prog_1_method_15_code
def yX5_count : MethodName := ⟨RX5, "count", "(I)I"⟩
abbrev cX5_reaches : ByteArray := prog_1_method_16_code
def yX5_reaches : MethodName := ⟨RX5, "reaches", "(II)I"⟩
abbrev cX5_bestPeriod : ByteArray := prog_1_method_17_code
def yX5_bestPeriod : MethodName := ⟨RX5, "bestPeriod", "(IIII)I"⟩
abbrev cX5_peakWithPeriod : ByteArray := prog_1_method_18_code
def yX5_peakWithPeriod : MethodName := ⟨RX5, "peakWithPeriod", "(IIII)I"⟩
abbrev cX5_calmIn : ByteArray := prog_1_method_19_code
def yX5_calmIn : MethodName := ⟨RX5, "calmIn", "()I"⟩
abbrev cX5_isOutside : ByteArray := prog_1_method_29_code
def yX5_isOutside : MethodName := ⟨RX5, "isOutside", "(II)Z"⟩
abbrev cX5_asNumber : ByteArray := prog_1_method_30_code
def yX5_asNumber : MethodName := ⟨RX5, "asNumber", "(Z)I"⟩
abbrev cX5_withinBounds : ByteArray := prog_1_method_31_code
def yX5_withinBounds : MethodName := ⟨RX5, "withinBounds", "(I)I"⟩
def RX6 : String := "PaddleRowsModel"
def TX6 : u_T := fun k => match k with
  | _ => ("", "", "", false)
def tyX6 : Nat → FieldType := fun k => match k with
  | _ => .int
theorem nmX6 : ∀ a, a < 0 → ∀ b, b < 0 → a ≠ b → (TX6 a).2.1 ≠ (TX6 b).2.1 := by decide +kernel
theorem tyX6_ok : ∀ k, k < 0 → parseFieldDescriptor (TX6 k).2.2.1 = some (tyX6 k) := by decide +kernel
def RJ13 : String := "java/lang/Long"
abbrev cJ13_bitCount_95d88 : ByteArray := prog_10_method_50_code
def yJ13_bitCount_95d88 : MethodName := ⟨RJ13, "bitCount", "(J)I"⟩
def RJ9 : String := "java/lang/Math"
abbrev cJ9_floorMod_7cf53 : ByteArray := prog_11_method_50_code
def yJ9_floorMod_7cf53 : MethodName := ⟨RJ9, "floorMod", "(II)I"⟩
abbrev cJ9_abs_0f7a4 : ByteArray := prog_11_method_59_code
def yJ9_abs_0f7a4 : MethodName := ⟨RJ9, "abs", "(I)I"⟩
abbrev cJ9_max_7cf53 : ByteArray := prog_11_method_65_code
def yJ9_max_7cf53 : MethodName := ⟨RJ9, "max", "(II)I"⟩
abbrev cJ9_min_7cf53 : ByteArray := prog_11_method_69_code
def yJ9_min_7cf53 : MethodName := ⟨RJ9, "min", "(II)I"⟩
def RJ10 : String := "java/lang/System"
def RL : String := "PaddleRowsLaw"
abbrev cL_cell : ByteArray := method_2_code
def yL_cell : MethodName := ⟨RL, "cell", "([II)I"⟩
abbrev cL_low : ByteArray := method_3_code
def yL_low : MethodName := ⟨RL, "low", "(II)I"⟩
abbrev cL_bound : ByteArray := method_4_code
def yL_bound : MethodName := ⟨RL, "bound", "(I)I"⟩
abbrev cL_abs : ByteArray := method_5_code
def yL_abs : MethodName := ⟨RL, "abs", "(I)I"⟩
abbrev cL_push : ByteArray := method_6_code
def yL_push : MethodName := ⟨RL, "push", "(I[I[I)I"⟩
abbrev cL_step : ByteArray := method_7_code
def yL_step : MethodName := ⟨RL, "step", "([I[I[I[I[I)I"⟩
abbrev cL_same : ByteArray := method_8_code
def yL_same : MethodName := ⟨RL, "same", "(LPaddleRows;I[I[I[I[I[I[I[I)Z"⟩
abbrev cL_copy : ByteArray := method_9_code
def yL_copy : MethodName := ⟨RL, "copy", "([I[II)V"⟩
abbrev cL_would : ByteArray := method_10_code
def yL_would : MethodName := ⟨RL, "would", "(LPaddleRows;I[I[I[I[I[I[I[I[I[I[I)Z"⟩
abbrev cL_law : ByteArray := code
def yL_law : MethodName := ⟨RL, "law", "([I)Z"⟩
abbrev vwCl : List vw_C := [(RX0, TX0, 4), (RX1, TX1, 2), (RX2, TX2, 9), (RX3, TX3, 6), (RX4, TX4, 8), (RX5, TX5, 7)]
/-- a method: its name, its code, the size of its locals, what it returns -/
abbrev Mt : Type := MethodName × ByteArray × Nat × Option FieldType
abbrev mX0_init : Mt := (yX0_init, cX0_init, 1, none)
abbrev mX0_copyFrom : Mt := (yX0_copyFrom, cX0_copyFrom, 2, none)
abbrev mX0_startIn : Mt := (yX0_startIn, cX0_startIn, 2, none)
abbrev mX0_note : Mt := (yX0_note, cX0_note, 2, none)
abbrev mX0_levelAgo : Mt := (yX0_levelAgo, cX0_levelAgo, 2, (some .int))
abbrev mX0_greatest : Mt := (yX0_greatest, cX0_greatest, 3, (some .int))
abbrev mX0_least : Mt := (yX0_least, cX0_least, 3, (some .int))
abbrev mX0_rises : Mt := (yX0_rises, cX0_rises, 3, (some .int))
abbrev mX1_init : Mt := (yX1_init, cX1_init, 2, none)
abbrev mX1_push : Mt := (yX1_push, cX1_push, 2, none)
abbrev mX1_dropOldest : Mt := (yX1_dropOldest, cX1_dropOldest, 3, none)
abbrev mX2_init : Mt := (yX2_init, cX2_init, 1, none)
abbrev mX3_init : Mt := (yX3_init, cX3_init, 1, none)
abbrev mX3_copyFrom : Mt := (yX3_copyFrom, cX3_copyFrom, 2, none)
abbrev mX3_isRecipe : Mt := (yX3_isRecipe, cX3_isRecipe, 4, (some .boolean))
abbrev mX3_pushAt : Mt := (yX3_pushAt, cX3_pushAt, 3, (some .int))
abbrev mX4_init : Mt := (yX4_init, cX4_init, 2, none)
abbrev mX4_copyFrom : Mt := (yX4_copyFrom, cX4_copyFrom, 3, none)
abbrev mX4_changeSetting : Mt := (yX4_changeSetting, cX4_changeSetting, 4, (some .int))
abbrev mX4_placePaddle : Mt := (yX4_placePaddle, cX4_placePaddle, 8, (some .int))
abbrev mX4_rankIn : Mt := (yX4_rankIn, cX4_rankIn, 3, (some .int))
abbrev mX4_openRank : Mt := (yX4_openRank, cX4_openRank, 4, (some .int))
abbrev mX4_removePaddle : Mt := (yX4_removePaddle, cX4_removePaddle, 5, (some .int))
abbrev mX4_startPaddle : Mt := (yX4_startPaddle, cX4_startPaddle, 4, (some .int))
abbrev mX4_placeGauge : Mt := (yX4_placeGauge, cX4_placeGauge, 2, (some .int))
abbrev mX4_changeLevel : Mt := (yX4_changeLevel, cX4_changeLevel, 4, (some .int))
abbrev mX4_passSteps : Mt := (yX4_passSteps, cX4_passSteps, 4, (some .int))
abbrev mX4_step : Mt := (yX4_step, cX4_step, 3, (some .int))
abbrev mX4_movePaddles : Mt := (yX4_movePaddles, cX4_movePaddles, 4, (some .int))
abbrev mX4_moveWater : Mt := (yX4_moveWater, cX4_moveWater, 6, none)
abbrev mX4_calmBeach : Mt := (yX4_calmBeach, cX4_calmBeach, 3, none)
abbrev mX4_isCrest : Mt := (yX4_isCrest, cX4_isCrest, 2, (some .boolean))
abbrev mX4_isTrough : Mt := (yX4_isTrough, cX4_isTrough, 2, (some .boolean))
abbrev mX4_isCalm : Mt := (yX4_isCalm, cX4_isCalm, 2, (some .boolean))
abbrev mX4_cellsThatAre : Mt := (yX4_cellsThatAre, cX4_cellsThatAre, 5, (some .long))
abbrev mX4_isPlace : Mt := (yX4_isPlace, cX4_isPlace, 4, (some .boolean))
abbrev mX4_sumOfLevels : Mt := (yX4_sumOfLevels, cX4_sumOfLevels, 3, (some .int))
abbrev mX4_motion : Mt := (yX4_motion, cX4_motion, 3, (some .int))
abbrev mX4_farthestLevel : Mt := (yX4_farthestLevel, cX4_farthestLevel, 3, (some .int))
abbrev mX4_lastUnevenCell : Mt := (yX4_lastUnevenCell, cX4_lastUnevenCell, 2, (some .int))
abbrev mX5_init : Mt := (yX5_init, cX5_init, 2, none)
abbrev mX5_set : Mt := (yX5_set, cX5_set, 3, (some .int))
abbrev mX5_paddle : Mt := (yX5_paddle, cX5_paddle, 6, (some .int))
abbrev mX5_lift : Mt := (yX5_lift, cX5_lift, 2, (some .int))
abbrev mX5_again : Mt := (yX5_again, cX5_again, 2, (some .int))
abbrev mX5_gauge : Mt := (yX5_gauge, cX5_gauge, 2, (some .int))
abbrev mX5_level : Mt := (yX5_level, cX5_level, 3, (some .int))
abbrev mX5_pass : Mt := (yX5_pass, cX5_pass, 2, (some .int))
abbrev mX5_recorded : Mt := (yX5_recorded, cX5_recorded, 2, (some .int))
abbrev mX5_cell : Mt := (yX5_cell, cX5_cell, 3, (some .int))
abbrev mX5_ofPaddle : Mt := (yX5_ofPaddle, cX5_ofPaddle, 4, (some .int))
abbrev mX5_ofGauge : Mt := (yX5_ofGauge, cX5_ofGauge, 4, (some .int))
abbrev mX5_noted : Mt := (yX5_noted, cX5_noted, 4, (some .int))
abbrev mX5_places : Mt := (yX5_places, cX5_places, 2, (some .long))
abbrev mX5_count : Mt := (yX5_count, cX5_count, 2, (some .int))
abbrev mX5_reaches : Mt := (yX5_reaches, cX5_reaches, 4, (some .int))
abbrev mX5_bestPeriod : Mt := (yX5_bestPeriod, cX5_bestPeriod, 9, (some .int))
abbrev mX5_peakWithPeriod : Mt := (yX5_peakWithPeriod, cX5_peakWithPeriod, 7, (some .int))
abbrev mX5_calmIn : Mt := (yX5_calmIn, cX5_calmIn, 2, (some .int))
abbrev mX5_isOutside : Mt := (yX5_isOutside, cX5_isOutside, 2, (some .boolean))
abbrev mX5_asNumber : Mt := (yX5_asNumber, cX5_asNumber, 1, (some .int))
abbrev mX5_withinBounds : Mt := (yX5_withinBounds, cX5_withinBounds, 1, (some .int))
abbrev mJ13_bitCount_95d88 : Mt := (yJ13_bitCount_95d88, cJ13_bitCount_95d88, 2, (some .int))
abbrev mJ9_floorMod_7cf53 : Mt := (yJ9_floorMod_7cf53, cJ9_floorMod_7cf53, 3, (some .int))
abbrev mJ9_abs_0f7a4 : Mt := (yJ9_abs_0f7a4, cJ9_abs_0f7a4, 1, (some .int))
abbrev mJ9_max_7cf53 : Mt := (yJ9_max_7cf53, cJ9_max_7cf53, 2, (some .int))
abbrev mJ9_min_7cf53 : Mt := (yJ9_min_7cf53, cJ9_min_7cf53, 2, (some .int))
abbrev mL_cell : Mt := (yL_cell, cL_cell, 2, (some .int))
abbrev mL_low : Mt := (yL_low, cL_low, 2, (some .int))
abbrev mL_bound : Mt := (yL_bound, cL_bound, 1, (some .int))
abbrev mL_abs : Mt := (yL_abs, cL_abs, 1, (some .int))
abbrev mL_push : Mt := (yL_push, cL_push, 6, (some .int))
abbrev mL_step : Mt := (yL_step, cL_step, 11, (some .int))
abbrev mL_same : Mt := (yL_same, cL_same, 31, (some .boolean))
abbrev mL_copy : Mt := (yL_copy, cL_copy, 4, none)
abbrev mL_would : Mt := (yL_would, cL_would, 24, (some .boolean))
abbrev mL_law : Mt := (yL_law, cL_law, 27, some .boolean)
end
section
theorem dX0_init_0 : decode cX0_init 0 = .ok (.aload_n 0, 1) := by decide +kernel
theorem dX0_init_1 : decode cX0_init 1 = .ok (.invokespecial 3, 3) := by decide +kernel
theorem dX0_init_4 : decode cX0_init 4 = .ok (.aload_n 0, 1) := by decide +kernel
theorem dX0_init_5 : decode cX0_init 5 = .ok (.bipush 60, 2) := by decide +kernel
theorem dX0_init_7 : decode cX0_init 7 = .ok (.newarray .int, 2) := by decide +kernel
theorem dX0_init_9 : decode cX0_init 9 = .ok (.putfield 9, 3) := by decide +kernel
theorem dX0_init_12 : decode cX0_init 12 = .ok (.return_, 1) := by decide +kernel
theorem dX0_copyFrom_0 : decode cX0_copyFrom 0 = .ok (.aload_n 1, 1) := by decide +kernel
theorem dX0_copyFrom_1 : decode cX0_copyFrom 1 = .ok (.getfield 9, 3) := by decide +kernel
theorem dX0_copyFrom_4 : decode cX0_copyFrom 4 = .ok (.iconst 0, 1) := by decide +kernel
theorem dX0_copyFrom_5 : decode cX0_copyFrom 5 = .ok (.aload_n 0, 1) := by decide +kernel
theorem dX0_copyFrom_6 : decode cX0_copyFrom 6 = .ok (.getfield 9, 3) := by decide +kernel
theorem dX0_copyFrom_9 : decode cX0_copyFrom 9 = .ok (.iconst 0, 1) := by decide +kernel
theorem dX0_copyFrom_10 : decode cX0_copyFrom 10 = .ok (.bipush 60, 2) := by decide +kernel
theorem dX0_copyFrom_12 : decode cX0_copyFrom 12 = .ok (.invokestatic 15, 3) := by decide +kernel
theorem dX0_copyFrom_15 : decode cX0_copyFrom 15 = .ok (.aload_n 0, 1) := by decide +kernel
theorem dX0_copyFrom_16 : decode cX0_copyFrom 16 = .ok (.aload_n 1, 1) := by decide +kernel
theorem dX0_copyFrom_17 : decode cX0_copyFrom 17 = .ok (.getfield 21, 3) := by decide +kernel
theorem dX0_copyFrom_20 : decode cX0_copyFrom 20 = .ok (.putfield 21, 3) := by decide +kernel
theorem dX0_copyFrom_23 : decode cX0_copyFrom 23 = .ok (.aload_n 0, 1) := by decide +kernel
theorem dX0_copyFrom_24 : decode cX0_copyFrom 24 = .ok (.aload_n 1, 1) := by decide +kernel
theorem dX0_copyFrom_25 : decode cX0_copyFrom 25 = .ok (.getfield 25, 3) := by decide +kernel
theorem dX0_copyFrom_28 : decode cX0_copyFrom 28 = .ok (.putfield 25, 3) := by decide +kernel
theorem dX0_copyFrom_31 : decode cX0_copyFrom 31 = .ok (.aload_n 0, 1) := by decide +kernel
theorem dX0_copyFrom_32 : decode cX0_copyFrom 32 = .ok (.aload_n 1, 1) := by decide +kernel
theorem dX0_copyFrom_33 : decode cX0_copyFrom 33 = .ok (.getfield 28, 3) := by decide +kernel
theorem dX0_copyFrom_36 : decode cX0_copyFrom 36 = .ok (.putfield 28, 3) := by decide +kernel
theorem dX0_copyFrom_39 : decode cX0_copyFrom 39 = .ok (.return_, 1) := by decide +kernel
theorem dX0_startIn_0 : decode cX0_startIn 0 = .ok (.aload_n 0, 1) := by decide +kernel
theorem dX0_startIn_1 : decode cX0_startIn 1 = .ok (.iload_n 1, 1) := by decide +kernel
theorem dX0_startIn_2 : decode cX0_startIn 2 = .ok (.putfield 21, 3) := by decide +kernel
theorem dX0_startIn_5 : decode cX0_startIn 5 = .ok (.aload_n 0, 1) := by decide +kernel
theorem dX0_startIn_6 : decode cX0_startIn 6 = .ok (.iconst 0, 1) := by decide +kernel
theorem dX0_startIn_7 : decode cX0_startIn 7 = .ok (.putfield 25, 3) := by decide +kernel
theorem dX0_startIn_10 : decode cX0_startIn 10 = .ok (.aload_n 0, 1) := by decide +kernel
theorem dX0_startIn_11 : decode cX0_startIn 11 = .ok (.iconst 0, 1) := by decide +kernel
theorem dX0_startIn_12 : decode cX0_startIn 12 = .ok (.putfield 28, 3) := by decide +kernel
theorem dX0_startIn_15 : decode cX0_startIn 15 = .ok (.return_, 1) := by decide +kernel
theorem dX0_note_0 : decode cX0_note 0 = .ok (.aload_n 0, 1) := by decide +kernel
theorem dX0_note_1 : decode cX0_note 1 = .ok (.getfield 9, 3) := by decide +kernel
theorem dX0_note_4 : decode cX0_note 4 = .ok (.aload_n 0, 1) := by decide +kernel
theorem dX0_note_5 : decode cX0_note 5 = .ok (.getfield 28, 3) := by decide +kernel
theorem dX0_note_8 : decode cX0_note 8 = .ok (.iload_n 1, 1) := by decide +kernel
theorem dX0_note_9 : decode cX0_note 9 = .ok (.iastore, 1) := by decide +kernel
theorem dX0_note_10 : decode cX0_note 10 = .ok (.aload_n 0, 1) := by decide +kernel
theorem dX0_note_11 : decode cX0_note 11 = .ok (.aload_n 0, 1) := by decide +kernel
theorem dX0_note_12 : decode cX0_note 12 = .ok (.getfield 28, 3) := by decide +kernel
theorem dX0_note_15 : decode cX0_note 15 = .ok (.iconst 1, 1) := by decide +kernel
theorem dX0_note_16 : decode cX0_note 16 = .ok (.iadd, 1) := by decide +kernel
theorem dX0_note_17 : decode cX0_note 17 = .ok (.bipush 60, 2) := by decide +kernel
theorem dX0_note_19 : decode cX0_note 19 = .ok (.irem, 1) := by decide +kernel
theorem dX0_note_20 : decode cX0_note 20 = .ok (.putfield 28, 3) := by decide +kernel
theorem dX0_note_23 : decode cX0_note 23 = .ok (.aload_n 0, 1) := by decide +kernel
theorem dX0_note_24 : decode cX0_note 24 = .ok (.aload_n 0, 1) := by decide +kernel
theorem dX0_note_25 : decode cX0_note 25 = .ok (.getfield 25, 3) := by decide +kernel
theorem dX0_note_28 : decode cX0_note 28 = .ok (.iconst 1, 1) := by decide +kernel
theorem dX0_note_29 : decode cX0_note 29 = .ok (.iadd, 1) := by decide +kernel
theorem dX0_note_30 : decode cX0_note 30 = .ok (.bipush 60, 2) := by decide +kernel
theorem dX0_note_32 : decode cX0_note 32 = .ok (.invokestatic 31, 3) := by decide +kernel
theorem dX0_note_35 : decode cX0_note 35 = .ok (.putfield 25, 3) := by decide +kernel
theorem dX0_note_38 : decode cX0_note 38 = .ok (.return_, 1) := by decide +kernel
theorem dX0_levelAgo_0 : decode cX0_levelAgo 0 = .ok (.aload_n 0, 1) := by decide +kernel
theorem dX0_levelAgo_1 : decode cX0_levelAgo 1 = .ok (.getfield 9, 3) := by decide +kernel
theorem dX0_levelAgo_4 : decode cX0_levelAgo 4 = .ok (.aload_n 0, 1) := by decide +kernel
theorem dX0_levelAgo_5 : decode cX0_levelAgo 5 = .ok (.getfield 28, 3) := by decide +kernel
theorem dX0_levelAgo_8 : decode cX0_levelAgo 8 = .ok (.iconst 1, 1) := by decide +kernel
theorem dX0_levelAgo_9 : decode cX0_levelAgo 9 = .ok (.isub, 1) := by decide +kernel
theorem dX0_levelAgo_10 : decode cX0_levelAgo 10 = .ok (.iload_n 1, 1) := by decide +kernel
theorem dX0_levelAgo_11 : decode cX0_levelAgo 11 = .ok (.isub, 1) := by decide +kernel
theorem dX0_levelAgo_12 : decode cX0_levelAgo 12 = .ok (.bipush 60, 2) := by decide +kernel
theorem dX0_levelAgo_14 : decode cX0_levelAgo 14 = .ok (.invokestatic 37, 3) := by decide +kernel
theorem dX0_levelAgo_17 : decode cX0_levelAgo 17 = .ok (.iaload, 1) := by decide +kernel
theorem dX0_levelAgo_18 : decode cX0_levelAgo 18 = .ok (.ireturn, 1) := by decide +kernel
theorem dX0_greatest_0 : decode cX0_greatest 0 = .ok (.sipush (-9999), 3) := by decide +kernel
theorem dX0_greatest_3 : decode cX0_greatest 3 = .ok (.istore_n 1, 1) := by decide +kernel
theorem dX0_greatest_4 : decode cX0_greatest 4 = .ok (.iconst 0, 1) := by decide +kernel
theorem dX0_greatest_5 : decode cX0_greatest 5 = .ok (.istore_n 2, 1) := by decide +kernel
theorem dX0_greatest_6 : decode cX0_greatest 6 = .ok (.iload_n 2, 1) := by decide +kernel
theorem dX0_greatest_7 : decode cX0_greatest 7 = .ok (.aload_n 0, 1) := by decide +kernel
theorem dX0_greatest_8 : decode cX0_greatest 8 = .ok (.getfield 25, 3) := by decide +kernel
theorem dX0_greatest_11 : decode cX0_greatest 11 = .ok (.if_icmp .ge 19, 3) := by decide +kernel
theorem dX0_greatest_14 : decode cX0_greatest 14 = .ok (.iload_n 1, 1) := by decide +kernel
theorem dX0_greatest_15 : decode cX0_greatest 15 = .ok (.aload_n 0, 1) := by decide +kernel
theorem dX0_greatest_16 : decode cX0_greatest 16 = .ok (.iload_n 2, 1) := by decide +kernel
theorem dX0_greatest_17 : decode cX0_greatest 17 = .ok (.invokevirtual 40, 3) := by decide +kernel
theorem dX0_greatest_20 : decode cX0_greatest 20 = .ok (.invokestatic 44, 3) := by decide +kernel
theorem dX0_greatest_23 : decode cX0_greatest 23 = .ok (.istore_n 1, 1) := by decide +kernel
theorem dX0_greatest_24 : decode cX0_greatest 24 = .ok (.iinc 2 1, 3) := by decide +kernel
theorem dX0_greatest_27 : decode cX0_greatest 27 = .ok (.goto (-21), 3) := by decide +kernel
theorem dX0_greatest_30 : decode cX0_greatest 30 = .ok (.iload_n 1, 1) := by decide +kernel
theorem dX0_greatest_31 : decode cX0_greatest 31 = .ok (.ireturn, 1) := by decide +kernel
theorem dX0_least_0 : decode cX0_least 0 = .ok (.sipush 9999, 3) := by decide +kernel
theorem dX0_least_3 : decode cX0_least 3 = .ok (.istore_n 1, 1) := by decide +kernel
theorem dX0_least_4 : decode cX0_least 4 = .ok (.iconst 0, 1) := by decide +kernel
theorem dX0_least_5 : decode cX0_least 5 = .ok (.istore_n 2, 1) := by decide +kernel
theorem dX0_least_6 : decode cX0_least 6 = .ok (.iload_n 2, 1) := by decide +kernel
theorem dX0_least_7 : decode cX0_least 7 = .ok (.aload_n 0, 1) := by decide +kernel
theorem dX0_least_8 : decode cX0_least 8 = .ok (.getfield 25, 3) := by decide +kernel
theorem dX0_least_11 : decode cX0_least 11 = .ok (.if_icmp .ge 19, 3) := by decide +kernel
theorem dX0_least_14 : decode cX0_least 14 = .ok (.iload_n 1, 1) := by decide +kernel
theorem dX0_least_15 : decode cX0_least 15 = .ok (.aload_n 0, 1) := by decide +kernel
theorem dX0_least_16 : decode cX0_least 16 = .ok (.iload_n 2, 1) := by decide +kernel
theorem dX0_least_17 : decode cX0_least 17 = .ok (.invokevirtual 40, 3) := by decide +kernel
theorem dX0_least_20 : decode cX0_least 20 = .ok (.invokestatic 31, 3) := by decide +kernel
theorem dX0_least_23 : decode cX0_least 23 = .ok (.istore_n 1, 1) := by decide +kernel
theorem dX0_least_24 : decode cX0_least 24 = .ok (.iinc 2 1, 3) := by decide +kernel
theorem dX0_least_27 : decode cX0_least 27 = .ok (.goto (-21), 3) := by decide +kernel
theorem dX0_least_30 : decode cX0_least 30 = .ok (.iload_n 1, 1) := by decide +kernel
theorem dX0_least_31 : decode cX0_least 31 = .ok (.ireturn, 1) := by decide +kernel
theorem dX0_rises_0 : decode cX0_rises 0 = .ok (.iconst 0, 1) := by decide +kernel
theorem dX0_rises_1 : decode cX0_rises 1 = .ok (.istore_n 1, 1) := by decide +kernel
theorem dX0_rises_2 : decode cX0_rises 2 = .ok (.iconst 0, 1) := by decide +kernel
theorem dX0_rises_3 : decode cX0_rises 3 = .ok (.istore_n 2, 1) := by decide +kernel
theorem dX0_rises_4 : decode cX0_rises 4 = .ok (.iload_n 2, 1) := by decide +kernel
theorem dX0_rises_5 : decode cX0_rises 5 = .ok (.iconst 1, 1) := by decide +kernel
theorem dX0_rises_6 : decode cX0_rises 6 = .ok (.iadd, 1) := by decide +kernel
theorem dX0_rises_7 : decode cX0_rises 7 = .ok (.aload_n 0, 1) := by decide +kernel
theorem dX0_rises_8 : decode cX0_rises 8 = .ok (.getfield 25, 3) := by decide +kernel
theorem dX0_rises_11 : decode cX0_rises 11 = .ok (.if_icmp .ge 30, 3) := by decide +kernel
theorem dX0_rises_14 : decode cX0_rises 14 = .ok (.aload_n 0, 1) := by decide +kernel
theorem dX0_rises_15 : decode cX0_rises 15 = .ok (.iload_n 2, 1) := by decide +kernel
theorem dX0_rises_16 : decode cX0_rises 16 = .ok (.invokevirtual 40, 3) := by decide +kernel
theorem dX0_rises_19 : decode cX0_rises 19 = .ok (.ifCond .lt 16, 3) := by decide +kernel
theorem dX0_rises_22 : decode cX0_rises 22 = .ok (.aload_n 0, 1) := by decide +kernel
theorem dX0_rises_23 : decode cX0_rises 23 = .ok (.iload_n 2, 1) := by decide +kernel
theorem dX0_rises_24 : decode cX0_rises 24 = .ok (.iconst 1, 1) := by decide +kernel
theorem dX0_rises_25 : decode cX0_rises 25 = .ok (.iadd, 1) := by decide +kernel
theorem dX0_rises_26 : decode cX0_rises 26 = .ok (.invokevirtual 40, 3) := by decide +kernel
theorem dX0_rises_29 : decode cX0_rises 29 = .ok (.ifCond .ge 6, 3) := by decide +kernel
theorem dX0_rises_32 : decode cX0_rises 32 = .ok (.iinc 1 1, 3) := by decide +kernel
theorem dX0_rises_35 : decode cX0_rises 35 = .ok (.iinc 2 1, 3) := by decide +kernel
theorem dX0_rises_38 : decode cX0_rises 38 = .ok (.goto (-34), 3) := by decide +kernel
theorem dX0_rises_41 : decode cX0_rises 41 = .ok (.iload_n 1, 1) := by decide +kernel
theorem dX0_rises_42 : decode cX0_rises 42 = .ok (.ireturn, 1) := by decide +kernel
theorem dX1_init_0 : decode cX1_init 0 = .ok (.aload_n 0, 1) := by decide +kernel
theorem dX1_init_1 : decode cX1_init 1 = .ok (.invokespecial 3, 3) := by decide +kernel
theorem dX1_init_4 : decode cX1_init 4 = .ok (.aload_n 0, 1) := by decide +kernel
theorem dX1_init_5 : decode cX1_init 5 = .ok (.bipush 6, 2) := by decide +kernel
theorem dX1_init_7 : decode cX1_init 7 = .ok (.anewarray 9, 3) := by decide +kernel
theorem dX1_init_10 : decode cX1_init 10 = .ok (.putfield 11, 3) := by decide +kernel
theorem dX1_init_13 : decode cX1_init 13 = .ok (.iconst 0, 1) := by decide +kernel
theorem dX1_init_14 : decode cX1_init 14 = .ok (.istore_n 1, 1) := by decide +kernel
theorem dX1_init_15 : decode cX1_init 15 = .ok (.iload_n 1, 1) := by decide +kernel
theorem dX1_init_16 : decode cX1_init 16 = .ok (.bipush 6, 2) := by decide +kernel
theorem dX1_init_18 : decode cX1_init 18 = .ok (.if_icmp .ge 22, 3) := by decide +kernel
theorem dX1_init_21 : decode cX1_init 21 = .ok (.aload_n 0, 1) := by decide +kernel
theorem dX1_init_22 : decode cX1_init 22 = .ok (.getfield 11, 3) := by decide +kernel
theorem dX1_init_25 : decode cX1_init 25 = .ok (.iload_n 1, 1) := by decide +kernel
theorem dX1_init_26 : decode cX1_init 26 = .ok (.new 9, 3) := by decide +kernel
theorem dX1_init_29 : decode cX1_init 29 = .ok (.dup, 1) := by decide +kernel
theorem dX1_init_30 : decode cX1_init 30 = .ok (.invokespecial 17, 3) := by decide +kernel
theorem dX1_init_33 : decode cX1_init 33 = .ok (.aastore, 1) := by decide +kernel
theorem dX1_init_34 : decode cX1_init 34 = .ok (.iinc 1 1, 3) := by decide +kernel
theorem dX1_init_37 : decode cX1_init 37 = .ok (.goto (-22), 3) := by decide +kernel
theorem dX1_init_40 : decode cX1_init 40 = .ok (.return_, 1) := by decide +kernel
theorem dX1_push_0 : decode cX1_push 0 = .ok (.aload_n 0, 1) := by decide +kernel
theorem dX1_push_1 : decode cX1_push 1 = .ok (.getfield 18, 3) := by decide +kernel
theorem dX1_push_4 : decode cX1_push 4 = .ok (.bipush 6, 2) := by decide +kernel
theorem dX1_push_6 : decode cX1_push 6 = .ok (.if_icmp .lt 7, 3) := by decide +kernel
theorem dX1_push_9 : decode cX1_push 9 = .ok (.aload_n 0, 1) := by decide +kernel
theorem dX1_push_10 : decode cX1_push 10 = .ok (.invokevirtual 22, 3) := by decide +kernel
theorem dX1_push_13 : decode cX1_push 13 = .ok (.aload_n 0, 1) := by decide +kernel
theorem dX1_push_14 : decode cX1_push 14 = .ok (.getfield 11, 3) := by decide +kernel
theorem dX1_push_17 : decode cX1_push 17 = .ok (.aload_n 0, 1) := by decide +kernel
theorem dX1_push_18 : decode cX1_push 18 = .ok (.getfield 18, 3) := by decide +kernel
theorem dX1_push_21 : decode cX1_push 21 = .ok (.aaload, 1) := by decide +kernel
theorem dX1_push_22 : decode cX1_push 22 = .ok (.aload_n 1, 1) := by decide +kernel
theorem dX1_push_23 : decode cX1_push 23 = .ok (.invokevirtual 25, 3) := by decide +kernel
theorem dX1_push_26 : decode cX1_push 26 = .ok (.aload_n 0, 1) := by decide +kernel
theorem dX1_push_27 : decode cX1_push 27 = .ok (.dup, 1) := by decide +kernel
theorem dX1_push_28 : decode cX1_push 28 = .ok (.getfield 18, 3) := by decide +kernel
theorem dX1_push_31 : decode cX1_push 31 = .ok (.iconst 1, 1) := by decide +kernel
theorem dX1_push_32 : decode cX1_push 32 = .ok (.iadd, 1) := by decide +kernel
theorem dX1_push_33 : decode cX1_push 33 = .ok (.putfield 18, 3) := by decide +kernel
theorem dX1_push_36 : decode cX1_push 36 = .ok (.return_, 1) := by decide +kernel
theorem dX1_dropOldest_0 : decode cX1_dropOldest 0 = .ok (.aload_n 0, 1) := by decide +kernel
theorem dX1_dropOldest_1 : decode cX1_dropOldest 1 = .ok (.getfield 11, 3) := by decide +kernel
theorem dX1_dropOldest_4 : decode cX1_dropOldest 4 = .ok (.iconst 0, 1) := by decide +kernel
theorem dX1_dropOldest_5 : decode cX1_dropOldest 5 = .ok (.aaload, 1) := by decide +kernel
theorem dX1_dropOldest_6 : decode cX1_dropOldest 6 = .ok (.astore_n 1, 1) := by decide +kernel
theorem dX1_dropOldest_7 : decode cX1_dropOldest 7 = .ok (.iconst 1, 1) := by decide +kernel
theorem dX1_dropOldest_8 : decode cX1_dropOldest 8 = .ok (.istore_n 2, 1) := by decide +kernel
theorem dX1_dropOldest_9 : decode cX1_dropOldest 9 = .ok (.iload_n 2, 1) := by decide +kernel
theorem dX1_dropOldest_10 : decode cX1_dropOldest 10 = .ok (.bipush 6, 2) := by decide +kernel
theorem dX1_dropOldest_12 : decode cX1_dropOldest 12 = .ok (.if_icmp .ge 23, 3) := by decide +kernel
theorem dX1_dropOldest_15 : decode cX1_dropOldest 15 = .ok (.aload_n 0, 1) := by decide +kernel
theorem dX1_dropOldest_16 : decode cX1_dropOldest 16 = .ok (.getfield 11, 3) := by decide +kernel
theorem dX1_dropOldest_19 : decode cX1_dropOldest 19 = .ok (.iload_n 2, 1) := by decide +kernel
theorem dX1_dropOldest_20 : decode cX1_dropOldest 20 = .ok (.iconst 1, 1) := by decide +kernel
theorem dX1_dropOldest_21 : decode cX1_dropOldest 21 = .ok (.isub, 1) := by decide +kernel
theorem dX1_dropOldest_22 : decode cX1_dropOldest 22 = .ok (.aload_n 0, 1) := by decide +kernel
theorem dX1_dropOldest_23 : decode cX1_dropOldest 23 = .ok (.getfield 11, 3) := by decide +kernel
theorem dX1_dropOldest_26 : decode cX1_dropOldest 26 = .ok (.iload_n 2, 1) := by decide +kernel
theorem dX1_dropOldest_27 : decode cX1_dropOldest 27 = .ok (.aaload, 1) := by decide +kernel
theorem dX1_dropOldest_28 : decode cX1_dropOldest 28 = .ok (.aastore, 1) := by decide +kernel
theorem dX1_dropOldest_29 : decode cX1_dropOldest 29 = .ok (.iinc 2 1, 3) := by decide +kernel
theorem dX1_dropOldest_32 : decode cX1_dropOldest 32 = .ok (.goto (-23), 3) := by decide +kernel
theorem dX1_dropOldest_35 : decode cX1_dropOldest 35 = .ok (.aload_n 0, 1) := by decide +kernel
theorem dX1_dropOldest_36 : decode cX1_dropOldest 36 = .ok (.getfield 11, 3) := by decide +kernel
theorem dX1_dropOldest_39 : decode cX1_dropOldest 39 = .ok (.iconst 5, 1) := by decide +kernel
theorem dX1_dropOldest_40 : decode cX1_dropOldest 40 = .ok (.aload_n 1, 1) := by decide +kernel
theorem dX1_dropOldest_41 : decode cX1_dropOldest 41 = .ok (.aastore, 1) := by decide +kernel
theorem dX1_dropOldest_42 : decode cX1_dropOldest 42 = .ok (.aload_n 0, 1) := by decide +kernel
theorem dX1_dropOldest_43 : decode cX1_dropOldest 43 = .ok (.iconst 5, 1) := by decide +kernel
theorem dX1_dropOldest_44 : decode cX1_dropOldest 44 = .ok (.putfield 18, 3) := by decide +kernel
theorem dX1_dropOldest_47 : decode cX1_dropOldest 47 = .ok (.return_, 1) := by decide +kernel
theorem dX2_init_0 : decode cX2_init 0 = .ok (.aload_n 0, 1) := by decide +kernel
theorem dX2_init_1 : decode cX2_init 1 = .ok (.invokespecial 3, 3) := by decide +kernel
theorem dX2_init_4 : decode cX2_init 4 = .ok (.aload_n 0, 1) := by decide +kernel
theorem dX2_init_5 : decode cX2_init 5 = .ok (.bipush 80, 2) := by decide +kernel
theorem dX2_init_7 : decode cX2_init 7 = .ok (.newarray .char, 2) := by decide +kernel
theorem dX2_init_9 : decode cX2_init 9 = .ok (.putfield 9, 3) := by decide +kernel
theorem dX2_init_12 : decode cX2_init 12 = .ok (.return_, 1) := by decide +kernel
theorem dX3_init_0 : decode cX3_init 0 = .ok (.aload_n 0, 1) := by decide +kernel
theorem dX3_init_1 : decode cX3_init 1 = .ok (.invokespecial 3, 3) := by decide +kernel
theorem dX3_init_4 : decode cX3_init 4 = .ok (.aload_n 0, 1) := by decide +kernel
theorem dX3_init_5 : decode cX3_init 5 = .ok (.iconst 1, 1) := by decide +kernel
theorem dX3_init_6 : decode cX3_init 6 = .ok (.putfield 9, 3) := by decide +kernel
theorem dX3_init_9 : decode cX3_init 9 = .ok (.return_, 1) := by decide +kernel
theorem dX3_copyFrom_0 : decode cX3_copyFrom 0 = .ok (.aload_n 0, 1) := by decide +kernel
theorem dX3_copyFrom_1 : decode cX3_copyFrom 1 = .ok (.aload_n 1, 1) := by decide +kernel
theorem dX3_copyFrom_2 : decode cX3_copyFrom 2 = .ok (.getfield 15, 3) := by decide +kernel
theorem dX3_copyFrom_5 : decode cX3_copyFrom 5 = .ok (.putfield 15, 3) := by decide +kernel
theorem dX3_copyFrom_8 : decode cX3_copyFrom 8 = .ok (.aload_n 0, 1) := by decide +kernel
theorem dX3_copyFrom_9 : decode cX3_copyFrom 9 = .ok (.aload_n 1, 1) := by decide +kernel
theorem dX3_copyFrom_10 : decode cX3_copyFrom 10 = .ok (.getfield 18, 3) := by decide +kernel
theorem dX3_copyFrom_13 : decode cX3_copyFrom 13 = .ok (.putfield 18, 3) := by decide +kernel
theorem dX3_copyFrom_16 : decode cX3_copyFrom 16 = .ok (.aload_n 0, 1) := by decide +kernel
theorem dX3_copyFrom_17 : decode cX3_copyFrom 17 = .ok (.aload_n 1, 1) := by decide +kernel
theorem dX3_copyFrom_18 : decode cX3_copyFrom 18 = .ok (.getfield 21, 3) := by decide +kernel
theorem dX3_copyFrom_21 : decode cX3_copyFrom 21 = .ok (.putfield 21, 3) := by decide +kernel
theorem dX3_copyFrom_24 : decode cX3_copyFrom 24 = .ok (.aload_n 0, 1) := by decide +kernel
theorem dX3_copyFrom_25 : decode cX3_copyFrom 25 = .ok (.aload_n 1, 1) := by decide +kernel
theorem dX3_copyFrom_26 : decode cX3_copyFrom 26 = .ok (.getfield 9, 3) := by decide +kernel
theorem dX3_copyFrom_29 : decode cX3_copyFrom 29 = .ok (.putfield 9, 3) := by decide +kernel
theorem dX3_copyFrom_32 : decode cX3_copyFrom 32 = .ok (.aload_n 0, 1) := by decide +kernel
theorem dX3_copyFrom_33 : decode cX3_copyFrom 33 = .ok (.aload_n 1, 1) := by decide +kernel
theorem dX3_copyFrom_34 : decode cX3_copyFrom 34 = .ok (.getfield 24, 3) := by decide +kernel
theorem dX3_copyFrom_37 : decode cX3_copyFrom 37 = .ok (.putfield 24, 3) := by decide +kernel
theorem dX3_copyFrom_40 : decode cX3_copyFrom 40 = .ok (.aload_n 0, 1) := by decide +kernel
theorem dX3_copyFrom_41 : decode cX3_copyFrom 41 = .ok (.aload_n 1, 1) := by decide +kernel
theorem dX3_copyFrom_42 : decode cX3_copyFrom 42 = .ok (.getfield 27, 3) := by decide +kernel
theorem dX3_copyFrom_45 : decode cX3_copyFrom 45 = .ok (.putfield 27, 3) := by decide +kernel
theorem dX3_copyFrom_48 : decode cX3_copyFrom 48 = .ok (.return_, 1) := by decide +kernel
theorem dX3_isRecipe_0 : decode cX3_isRecipe 0 = .ok (.iload_n 0, 1) := by decide +kernel
theorem dX3_isRecipe_1 : decode cX3_isRecipe 1 = .ok (.iconst 4, 1) := by decide +kernel
theorem dX3_isRecipe_2 : decode cX3_isRecipe 2 = .ok (.invokestatic 31, 3) := by decide +kernel
theorem dX3_isRecipe_5 : decode cX3_isRecipe 5 = .ok (.ifCond .ne 41, 3) := by decide +kernel
theorem dX3_isRecipe_8 : decode cX3_isRecipe 8 = .ok (.iload_n 1, 1) := by decide +kernel
theorem dX3_isRecipe_9 : decode cX3_isRecipe 9 = .ok (.sipush (-999), 3) := by decide +kernel
theorem dX3_isRecipe_12 : decode cX3_isRecipe 12 = .ok (.if_icmp .lt 34, 3) := by decide +kernel
theorem dX3_isRecipe_15 : decode cX3_isRecipe 15 = .ok (.iload_n 1, 1) := by decide +kernel
theorem dX3_isRecipe_16 : decode cX3_isRecipe 16 = .ok (.sipush 999, 3) := by decide +kernel
theorem dX3_isRecipe_19 : decode cX3_isRecipe 19 = .ok (.if_icmp .gt 27, 3) := by decide +kernel
theorem dX3_isRecipe_22 : decode cX3_isRecipe 22 = .ok (.iload_n 2, 1) := by decide +kernel
theorem dX3_isRecipe_23 : decode cX3_isRecipe 23 = .ok (.iconst 1, 1) := by decide +kernel
theorem dX3_isRecipe_24 : decode cX3_isRecipe 24 = .ok (.if_icmp .lt 22, 3) := by decide +kernel
theorem dX3_isRecipe_27 : decode cX3_isRecipe 27 = .ok (.iload_n 2, 1) := by decide +kernel
theorem dX3_isRecipe_28 : decode cX3_isRecipe 28 = .ok (.bipush 60, 2) := by decide +kernel
theorem dX3_isRecipe_30 : decode cX3_isRecipe 30 = .ok (.if_icmp .gt 16, 3) := by decide +kernel
theorem dX3_isRecipe_33 : decode cX3_isRecipe 33 = .ok (.iload_n 3, 1) := by decide +kernel
theorem dX3_isRecipe_34 : decode cX3_isRecipe 34 = .ok (.bipush 60, 2) := by decide +kernel
theorem dX3_isRecipe_36 : decode cX3_isRecipe 36 = .ok (.invokestatic 31, 3) := by decide +kernel
theorem dX3_isRecipe_39 : decode cX3_isRecipe 39 = .ok (.ifCond .ne 7, 3) := by decide +kernel
theorem dX3_isRecipe_42 : decode cX3_isRecipe 42 = .ok (.iconst 1, 1) := by decide +kernel
theorem dX3_isRecipe_43 : decode cX3_isRecipe 43 = .ok (.goto 4, 3) := by decide +kernel
theorem dX3_isRecipe_46 : decode cX3_isRecipe 46 = .ok (.iconst 0, 1) := by decide +kernel
theorem dX3_isRecipe_47 : decode cX3_isRecipe 47 = .ok (.ireturn, 1) := by decide +kernel
theorem dX3_pushAt_0 : decode cX3_pushAt 0 = .ok (.aload_n 0, 1) := by decide +kernel
theorem dX3_pushAt_1 : decode cX3_pushAt 1 = .ok (.getfield 9, 3) := by decide +kernel
theorem dX3_pushAt_4 : decode cX3_pushAt 4 = .ok (.iconst 1, 1) := by decide +kernel
theorem dX3_pushAt_5 : decode cX3_pushAt 5 = .ok (.if_icmp .ge 5, 3) := by decide +kernel
theorem dX3_pushAt_8 : decode cX3_pushAt 8 = .ok (.iconst 0, 1) := by decide +kernel
theorem dX3_pushAt_9 : decode cX3_pushAt 9 = .ok (.ireturn, 1) := by decide +kernel
theorem dX3_pushAt_10 : decode cX3_pushAt 10 = .ok (.iload_n 1, 1) := by decide +kernel
theorem dX3_pushAt_11 : decode cX3_pushAt 11 = .ok (.aload_n 0, 1) := by decide +kernel
theorem dX3_pushAt_12 : decode cX3_pushAt 12 = .ok (.getfield 24, 3) := by decide +kernel
theorem dX3_pushAt_15 : decode cX3_pushAt 15 = .ok (.iadd, 1) := by decide +kernel
theorem dX3_pushAt_16 : decode cX3_pushAt 16 = .ok (.aload_n 0, 1) := by decide +kernel
theorem dX3_pushAt_17 : decode cX3_pushAt 17 = .ok (.getfield 9, 3) := by decide +kernel
theorem dX3_pushAt_20 : decode cX3_pushAt 20 = .ok (.irem, 1) := by decide +kernel
theorem dX3_pushAt_21 : decode cX3_pushAt 21 = .ok (.istore_n 2, 1) := by decide +kernel
theorem dX3_pushAt_22 : decode cX3_pushAt 22 = .ok (.aload_n 0, 1) := by decide +kernel
theorem dX3_pushAt_23 : decode cX3_pushAt 23 = .ok (.getfield 18, 3) := by decide +kernel
theorem dX3_pushAt_26 : decode cX3_pushAt 26 = .ok (.tableswitch 96 1 3 #[26, 45, 68], 26) := by decide +kernel
theorem dX3_pushAt_52 : decode cX3_pushAt 52 = .ok (.aload_n 0, 1) := by decide +kernel
theorem dX3_pushAt_53 : decode cX3_pushAt 53 = .ok (.getfield 21, 3) := by decide +kernel
theorem dX3_pushAt_56 : decode cX3_pushAt 56 = .ok (.iconst 2, 1) := by decide +kernel
theorem dX3_pushAt_57 : decode cX3_pushAt 57 = .ok (.iload_n 2, 1) := by decide +kernel
theorem dX3_pushAt_58 : decode cX3_pushAt 58 = .ok (.imul, 1) := by decide +kernel
theorem dX3_pushAt_59 : decode cX3_pushAt 59 = .ok (.aload_n 0, 1) := by decide +kernel
theorem dX3_pushAt_60 : decode cX3_pushAt 60 = .ok (.getfield 9, 3) := by decide +kernel
theorem dX3_pushAt_63 : decode cX3_pushAt 63 = .ok (.isub, 1) := by decide +kernel
theorem dX3_pushAt_64 : decode cX3_pushAt 64 = .ok (.imul, 1) := by decide +kernel
theorem dX3_pushAt_65 : decode cX3_pushAt 65 = .ok (.aload_n 0, 1) := by decide +kernel
theorem dX3_pushAt_66 : decode cX3_pushAt 66 = .ok (.getfield 9, 3) := by decide +kernel
theorem dX3_pushAt_69 : decode cX3_pushAt 69 = .ok (.idiv, 1) := by decide +kernel
theorem dX3_pushAt_70 : decode cX3_pushAt 70 = .ok (.ireturn, 1) := by decide +kernel
theorem dX3_pushAt_71 : decode cX3_pushAt 71 = .ok (.iconst 2, 1) := by decide +kernel
theorem dX3_pushAt_72 : decode cX3_pushAt 72 = .ok (.iload_n 2, 1) := by decide +kernel
theorem dX3_pushAt_73 : decode cX3_pushAt 73 = .ok (.imul, 1) := by decide +kernel
theorem dX3_pushAt_74 : decode cX3_pushAt 74 = .ok (.aload_n 0, 1) := by decide +kernel
theorem dX3_pushAt_75 : decode cX3_pushAt 75 = .ok (.getfield 9, 3) := by decide +kernel
theorem dX3_pushAt_78 : decode cX3_pushAt 78 = .ok (.if_icmp .ge 10, 3) := by decide +kernel
theorem dX3_pushAt_81 : decode cX3_pushAt 81 = .ok (.aload_n 0, 1) := by decide +kernel
theorem dX3_pushAt_82 : decode cX3_pushAt 82 = .ok (.getfield 21, 3) := by decide +kernel
theorem dX3_pushAt_85 : decode cX3_pushAt 85 = .ok (.goto 8, 3) := by decide +kernel
theorem dX3_pushAt_88 : decode cX3_pushAt 88 = .ok (.aload_n 0, 1) := by decide +kernel
theorem dX3_pushAt_89 : decode cX3_pushAt 89 = .ok (.getfield 21, 3) := by decide +kernel
theorem dX3_pushAt_92 : decode cX3_pushAt 92 = .ok (.ineg, 1) := by decide +kernel
theorem dX3_pushAt_93 : decode cX3_pushAt 93 = .ok (.ireturn, 1) := by decide +kernel
theorem dX3_pushAt_94 : decode cX3_pushAt 94 = .ok (.aload_n 0, 1) := by decide +kernel
theorem dX3_pushAt_95 : decode cX3_pushAt 95 = .ok (.getfield 21, 3) := by decide +kernel
theorem dX3_pushAt_98 : decode cX3_pushAt 98 = .ok (.iconst 4, 1) := by decide +kernel
theorem dX3_pushAt_99 : decode cX3_pushAt 99 = .ok (.iload_n 2, 1) := by decide +kernel
theorem dX3_pushAt_100 : decode cX3_pushAt 100 = .ok (.aload_n 0, 1) := by decide +kernel
theorem dX3_pushAt_101 : decode cX3_pushAt 101 = .ok (.getfield 9, 3) := by decide +kernel
theorem dX3_pushAt_104 : decode cX3_pushAt 104 = .ok (.iload_n 2, 1) := by decide +kernel
theorem dX3_pushAt_105 : decode cX3_pushAt 105 = .ok (.isub, 1) := by decide +kernel
theorem dX3_pushAt_106 : decode cX3_pushAt 106 = .ok (.invokestatic 35, 3) := by decide +kernel
theorem dX3_pushAt_109 : decode cX3_pushAt 109 = .ok (.imul, 1) := by decide +kernel
theorem dX3_pushAt_110 : decode cX3_pushAt 110 = .ok (.aload_n 0, 1) := by decide +kernel
theorem dX3_pushAt_111 : decode cX3_pushAt 111 = .ok (.getfield 9, 3) := by decide +kernel
theorem dX3_pushAt_114 : decode cX3_pushAt 114 = .ok (.isub, 1) := by decide +kernel
theorem dX3_pushAt_115 : decode cX3_pushAt 115 = .ok (.imul, 1) := by decide +kernel
theorem dX3_pushAt_116 : decode cX3_pushAt 116 = .ok (.aload_n 0, 1) := by decide +kernel
theorem dX3_pushAt_117 : decode cX3_pushAt 117 = .ok (.getfield 9, 3) := by decide +kernel
theorem dX3_pushAt_120 : decode cX3_pushAt 120 = .ok (.idiv, 1) := by decide +kernel
theorem dX3_pushAt_121 : decode cX3_pushAt 121 = .ok (.ireturn, 1) := by decide +kernel
theorem dX3_pushAt_122 : decode cX3_pushAt 122 = .ok (.aload_n 0, 1) := by decide +kernel
theorem dX3_pushAt_123 : decode cX3_pushAt 123 = .ok (.getfield 21, 3) := by decide +kernel
theorem dX3_pushAt_126 : decode cX3_pushAt 126 = .ok (.ireturn, 1) := by decide +kernel
theorem dX4_init_0 : decode cX4_init 0 = .ok (.aload_n 0, 1) := by decide +kernel
theorem dX4_init_1 : decode cX4_init 1 = .ok (.invokespecial 3, 3) := by decide +kernel
theorem dX4_init_4 : decode cX4_init 4 = .ok (.aload_n 0, 1) := by decide +kernel
theorem dX4_init_5 : decode cX4_init 5 = .ok (.getstatic 9, 3) := by decide +kernel
theorem dX4_init_8 : decode cX4_init 8 = .ok (.invokevirtual 13, 3) := by decide +kernel
theorem dX4_init_11 : decode cX4_init 11 = .ok (.checkcast 14, 3) := by decide +kernel
theorem dX4_init_14 : decode cX4_init 14 = .ok (.putfield 18, 3) := by decide +kernel
theorem dX4_init_17 : decode cX4_init 17 = .ok (.aload_n 0, 1) := by decide +kernel
theorem dX4_init_18 : decode cX4_init 18 = .ok (.bipush 40, 2) := by decide +kernel
theorem dX4_init_20 : decode cX4_init 20 = .ok (.newarray .int, 2) := by decide +kernel
theorem dX4_init_22 : decode cX4_init 22 = .ok (.putfield 23, 3) := by decide +kernel
theorem dX4_init_25 : decode cX4_init 25 = .ok (.aload_n 0, 1) := by decide +kernel
theorem dX4_init_26 : decode cX4_init 26 = .ok (.bipush 40, 2) := by decide +kernel
theorem dX4_init_28 : decode cX4_init 28 = .ok (.newarray .int, 2) := by decide +kernel
theorem dX4_init_30 : decode cX4_init 30 = .ok (.putfield 26, 3) := by decide +kernel
theorem dX4_init_33 : decode cX4_init 33 = .ok (.aload_n 0, 1) := by decide +kernel
theorem dX4_init_34 : decode cX4_init 34 = .ok (.bipush 6, 2) := by decide +kernel
theorem dX4_init_36 : decode cX4_init 36 = .ok (.anewarray 29, 3) := by decide +kernel
theorem dX4_init_39 : decode cX4_init 39 = .ok (.putfield 31, 3) := by decide +kernel
theorem dX4_init_42 : decode cX4_init 42 = .ok (.aload_n 0, 1) := by decide +kernel
theorem dX4_init_43 : decode cX4_init 43 = .ok (.iconst 4, 1) := by decide +kernel
theorem dX4_init_44 : decode cX4_init 44 = .ok (.anewarray 35, 3) := by decide +kernel
theorem dX4_init_47 : decode cX4_init 47 = .ok (.putfield 37, 3) := by decide +kernel
theorem dX4_init_50 : decode cX4_init 50 = .ok (.iconst 0, 1) := by decide +kernel
theorem dX4_init_51 : decode cX4_init 51 = .ok (.istore_n 1, 1) := by decide +kernel
theorem dX4_init_52 : decode cX4_init 52 = .ok (.iload_n 1, 1) := by decide +kernel
theorem dX4_init_53 : decode cX4_init 53 = .ok (.bipush 6, 2) := by decide +kernel
theorem dX4_init_55 : decode cX4_init 55 = .ok (.if_icmp .ge 22, 3) := by decide +kernel
theorem dX4_init_58 : decode cX4_init 58 = .ok (.aload_n 0, 1) := by decide +kernel
theorem dX4_init_59 : decode cX4_init 59 = .ok (.getfield 31, 3) := by decide +kernel
theorem dX4_init_62 : decode cX4_init 62 = .ok (.iload_n 1, 1) := by decide +kernel
theorem dX4_init_63 : decode cX4_init 63 = .ok (.new 29, 3) := by decide +kernel
theorem dX4_init_66 : decode cX4_init 66 = .ok (.dup, 1) := by decide +kernel
theorem dX4_init_67 : decode cX4_init 67 = .ok (.invokespecial 41, 3) := by decide +kernel
theorem dX4_init_70 : decode cX4_init 70 = .ok (.aastore, 1) := by decide +kernel
theorem dX4_init_71 : decode cX4_init 71 = .ok (.iinc 1 1, 3) := by decide +kernel
theorem dX4_init_74 : decode cX4_init 74 = .ok (.goto (-22), 3) := by decide +kernel
theorem dX4_init_77 : decode cX4_init 77 = .ok (.iconst 0, 1) := by decide +kernel
theorem dX4_init_78 : decode cX4_init 78 = .ok (.istore_n 1, 1) := by decide +kernel
theorem dX4_init_79 : decode cX4_init 79 = .ok (.iload_n 1, 1) := by decide +kernel
theorem dX4_init_80 : decode cX4_init 80 = .ok (.iconst 4, 1) := by decide +kernel
theorem dX4_init_81 : decode cX4_init 81 = .ok (.if_icmp .ge 22, 3) := by decide +kernel
theorem dX4_init_84 : decode cX4_init 84 = .ok (.aload_n 0, 1) := by decide +kernel
theorem dX4_init_85 : decode cX4_init 85 = .ok (.getfield 37, 3) := by decide +kernel
theorem dX4_init_88 : decode cX4_init 88 = .ok (.iload_n 1, 1) := by decide +kernel
theorem dX4_init_89 : decode cX4_init 89 = .ok (.new 35, 3) := by decide +kernel
theorem dX4_init_92 : decode cX4_init 92 = .ok (.dup, 1) := by decide +kernel
theorem dX4_init_93 : decode cX4_init 93 = .ok (.invokespecial 42, 3) := by decide +kernel
theorem dX4_init_96 : decode cX4_init 96 = .ok (.aastore, 1) := by decide +kernel
theorem dX4_init_97 : decode cX4_init 97 = .ok (.iinc 1 1, 3) := by decide +kernel
theorem dX4_init_100 : decode cX4_init 100 = .ok (.goto (-21), 3) := by decide +kernel
theorem dX4_init_103 : decode cX4_init 103 = .ok (.return_, 1) := by decide +kernel
theorem dX4_copyFrom_0 : decode cX4_copyFrom 0 = .ok (.aload_n 1, 1) := by decide +kernel
theorem dX4_copyFrom_1 : decode cX4_copyFrom 1 = .ok (.getfield 18, 3) := by decide +kernel
theorem dX4_copyFrom_4 : decode cX4_copyFrom 4 = .ok (.iconst 0, 1) := by decide +kernel
theorem dX4_copyFrom_5 : decode cX4_copyFrom 5 = .ok (.aload_n 0, 1) := by decide +kernel
theorem dX4_copyFrom_6 : decode cX4_copyFrom 6 = .ok (.getfield 18, 3) := by decide +kernel
theorem dX4_copyFrom_9 : decode cX4_copyFrom 9 = .ok (.iconst 0, 1) := by decide +kernel
theorem dX4_copyFrom_10 : decode cX4_copyFrom 10 = .ok (.iconst 3, 1) := by decide +kernel
theorem dX4_copyFrom_11 : decode cX4_copyFrom 11 = .ok (.invokestatic 43, 3) := by decide +kernel
theorem dX4_copyFrom_14 : decode cX4_copyFrom 14 = .ok (.aload_n 1, 1) := by decide +kernel
theorem dX4_copyFrom_15 : decode cX4_copyFrom 15 = .ok (.getfield 23, 3) := by decide +kernel
theorem dX4_copyFrom_18 : decode cX4_copyFrom 18 = .ok (.iconst 0, 1) := by decide +kernel
theorem dX4_copyFrom_19 : decode cX4_copyFrom 19 = .ok (.aload_n 0, 1) := by decide +kernel
theorem dX4_copyFrom_20 : decode cX4_copyFrom 20 = .ok (.getfield 23, 3) := by decide +kernel
theorem dX4_copyFrom_23 : decode cX4_copyFrom 23 = .ok (.iconst 0, 1) := by decide +kernel
theorem dX4_copyFrom_24 : decode cX4_copyFrom 24 = .ok (.bipush 40, 2) := by decide +kernel
theorem dX4_copyFrom_26 : decode cX4_copyFrom 26 = .ok (.invokestatic 43, 3) := by decide +kernel
theorem dX4_copyFrom_29 : decode cX4_copyFrom 29 = .ok (.aload_n 1, 1) := by decide +kernel
theorem dX4_copyFrom_30 : decode cX4_copyFrom 30 = .ok (.getfield 26, 3) := by decide +kernel
theorem dX4_copyFrom_33 : decode cX4_copyFrom 33 = .ok (.iconst 0, 1) := by decide +kernel
theorem dX4_copyFrom_34 : decode cX4_copyFrom 34 = .ok (.aload_n 0, 1) := by decide +kernel
theorem dX4_copyFrom_35 : decode cX4_copyFrom 35 = .ok (.getfield 26, 3) := by decide +kernel
theorem dX4_copyFrom_38 : decode cX4_copyFrom 38 = .ok (.iconst 0, 1) := by decide +kernel
theorem dX4_copyFrom_39 : decode cX4_copyFrom 39 = .ok (.bipush 40, 2) := by decide +kernel
theorem dX4_copyFrom_41 : decode cX4_copyFrom 41 = .ok (.invokestatic 43, 3) := by decide +kernel
theorem dX4_copyFrom_44 : decode cX4_copyFrom 44 = .ok (.aload_n 0, 1) := by decide +kernel
theorem dX4_copyFrom_45 : decode cX4_copyFrom 45 = .ok (.aload_n 1, 1) := by decide +kernel
theorem dX4_copyFrom_46 : decode cX4_copyFrom 46 = .ok (.getfield 49, 3) := by decide +kernel
theorem dX4_copyFrom_49 : decode cX4_copyFrom 49 = .ok (.putfield 49, 3) := by decide +kernel
theorem dX4_copyFrom_52 : decode cX4_copyFrom 52 = .ok (.iconst 0, 1) := by decide +kernel
theorem dX4_copyFrom_53 : decode cX4_copyFrom 53 = .ok (.istore_n 2, 1) := by decide +kernel
theorem dX4_copyFrom_54 : decode cX4_copyFrom 54 = .ok (.iload_n 2, 1) := by decide +kernel
theorem dX4_copyFrom_55 : decode cX4_copyFrom 55 = .ok (.aload_n 0, 1) := by decide +kernel
theorem dX4_copyFrom_56 : decode cX4_copyFrom 56 = .ok (.getfield 49, 3) := by decide +kernel
theorem dX4_copyFrom_59 : decode cX4_copyFrom 59 = .ok (.if_icmp .ge 24, 3) := by decide +kernel
theorem dX4_copyFrom_62 : decode cX4_copyFrom 62 = .ok (.aload_n 0, 1) := by decide +kernel
theorem dX4_copyFrom_63 : decode cX4_copyFrom 63 = .ok (.getfield 31, 3) := by decide +kernel
theorem dX4_copyFrom_66 : decode cX4_copyFrom 66 = .ok (.iload_n 2, 1) := by decide +kernel
theorem dX4_copyFrom_67 : decode cX4_copyFrom 67 = .ok (.aaload, 1) := by decide +kernel
theorem dX4_copyFrom_68 : decode cX4_copyFrom 68 = .ok (.aload_n 1, 1) := by decide +kernel
theorem dX4_copyFrom_69 : decode cX4_copyFrom 69 = .ok (.getfield 31, 3) := by decide +kernel
theorem dX4_copyFrom_72 : decode cX4_copyFrom 72 = .ok (.iload_n 2, 1) := by decide +kernel
theorem dX4_copyFrom_73 : decode cX4_copyFrom 73 = .ok (.aaload, 1) := by decide +kernel
theorem dX4_copyFrom_74 : decode cX4_copyFrom 74 = .ok (.invokevirtual 53, 3) := by decide +kernel
theorem dX4_copyFrom_77 : decode cX4_copyFrom 77 = .ok (.iinc 2 1, 3) := by decide +kernel
theorem dX4_copyFrom_80 : decode cX4_copyFrom 80 = .ok (.goto (-26), 3) := by decide +kernel
theorem dX4_copyFrom_83 : decode cX4_copyFrom 83 = .ok (.aload_n 0, 1) := by decide +kernel
theorem dX4_copyFrom_84 : decode cX4_copyFrom 84 = .ok (.aload_n 1, 1) := by decide +kernel
theorem dX4_copyFrom_85 : decode cX4_copyFrom 85 = .ok (.getfield 57, 3) := by decide +kernel
theorem dX4_copyFrom_88 : decode cX4_copyFrom 88 = .ok (.putfield 57, 3) := by decide +kernel
theorem dX4_copyFrom_91 : decode cX4_copyFrom 91 = .ok (.iconst 0, 1) := by decide +kernel
theorem dX4_copyFrom_92 : decode cX4_copyFrom 92 = .ok (.istore_n 2, 1) := by decide +kernel
theorem dX4_copyFrom_93 : decode cX4_copyFrom 93 = .ok (.iload_n 2, 1) := by decide +kernel
theorem dX4_copyFrom_94 : decode cX4_copyFrom 94 = .ok (.aload_n 0, 1) := by decide +kernel
theorem dX4_copyFrom_95 : decode cX4_copyFrom 95 = .ok (.getfield 57, 3) := by decide +kernel
theorem dX4_copyFrom_98 : decode cX4_copyFrom 98 = .ok (.if_icmp .ge 24, 3) := by decide +kernel
theorem dX4_copyFrom_101 : decode cX4_copyFrom 101 = .ok (.aload_n 0, 1) := by decide +kernel
theorem dX4_copyFrom_102 : decode cX4_copyFrom 102 = .ok (.getfield 37, 3) := by decide +kernel
theorem dX4_copyFrom_105 : decode cX4_copyFrom 105 = .ok (.iload_n 2, 1) := by decide +kernel
theorem dX4_copyFrom_106 : decode cX4_copyFrom 106 = .ok (.aaload, 1) := by decide +kernel
theorem dX4_copyFrom_107 : decode cX4_copyFrom 107 = .ok (.aload_n 1, 1) := by decide +kernel
theorem dX4_copyFrom_108 : decode cX4_copyFrom 108 = .ok (.getfield 37, 3) := by decide +kernel
theorem dX4_copyFrom_111 : decode cX4_copyFrom 111 = .ok (.iload_n 2, 1) := by decide +kernel
theorem dX4_copyFrom_112 : decode cX4_copyFrom 112 = .ok (.aaload, 1) := by decide +kernel
theorem dX4_copyFrom_113 : decode cX4_copyFrom 113 = .ok (.invokevirtual 60, 3) := by decide +kernel
theorem dX4_copyFrom_116 : decode cX4_copyFrom 116 = .ok (.iinc 2 1, 3) := by decide +kernel
theorem dX4_copyFrom_119 : decode cX4_copyFrom 119 = .ok (.goto (-26), 3) := by decide +kernel
theorem dX4_copyFrom_122 : decode cX4_copyFrom 122 = .ok (.aload_n 0, 1) := by decide +kernel
theorem dX4_copyFrom_123 : decode cX4_copyFrom 123 = .ok (.aload_n 1, 1) := by decide +kernel
theorem dX4_copyFrom_124 : decode cX4_copyFrom 124 = .ok (.getfield 63, 3) := by decide +kernel
theorem dX4_copyFrom_127 : decode cX4_copyFrom 127 = .ok (.putfield 63, 3) := by decide +kernel
theorem dX4_copyFrom_130 : decode cX4_copyFrom 130 = .ok (.return_, 1) := by decide +kernel
theorem dX4_changeSetting_0 : decode cX4_changeSetting 0 = .ok (.iload_n 1, 1) := by decide +kernel
theorem dX4_changeSetting_1 : decode cX4_changeSetting 1 = .ok (.iconst 3, 1) := by decide +kernel
theorem dX4_changeSetting_2 : decode cX4_changeSetting 2 = .ok (.invokestatic 66, 3) := by decide +kernel
theorem dX4_changeSetting_5 : decode cX4_changeSetting 5 = .ok (.ifCond .eq 6, 3) := by decide +kernel
theorem dX4_changeSetting_8 : decode cX4_changeSetting 8 = .ok (.bipush (-2), 2) := by decide +kernel
theorem dX4_changeSetting_10 : decode cX4_changeSetting 10 = .ok (.ireturn, 1) := by decide +kernel
theorem dX4_changeSetting_11 : decode cX4_changeSetting 11 = .ok (.iload_n 2, 1) := by decide +kernel
theorem dX4_changeSetting_12 : decode cX4_changeSetting 12 = .ok (.getstatic 70, 3) := by decide +kernel
theorem dX4_changeSetting_15 : decode cX4_changeSetting 15 = .ok (.iload_n 1, 1) := by decide +kernel
theorem dX4_changeSetting_16 : decode cX4_changeSetting 16 = .ok (.iaload, 1) := by decide +kernel
theorem dX4_changeSetting_17 : decode cX4_changeSetting 17 = .ok (.if_icmp .lt 12, 3) := by decide +kernel
theorem dX4_changeSetting_20 : decode cX4_changeSetting 20 = .ok (.iload_n 2, 1) := by decide +kernel
theorem dX4_changeSetting_21 : decode cX4_changeSetting 21 = .ok (.getstatic 73, 3) := by decide +kernel
theorem dX4_changeSetting_24 : decode cX4_changeSetting 24 = .ok (.iload_n 1, 1) := by decide +kernel
theorem dX4_changeSetting_25 : decode cX4_changeSetting 25 = .ok (.iaload, 1) := by decide +kernel
theorem dX4_changeSetting_26 : decode cX4_changeSetting 26 = .ok (.if_icmp .le 6, 3) := by decide +kernel
theorem dX4_changeSetting_29 : decode cX4_changeSetting 29 = .ok (.bipush (-2), 2) := by decide +kernel
theorem dX4_changeSetting_31 : decode cX4_changeSetting 31 = .ok (.ireturn, 1) := by decide +kernel
theorem dX4_changeSetting_32 : decode cX4_changeSetting 32 = .ok (.aload_n 0, 1) := by decide +kernel
theorem dX4_changeSetting_33 : decode cX4_changeSetting 33 = .ok (.getfield 18, 3) := by decide +kernel
theorem dX4_changeSetting_36 : decode cX4_changeSetting 36 = .ok (.iload_n 1, 1) := by decide +kernel
theorem dX4_changeSetting_37 : decode cX4_changeSetting 37 = .ok (.iaload, 1) := by decide +kernel
theorem dX4_changeSetting_38 : decode cX4_changeSetting 38 = .ok (.istore_n 3, 1) := by decide +kernel
theorem dX4_changeSetting_39 : decode cX4_changeSetting 39 = .ok (.aload_n 0, 1) := by decide +kernel
theorem dX4_changeSetting_40 : decode cX4_changeSetting 40 = .ok (.getfield 18, 3) := by decide +kernel
theorem dX4_changeSetting_43 : decode cX4_changeSetting 43 = .ok (.iload_n 1, 1) := by decide +kernel
theorem dX4_changeSetting_44 : decode cX4_changeSetting 44 = .ok (.iload_n 2, 1) := by decide +kernel
theorem dX4_changeSetting_45 : decode cX4_changeSetting 45 = .ok (.iastore, 1) := by decide +kernel
theorem dX4_changeSetting_46 : decode cX4_changeSetting 46 = .ok (.iload_n 3, 1) := by decide +kernel
theorem dX4_changeSetting_47 : decode cX4_changeSetting 47 = .ok (.ireturn, 1) := by decide +kernel
theorem dX4_placePaddle_0 : decode cX4_placePaddle 0 = .ok (.iload_n 1, 1) := by decide +kernel
theorem dX4_placePaddle_1 : decode cX4_placePaddle 1 = .ok (.bipush 36, 2) := by decide +kernel
theorem dX4_placePaddle_3 : decode cX4_placePaddle 3 = .ok (.invokestatic 66, 3) := by decide +kernel
theorem dX4_placePaddle_6 : decode cX4_placePaddle 6 = .ok (.ifCond .eq 5, 3) := by decide +kernel
theorem dX4_placePaddle_9 : decode cX4_placePaddle 9 = .ok (.iconst (-1), 1) := by decide +kernel
theorem dX4_placePaddle_10 : decode cX4_placePaddle 10 = .ok (.ireturn, 1) := by decide +kernel
theorem dX4_placePaddle_11 : decode cX4_placePaddle 11 = .ok (.iload_n 2, 1) := by decide +kernel
theorem dX4_placePaddle_12 : decode cX4_placePaddle 12 = .ok (.iload_n 3, 1) := by decide +kernel
theorem dX4_placePaddle_13 : decode cX4_placePaddle 13 = .ok (.iload 4, 2) := by decide +kernel
theorem dX4_placePaddle_15 : decode cX4_placePaddle 15 = .ok (.iload 5, 2) := by decide +kernel
theorem dX4_placePaddle_17 : decode cX4_placePaddle 17 = .ok (.invokestatic 76, 3) := by decide +kernel
theorem dX4_placePaddle_20 : decode cX4_placePaddle 20 = .ok (.ifCond .ne 6, 3) := by decide +kernel
theorem dX4_placePaddle_23 : decode cX4_placePaddle 23 = .ok (.bipush (-2), 2) := by decide +kernel
theorem dX4_placePaddle_25 : decode cX4_placePaddle 25 = .ok (.ireturn, 1) := by decide +kernel
theorem dX4_placePaddle_26 : decode cX4_placePaddle 26 = .ok (.aload_n 0, 1) := by decide +kernel
theorem dX4_placePaddle_27 : decode cX4_placePaddle 27 = .ok (.iload_n 1, 1) := by decide +kernel
theorem dX4_placePaddle_28 : decode cX4_placePaddle 28 = .ok (.invokevirtual 80, 3) := by decide +kernel
theorem dX4_placePaddle_31 : decode cX4_placePaddle 31 = .ok (.istore 6, 2) := by decide +kernel
theorem dX4_placePaddle_33 : decode cX4_placePaddle 33 = .ok (.iload 6, 2) := by decide +kernel
theorem dX4_placePaddle_35 : decode cX4_placePaddle 35 = .ok (.ifCond .ge 10, 3) := by decide +kernel
theorem dX4_placePaddle_38 : decode cX4_placePaddle 38 = .ok (.aload_n 0, 1) := by decide +kernel
theorem dX4_placePaddle_39 : decode cX4_placePaddle 39 = .ok (.iload_n 1, 1) := by decide +kernel
theorem dX4_placePaddle_40 : decode cX4_placePaddle 40 = .ok (.invokevirtual 84, 3) := by decide +kernel
theorem dX4_placePaddle_43 : decode cX4_placePaddle 43 = .ok (.istore 6, 2) := by decide +kernel
theorem dX4_placePaddle_45 : decode cX4_placePaddle 45 = .ok (.iload 6, 2) := by decide +kernel
theorem dX4_placePaddle_47 : decode cX4_placePaddle 47 = .ok (.ifCond .ge 6, 3) := by decide +kernel
theorem dX4_placePaddle_50 : decode cX4_placePaddle 50 = .ok (.bipush (-4), 2) := by decide +kernel
theorem dX4_placePaddle_52 : decode cX4_placePaddle 52 = .ok (.ireturn, 1) := by decide +kernel
theorem dX4_placePaddle_53 : decode cX4_placePaddle 53 = .ok (.aload_n 0, 1) := by decide +kernel
theorem dX4_placePaddle_54 : decode cX4_placePaddle 54 = .ok (.getfield 31, 3) := by decide +kernel
theorem dX4_placePaddle_57 : decode cX4_placePaddle 57 = .ok (.iload 6, 2) := by decide +kernel
theorem dX4_placePaddle_59 : decode cX4_placePaddle 59 = .ok (.aaload, 1) := by decide +kernel
theorem dX4_placePaddle_60 : decode cX4_placePaddle 60 = .ok (.astore 7, 2) := by decide +kernel
theorem dX4_placePaddle_62 : decode cX4_placePaddle 62 = .ok (.aload 7, 2) := by decide +kernel
theorem dX4_placePaddle_64 : decode cX4_placePaddle 64 = .ok (.iload_n 1, 1) := by decide +kernel
theorem dX4_placePaddle_65 : decode cX4_placePaddle 65 = .ok (.putfield 87, 3) := by decide +kernel
theorem dX4_placePaddle_68 : decode cX4_placePaddle 68 = .ok (.aload 7, 2) := by decide +kernel
theorem dX4_placePaddle_70 : decode cX4_placePaddle 70 = .ok (.iload_n 2, 1) := by decide +kernel
theorem dX4_placePaddle_71 : decode cX4_placePaddle 71 = .ok (.putfield 90, 3) := by decide +kernel
theorem dX4_placePaddle_74 : decode cX4_placePaddle 74 = .ok (.aload 7, 2) := by decide +kernel
theorem dX4_placePaddle_76 : decode cX4_placePaddle 76 = .ok (.iload_n 3, 1) := by decide +kernel
theorem dX4_placePaddle_77 : decode cX4_placePaddle 77 = .ok (.putfield 93, 3) := by decide +kernel
theorem dX4_placePaddle_80 : decode cX4_placePaddle 80 = .ok (.aload 7, 2) := by decide +kernel
theorem dX4_placePaddle_82 : decode cX4_placePaddle 82 = .ok (.iload 4, 2) := by decide +kernel
theorem dX4_placePaddle_84 : decode cX4_placePaddle 84 = .ok (.putfield 96, 3) := by decide +kernel
theorem dX4_placePaddle_87 : decode cX4_placePaddle 87 = .ok (.aload 7, 2) := by decide +kernel
theorem dX4_placePaddle_89 : decode cX4_placePaddle 89 = .ok (.iload 5, 2) := by decide +kernel
theorem dX4_placePaddle_91 : decode cX4_placePaddle 91 = .ok (.putfield 99, 3) := by decide +kernel
theorem dX4_placePaddle_94 : decode cX4_placePaddle 94 = .ok (.aload 7, 2) := by decide +kernel
theorem dX4_placePaddle_96 : decode cX4_placePaddle 96 = .ok (.iconst 1, 1) := by decide +kernel
theorem dX4_placePaddle_97 : decode cX4_placePaddle 97 = .ok (.putfield 102, 3) := by decide +kernel
theorem dX4_placePaddle_100 : decode cX4_placePaddle 100 = .ok (.aload_n 0, 1) := by decide +kernel
theorem dX4_placePaddle_101 : decode cX4_placePaddle 101 = .ok (.getfield 49, 3) := by decide +kernel
theorem dX4_placePaddle_104 : decode cX4_placePaddle 104 = .ok (.ireturn, 1) := by decide +kernel
theorem dX4_rankIn_0 : decode cX4_rankIn 0 = .ok (.iconst 0, 1) := by decide +kernel
theorem dX4_rankIn_1 : decode cX4_rankIn 1 = .ok (.istore_n 2, 1) := by decide +kernel
theorem dX4_rankIn_2 : decode cX4_rankIn 2 = .ok (.iload_n 2, 1) := by decide +kernel
theorem dX4_rankIn_3 : decode cX4_rankIn 3 = .ok (.aload_n 0, 1) := by decide +kernel
theorem dX4_rankIn_4 : decode cX4_rankIn 4 = .ok (.getfield 49, 3) := by decide +kernel
theorem dX4_rankIn_7 : decode cX4_rankIn 7 = .ok (.if_icmp .ge 24, 3) := by decide +kernel
theorem dX4_rankIn_10 : decode cX4_rankIn 10 = .ok (.aload_n 0, 1) := by decide +kernel
theorem dX4_rankIn_11 : decode cX4_rankIn 11 = .ok (.getfield 31, 3) := by decide +kernel
theorem dX4_rankIn_14 : decode cX4_rankIn 14 = .ok (.iload_n 2, 1) := by decide +kernel
theorem dX4_rankIn_15 : decode cX4_rankIn 15 = .ok (.aaload, 1) := by decide +kernel
theorem dX4_rankIn_16 : decode cX4_rankIn 16 = .ok (.getfield 87, 3) := by decide +kernel
theorem dX4_rankIn_19 : decode cX4_rankIn 19 = .ok (.iload_n 1, 1) := by decide +kernel
theorem dX4_rankIn_20 : decode cX4_rankIn 20 = .ok (.if_icmp .ne 5, 3) := by decide +kernel
theorem dX4_rankIn_23 : decode cX4_rankIn 23 = .ok (.iload_n 2, 1) := by decide +kernel
theorem dX4_rankIn_24 : decode cX4_rankIn 24 = .ok (.ireturn, 1) := by decide +kernel
theorem dX4_rankIn_25 : decode cX4_rankIn 25 = .ok (.iinc 2 1, 3) := by decide +kernel
theorem dX4_rankIn_28 : decode cX4_rankIn 28 = .ok (.goto (-26), 3) := by decide +kernel
theorem dX4_rankIn_31 : decode cX4_rankIn 31 = .ok (.iconst (-1), 1) := by decide +kernel
theorem dX4_rankIn_32 : decode cX4_rankIn 32 = .ok (.ireturn, 1) := by decide +kernel
theorem dX4_openRank_0 : decode cX4_openRank 0 = .ok (.aload_n 0, 1) := by decide +kernel
theorem dX4_openRank_1 : decode cX4_openRank 1 = .ok (.getfield 49, 3) := by decide +kernel
theorem dX4_openRank_4 : decode cX4_openRank 4 = .ok (.bipush 6, 2) := by decide +kernel
theorem dX4_openRank_6 : decode cX4_openRank 6 = .ok (.if_icmp .lt 6, 3) := by decide +kernel
theorem dX4_openRank_9 : decode cX4_openRank 9 = .ok (.bipush (-4), 2) := by decide +kernel
theorem dX4_openRank_11 : decode cX4_openRank 11 = .ok (.ireturn, 1) := by decide +kernel
theorem dX4_openRank_12 : decode cX4_openRank 12 = .ok (.aload_n 0, 1) := by decide +kernel
theorem dX4_openRank_13 : decode cX4_openRank 13 = .ok (.getfield 31, 3) := by decide +kernel
theorem dX4_openRank_16 : decode cX4_openRank 16 = .ok (.aload_n 0, 1) := by decide +kernel
theorem dX4_openRank_17 : decode cX4_openRank 17 = .ok (.getfield 49, 3) := by decide +kernel
theorem dX4_openRank_20 : decode cX4_openRank 20 = .ok (.aaload, 1) := by decide +kernel
theorem dX4_openRank_21 : decode cX4_openRank 21 = .ok (.astore_n 2, 1) := by decide +kernel
theorem dX4_openRank_22 : decode cX4_openRank 22 = .ok (.aload_n 0, 1) := by decide +kernel
theorem dX4_openRank_23 : decode cX4_openRank 23 = .ok (.getfield 49, 3) := by decide +kernel
theorem dX4_openRank_26 : decode cX4_openRank 26 = .ok (.istore_n 3, 1) := by decide +kernel
theorem dX4_openRank_27 : decode cX4_openRank 27 = .ok (.iload_n 3, 1) := by decide +kernel
theorem dX4_openRank_28 : decode cX4_openRank 28 = .ok (.ifCond .le 38, 3) := by decide +kernel
theorem dX4_openRank_31 : decode cX4_openRank 31 = .ok (.aload_n 0, 1) := by decide +kernel
theorem dX4_openRank_32 : decode cX4_openRank 32 = .ok (.getfield 31, 3) := by decide +kernel
theorem dX4_openRank_35 : decode cX4_openRank 35 = .ok (.iload_n 3, 1) := by decide +kernel
theorem dX4_openRank_36 : decode cX4_openRank 36 = .ok (.iconst 1, 1) := by decide +kernel
theorem dX4_openRank_37 : decode cX4_openRank 37 = .ok (.isub, 1) := by decide +kernel
theorem dX4_openRank_38 : decode cX4_openRank 38 = .ok (.aaload, 1) := by decide +kernel
theorem dX4_openRank_39 : decode cX4_openRank 39 = .ok (.getfield 87, 3) := by decide +kernel
theorem dX4_openRank_42 : decode cX4_openRank 42 = .ok (.iload_n 1, 1) := by decide +kernel
theorem dX4_openRank_43 : decode cX4_openRank 43 = .ok (.if_icmp .le 23, 3) := by decide +kernel
theorem dX4_openRank_46 : decode cX4_openRank 46 = .ok (.aload_n 0, 1) := by decide +kernel
theorem dX4_openRank_47 : decode cX4_openRank 47 = .ok (.getfield 31, 3) := by decide +kernel
theorem dX4_openRank_50 : decode cX4_openRank 50 = .ok (.iload_n 3, 1) := by decide +kernel
theorem dX4_openRank_51 : decode cX4_openRank 51 = .ok (.aload_n 0, 1) := by decide +kernel
theorem dX4_openRank_52 : decode cX4_openRank 52 = .ok (.getfield 31, 3) := by decide +kernel
theorem dX4_openRank_55 : decode cX4_openRank 55 = .ok (.iload_n 3, 1) := by decide +kernel
theorem dX4_openRank_56 : decode cX4_openRank 56 = .ok (.iconst 1, 1) := by decide +kernel
theorem dX4_openRank_57 : decode cX4_openRank 57 = .ok (.isub, 1) := by decide +kernel
theorem dX4_openRank_58 : decode cX4_openRank 58 = .ok (.aaload, 1) := by decide +kernel
theorem dX4_openRank_59 : decode cX4_openRank 59 = .ok (.aastore, 1) := by decide +kernel
theorem dX4_openRank_60 : decode cX4_openRank 60 = .ok (.iinc 3 (-1), 3) := by decide +kernel
theorem dX4_openRank_63 : decode cX4_openRank 63 = .ok (.goto (-36), 3) := by decide +kernel
theorem dX4_openRank_66 : decode cX4_openRank 66 = .ok (.aload_n 0, 1) := by decide +kernel
theorem dX4_openRank_67 : decode cX4_openRank 67 = .ok (.getfield 31, 3) := by decide +kernel
theorem dX4_openRank_70 : decode cX4_openRank 70 = .ok (.iload_n 3, 1) := by decide +kernel
theorem dX4_openRank_71 : decode cX4_openRank 71 = .ok (.aload_n 2, 1) := by decide +kernel
theorem dX4_openRank_72 : decode cX4_openRank 72 = .ok (.aastore, 1) := by decide +kernel
theorem dX4_openRank_73 : decode cX4_openRank 73 = .ok (.aload_n 0, 1) := by decide +kernel
theorem dX4_openRank_74 : decode cX4_openRank 74 = .ok (.dup, 1) := by decide +kernel
theorem dX4_openRank_75 : decode cX4_openRank 75 = .ok (.getfield 49, 3) := by decide +kernel
theorem dX4_openRank_78 : decode cX4_openRank 78 = .ok (.iconst 1, 1) := by decide +kernel
theorem dX4_openRank_79 : decode cX4_openRank 79 = .ok (.iadd, 1) := by decide +kernel
theorem dX4_openRank_80 : decode cX4_openRank 80 = .ok (.putfield 49, 3) := by decide +kernel
theorem dX4_openRank_83 : decode cX4_openRank 83 = .ok (.iload_n 3, 1) := by decide +kernel
theorem dX4_openRank_84 : decode cX4_openRank 84 = .ok (.ireturn, 1) := by decide +kernel
theorem dX4_removePaddle_0 : decode cX4_removePaddle 0 = .ok (.aload_n 0, 1) := by decide +kernel
theorem dX4_removePaddle_1 : decode cX4_removePaddle 1 = .ok (.iload_n 1, 1) := by decide +kernel
theorem dX4_removePaddle_2 : decode cX4_removePaddle 2 = .ok (.invokevirtual 80, 3) := by decide +kernel
theorem dX4_removePaddle_5 : decode cX4_removePaddle 5 = .ok (.istore_n 2, 1) := by decide +kernel
theorem dX4_removePaddle_6 : decode cX4_removePaddle 6 = .ok (.iload_n 2, 1) := by decide +kernel
theorem dX4_removePaddle_7 : decode cX4_removePaddle 7 = .ok (.ifCond .ge 5, 3) := by decide +kernel
theorem dX4_removePaddle_10 : decode cX4_removePaddle 10 = .ok (.iconst (-1), 1) := by decide +kernel
theorem dX4_removePaddle_11 : decode cX4_removePaddle 11 = .ok (.ireturn, 1) := by decide +kernel
theorem dX4_removePaddle_12 : decode cX4_removePaddle 12 = .ok (.aload_n 0, 1) := by decide +kernel
theorem dX4_removePaddle_13 : decode cX4_removePaddle 13 = .ok (.getfield 31, 3) := by decide +kernel
theorem dX4_removePaddle_16 : decode cX4_removePaddle 16 = .ok (.iload_n 2, 1) := by decide +kernel
theorem dX4_removePaddle_17 : decode cX4_removePaddle 17 = .ok (.aaload, 1) := by decide +kernel
theorem dX4_removePaddle_18 : decode cX4_removePaddle 18 = .ok (.astore_n 3, 1) := by decide +kernel
theorem dX4_removePaddle_19 : decode cX4_removePaddle 19 = .ok (.aload_n 0, 1) := by decide +kernel
theorem dX4_removePaddle_20 : decode cX4_removePaddle 20 = .ok (.dup, 1) := by decide +kernel
theorem dX4_removePaddle_21 : decode cX4_removePaddle 21 = .ok (.getfield 49, 3) := by decide +kernel
theorem dX4_removePaddle_24 : decode cX4_removePaddle 24 = .ok (.iconst 1, 1) := by decide +kernel
theorem dX4_removePaddle_25 : decode cX4_removePaddle 25 = .ok (.isub, 1) := by decide +kernel
theorem dX4_removePaddle_26 : decode cX4_removePaddle 26 = .ok (.putfield 49, 3) := by decide +kernel
theorem dX4_removePaddle_29 : decode cX4_removePaddle 29 = .ok (.iload_n 2, 1) := by decide +kernel
theorem dX4_removePaddle_30 : decode cX4_removePaddle 30 = .ok (.istore 4, 2) := by decide +kernel
theorem dX4_removePaddle_32 : decode cX4_removePaddle 32 = .ok (.iload 4, 2) := by decide +kernel
theorem dX4_removePaddle_34 : decode cX4_removePaddle 34 = .ok (.aload_n 0, 1) := by decide +kernel
theorem dX4_removePaddle_35 : decode cX4_removePaddle 35 = .ok (.getfield 49, 3) := by decide +kernel
theorem dX4_removePaddle_38 : decode cX4_removePaddle 38 = .ok (.if_icmp .ge 25, 3) := by decide +kernel
theorem dX4_removePaddle_41 : decode cX4_removePaddle 41 = .ok (.aload_n 0, 1) := by decide +kernel
theorem dX4_removePaddle_42 : decode cX4_removePaddle 42 = .ok (.getfield 31, 3) := by decide +kernel
theorem dX4_removePaddle_45 : decode cX4_removePaddle 45 = .ok (.iload 4, 2) := by decide +kernel
theorem dX4_removePaddle_47 : decode cX4_removePaddle 47 = .ok (.aload_n 0, 1) := by decide +kernel
theorem dX4_removePaddle_48 : decode cX4_removePaddle 48 = .ok (.getfield 31, 3) := by decide +kernel
theorem dX4_removePaddle_51 : decode cX4_removePaddle 51 = .ok (.iload 4, 2) := by decide +kernel
theorem dX4_removePaddle_53 : decode cX4_removePaddle 53 = .ok (.iconst 1, 1) := by decide +kernel
theorem dX4_removePaddle_54 : decode cX4_removePaddle 54 = .ok (.iadd, 1) := by decide +kernel
theorem dX4_removePaddle_55 : decode cX4_removePaddle 55 = .ok (.aaload, 1) := by decide +kernel
theorem dX4_removePaddle_56 : decode cX4_removePaddle 56 = .ok (.aastore, 1) := by decide +kernel
theorem dX4_removePaddle_57 : decode cX4_removePaddle 57 = .ok (.iinc 4 1, 3) := by decide +kernel
theorem dX4_removePaddle_60 : decode cX4_removePaddle 60 = .ok (.goto (-28), 3) := by decide +kernel
theorem dX4_removePaddle_63 : decode cX4_removePaddle 63 = .ok (.aload_n 0, 1) := by decide +kernel
theorem dX4_removePaddle_64 : decode cX4_removePaddle 64 = .ok (.getfield 31, 3) := by decide +kernel
theorem dX4_removePaddle_67 : decode cX4_removePaddle 67 = .ok (.aload_n 0, 1) := by decide +kernel
theorem dX4_removePaddle_68 : decode cX4_removePaddle 68 = .ok (.getfield 49, 3) := by decide +kernel
theorem dX4_removePaddle_71 : decode cX4_removePaddle 71 = .ok (.aload_n 3, 1) := by decide +kernel
theorem dX4_removePaddle_72 : decode cX4_removePaddle 72 = .ok (.aastore, 1) := by decide +kernel
theorem dX4_removePaddle_73 : decode cX4_removePaddle 73 = .ok (.aload_n 0, 1) := by decide +kernel
theorem dX4_removePaddle_74 : decode cX4_removePaddle 74 = .ok (.getfield 49, 3) := by decide +kernel
theorem dX4_removePaddle_77 : decode cX4_removePaddle 77 = .ok (.ireturn, 1) := by decide +kernel
theorem dX4_startPaddle_0 : decode cX4_startPaddle 0 = .ok (.aload_n 0, 1) := by decide +kernel
theorem dX4_startPaddle_1 : decode cX4_startPaddle 1 = .ok (.iload_n 1, 1) := by decide +kernel
theorem dX4_startPaddle_2 : decode cX4_startPaddle 2 = .ok (.invokevirtual 80, 3) := by decide +kernel
theorem dX4_startPaddle_5 : decode cX4_startPaddle 5 = .ok (.istore_n 2, 1) := by decide +kernel
theorem dX4_startPaddle_6 : decode cX4_startPaddle 6 = .ok (.iload_n 2, 1) := by decide +kernel
theorem dX4_startPaddle_7 : decode cX4_startPaddle 7 = .ok (.ifCond .ge 5, 3) := by decide +kernel
theorem dX4_startPaddle_10 : decode cX4_startPaddle 10 = .ok (.iconst (-1), 1) := by decide +kernel
theorem dX4_startPaddle_11 : decode cX4_startPaddle 11 = .ok (.ireturn, 1) := by decide +kernel
theorem dX4_startPaddle_12 : decode cX4_startPaddle 12 = .ok (.aload_n 0, 1) := by decide +kernel
theorem dX4_startPaddle_13 : decode cX4_startPaddle 13 = .ok (.getfield 31, 3) := by decide +kernel
theorem dX4_startPaddle_16 : decode cX4_startPaddle 16 = .ok (.iload_n 2, 1) := by decide +kernel
theorem dX4_startPaddle_17 : decode cX4_startPaddle 17 = .ok (.aaload, 1) := by decide +kernel
theorem dX4_startPaddle_18 : decode cX4_startPaddle 18 = .ok (.getfield 102, 3) := by decide +kernel
theorem dX4_startPaddle_21 : decode cX4_startPaddle 21 = .ok (.ifCond .ne 7, 3) := by decide +kernel
theorem dX4_startPaddle_24 : decode cX4_startPaddle 24 = .ok (.iconst 1, 1) := by decide +kernel
theorem dX4_startPaddle_25 : decode cX4_startPaddle 25 = .ok (.goto 4, 3) := by decide +kernel
theorem dX4_startPaddle_28 : decode cX4_startPaddle 28 = .ok (.iconst 0, 1) := by decide +kernel
theorem dX4_startPaddle_29 : decode cX4_startPaddle 29 = .ok (.istore_n 3, 1) := by decide +kernel
theorem dX4_startPaddle_30 : decode cX4_startPaddle 30 = .ok (.aload_n 0, 1) := by decide +kernel
theorem dX4_startPaddle_31 : decode cX4_startPaddle 31 = .ok (.getfield 31, 3) := by decide +kernel
theorem dX4_startPaddle_34 : decode cX4_startPaddle 34 = .ok (.iload_n 2, 1) := by decide +kernel
theorem dX4_startPaddle_35 : decode cX4_startPaddle 35 = .ok (.aaload, 1) := by decide +kernel
theorem dX4_startPaddle_36 : decode cX4_startPaddle 36 = .ok (.iconst 1, 1) := by decide +kernel
theorem dX4_startPaddle_37 : decode cX4_startPaddle 37 = .ok (.putfield 102, 3) := by decide +kernel
theorem dX4_startPaddle_40 : decode cX4_startPaddle 40 = .ok (.iload_n 3, 1) := by decide +kernel
theorem dX4_startPaddle_41 : decode cX4_startPaddle 41 = .ok (.invokestatic 106, 3) := by decide +kernel
theorem dX4_startPaddle_44 : decode cX4_startPaddle 44 = .ok (.ireturn, 1) := by decide +kernel
theorem dX4_placeGauge_0 : decode cX4_placeGauge 0 = .ok (.iload_n 1, 1) := by decide +kernel
theorem dX4_placeGauge_1 : decode cX4_placeGauge 1 = .ok (.bipush 40, 2) := by decide +kernel
theorem dX4_placeGauge_3 : decode cX4_placeGauge 3 = .ok (.invokestatic 66, 3) := by decide +kernel
theorem dX4_placeGauge_6 : decode cX4_placeGauge 6 = .ok (.ifCond .eq 5, 3) := by decide +kernel
theorem dX4_placeGauge_9 : decode cX4_placeGauge 9 = .ok (.iconst (-1), 1) := by decide +kernel
theorem dX4_placeGauge_10 : decode cX4_placeGauge 10 = .ok (.ireturn, 1) := by decide +kernel
theorem dX4_placeGauge_11 : decode cX4_placeGauge 11 = .ok (.aload_n 0, 1) := by decide +kernel
theorem dX4_placeGauge_12 : decode cX4_placeGauge 12 = .ok (.getfield 57, 3) := by decide +kernel
theorem dX4_placeGauge_15 : decode cX4_placeGauge 15 = .ok (.iconst 4, 1) := by decide +kernel
theorem dX4_placeGauge_16 : decode cX4_placeGauge 16 = .ok (.if_icmp .lt 6, 3) := by decide +kernel
theorem dX4_placeGauge_19 : decode cX4_placeGauge 19 = .ok (.bipush (-4), 2) := by decide +kernel
theorem dX4_placeGauge_21 : decode cX4_placeGauge 21 = .ok (.ireturn, 1) := by decide +kernel
theorem dX4_placeGauge_22 : decode cX4_placeGauge 22 = .ok (.aload_n 0, 1) := by decide +kernel
theorem dX4_placeGauge_23 : decode cX4_placeGauge 23 = .ok (.getfield 37, 3) := by decide +kernel
theorem dX4_placeGauge_26 : decode cX4_placeGauge 26 = .ok (.aload_n 0, 1) := by decide +kernel
theorem dX4_placeGauge_27 : decode cX4_placeGauge 27 = .ok (.getfield 57, 3) := by decide +kernel
theorem dX4_placeGauge_30 : decode cX4_placeGauge 30 = .ok (.aaload, 1) := by decide +kernel
theorem dX4_placeGauge_31 : decode cX4_placeGauge 31 = .ok (.iload_n 1, 1) := by decide +kernel
theorem dX4_placeGauge_32 : decode cX4_placeGauge 32 = .ok (.invokevirtual 110, 3) := by decide +kernel
theorem dX4_placeGauge_35 : decode cX4_placeGauge 35 = .ok (.aload_n 0, 1) := by decide +kernel
theorem dX4_placeGauge_36 : decode cX4_placeGauge 36 = .ok (.dup, 1) := by decide +kernel
theorem dX4_placeGauge_37 : decode cX4_placeGauge 37 = .ok (.getfield 57, 3) := by decide +kernel
theorem dX4_placeGauge_40 : decode cX4_placeGauge 40 = .ok (.iconst 1, 1) := by decide +kernel
theorem dX4_placeGauge_41 : decode cX4_placeGauge 41 = .ok (.iadd, 1) := by decide +kernel
theorem dX4_placeGauge_42 : decode cX4_placeGauge 42 = .ok (.putfield 57, 3) := by decide +kernel
theorem dX4_placeGauge_45 : decode cX4_placeGauge 45 = .ok (.aload_n 0, 1) := by decide +kernel
theorem dX4_placeGauge_46 : decode cX4_placeGauge 46 = .ok (.getfield 57, 3) := by decide +kernel
theorem dX4_placeGauge_49 : decode cX4_placeGauge 49 = .ok (.iconst 1, 1) := by decide +kernel
theorem dX4_placeGauge_50 : decode cX4_placeGauge 50 = .ok (.isub, 1) := by decide +kernel
theorem dX4_placeGauge_51 : decode cX4_placeGauge 51 = .ok (.ireturn, 1) := by decide +kernel
theorem dX4_changeLevel_0 : decode cX4_changeLevel 0 = .ok (.iload_n 1, 1) := by decide +kernel
theorem dX4_changeLevel_1 : decode cX4_changeLevel 1 = .ok (.bipush 40, 2) := by decide +kernel
theorem dX4_changeLevel_3 : decode cX4_changeLevel 3 = .ok (.invokestatic 66, 3) := by decide +kernel
theorem dX4_changeLevel_6 : decode cX4_changeLevel 6 = .ok (.ifCond .eq 5, 3) := by decide +kernel
theorem dX4_changeLevel_9 : decode cX4_changeLevel 9 = .ok (.iconst (-1), 1) := by decide +kernel
theorem dX4_changeLevel_10 : decode cX4_changeLevel 10 = .ok (.ireturn, 1) := by decide +kernel
theorem dX4_changeLevel_11 : decode cX4_changeLevel 11 = .ok (.iload_n 2, 1) := by decide +kernel
theorem dX4_changeLevel_12 : decode cX4_changeLevel 12 = .ok (.sipush (-9999), 3) := by decide +kernel
theorem dX4_changeLevel_15 : decode cX4_changeLevel 15 = .ok (.if_icmp .lt 10, 3) := by decide +kernel
theorem dX4_changeLevel_18 : decode cX4_changeLevel 18 = .ok (.iload_n 2, 1) := by decide +kernel
theorem dX4_changeLevel_19 : decode cX4_changeLevel 19 = .ok (.sipush 9999, 3) := by decide +kernel
theorem dX4_changeLevel_22 : decode cX4_changeLevel 22 = .ok (.if_icmp .le 6, 3) := by decide +kernel
theorem dX4_changeLevel_25 : decode cX4_changeLevel 25 = .ok (.bipush (-2), 2) := by decide +kernel
theorem dX4_changeLevel_27 : decode cX4_changeLevel 27 = .ok (.ireturn, 1) := by decide +kernel
theorem dX4_changeLevel_28 : decode cX4_changeLevel 28 = .ok (.aload_n 0, 1) := by decide +kernel
theorem dX4_changeLevel_29 : decode cX4_changeLevel 29 = .ok (.getfield 23, 3) := by decide +kernel
theorem dX4_changeLevel_32 : decode cX4_changeLevel 32 = .ok (.iload_n 1, 1) := by decide +kernel
theorem dX4_changeLevel_33 : decode cX4_changeLevel 33 = .ok (.iaload, 1) := by decide +kernel
theorem dX4_changeLevel_34 : decode cX4_changeLevel 34 = .ok (.istore_n 3, 1) := by decide +kernel
theorem dX4_changeLevel_35 : decode cX4_changeLevel 35 = .ok (.aload_n 0, 1) := by decide +kernel
theorem dX4_changeLevel_36 : decode cX4_changeLevel 36 = .ok (.getfield 23, 3) := by decide +kernel
theorem dX4_changeLevel_39 : decode cX4_changeLevel 39 = .ok (.iload_n 1, 1) := by decide +kernel
theorem dX4_changeLevel_40 : decode cX4_changeLevel 40 = .ok (.iload_n 2, 1) := by decide +kernel
theorem dX4_changeLevel_41 : decode cX4_changeLevel 41 = .ok (.iastore, 1) := by decide +kernel
theorem dX4_changeLevel_42 : decode cX4_changeLevel 42 = .ok (.iload_n 3, 1) := by decide +kernel
theorem dX4_changeLevel_43 : decode cX4_changeLevel 43 = .ok (.sipush 10000, 3) := by decide +kernel
theorem dX4_changeLevel_46 : decode cX4_changeLevel 46 = .ok (.iadd, 1) := by decide +kernel
theorem dX4_changeLevel_47 : decode cX4_changeLevel 47 = .ok (.ireturn, 1) := by decide +kernel
theorem dX4_passSteps_0 : decode cX4_passSteps 0 = .ok (.iload_n 1, 1) := by decide +kernel
theorem dX4_passSteps_1 : decode cX4_passSteps 1 = .ok (.iconst 1, 1) := by decide +kernel
theorem dX4_passSteps_2 : decode cX4_passSteps 2 = .ok (.if_icmp .lt 9, 3) := by decide +kernel
theorem dX4_passSteps_5 : decode cX4_passSteps 5 = .ok (.iload_n 1, 1) := by decide +kernel
theorem dX4_passSteps_6 : decode cX4_passSteps 6 = .ok (.bipush 99, 2) := by decide +kernel
theorem dX4_passSteps_8 : decode cX4_passSteps 8 = .ok (.if_icmp .le 6, 3) := by decide +kernel
theorem dX4_passSteps_11 : decode cX4_passSteps 11 = .ok (.bipush (-2), 2) := by decide +kernel
theorem dX4_passSteps_13 : decode cX4_passSteps 13 = .ok (.ireturn, 1) := by decide +kernel
theorem dX4_passSteps_14 : decode cX4_passSteps 14 = .ok (.aload_n 0, 1) := by decide +kernel
theorem dX4_passSteps_15 : decode cX4_passSteps 15 = .ok (.getfield 63, 3) := by decide +kernel
theorem dX4_passSteps_18 : decode cX4_passSteps 18 = .ok (.iload_n 1, 1) := by decide +kernel
theorem dX4_passSteps_19 : decode cX4_passSteps 19 = .ok (.iadd, 1) := by decide +kernel
theorem dX4_passSteps_20 : decode cX4_passSteps 20 = .ok (.ldc 114, 2) := by decide +kernel
theorem dX4_passSteps_22 : decode cX4_passSteps 22 = .ok (.if_icmp .le 6, 3) := by decide +kernel
theorem dX4_passSteps_25 : decode cX4_passSteps 25 = .ok (.bipush (-5), 2) := by decide +kernel
theorem dX4_passSteps_27 : decode cX4_passSteps 27 = .ok (.ireturn, 1) := by decide +kernel
theorem dX4_passSteps_28 : decode cX4_passSteps 28 = .ok (.iconst 0, 1) := by decide +kernel
theorem dX4_passSteps_29 : decode cX4_passSteps 29 = .ok (.istore_n 2, 1) := by decide +kernel
theorem dX4_passSteps_30 : decode cX4_passSteps 30 = .ok (.iconst 0, 1) := by decide +kernel
theorem dX4_passSteps_31 : decode cX4_passSteps 31 = .ok (.istore_n 3, 1) := by decide +kernel
theorem dX4_passSteps_32 : decode cX4_passSteps 32 = .ok (.iload_n 3, 1) := by decide +kernel
theorem dX4_passSteps_33 : decode cX4_passSteps 33 = .ok (.iload_n 1, 1) := by decide +kernel
theorem dX4_passSteps_34 : decode cX4_passSteps 34 = .ok (.if_icmp .ge 16, 3) := by decide +kernel
theorem dX4_passSteps_37 : decode cX4_passSteps 37 = .ok (.iload_n 2, 1) := by decide +kernel
theorem dX4_passSteps_38 : decode cX4_passSteps 38 = .ok (.aload_n 0, 1) := by decide +kernel
theorem dX4_passSteps_39 : decode cX4_passSteps 39 = .ok (.invokevirtual 115, 3) := by decide +kernel
theorem dX4_passSteps_42 : decode cX4_passSteps 42 = .ok (.iadd, 1) := by decide +kernel
theorem dX4_passSteps_43 : decode cX4_passSteps 43 = .ok (.istore_n 2, 1) := by decide +kernel
theorem dX4_passSteps_44 : decode cX4_passSteps 44 = .ok (.iinc 3 1, 3) := by decide +kernel
theorem dX4_passSteps_47 : decode cX4_passSteps 47 = .ok (.goto (-15), 3) := by decide +kernel
theorem dX4_passSteps_50 : decode cX4_passSteps 50 = .ok (.iload_n 2, 1) := by decide +kernel
theorem dX4_passSteps_51 : decode cX4_passSteps 51 = .ok (.ireturn, 1) := by decide +kernel
theorem dX4_step_0 : decode cX4_step 0 = .ok (.aload_n 0, 1) := by decide +kernel
theorem dX4_step_1 : decode cX4_step 1 = .ok (.invokevirtual 119, 3) := by decide +kernel
theorem dX4_step_4 : decode cX4_step 4 = .ok (.istore_n 1, 1) := by decide +kernel
theorem dX4_step_5 : decode cX4_step 5 = .ok (.aload_n 0, 1) := by decide +kernel
theorem dX4_step_6 : decode cX4_step 6 = .ok (.invokevirtual 122, 3) := by decide +kernel
theorem dX4_step_9 : decode cX4_step 9 = .ok (.aload_n 0, 1) := by decide +kernel
theorem dX4_step_10 : decode cX4_step 10 = .ok (.invokevirtual 125, 3) := by decide +kernel
theorem dX4_step_13 : decode cX4_step 13 = .ok (.aload_n 0, 1) := by decide +kernel
theorem dX4_step_14 : decode cX4_step 14 = .ok (.dup, 1) := by decide +kernel
theorem dX4_step_15 : decode cX4_step 15 = .ok (.getfield 63, 3) := by decide +kernel
theorem dX4_step_18 : decode cX4_step 18 = .ok (.iconst 1, 1) := by decide +kernel
theorem dX4_step_19 : decode cX4_step 19 = .ok (.iadd, 1) := by decide +kernel
theorem dX4_step_20 : decode cX4_step 20 = .ok (.putfield 63, 3) := by decide +kernel
theorem dX4_step_23 : decode cX4_step 23 = .ok (.iconst 0, 1) := by decide +kernel
theorem dX4_step_24 : decode cX4_step 24 = .ok (.istore_n 2, 1) := by decide +kernel
theorem dX4_step_25 : decode cX4_step 25 = .ok (.iload_n 2, 1) := by decide +kernel
theorem dX4_step_26 : decode cX4_step 26 = .ok (.aload_n 0, 1) := by decide +kernel
theorem dX4_step_27 : decode cX4_step 27 = .ok (.getfield 57, 3) := by decide +kernel
theorem dX4_step_30 : decode cX4_step 30 = .ok (.if_icmp .ge 32, 3) := by decide +kernel
theorem dX4_step_33 : decode cX4_step 33 = .ok (.aload_n 0, 1) := by decide +kernel
theorem dX4_step_34 : decode cX4_step 34 = .ok (.getfield 37, 3) := by decide +kernel
theorem dX4_step_37 : decode cX4_step 37 = .ok (.iload_n 2, 1) := by decide +kernel
theorem dX4_step_38 : decode cX4_step 38 = .ok (.aaload, 1) := by decide +kernel
theorem dX4_step_39 : decode cX4_step 39 = .ok (.aload_n 0, 1) := by decide +kernel
theorem dX4_step_40 : decode cX4_step 40 = .ok (.getfield 23, 3) := by decide +kernel
theorem dX4_step_43 : decode cX4_step 43 = .ok (.aload_n 0, 1) := by decide +kernel
theorem dX4_step_44 : decode cX4_step 44 = .ok (.getfield 37, 3) := by decide +kernel
theorem dX4_step_47 : decode cX4_step 47 = .ok (.iload_n 2, 1) := by decide +kernel
theorem dX4_step_48 : decode cX4_step 48 = .ok (.aaload, 1) := by decide +kernel
theorem dX4_step_49 : decode cX4_step 49 = .ok (.getfield 128, 3) := by decide +kernel
theorem dX4_step_52 : decode cX4_step 52 = .ok (.iaload, 1) := by decide +kernel
theorem dX4_step_53 : decode cX4_step 53 = .ok (.invokevirtual 129, 3) := by decide +kernel
theorem dX4_step_56 : decode cX4_step 56 = .ok (.iinc 2 1, 3) := by decide +kernel
theorem dX4_step_59 : decode cX4_step 59 = .ok (.goto (-34), 3) := by decide +kernel
theorem dX4_step_62 : decode cX4_step 62 = .ok (.iload_n 1, 1) := by decide +kernel
theorem dX4_step_63 : decode cX4_step 63 = .ok (.ireturn, 1) := by decide +kernel
theorem dX4_movePaddles_0 : decode cX4_movePaddles 0 = .ok (.iconst 0, 1) := by decide +kernel
theorem dX4_movePaddles_1 : decode cX4_movePaddles 1 = .ok (.istore_n 1, 1) := by decide +kernel
theorem dX4_movePaddles_2 : decode cX4_movePaddles 2 = .ok (.iconst 0, 1) := by decide +kernel
theorem dX4_movePaddles_3 : decode cX4_movePaddles 3 = .ok (.istore_n 2, 1) := by decide +kernel
theorem dX4_movePaddles_4 : decode cX4_movePaddles 4 = .ok (.iload_n 2, 1) := by decide +kernel
theorem dX4_movePaddles_5 : decode cX4_movePaddles 5 = .ok (.aload_n 0, 1) := by decide +kernel
theorem dX4_movePaddles_6 : decode cX4_movePaddles 6 = .ok (.getfield 49, 3) := by decide +kernel
theorem dX4_movePaddles_9 : decode cX4_movePaddles 9 = .ok (.if_icmp .ge 79, 3) := by decide +kernel
theorem dX4_movePaddles_12 : decode cX4_movePaddles 12 = .ok (.aload_n 0, 1) := by decide +kernel
theorem dX4_movePaddles_13 : decode cX4_movePaddles 13 = .ok (.getfield 31, 3) := by decide +kernel
theorem dX4_movePaddles_16 : decode cX4_movePaddles 16 = .ok (.iload_n 2, 1) := by decide +kernel
theorem dX4_movePaddles_17 : decode cX4_movePaddles 17 = .ok (.aaload, 1) := by decide +kernel
theorem dX4_movePaddles_18 : decode cX4_movePaddles 18 = .ok (.astore_n 3, 1) := by decide +kernel
theorem dX4_movePaddles_19 : decode cX4_movePaddles 19 = .ok (.aload_n 3, 1) := by decide +kernel
theorem dX4_movePaddles_20 : decode cX4_movePaddles 20 = .ok (.getfield 102, 3) := by decide +kernel
theorem dX4_movePaddles_23 : decode cX4_movePaddles 23 = .ok (.ifCond .eq 35, 3) := by decide +kernel
theorem dX4_movePaddles_26 : decode cX4_movePaddles 26 = .ok (.aload_n 0, 1) := by decide +kernel
theorem dX4_movePaddles_27 : decode cX4_movePaddles 27 = .ok (.getfield 23, 3) := by decide +kernel
theorem dX4_movePaddles_30 : decode cX4_movePaddles 30 = .ok (.aload_n 3, 1) := by decide +kernel
theorem dX4_movePaddles_31 : decode cX4_movePaddles 31 = .ok (.getfield 87, 3) := by decide +kernel
theorem dX4_movePaddles_34 : decode cX4_movePaddles 34 = .ok (.iaload, 1) := by decide +kernel
theorem dX4_movePaddles_35 : decode cX4_movePaddles 35 = .ok (.invokestatic 132, 3) := by decide +kernel
theorem dX4_movePaddles_38 : decode cX4_movePaddles 38 = .ok (.aload_n 0, 1) := by decide +kernel
theorem dX4_movePaddles_39 : decode cX4_movePaddles 39 = .ok (.getfield 18, 3) := by decide +kernel
theorem dX4_movePaddles_42 : decode cX4_movePaddles 42 = .ok (.iconst 2, 1) := by decide +kernel
theorem dX4_movePaddles_43 : decode cX4_movePaddles 43 = .ok (.iaload, 1) := by decide +kernel
theorem dX4_movePaddles_44 : decode cX4_movePaddles 44 = .ok (.if_icmp .le 14, 3) := by decide +kernel
theorem dX4_movePaddles_47 : decode cX4_movePaddles 47 = .ok (.aload_n 3, 1) := by decide +kernel
theorem dX4_movePaddles_48 : decode cX4_movePaddles 48 = .ok (.iconst 0, 1) := by decide +kernel
theorem dX4_movePaddles_49 : decode cX4_movePaddles 49 = .ok (.putfield 102, 3) := by decide +kernel
theorem dX4_movePaddles_52 : decode cX4_movePaddles 52 = .ok (.iinc 1 1, 3) := by decide +kernel
theorem dX4_movePaddles_55 : decode cX4_movePaddles 55 = .ok (.goto 27, 3) := by decide +kernel
theorem dX4_movePaddles_58 : decode cX4_movePaddles 58 = .ok (.aload_n 3, 1) := by decide +kernel
theorem dX4_movePaddles_59 : decode cX4_movePaddles 59 = .ok (.getfield 102, 3) := by decide +kernel
theorem dX4_movePaddles_62 : decode cX4_movePaddles 62 = .ok (.ifCond .eq 20, 3) := by decide +kernel
theorem dX4_movePaddles_65 : decode cX4_movePaddles 65 = .ok (.aload_n 0, 1) := by decide +kernel
theorem dX4_movePaddles_66 : decode cX4_movePaddles 66 = .ok (.getfield 23, 3) := by decide +kernel
theorem dX4_movePaddles_69 : decode cX4_movePaddles 69 = .ok (.aload_n 3, 1) := by decide +kernel
theorem dX4_movePaddles_70 : decode cX4_movePaddles 70 = .ok (.getfield 87, 3) := by decide +kernel
theorem dX4_movePaddles_73 : decode cX4_movePaddles 73 = .ok (.aload_n 3, 1) := by decide +kernel
theorem dX4_movePaddles_74 : decode cX4_movePaddles 74 = .ok (.aload_n 0, 1) := by decide +kernel
theorem dX4_movePaddles_75 : decode cX4_movePaddles 75 = .ok (.getfield 63, 3) := by decide +kernel
theorem dX4_movePaddles_78 : decode cX4_movePaddles 78 = .ok (.invokevirtual 137, 3) := by decide +kernel
theorem dX4_movePaddles_81 : decode cX4_movePaddles 81 = .ok (.iastore, 1) := by decide +kernel
theorem dX4_movePaddles_82 : decode cX4_movePaddles 82 = .ok (.iinc 2 1, 3) := by decide +kernel
theorem dX4_movePaddles_85 : decode cX4_movePaddles 85 = .ok (.goto (-81), 3) := by decide +kernel
theorem dX4_movePaddles_88 : decode cX4_movePaddles 88 = .ok (.iload_n 1, 1) := by decide +kernel
theorem dX4_movePaddles_89 : decode cX4_movePaddles 89 = .ok (.ireturn, 1) := by decide +kernel
theorem dX4_moveWater_0 : decode cX4_moveWater 0 = .ok (.aload_n 0, 1) := by decide +kernel
theorem dX4_moveWater_1 : decode cX4_moveWater 1 = .ok (.getfield 23, 3) := by decide +kernel
theorem dX4_moveWater_4 : decode cX4_moveWater 4 = .ok (.iconst 0, 1) := by decide +kernel
theorem dX4_moveWater_5 : decode cX4_moveWater 5 = .ok (.iaload, 1) := by decide +kernel
theorem dX4_moveWater_6 : decode cX4_moveWater 6 = .ok (.istore_n 1, 1) := by decide +kernel
theorem dX4_moveWater_7 : decode cX4_moveWater 7 = .ok (.iconst 0, 1) := by decide +kernel
theorem dX4_moveWater_8 : decode cX4_moveWater 8 = .ok (.istore_n 2, 1) := by decide +kernel
theorem dX4_moveWater_9 : decode cX4_moveWater 9 = .ok (.iload_n 2, 1) := by decide +kernel
theorem dX4_moveWater_10 : decode cX4_moveWater 10 = .ok (.bipush 40, 2) := by decide +kernel
theorem dX4_moveWater_12 : decode cX4_moveWater 12 = .ok (.if_icmp .ge 100, 3) := by decide +kernel
theorem dX4_moveWater_15 : decode cX4_moveWater 15 = .ok (.aload_n 0, 1) := by decide +kernel
theorem dX4_moveWater_16 : decode cX4_moveWater 16 = .ok (.getfield 23, 3) := by decide +kernel
theorem dX4_moveWater_19 : decode cX4_moveWater 19 = .ok (.iload_n 2, 1) := by decide +kernel
theorem dX4_moveWater_20 : decode cX4_moveWater 20 = .ok (.iaload, 1) := by decide +kernel
theorem dX4_moveWater_21 : decode cX4_moveWater 21 = .ok (.istore_n 3, 1) := by decide +kernel
theorem dX4_moveWater_22 : decode cX4_moveWater 22 = .ok (.iload_n 2, 1) := by decide +kernel
theorem dX4_moveWater_23 : decode cX4_moveWater 23 = .ok (.iconst 1, 1) := by decide +kernel
theorem dX4_moveWater_24 : decode cX4_moveWater 24 = .ok (.iadd, 1) := by decide +kernel
theorem dX4_moveWater_25 : decode cX4_moveWater 25 = .ok (.bipush 40, 2) := by decide +kernel
theorem dX4_moveWater_27 : decode cX4_moveWater 27 = .ok (.if_icmp .ge 14, 3) := by decide +kernel
theorem dX4_moveWater_30 : decode cX4_moveWater 30 = .ok (.aload_n 0, 1) := by decide +kernel
theorem dX4_moveWater_31 : decode cX4_moveWater 31 = .ok (.getfield 23, 3) := by decide +kernel
theorem dX4_moveWater_34 : decode cX4_moveWater 34 = .ok (.iload_n 2, 1) := by decide +kernel
theorem dX4_moveWater_35 : decode cX4_moveWater 35 = .ok (.iconst 1, 1) := by decide +kernel
theorem dX4_moveWater_36 : decode cX4_moveWater 36 = .ok (.iadd, 1) := by decide +kernel
theorem dX4_moveWater_37 : decode cX4_moveWater 37 = .ok (.iaload, 1) := by decide +kernel
theorem dX4_moveWater_38 : decode cX4_moveWater 38 = .ok (.goto 4, 3) := by decide +kernel
theorem dX4_moveWater_41 : decode cX4_moveWater 41 = .ok (.iload_n 3, 1) := by decide +kernel
theorem dX4_moveWater_42 : decode cX4_moveWater 42 = .ok (.istore 4, 2) := by decide +kernel
theorem dX4_moveWater_44 : decode cX4_moveWater 44 = .ok (.aload_n 0, 1) := by decide +kernel
theorem dX4_moveWater_45 : decode cX4_moveWater 45 = .ok (.getfield 26, 3) := by decide +kernel
theorem dX4_moveWater_48 : decode cX4_moveWater 48 = .ok (.iload_n 2, 1) := by decide +kernel
theorem dX4_moveWater_49 : decode cX4_moveWater 49 = .ok (.iaload, 1) := by decide +kernel
theorem dX4_moveWater_50 : decode cX4_moveWater 50 = .ok (.iload_n 1, 1) := by decide +kernel
theorem dX4_moveWater_51 : decode cX4_moveWater 51 = .ok (.iload 4, 2) := by decide +kernel
theorem dX4_moveWater_53 : decode cX4_moveWater 53 = .ok (.iadd, 1) := by decide +kernel
theorem dX4_moveWater_54 : decode cX4_moveWater 54 = .ok (.iconst 2, 1) := by decide +kernel
theorem dX4_moveWater_55 : decode cX4_moveWater 55 = .ok (.iload_n 3, 1) := by decide +kernel
theorem dX4_moveWater_56 : decode cX4_moveWater 56 = .ok (.imul, 1) := by decide +kernel
theorem dX4_moveWater_57 : decode cX4_moveWater 57 = .ok (.isub, 1) := by decide +kernel
theorem dX4_moveWater_58 : decode cX4_moveWater 58 = .ok (.iconst 4, 1) := by decide +kernel
theorem dX4_moveWater_59 : decode cX4_moveWater 59 = .ok (.idiv, 1) := by decide +kernel
theorem dX4_moveWater_60 : decode cX4_moveWater 60 = .ok (.iadd, 1) := by decide +kernel
theorem dX4_moveWater_61 : decode cX4_moveWater 61 = .ok (.invokestatic 140, 3) := by decide +kernel
theorem dX4_moveWater_64 : decode cX4_moveWater 64 = .ok (.istore 5, 2) := by decide +kernel
theorem dX4_moveWater_66 : decode cX4_moveWater 66 = .ok (.iload 5, 2) := by decide +kernel
theorem dX4_moveWater_68 : decode cX4_moveWater 68 = .ok (.iload 5, 2) := by decide +kernel
theorem dX4_moveWater_70 : decode cX4_moveWater 70 = .ok (.aload_n 0, 1) := by decide +kernel
theorem dX4_moveWater_71 : decode cX4_moveWater 71 = .ok (.getfield 18, 3) := by decide +kernel
theorem dX4_moveWater_74 : decode cX4_moveWater 74 = .ok (.iconst 1, 1) := by decide +kernel
theorem dX4_moveWater_75 : decode cX4_moveWater 75 = .ok (.iaload, 1) := by decide +kernel
theorem dX4_moveWater_76 : decode cX4_moveWater 76 = .ok (.imul, 1) := by decide +kernel
theorem dX4_moveWater_77 : decode cX4_moveWater 77 = .ok (.bipush 100, 2) := by decide +kernel
theorem dX4_moveWater_79 : decode cX4_moveWater 79 = .ok (.idiv, 1) := by decide +kernel
theorem dX4_moveWater_80 : decode cX4_moveWater 80 = .ok (.isub, 1) := by decide +kernel
theorem dX4_moveWater_81 : decode cX4_moveWater 81 = .ok (.istore 5, 2) := by decide +kernel
theorem dX4_moveWater_83 : decode cX4_moveWater 83 = .ok (.aload_n 0, 1) := by decide +kernel
theorem dX4_moveWater_84 : decode cX4_moveWater 84 = .ok (.getfield 26, 3) := by decide +kernel
theorem dX4_moveWater_87 : decode cX4_moveWater 87 = .ok (.iload_n 2, 1) := by decide +kernel
theorem dX4_moveWater_88 : decode cX4_moveWater 88 = .ok (.iload 5, 2) := by decide +kernel
theorem dX4_moveWater_90 : decode cX4_moveWater 90 = .ok (.iastore, 1) := by decide +kernel
theorem dX4_moveWater_91 : decode cX4_moveWater 91 = .ok (.aload_n 0, 1) := by decide +kernel
theorem dX4_moveWater_92 : decode cX4_moveWater 92 = .ok (.getfield 23, 3) := by decide +kernel
theorem dX4_moveWater_95 : decode cX4_moveWater 95 = .ok (.iload_n 2, 1) := by decide +kernel
theorem dX4_moveWater_96 : decode cX4_moveWater 96 = .ok (.iload_n 3, 1) := by decide +kernel
theorem dX4_moveWater_97 : decode cX4_moveWater 97 = .ok (.iload 5, 2) := by decide +kernel
theorem dX4_moveWater_99 : decode cX4_moveWater 99 = .ok (.iadd, 1) := by decide +kernel
theorem dX4_moveWater_100 : decode cX4_moveWater 100 = .ok (.invokestatic 140, 3) := by decide +kernel
theorem dX4_moveWater_103 : decode cX4_moveWater 103 = .ok (.iastore, 1) := by decide +kernel
theorem dX4_moveWater_104 : decode cX4_moveWater 104 = .ok (.iload_n 3, 1) := by decide +kernel
theorem dX4_moveWater_105 : decode cX4_moveWater 105 = .ok (.istore_n 1, 1) := by decide +kernel
theorem dX4_moveWater_106 : decode cX4_moveWater 106 = .ok (.iinc 2 1, 3) := by decide +kernel
theorem dX4_moveWater_109 : decode cX4_moveWater 109 = .ok (.goto (-100), 3) := by decide +kernel
theorem dX4_moveWater_112 : decode cX4_moveWater 112 = .ok (.return_, 1) := by decide +kernel
theorem dX4_calmBeach_0 : decode cX4_calmBeach 0 = .ok (.bipush 36, 2) := by decide +kernel
theorem dX4_calmBeach_2 : decode cX4_calmBeach 2 = .ok (.istore_n 1, 1) := by decide +kernel
theorem dX4_calmBeach_3 : decode cX4_calmBeach 3 = .ok (.iload_n 1, 1) := by decide +kernel
theorem dX4_calmBeach_4 : decode cX4_calmBeach 4 = .ok (.bipush 40, 2) := by decide +kernel
theorem dX4_calmBeach_6 : decode cX4_calmBeach 6 = .ok (.if_icmp .ge 65, 3) := by decide +kernel
theorem dX4_calmBeach_9 : decode cX4_calmBeach 9 = .ok (.aload_n 0, 1) := by decide +kernel
theorem dX4_calmBeach_10 : decode cX4_calmBeach 10 = .ok (.getfield 18, 3) := by decide +kernel
theorem dX4_calmBeach_13 : decode cX4_calmBeach 13 = .ok (.iconst 0, 1) := by decide +kernel
theorem dX4_calmBeach_14 : decode cX4_calmBeach 14 = .ok (.iaload, 1) := by decide +kernel
theorem dX4_calmBeach_15 : decode cX4_calmBeach 15 = .ok (.iload_n 1, 1) := by decide +kernel
theorem dX4_calmBeach_16 : decode cX4_calmBeach 16 = .ok (.bipush 36, 2) := by decide +kernel
theorem dX4_calmBeach_18 : decode cX4_calmBeach 18 = .ok (.isub, 1) := by decide +kernel
theorem dX4_calmBeach_19 : decode cX4_calmBeach 19 = .ok (.iconst 1, 1) := by decide +kernel
theorem dX4_calmBeach_20 : decode cX4_calmBeach 20 = .ok (.iadd, 1) := by decide +kernel
theorem dX4_calmBeach_21 : decode cX4_calmBeach 21 = .ok (.imul, 1) := by decide +kernel
theorem dX4_calmBeach_22 : decode cX4_calmBeach 22 = .ok (.istore_n 2, 1) := by decide +kernel
theorem dX4_calmBeach_23 : decode cX4_calmBeach 23 = .ok (.aload_n 0, 1) := by decide +kernel
theorem dX4_calmBeach_24 : decode cX4_calmBeach 24 = .ok (.getfield 23, 3) := by decide +kernel
theorem dX4_calmBeach_27 : decode cX4_calmBeach 27 = .ok (.iload_n 1, 1) := by decide +kernel
theorem dX4_calmBeach_28 : decode cX4_calmBeach 28 = .ok (.dup2, 1) := by decide +kernel
theorem dX4_calmBeach_29 : decode cX4_calmBeach 29 = .ok (.iaload, 1) := by decide +kernel
theorem dX4_calmBeach_30 : decode cX4_calmBeach 30 = .ok (.aload_n 0, 1) := by decide +kernel
theorem dX4_calmBeach_31 : decode cX4_calmBeach 31 = .ok (.getfield 23, 3) := by decide +kernel
theorem dX4_calmBeach_34 : decode cX4_calmBeach 34 = .ok (.iload_n 1, 1) := by decide +kernel
theorem dX4_calmBeach_35 : decode cX4_calmBeach 35 = .ok (.iaload, 1) := by decide +kernel
theorem dX4_calmBeach_36 : decode cX4_calmBeach 36 = .ok (.iload_n 2, 1) := by decide +kernel
theorem dX4_calmBeach_37 : decode cX4_calmBeach 37 = .ok (.imul, 1) := by decide +kernel
theorem dX4_calmBeach_38 : decode cX4_calmBeach 38 = .ok (.sipush 400, 3) := by decide +kernel
theorem dX4_calmBeach_41 : decode cX4_calmBeach 41 = .ok (.idiv, 1) := by decide +kernel
theorem dX4_calmBeach_42 : decode cX4_calmBeach 42 = .ok (.isub, 1) := by decide +kernel
theorem dX4_calmBeach_43 : decode cX4_calmBeach 43 = .ok (.iastore, 1) := by decide +kernel
theorem dX4_calmBeach_44 : decode cX4_calmBeach 44 = .ok (.aload_n 0, 1) := by decide +kernel
theorem dX4_calmBeach_45 : decode cX4_calmBeach 45 = .ok (.getfield 26, 3) := by decide +kernel
theorem dX4_calmBeach_48 : decode cX4_calmBeach 48 = .ok (.iload_n 1, 1) := by decide +kernel
theorem dX4_calmBeach_49 : decode cX4_calmBeach 49 = .ok (.dup2, 1) := by decide +kernel
theorem dX4_calmBeach_50 : decode cX4_calmBeach 50 = .ok (.iaload, 1) := by decide +kernel
theorem dX4_calmBeach_51 : decode cX4_calmBeach 51 = .ok (.aload_n 0, 1) := by decide +kernel
theorem dX4_calmBeach_52 : decode cX4_calmBeach 52 = .ok (.getfield 26, 3) := by decide +kernel
theorem dX4_calmBeach_55 : decode cX4_calmBeach 55 = .ok (.iload_n 1, 1) := by decide +kernel
theorem dX4_calmBeach_56 : decode cX4_calmBeach 56 = .ok (.iaload, 1) := by decide +kernel
theorem dX4_calmBeach_57 : decode cX4_calmBeach 57 = .ok (.iload_n 2, 1) := by decide +kernel
theorem dX4_calmBeach_58 : decode cX4_calmBeach 58 = .ok (.imul, 1) := by decide +kernel
theorem dX4_calmBeach_59 : decode cX4_calmBeach 59 = .ok (.sipush 400, 3) := by decide +kernel
theorem dX4_calmBeach_62 : decode cX4_calmBeach 62 = .ok (.idiv, 1) := by decide +kernel
theorem dX4_calmBeach_63 : decode cX4_calmBeach 63 = .ok (.isub, 1) := by decide +kernel
theorem dX4_calmBeach_64 : decode cX4_calmBeach 64 = .ok (.iastore, 1) := by decide +kernel
theorem dX4_calmBeach_65 : decode cX4_calmBeach 65 = .ok (.iinc 1 1, 3) := by decide +kernel
theorem dX4_calmBeach_68 : decode cX4_calmBeach 68 = .ok (.goto (-65), 3) := by decide +kernel
theorem dX4_calmBeach_71 : decode cX4_calmBeach 71 = .ok (.return_, 1) := by decide +kernel
theorem dX4_isCrest_0 : decode cX4_isCrest 0 = .ok (.iload_n 1, 1) := by decide +kernel
theorem dX4_isCrest_1 : decode cX4_isCrest 1 = .ok (.iconst 1, 1) := by decide +kernel
theorem dX4_isCrest_2 : decode cX4_isCrest 2 = .ok (.if_icmp .lt 47, 3) := by decide +kernel
theorem dX4_isCrest_5 : decode cX4_isCrest 5 = .ok (.iload_n 1, 1) := by decide +kernel
theorem dX4_isCrest_6 : decode cX4_isCrest 6 = .ok (.bipush 39, 2) := by decide +kernel
theorem dX4_isCrest_8 : decode cX4_isCrest 8 = .ok (.if_icmp .ge 41, 3) := by decide +kernel
theorem dX4_isCrest_11 : decode cX4_isCrest 11 = .ok (.aload_n 0, 1) := by decide +kernel
theorem dX4_isCrest_12 : decode cX4_isCrest 12 = .ok (.getfield 23, 3) := by decide +kernel
theorem dX4_isCrest_15 : decode cX4_isCrest 15 = .ok (.iload_n 1, 1) := by decide +kernel
theorem dX4_isCrest_16 : decode cX4_isCrest 16 = .ok (.iaload, 1) := by decide +kernel
theorem dX4_isCrest_17 : decode cX4_isCrest 17 = .ok (.aload_n 0, 1) := by decide +kernel
theorem dX4_isCrest_18 : decode cX4_isCrest 18 = .ok (.getfield 23, 3) := by decide +kernel
theorem dX4_isCrest_21 : decode cX4_isCrest 21 = .ok (.iload_n 1, 1) := by decide +kernel
theorem dX4_isCrest_22 : decode cX4_isCrest 22 = .ok (.iconst 1, 1) := by decide +kernel
theorem dX4_isCrest_23 : decode cX4_isCrest 23 = .ok (.isub, 1) := by decide +kernel
theorem dX4_isCrest_24 : decode cX4_isCrest 24 = .ok (.iaload, 1) := by decide +kernel
theorem dX4_isCrest_25 : decode cX4_isCrest 25 = .ok (.if_icmp .le 24, 3) := by decide +kernel
theorem dX4_isCrest_28 : decode cX4_isCrest 28 = .ok (.aload_n 0, 1) := by decide +kernel
theorem dX4_isCrest_29 : decode cX4_isCrest 29 = .ok (.getfield 23, 3) := by decide +kernel
theorem dX4_isCrest_32 : decode cX4_isCrest 32 = .ok (.iload_n 1, 1) := by decide +kernel
theorem dX4_isCrest_33 : decode cX4_isCrest 33 = .ok (.iaload, 1) := by decide +kernel
theorem dX4_isCrest_34 : decode cX4_isCrest 34 = .ok (.aload_n 0, 1) := by decide +kernel
theorem dX4_isCrest_35 : decode cX4_isCrest 35 = .ok (.getfield 23, 3) := by decide +kernel
theorem dX4_isCrest_38 : decode cX4_isCrest 38 = .ok (.iload_n 1, 1) := by decide +kernel
theorem dX4_isCrest_39 : decode cX4_isCrest 39 = .ok (.iconst 1, 1) := by decide +kernel
theorem dX4_isCrest_40 : decode cX4_isCrest 40 = .ok (.iadd, 1) := by decide +kernel
theorem dX4_isCrest_41 : decode cX4_isCrest 41 = .ok (.iaload, 1) := by decide +kernel
theorem dX4_isCrest_42 : decode cX4_isCrest 42 = .ok (.if_icmp .le 7, 3) := by decide +kernel
theorem dX4_isCrest_45 : decode cX4_isCrest 45 = .ok (.iconst 1, 1) := by decide +kernel
theorem dX4_isCrest_46 : decode cX4_isCrest 46 = .ok (.goto 4, 3) := by decide +kernel
theorem dX4_isCrest_49 : decode cX4_isCrest 49 = .ok (.iconst 0, 1) := by decide +kernel
theorem dX4_isCrest_50 : decode cX4_isCrest 50 = .ok (.ireturn, 1) := by decide +kernel
theorem dX4_isTrough_0 : decode cX4_isTrough 0 = .ok (.iload_n 1, 1) := by decide +kernel
theorem dX4_isTrough_1 : decode cX4_isTrough 1 = .ok (.iconst 1, 1) := by decide +kernel
theorem dX4_isTrough_2 : decode cX4_isTrough 2 = .ok (.if_icmp .lt 47, 3) := by decide +kernel
theorem dX4_isTrough_5 : decode cX4_isTrough 5 = .ok (.iload_n 1, 1) := by decide +kernel
theorem dX4_isTrough_6 : decode cX4_isTrough 6 = .ok (.bipush 39, 2) := by decide +kernel
theorem dX4_isTrough_8 : decode cX4_isTrough 8 = .ok (.if_icmp .ge 41, 3) := by decide +kernel
theorem dX4_isTrough_11 : decode cX4_isTrough 11 = .ok (.aload_n 0, 1) := by decide +kernel
theorem dX4_isTrough_12 : decode cX4_isTrough 12 = .ok (.getfield 23, 3) := by decide +kernel
theorem dX4_isTrough_15 : decode cX4_isTrough 15 = .ok (.iload_n 1, 1) := by decide +kernel
theorem dX4_isTrough_16 : decode cX4_isTrough 16 = .ok (.iaload, 1) := by decide +kernel
theorem dX4_isTrough_17 : decode cX4_isTrough 17 = .ok (.aload_n 0, 1) := by decide +kernel
theorem dX4_isTrough_18 : decode cX4_isTrough 18 = .ok (.getfield 23, 3) := by decide +kernel
theorem dX4_isTrough_21 : decode cX4_isTrough 21 = .ok (.iload_n 1, 1) := by decide +kernel
theorem dX4_isTrough_22 : decode cX4_isTrough 22 = .ok (.iconst 1, 1) := by decide +kernel
theorem dX4_isTrough_23 : decode cX4_isTrough 23 = .ok (.isub, 1) := by decide +kernel
theorem dX4_isTrough_24 : decode cX4_isTrough 24 = .ok (.iaload, 1) := by decide +kernel
theorem dX4_isTrough_25 : decode cX4_isTrough 25 = .ok (.if_icmp .ge 24, 3) := by decide +kernel
theorem dX4_isTrough_28 : decode cX4_isTrough 28 = .ok (.aload_n 0, 1) := by decide +kernel
theorem dX4_isTrough_29 : decode cX4_isTrough 29 = .ok (.getfield 23, 3) := by decide +kernel
theorem dX4_isTrough_32 : decode cX4_isTrough 32 = .ok (.iload_n 1, 1) := by decide +kernel
theorem dX4_isTrough_33 : decode cX4_isTrough 33 = .ok (.iaload, 1) := by decide +kernel
theorem dX4_isTrough_34 : decode cX4_isTrough 34 = .ok (.aload_n 0, 1) := by decide +kernel
theorem dX4_isTrough_35 : decode cX4_isTrough 35 = .ok (.getfield 23, 3) := by decide +kernel
theorem dX4_isTrough_38 : decode cX4_isTrough 38 = .ok (.iload_n 1, 1) := by decide +kernel
theorem dX4_isTrough_39 : decode cX4_isTrough 39 = .ok (.iconst 1, 1) := by decide +kernel
theorem dX4_isTrough_40 : decode cX4_isTrough 40 = .ok (.iadd, 1) := by decide +kernel
theorem dX4_isTrough_41 : decode cX4_isTrough 41 = .ok (.iaload, 1) := by decide +kernel
theorem dX4_isTrough_42 : decode cX4_isTrough 42 = .ok (.if_icmp .ge 7, 3) := by decide +kernel
theorem dX4_isTrough_45 : decode cX4_isTrough 45 = .ok (.iconst 1, 1) := by decide +kernel
theorem dX4_isTrough_46 : decode cX4_isTrough 46 = .ok (.goto 4, 3) := by decide +kernel
theorem dX4_isTrough_49 : decode cX4_isTrough 49 = .ok (.iconst 0, 1) := by decide +kernel
theorem dX4_isTrough_50 : decode cX4_isTrough 50 = .ok (.ireturn, 1) := by decide +kernel
theorem dX4_isCalm_0 : decode cX4_isCalm 0 = .ok (.iconst 0, 1) := by decide +kernel
theorem dX4_isCalm_1 : decode cX4_isCalm 1 = .ok (.istore_n 1, 1) := by decide +kernel
theorem dX4_isCalm_2 : decode cX4_isCalm 2 = .ok (.iload_n 1, 1) := by decide +kernel
theorem dX4_isCalm_3 : decode cX4_isCalm 3 = .ok (.bipush 40, 2) := by decide +kernel
theorem dX4_isCalm_5 : decode cX4_isCalm 5 = .ok (.if_icmp .ge 29, 3) := by decide +kernel
theorem dX4_isCalm_8 : decode cX4_isCalm 8 = .ok (.aload_n 0, 1) := by decide +kernel
theorem dX4_isCalm_9 : decode cX4_isCalm 9 = .ok (.getfield 23, 3) := by decide +kernel
theorem dX4_isCalm_12 : decode cX4_isCalm 12 = .ok (.iload_n 1, 1) := by decide +kernel
theorem dX4_isCalm_13 : decode cX4_isCalm 13 = .ok (.iaload, 1) := by decide +kernel
theorem dX4_isCalm_14 : decode cX4_isCalm 14 = .ok (.ifCond .ne 12, 3) := by decide +kernel
theorem dX4_isCalm_17 : decode cX4_isCalm 17 = .ok (.aload_n 0, 1) := by decide +kernel
theorem dX4_isCalm_18 : decode cX4_isCalm 18 = .ok (.getfield 26, 3) := by decide +kernel
theorem dX4_isCalm_21 : decode cX4_isCalm 21 = .ok (.iload_n 1, 1) := by decide +kernel
theorem dX4_isCalm_22 : decode cX4_isCalm 22 = .ok (.iaload, 1) := by decide +kernel
theorem dX4_isCalm_23 : decode cX4_isCalm 23 = .ok (.ifCond .eq 5, 3) := by decide +kernel
theorem dX4_isCalm_26 : decode cX4_isCalm 26 = .ok (.iconst 0, 1) := by decide +kernel
theorem dX4_isCalm_27 : decode cX4_isCalm 27 = .ok (.ireturn, 1) := by decide +kernel
theorem dX4_isCalm_28 : decode cX4_isCalm 28 = .ok (.iinc 1 1, 3) := by decide +kernel
theorem dX4_isCalm_31 : decode cX4_isCalm 31 = .ok (.goto (-29), 3) := by decide +kernel
theorem dX4_isCalm_34 : decode cX4_isCalm 34 = .ok (.iconst 1, 1) := by decide +kernel
theorem dX4_isCalm_35 : decode cX4_isCalm 35 = .ok (.ireturn, 1) := by decide +kernel
theorem dX4_cellsThatAre_0 : decode cX4_cellsThatAre 0 = .ok (.lconst 0, 1) := by decide +kernel
theorem dX4_cellsThatAre_1 : decode cX4_cellsThatAre 1 = .ok (.lstore_n 2, 1) := by decide +kernel
theorem dX4_cellsThatAre_2 : decode cX4_cellsThatAre 2 = .ok (.iconst 0, 1) := by decide +kernel
theorem dX4_cellsThatAre_3 : decode cX4_cellsThatAre 3 = .ok (.istore 4, 2) := by decide +kernel
theorem dX4_cellsThatAre_5 : decode cX4_cellsThatAre 5 = .ok (.iload 4, 2) := by decide +kernel
theorem dX4_cellsThatAre_7 : decode cX4_cellsThatAre 7 = .ok (.bipush 40, 2) := by decide +kernel
theorem dX4_cellsThatAre_9 : decode cX4_cellsThatAre 9 = .ok (.if_icmp .ge 26, 3) := by decide +kernel
theorem dX4_cellsThatAre_12 : decode cX4_cellsThatAre 12 = .ok (.aload_n 0, 1) := by decide +kernel
theorem dX4_cellsThatAre_13 : decode cX4_cellsThatAre 13 = .ok (.iload 4, 2) := by decide +kernel
theorem dX4_cellsThatAre_15 : decode cX4_cellsThatAre 15 = .ok (.iload_n 1, 1) := by decide +kernel
theorem dX4_cellsThatAre_16 : decode cX4_cellsThatAre 16 = .ok (.invokevirtual 143, 3) := by decide +kernel
theorem dX4_cellsThatAre_19 : decode cX4_cellsThatAre 19 = .ok (.ifCond .eq 10, 3) := by decide +kernel
theorem dX4_cellsThatAre_22 : decode cX4_cellsThatAre 22 = .ok (.lload_n 2, 1) := by decide +kernel
theorem dX4_cellsThatAre_23 : decode cX4_cellsThatAre 23 = .ok (.lconst 1, 1) := by decide +kernel
theorem dX4_cellsThatAre_24 : decode cX4_cellsThatAre 24 = .ok (.iload 4, 2) := by decide +kernel
theorem dX4_cellsThatAre_26 : decode cX4_cellsThatAre 26 = .ok (.lshl, 1) := by decide +kernel
theorem dX4_cellsThatAre_27 : decode cX4_cellsThatAre 27 = .ok (.lor, 1) := by decide +kernel
theorem dX4_cellsThatAre_28 : decode cX4_cellsThatAre 28 = .ok (.lstore_n 2, 1) := by decide +kernel
theorem dX4_cellsThatAre_29 : decode cX4_cellsThatAre 29 = .ok (.iinc 4 1, 3) := by decide +kernel
theorem dX4_cellsThatAre_32 : decode cX4_cellsThatAre 32 = .ok (.goto (-27), 3) := by decide +kernel
theorem dX4_cellsThatAre_35 : decode cX4_cellsThatAre 35 = .ok (.lload_n 2, 1) := by decide +kernel
theorem dX4_cellsThatAre_36 : decode cX4_cellsThatAre 36 = .ok (.lreturn, 1) := by decide +kernel
theorem dX4_isPlace_0 : decode cX4_isPlace 0 = .ok (.aload_n 0, 1) := by decide +kernel
theorem dX4_isPlace_1 : decode cX4_isPlace 1 = .ok (.iload_n 1, 1) := by decide +kernel
theorem dX4_isPlace_2 : decode cX4_isPlace 2 = .ok (.invokevirtual 80, 3) := by decide +kernel
theorem dX4_isPlace_5 : decode cX4_isPlace 5 = .ok (.istore_n 3, 1) := by decide +kernel
theorem dX4_isPlace_6 : decode cX4_isPlace 6 = .ok (.iload_n 2, 1) := by decide +kernel
theorem dX4_isPlace_7 : decode cX4_isPlace 7 = .ok (.tableswitch 92 0 4 #[33, 39, 45, 60, 70], 33) := by decide +kernel
theorem dX4_isPlace_40 : decode cX4_isPlace 40 = .ok (.aload_n 0, 1) := by decide +kernel
theorem dX4_isPlace_41 : decode cX4_isPlace 41 = .ok (.iload_n 1, 1) := by decide +kernel
theorem dX4_isPlace_42 : decode cX4_isPlace 42 = .ok (.invokevirtual 146, 3) := by decide +kernel
theorem dX4_isPlace_45 : decode cX4_isPlace 45 = .ok (.ireturn, 1) := by decide +kernel
theorem dX4_isPlace_46 : decode cX4_isPlace 46 = .ok (.aload_n 0, 1) := by decide +kernel
theorem dX4_isPlace_47 : decode cX4_isPlace 47 = .ok (.iload_n 1, 1) := by decide +kernel
theorem dX4_isPlace_48 : decode cX4_isPlace 48 = .ok (.invokevirtual 150, 3) := by decide +kernel
theorem dX4_isPlace_51 : decode cX4_isPlace 51 = .ok (.ireturn, 1) := by decide +kernel
theorem dX4_isPlace_52 : decode cX4_isPlace 52 = .ok (.aload_n 0, 1) := by decide +kernel
theorem dX4_isPlace_53 : decode cX4_isPlace 53 = .ok (.getfield 23, 3) := by decide +kernel
theorem dX4_isPlace_56 : decode cX4_isPlace 56 = .ok (.iload_n 1, 1) := by decide +kernel
theorem dX4_isPlace_57 : decode cX4_isPlace 57 = .ok (.iaload, 1) := by decide +kernel
theorem dX4_isPlace_58 : decode cX4_isPlace 58 = .ok (.ifCond .eq 7, 3) := by decide +kernel
theorem dX4_isPlace_61 : decode cX4_isPlace 61 = .ok (.iconst 1, 1) := by decide +kernel
theorem dX4_isPlace_62 : decode cX4_isPlace 62 = .ok (.goto 4, 3) := by decide +kernel
theorem dX4_isPlace_65 : decode cX4_isPlace 65 = .ok (.iconst 0, 1) := by decide +kernel
theorem dX4_isPlace_66 : decode cX4_isPlace 66 = .ok (.ireturn, 1) := by decide +kernel
theorem dX4_isPlace_67 : decode cX4_isPlace 67 = .ok (.iload_n 3, 1) := by decide +kernel
theorem dX4_isPlace_68 : decode cX4_isPlace 68 = .ok (.ifCond .lt 7, 3) := by decide +kernel
theorem dX4_isPlace_71 : decode cX4_isPlace 71 = .ok (.iconst 1, 1) := by decide +kernel
theorem dX4_isPlace_72 : decode cX4_isPlace 72 = .ok (.goto 4, 3) := by decide +kernel
theorem dX4_isPlace_75 : decode cX4_isPlace 75 = .ok (.iconst 0, 1) := by decide +kernel
theorem dX4_isPlace_76 : decode cX4_isPlace 76 = .ok (.ireturn, 1) := by decide +kernel
theorem dX4_isPlace_77 : decode cX4_isPlace 77 = .ok (.iload_n 3, 1) := by decide +kernel
theorem dX4_isPlace_78 : decode cX4_isPlace 78 = .ok (.ifCond .lt 19, 3) := by decide +kernel
theorem dX4_isPlace_81 : decode cX4_isPlace 81 = .ok (.aload_n 0, 1) := by decide +kernel
theorem dX4_isPlace_82 : decode cX4_isPlace 82 = .ok (.getfield 31, 3) := by decide +kernel
theorem dX4_isPlace_85 : decode cX4_isPlace 85 = .ok (.iload_n 3, 1) := by decide +kernel
theorem dX4_isPlace_86 : decode cX4_isPlace 86 = .ok (.aaload, 1) := by decide +kernel
theorem dX4_isPlace_87 : decode cX4_isPlace 87 = .ok (.getfield 102, 3) := by decide +kernel
theorem dX4_isPlace_90 : decode cX4_isPlace 90 = .ok (.ifCond .ne 7, 3) := by decide +kernel
theorem dX4_isPlace_93 : decode cX4_isPlace 93 = .ok (.iconst 1, 1) := by decide +kernel
theorem dX4_isPlace_94 : decode cX4_isPlace 94 = .ok (.goto 4, 3) := by decide +kernel
theorem dX4_isPlace_97 : decode cX4_isPlace 97 = .ok (.iconst 0, 1) := by decide +kernel
theorem dX4_isPlace_98 : decode cX4_isPlace 98 = .ok (.ireturn, 1) := by decide +kernel
theorem dX4_isPlace_99 : decode cX4_isPlace 99 = .ok (.iconst 0, 1) := by decide +kernel
theorem dX4_isPlace_100 : decode cX4_isPlace 100 = .ok (.ireturn, 1) := by decide +kernel
theorem dX4_sumOfLevels_0 : decode cX4_sumOfLevels 0 = .ok (.iconst 0, 1) := by decide +kernel
theorem dX4_sumOfLevels_1 : decode cX4_sumOfLevels 1 = .ok (.istore_n 1, 1) := by decide +kernel
theorem dX4_sumOfLevels_2 : decode cX4_sumOfLevels 2 = .ok (.iconst 0, 1) := by decide +kernel
theorem dX4_sumOfLevels_3 : decode cX4_sumOfLevels 3 = .ok (.istore_n 2, 1) := by decide +kernel
theorem dX4_sumOfLevels_4 : decode cX4_sumOfLevels 4 = .ok (.iload_n 2, 1) := by decide +kernel
theorem dX4_sumOfLevels_5 : decode cX4_sumOfLevels 5 = .ok (.bipush 40, 2) := by decide +kernel
theorem dX4_sumOfLevels_7 : decode cX4_sumOfLevels 7 = .ok (.if_icmp .ge 18, 3) := by decide +kernel
theorem dX4_sumOfLevels_10 : decode cX4_sumOfLevels 10 = .ok (.iload_n 1, 1) := by decide +kernel
theorem dX4_sumOfLevels_11 : decode cX4_sumOfLevels 11 = .ok (.aload_n 0, 1) := by decide +kernel
theorem dX4_sumOfLevels_12 : decode cX4_sumOfLevels 12 = .ok (.getfield 23, 3) := by decide +kernel
theorem dX4_sumOfLevels_15 : decode cX4_sumOfLevels 15 = .ok (.iload_n 2, 1) := by decide +kernel
theorem dX4_sumOfLevels_16 : decode cX4_sumOfLevels 16 = .ok (.iaload, 1) := by decide +kernel
theorem dX4_sumOfLevels_17 : decode cX4_sumOfLevels 17 = .ok (.iadd, 1) := by decide +kernel
theorem dX4_sumOfLevels_18 : decode cX4_sumOfLevels 18 = .ok (.istore_n 1, 1) := by decide +kernel
theorem dX4_sumOfLevels_19 : decode cX4_sumOfLevels 19 = .ok (.iinc 2 1, 3) := by decide +kernel
theorem dX4_sumOfLevels_22 : decode cX4_sumOfLevels 22 = .ok (.goto (-18), 3) := by decide +kernel
theorem dX4_sumOfLevels_25 : decode cX4_sumOfLevels 25 = .ok (.iload_n 1, 1) := by decide +kernel
theorem dX4_sumOfLevels_26 : decode cX4_sumOfLevels 26 = .ok (.ireturn, 1) := by decide +kernel
theorem dX4_motion_0 : decode cX4_motion 0 = .ok (.iconst 0, 1) := by decide +kernel
theorem dX4_motion_1 : decode cX4_motion 1 = .ok (.istore_n 1, 1) := by decide +kernel
theorem dX4_motion_2 : decode cX4_motion 2 = .ok (.iconst 0, 1) := by decide +kernel
theorem dX4_motion_3 : decode cX4_motion 3 = .ok (.istore_n 2, 1) := by decide +kernel
theorem dX4_motion_4 : decode cX4_motion 4 = .ok (.iload_n 2, 1) := by decide +kernel
theorem dX4_motion_5 : decode cX4_motion 5 = .ok (.bipush 40, 2) := by decide +kernel
theorem dX4_motion_7 : decode cX4_motion 7 = .ok (.if_icmp .ge 31, 3) := by decide +kernel
theorem dX4_motion_10 : decode cX4_motion 10 = .ok (.iload_n 1, 1) := by decide +kernel
theorem dX4_motion_11 : decode cX4_motion 11 = .ok (.aload_n 0, 1) := by decide +kernel
theorem dX4_motion_12 : decode cX4_motion 12 = .ok (.getfield 23, 3) := by decide +kernel
theorem dX4_motion_15 : decode cX4_motion 15 = .ok (.iload_n 2, 1) := by decide +kernel
theorem dX4_motion_16 : decode cX4_motion 16 = .ok (.iaload, 1) := by decide +kernel
theorem dX4_motion_17 : decode cX4_motion 17 = .ok (.invokestatic 132, 3) := by decide +kernel
theorem dX4_motion_20 : decode cX4_motion 20 = .ok (.aload_n 0, 1) := by decide +kernel
theorem dX4_motion_21 : decode cX4_motion 21 = .ok (.getfield 26, 3) := by decide +kernel
theorem dX4_motion_24 : decode cX4_motion 24 = .ok (.iload_n 2, 1) := by decide +kernel
theorem dX4_motion_25 : decode cX4_motion 25 = .ok (.iaload, 1) := by decide +kernel
theorem dX4_motion_26 : decode cX4_motion 26 = .ok (.invokestatic 132, 3) := by decide +kernel
theorem dX4_motion_29 : decode cX4_motion 29 = .ok (.iadd, 1) := by decide +kernel
theorem dX4_motion_30 : decode cX4_motion 30 = .ok (.iadd, 1) := by decide +kernel
theorem dX4_motion_31 : decode cX4_motion 31 = .ok (.istore_n 1, 1) := by decide +kernel
theorem dX4_motion_32 : decode cX4_motion 32 = .ok (.iinc 2 1, 3) := by decide +kernel
theorem dX4_motion_35 : decode cX4_motion 35 = .ok (.goto (-31), 3) := by decide +kernel
theorem dX4_motion_38 : decode cX4_motion 38 = .ok (.iload_n 1, 1) := by decide +kernel
theorem dX4_motion_39 : decode cX4_motion 39 = .ok (.ireturn, 1) := by decide +kernel
theorem dX4_farthestLevel_0 : decode cX4_farthestLevel 0 = .ok (.iconst 0, 1) := by decide +kernel
theorem dX4_farthestLevel_1 : decode cX4_farthestLevel 1 = .ok (.istore_n 1, 1) := by decide +kernel
theorem dX4_farthestLevel_2 : decode cX4_farthestLevel 2 = .ok (.iconst 0, 1) := by decide +kernel
theorem dX4_farthestLevel_3 : decode cX4_farthestLevel 3 = .ok (.istore_n 2, 1) := by decide +kernel
theorem dX4_farthestLevel_4 : decode cX4_farthestLevel 4 = .ok (.iload_n 2, 1) := by decide +kernel
theorem dX4_farthestLevel_5 : decode cX4_farthestLevel 5 = .ok (.bipush 40, 2) := by decide +kernel
theorem dX4_farthestLevel_7 : decode cX4_farthestLevel 7 = .ok (.if_icmp .ge 23, 3) := by decide +kernel
theorem dX4_farthestLevel_10 : decode cX4_farthestLevel 10 = .ok (.iload_n 1, 1) := by decide +kernel
theorem dX4_farthestLevel_11 : decode cX4_farthestLevel 11 = .ok (.aload_n 0, 1) := by decide +kernel
theorem dX4_farthestLevel_12 : decode cX4_farthestLevel 12 = .ok (.getfield 23, 3) := by decide +kernel
theorem dX4_farthestLevel_15 : decode cX4_farthestLevel 15 = .ok (.iload_n 2, 1) := by decide +kernel
theorem dX4_farthestLevel_16 : decode cX4_farthestLevel 16 = .ok (.iaload, 1) := by decide +kernel
theorem dX4_farthestLevel_17 : decode cX4_farthestLevel 17 = .ok (.invokestatic 132, 3) := by decide +kernel
theorem dX4_farthestLevel_20 : decode cX4_farthestLevel 20 = .ok (.invokestatic 153, 3) := by decide +kernel
theorem dX4_farthestLevel_23 : decode cX4_farthestLevel 23 = .ok (.istore_n 1, 1) := by decide +kernel
theorem dX4_farthestLevel_24 : decode cX4_farthestLevel 24 = .ok (.iinc 2 1, 3) := by decide +kernel
theorem dX4_farthestLevel_27 : decode cX4_farthestLevel 27 = .ok (.goto (-23), 3) := by decide +kernel
theorem dX4_farthestLevel_30 : decode cX4_farthestLevel 30 = .ok (.iload_n 1, 1) := by decide +kernel
theorem dX4_farthestLevel_31 : decode cX4_farthestLevel 31 = .ok (.ireturn, 1) := by decide +kernel
theorem dX4_lastUnevenCell_0 : decode cX4_lastUnevenCell 0 = .ok (.bipush 39, 2) := by decide +kernel
theorem dX4_lastUnevenCell_2 : decode cX4_lastUnevenCell 2 = .ok (.istore_n 1, 1) := by decide +kernel
theorem dX4_lastUnevenCell_3 : decode cX4_lastUnevenCell 3 = .ok (.iload_n 1, 1) := by decide +kernel
theorem dX4_lastUnevenCell_4 : decode cX4_lastUnevenCell 4 = .ok (.ifCond .lt 20, 3) := by decide +kernel
theorem dX4_lastUnevenCell_7 : decode cX4_lastUnevenCell 7 = .ok (.aload_n 0, 1) := by decide +kernel
theorem dX4_lastUnevenCell_8 : decode cX4_lastUnevenCell 8 = .ok (.getfield 23, 3) := by decide +kernel
theorem dX4_lastUnevenCell_11 : decode cX4_lastUnevenCell 11 = .ok (.iload_n 1, 1) := by decide +kernel
theorem dX4_lastUnevenCell_12 : decode cX4_lastUnevenCell 12 = .ok (.iaload, 1) := by decide +kernel
theorem dX4_lastUnevenCell_13 : decode cX4_lastUnevenCell 13 = .ok (.ifCond .eq 5, 3) := by decide +kernel
theorem dX4_lastUnevenCell_16 : decode cX4_lastUnevenCell 16 = .ok (.iload_n 1, 1) := by decide +kernel
theorem dX4_lastUnevenCell_17 : decode cX4_lastUnevenCell 17 = .ok (.ireturn, 1) := by decide +kernel
theorem dX4_lastUnevenCell_18 : decode cX4_lastUnevenCell 18 = .ok (.iinc 1 (-1), 3) := by decide +kernel
theorem dX4_lastUnevenCell_21 : decode cX4_lastUnevenCell 21 = .ok (.goto (-18), 3) := by decide +kernel
theorem dX4_lastUnevenCell_24 : decode cX4_lastUnevenCell 24 = .ok (.bipush (-6), 2) := by decide +kernel
theorem dX4_lastUnevenCell_26 : decode cX4_lastUnevenCell 26 = .ok (.ireturn, 1) := by decide +kernel
theorem dX5_init_0 : decode cX5_init 0 = .ok (.aload_n 0, 1) := by decide +kernel
theorem dX5_init_1 : decode cX5_init 1 = .ok (.invokespecial 1, 3) := by decide +kernel
theorem dX5_init_4 : decode cX5_init 4 = .ok (.aload_n 0, 1) := by decide +kernel
theorem dX5_init_5 : decode cX5_init 5 = .ok (.new 7, 3) := by decide +kernel
theorem dX5_init_8 : decode cX5_init 8 = .ok (.dup, 1) := by decide +kernel
theorem dX5_init_9 : decode cX5_init 9 = .ok (.invokespecial 9, 3) := by decide +kernel
theorem dX5_init_12 : decode cX5_init 12 = .ok (.putfield 10, 3) := by decide +kernel
theorem dX5_init_15 : decode cX5_init 15 = .ok (.aload_n 0, 1) := by decide +kernel
theorem dX5_init_16 : decode cX5_init 16 = .ok (.new 16, 3) := by decide +kernel
theorem dX5_init_19 : decode cX5_init 19 = .ok (.dup, 1) := by decide +kernel
theorem dX5_init_20 : decode cX5_init 20 = .ok (.invokespecial 18, 3) := by decide +kernel
theorem dX5_init_23 : decode cX5_init 23 = .ok (.putfield 19, 3) := by decide +kernel
theorem dX5_init_26 : decode cX5_init 26 = .ok (.aload_n 0, 1) := by decide +kernel
theorem dX5_init_27 : decode cX5_init 27 = .ok (.new 23, 3) := by decide +kernel
theorem dX5_init_30 : decode cX5_init 30 = .ok (.dup, 1) := by decide +kernel
theorem dX5_init_31 : decode cX5_init 31 = .ok (.invokespecial 25, 3) := by decide +kernel
theorem dX5_init_34 : decode cX5_init 34 = .ok (.putfield 26, 3) := by decide +kernel
theorem dX5_init_37 : decode cX5_init 37 = .ok (.aload_n 0, 1) := by decide +kernel
theorem dX5_init_38 : decode cX5_init 38 = .ok (.iconst 2, 1) := by decide +kernel
theorem dX5_init_39 : decode cX5_init 39 = .ok (.anewarray 7, 3) := by decide +kernel
theorem dX5_init_42 : decode cX5_init 42 = .ok (.putfield 30, 3) := by decide +kernel
theorem dX5_init_45 : decode cX5_init 45 = .ok (.aload_n 0, 1) := by decide +kernel
theorem dX5_init_46 : decode cX5_init 46 = .ok (.iconst 2, 1) := by decide +kernel
theorem dX5_init_47 : decode cX5_init 47 = .ok (.newarray .boolean, 2) := by decide +kernel
theorem dX5_init_49 : decode cX5_init 49 = .ok (.putfield 34, 3) := by decide +kernel
theorem dX5_init_52 : decode cX5_init 52 = .ok (.aload_n 0, 1) := by decide +kernel
theorem dX5_init_53 : decode cX5_init 53 = .ok (.new 7, 3) := by decide +kernel
theorem dX5_init_56 : decode cX5_init 56 = .ok (.dup, 1) := by decide +kernel
theorem dX5_init_57 : decode cX5_init 57 = .ok (.invokespecial 9, 3) := by decide +kernel
theorem dX5_init_60 : decode cX5_init 60 = .ok (.putfield 38, 3) := by decide +kernel
theorem dX5_init_63 : decode cX5_init 63 = .ok (.aload_n 0, 1) := by decide +kernel
theorem dX5_init_64 : decode cX5_init 64 = .ok (.new 7, 3) := by decide +kernel
theorem dX5_init_67 : decode cX5_init 67 = .ok (.dup, 1) := by decide +kernel
theorem dX5_init_68 : decode cX5_init 68 = .ok (.invokespecial 9, 3) := by decide +kernel
theorem dX5_init_71 : decode cX5_init 71 = .ok (.putfield 41, 3) := by decide +kernel
theorem dX5_init_74 : decode cX5_init 74 = .ok (.iconst 0, 1) := by decide +kernel
theorem dX5_init_75 : decode cX5_init 75 = .ok (.istore_n 1, 1) := by decide +kernel
theorem dX5_init_76 : decode cX5_init 76 = .ok (.iload_n 1, 1) := by decide +kernel
theorem dX5_init_77 : decode cX5_init 77 = .ok (.iconst 2, 1) := by decide +kernel
theorem dX5_init_78 : decode cX5_init 78 = .ok (.if_icmp .ge 22, 3) := by decide +kernel
theorem dX5_init_81 : decode cX5_init 81 = .ok (.aload_n 0, 1) := by decide +kernel
theorem dX5_init_82 : decode cX5_init 82 = .ok (.getfield 30, 3) := by decide +kernel
theorem dX5_init_85 : decode cX5_init 85 = .ok (.iload_n 1, 1) := by decide +kernel
theorem dX5_init_86 : decode cX5_init 86 = .ok (.new 7, 3) := by decide +kernel
theorem dX5_init_89 : decode cX5_init 89 = .ok (.dup, 1) := by decide +kernel
theorem dX5_init_90 : decode cX5_init 90 = .ok (.invokespecial 9, 3) := by decide +kernel
theorem dX5_init_93 : decode cX5_init 93 = .ok (.aastore, 1) := by decide +kernel
theorem dX5_init_94 : decode cX5_init 94 = .ok (.iinc 1 1, 3) := by decide +kernel
theorem dX5_init_97 : decode cX5_init 97 = .ok (.goto (-21), 3) := by decide +kernel
theorem dX5_init_100 : decode cX5_init 100 = .ok (.return_, 1) := by decide +kernel
theorem dX5_set_0 : decode cX5_set 0 = .ok (.aload_n 0, 1) := by decide +kernel
theorem dX5_set_1 : decode cX5_set 1 = .ok (.getfield 38, 3) := by decide +kernel
theorem dX5_set_4 : decode cX5_set 4 = .ok (.aload_n 0, 1) := by decide +kernel
theorem dX5_set_5 : decode cX5_set 5 = .ok (.getfield 10, 3) := by decide +kernel
theorem dX5_set_8 : decode cX5_set 8 = .ok (.invokevirtual 44, 3) := by decide +kernel
theorem dX5_set_11 : decode cX5_set 11 = .ok (.aload_n 0, 1) := by decide +kernel
theorem dX5_set_12 : decode cX5_set 12 = .ok (.aload_n 0, 1) := by decide +kernel
theorem dX5_set_13 : decode cX5_set 13 = .ok (.getfield 10, 3) := by decide +kernel
theorem dX5_set_16 : decode cX5_set 16 = .ok (.iload_n 1, 1) := by decide +kernel
theorem dX5_set_17 : decode cX5_set 17 = .ok (.iload_n 2, 1) := by decide +kernel
theorem dX5_set_18 : decode cX5_set 18 = .ok (.invokevirtual 48, 3) := by decide +kernel
theorem dX5_set_21 : decode cX5_set 21 = .ok (.invokevirtual 52, 3) := by decide +kernel
theorem dX5_set_24 : decode cX5_set 24 = .ok (.ireturn, 1) := by decide +kernel
theorem dX5_paddle_0 : decode cX5_paddle 0 = .ok (.aload_n 0, 1) := by decide +kernel
theorem dX5_paddle_1 : decode cX5_paddle 1 = .ok (.getfield 38, 3) := by decide +kernel
theorem dX5_paddle_4 : decode cX5_paddle 4 = .ok (.aload_n 0, 1) := by decide +kernel
theorem dX5_paddle_5 : decode cX5_paddle 5 = .ok (.getfield 10, 3) := by decide +kernel
theorem dX5_paddle_8 : decode cX5_paddle 8 = .ok (.invokevirtual 44, 3) := by decide +kernel
theorem dX5_paddle_11 : decode cX5_paddle 11 = .ok (.aload_n 0, 1) := by decide +kernel
theorem dX5_paddle_12 : decode cX5_paddle 12 = .ok (.aload_n 0, 1) := by decide +kernel
theorem dX5_paddle_13 : decode cX5_paddle 13 = .ok (.getfield 10, 3) := by decide +kernel
theorem dX5_paddle_16 : decode cX5_paddle 16 = .ok (.iload_n 1, 1) := by decide +kernel
theorem dX5_paddle_17 : decode cX5_paddle 17 = .ok (.iload_n 2, 1) := by decide +kernel
theorem dX5_paddle_18 : decode cX5_paddle 18 = .ok (.iload_n 3, 1) := by decide +kernel
theorem dX5_paddle_19 : decode cX5_paddle 19 = .ok (.iload 4, 2) := by decide +kernel
theorem dX5_paddle_21 : decode cX5_paddle 21 = .ok (.iload 5, 2) := by decide +kernel
theorem dX5_paddle_23 : decode cX5_paddle 23 = .ok (.invokevirtual 56, 3) := by decide +kernel
theorem dX5_paddle_26 : decode cX5_paddle 26 = .ok (.invokevirtual 52, 3) := by decide +kernel
theorem dX5_paddle_29 : decode cX5_paddle 29 = .ok (.ireturn, 1) := by decide +kernel
theorem dX5_lift_0 : decode cX5_lift 0 = .ok (.aload_n 0, 1) := by decide +kernel
theorem dX5_lift_1 : decode cX5_lift 1 = .ok (.getfield 38, 3) := by decide +kernel
theorem dX5_lift_4 : decode cX5_lift 4 = .ok (.aload_n 0, 1) := by decide +kernel
theorem dX5_lift_5 : decode cX5_lift 5 = .ok (.getfield 10, 3) := by decide +kernel
theorem dX5_lift_8 : decode cX5_lift 8 = .ok (.invokevirtual 44, 3) := by decide +kernel
theorem dX5_lift_11 : decode cX5_lift 11 = .ok (.aload_n 0, 1) := by decide +kernel
theorem dX5_lift_12 : decode cX5_lift 12 = .ok (.aload_n 0, 1) := by decide +kernel
theorem dX5_lift_13 : decode cX5_lift 13 = .ok (.getfield 10, 3) := by decide +kernel
theorem dX5_lift_16 : decode cX5_lift 16 = .ok (.iload_n 1, 1) := by decide +kernel
theorem dX5_lift_17 : decode cX5_lift 17 = .ok (.invokevirtual 60, 3) := by decide +kernel
theorem dX5_lift_20 : decode cX5_lift 20 = .ok (.invokevirtual 52, 3) := by decide +kernel
theorem dX5_lift_23 : decode cX5_lift 23 = .ok (.ireturn, 1) := by decide +kernel
theorem dX5_again_0 : decode cX5_again 0 = .ok (.aload_n 0, 1) := by decide +kernel
theorem dX5_again_1 : decode cX5_again 1 = .ok (.getfield 38, 3) := by decide +kernel
theorem dX5_again_4 : decode cX5_again 4 = .ok (.aload_n 0, 1) := by decide +kernel
theorem dX5_again_5 : decode cX5_again 5 = .ok (.getfield 10, 3) := by decide +kernel
theorem dX5_again_8 : decode cX5_again 8 = .ok (.invokevirtual 44, 3) := by decide +kernel
theorem dX5_again_11 : decode cX5_again 11 = .ok (.aload_n 0, 1) := by decide +kernel
theorem dX5_again_12 : decode cX5_again 12 = .ok (.aload_n 0, 1) := by decide +kernel
theorem dX5_again_13 : decode cX5_again 13 = .ok (.getfield 10, 3) := by decide +kernel
theorem dX5_again_16 : decode cX5_again 16 = .ok (.iload_n 1, 1) := by decide +kernel
theorem dX5_again_17 : decode cX5_again 17 = .ok (.invokevirtual 63, 3) := by decide +kernel
theorem dX5_again_20 : decode cX5_again 20 = .ok (.invokevirtual 52, 3) := by decide +kernel
theorem dX5_again_23 : decode cX5_again 23 = .ok (.ireturn, 1) := by decide +kernel
theorem dX5_gauge_0 : decode cX5_gauge 0 = .ok (.aload_n 0, 1) := by decide +kernel
theorem dX5_gauge_1 : decode cX5_gauge 1 = .ok (.getfield 38, 3) := by decide +kernel
theorem dX5_gauge_4 : decode cX5_gauge 4 = .ok (.aload_n 0, 1) := by decide +kernel
theorem dX5_gauge_5 : decode cX5_gauge 5 = .ok (.getfield 10, 3) := by decide +kernel
theorem dX5_gauge_8 : decode cX5_gauge 8 = .ok (.invokevirtual 44, 3) := by decide +kernel
theorem dX5_gauge_11 : decode cX5_gauge 11 = .ok (.aload_n 0, 1) := by decide +kernel
theorem dX5_gauge_12 : decode cX5_gauge 12 = .ok (.aload_n 0, 1) := by decide +kernel
theorem dX5_gauge_13 : decode cX5_gauge 13 = .ok (.getfield 10, 3) := by decide +kernel
theorem dX5_gauge_16 : decode cX5_gauge 16 = .ok (.iload_n 1, 1) := by decide +kernel
theorem dX5_gauge_17 : decode cX5_gauge 17 = .ok (.invokevirtual 66, 3) := by decide +kernel
theorem dX5_gauge_20 : decode cX5_gauge 20 = .ok (.invokevirtual 52, 3) := by decide +kernel
theorem dX5_gauge_23 : decode cX5_gauge 23 = .ok (.ireturn, 1) := by decide +kernel
theorem dX5_level_0 : decode cX5_level 0 = .ok (.aload_n 0, 1) := by decide +kernel
theorem dX5_level_1 : decode cX5_level 1 = .ok (.getfield 38, 3) := by decide +kernel
theorem dX5_level_4 : decode cX5_level 4 = .ok (.aload_n 0, 1) := by decide +kernel
theorem dX5_level_5 : decode cX5_level 5 = .ok (.getfield 10, 3) := by decide +kernel
theorem dX5_level_8 : decode cX5_level 8 = .ok (.invokevirtual 44, 3) := by decide +kernel
theorem dX5_level_11 : decode cX5_level 11 = .ok (.aload_n 0, 1) := by decide +kernel
theorem dX5_level_12 : decode cX5_level 12 = .ok (.aload_n 0, 1) := by decide +kernel
theorem dX5_level_13 : decode cX5_level 13 = .ok (.getfield 10, 3) := by decide +kernel
theorem dX5_level_16 : decode cX5_level 16 = .ok (.iload_n 1, 1) := by decide +kernel
theorem dX5_level_17 : decode cX5_level 17 = .ok (.iload_n 2, 1) := by decide +kernel
theorem dX5_level_18 : decode cX5_level 18 = .ok (.invokevirtual 69, 3) := by decide +kernel
theorem dX5_level_21 : decode cX5_level 21 = .ok (.invokevirtual 52, 3) := by decide +kernel
theorem dX5_level_24 : decode cX5_level 24 = .ok (.ireturn, 1) := by decide +kernel
theorem dX5_pass_0 : decode cX5_pass 0 = .ok (.aload_n 0, 1) := by decide +kernel
theorem dX5_pass_1 : decode cX5_pass 1 = .ok (.getfield 38, 3) := by decide +kernel
theorem dX5_pass_4 : decode cX5_pass 4 = .ok (.aload_n 0, 1) := by decide +kernel
theorem dX5_pass_5 : decode cX5_pass 5 = .ok (.getfield 10, 3) := by decide +kernel
theorem dX5_pass_8 : decode cX5_pass 8 = .ok (.invokevirtual 44, 3) := by decide +kernel
theorem dX5_pass_11 : decode cX5_pass 11 = .ok (.aload_n 0, 1) := by decide +kernel
theorem dX5_pass_12 : decode cX5_pass 12 = .ok (.aload_n 0, 1) := by decide +kernel
theorem dX5_pass_13 : decode cX5_pass 13 = .ok (.getfield 10, 3) := by decide +kernel
theorem dX5_pass_16 : decode cX5_pass 16 = .ok (.iload_n 1, 1) := by decide +kernel
theorem dX5_pass_17 : decode cX5_pass 17 = .ok (.invokevirtual 72, 3) := by decide +kernel
theorem dX5_pass_20 : decode cX5_pass 20 = .ok (.invokevirtual 52, 3) := by decide +kernel
theorem dX5_pass_23 : decode cX5_pass 23 = .ok (.ireturn, 1) := by decide +kernel
theorem dX5_recorded_0 : decode cX5_recorded 0 = .ok (.iload_n 1, 1) := by decide +kernel
theorem dX5_recorded_1 : decode cX5_recorded 1 = .ok (.ifCond .lt 14, 3) := by decide +kernel
theorem dX5_recorded_4 : decode cX5_recorded 4 = .ok (.aload_n 0, 1) := by decide +kernel
theorem dX5_recorded_5 : decode cX5_recorded 5 = .ok (.getfield 26, 3) := by decide +kernel
theorem dX5_recorded_8 : decode cX5_recorded 8 = .ok (.aload_n 0, 1) := by decide +kernel
theorem dX5_recorded_9 : decode cX5_recorded 9 = .ok (.getfield 38, 3) := by decide +kernel
theorem dX5_recorded_12 : decode cX5_recorded 12 = .ok (.invokevirtual 75, 3) := by decide +kernel
theorem dX5_recorded_15 : decode cX5_recorded 15 = .ok (.iload_n 1, 1) := by decide +kernel
theorem dX5_recorded_16 : decode cX5_recorded 16 = .ok (.ireturn, 1) := by decide +kernel
theorem dX5_cell_0 : decode cX5_cell 0 = .ok (.iload_n 1, 1) := by decide +kernel
theorem dX5_cell_1 : decode cX5_cell 1 = .ok (.bipush 40, 2) := by decide +kernel
theorem dX5_cell_3 : decode cX5_cell 3 = .ok (.invokestatic 78, 3) := by decide +kernel
theorem dX5_cell_6 : decode cX5_cell 6 = .ok (.ifCond .eq 5, 3) := by decide +kernel
theorem dX5_cell_9 : decode cX5_cell 9 = .ok (.iconst (-1), 1) := by decide +kernel
theorem dX5_cell_10 : decode cX5_cell 10 = .ok (.ireturn, 1) := by decide +kernel
theorem dX5_cell_11 : decode cX5_cell 11 = .ok (.iload_n 2, 1) := by decide +kernel
theorem dX5_cell_12 : decode cX5_cell 12 = .ok (.tableswitch 84 0 3 #[32, 46, 60, 72], 32) := by decide +kernel
theorem dX5_cell_44 : decode cX5_cell 44 = .ok (.aload_n 0, 1) := by decide +kernel
theorem dX5_cell_45 : decode cX5_cell 45 = .ok (.getfield 10, 3) := by decide +kernel
theorem dX5_cell_48 : decode cX5_cell 48 = .ok (.getfield 82, 3) := by decide +kernel
theorem dX5_cell_51 : decode cX5_cell 51 = .ok (.iload_n 1, 1) := by decide +kernel
theorem dX5_cell_52 : decode cX5_cell 52 = .ok (.iaload, 1) := by decide +kernel
theorem dX5_cell_53 : decode cX5_cell 53 = .ok (.sipush 10000, 3) := by decide +kernel
theorem dX5_cell_56 : decode cX5_cell 56 = .ok (.iadd, 1) := by decide +kernel
theorem dX5_cell_57 : decode cX5_cell 57 = .ok (.ireturn, 1) := by decide +kernel
theorem dX5_cell_58 : decode cX5_cell 58 = .ok (.aload_n 0, 1) := by decide +kernel
theorem dX5_cell_59 : decode cX5_cell 59 = .ok (.getfield 10, 3) := by decide +kernel
theorem dX5_cell_62 : decode cX5_cell 62 = .ok (.getfield 86, 3) := by decide +kernel
theorem dX5_cell_65 : decode cX5_cell 65 = .ok (.iload_n 1, 1) := by decide +kernel
theorem dX5_cell_66 : decode cX5_cell 66 = .ok (.iaload, 1) := by decide +kernel
theorem dX5_cell_67 : decode cX5_cell 67 = .ok (.sipush 10000, 3) := by decide +kernel
theorem dX5_cell_70 : decode cX5_cell 70 = .ok (.iadd, 1) := by decide +kernel
theorem dX5_cell_71 : decode cX5_cell 71 = .ok (.ireturn, 1) := by decide +kernel
theorem dX5_cell_72 : decode cX5_cell 72 = .ok (.aload_n 0, 1) := by decide +kernel
theorem dX5_cell_73 : decode cX5_cell 73 = .ok (.getfield 10, 3) := by decide +kernel
theorem dX5_cell_76 : decode cX5_cell 76 = .ok (.iload_n 1, 1) := by decide +kernel
theorem dX5_cell_77 : decode cX5_cell 77 = .ok (.invokevirtual 89, 3) := by decide +kernel
theorem dX5_cell_80 : decode cX5_cell 80 = .ok (.invokestatic 93, 3) := by decide +kernel
theorem dX5_cell_83 : decode cX5_cell 83 = .ok (.ireturn, 1) := by decide +kernel
theorem dX5_cell_84 : decode cX5_cell 84 = .ok (.aload_n 0, 1) := by decide +kernel
theorem dX5_cell_85 : decode cX5_cell 85 = .ok (.getfield 10, 3) := by decide +kernel
theorem dX5_cell_88 : decode cX5_cell 88 = .ok (.iload_n 1, 1) := by decide +kernel
theorem dX5_cell_89 : decode cX5_cell 89 = .ok (.invokevirtual 97, 3) := by decide +kernel
theorem dX5_cell_92 : decode cX5_cell 92 = .ok (.invokestatic 93, 3) := by decide +kernel
theorem dX5_cell_95 : decode cX5_cell 95 = .ok (.ireturn, 1) := by decide +kernel
theorem dX5_cell_96 : decode cX5_cell 96 = .ok (.bipush (-2), 2) := by decide +kernel
theorem dX5_cell_98 : decode cX5_cell 98 = .ok (.ireturn, 1) := by decide +kernel
theorem dX5_ofPaddle_0 : decode cX5_ofPaddle 0 = .ok (.iload_n 1, 1) := by decide +kernel
theorem dX5_ofPaddle_1 : decode cX5_ofPaddle 1 = .ok (.aload_n 0, 1) := by decide +kernel
theorem dX5_ofPaddle_2 : decode cX5_ofPaddle 2 = .ok (.getfield 10, 3) := by decide +kernel
theorem dX5_ofPaddle_5 : decode cX5_ofPaddle 5 = .ok (.getfield 100, 3) := by decide +kernel
theorem dX5_ofPaddle_8 : decode cX5_ofPaddle 8 = .ok (.invokestatic 78, 3) := by decide +kernel
theorem dX5_ofPaddle_11 : decode cX5_ofPaddle 11 = .ok (.ifCond .eq 5, 3) := by decide +kernel
theorem dX5_ofPaddle_14 : decode cX5_ofPaddle 14 = .ok (.iconst (-1), 1) := by decide +kernel
theorem dX5_ofPaddle_15 : decode cX5_ofPaddle 15 = .ok (.ireturn, 1) := by decide +kernel
theorem dX5_ofPaddle_16 : decode cX5_ofPaddle 16 = .ok (.aload_n 0, 1) := by decide +kernel
theorem dX5_ofPaddle_17 : decode cX5_ofPaddle 17 = .ok (.getfield 10, 3) := by decide +kernel
theorem dX5_ofPaddle_20 : decode cX5_ofPaddle 20 = .ok (.getfield 104, 3) := by decide +kernel
theorem dX5_ofPaddle_23 : decode cX5_ofPaddle 23 = .ok (.iload_n 1, 1) := by decide +kernel
theorem dX5_ofPaddle_24 : decode cX5_ofPaddle 24 = .ok (.aaload, 1) := by decide +kernel
theorem dX5_ofPaddle_25 : decode cX5_ofPaddle 25 = .ok (.astore_n 3, 1) := by decide +kernel
theorem dX5_ofPaddle_26 : decode cX5_ofPaddle 26 = .ok (.iload_n 2, 1) := by decide +kernel
theorem dX5_ofPaddle_27 : decode cX5_ofPaddle 27 = .ok (.tableswitch 94 0 6 #[41, 46, 51, 60, 65, 70, 78], 41) := by decide +kernel
theorem dX5_ofPaddle_68 : decode cX5_ofPaddle 68 = .ok (.aload_n 3, 1) := by decide +kernel
theorem dX5_ofPaddle_69 : decode cX5_ofPaddle 69 = .ok (.getfield 108, 3) := by decide +kernel
theorem dX5_ofPaddle_72 : decode cX5_ofPaddle 72 = .ok (.ireturn, 1) := by decide +kernel
theorem dX5_ofPaddle_73 : decode cX5_ofPaddle 73 = .ok (.aload_n 3, 1) := by decide +kernel
theorem dX5_ofPaddle_74 : decode cX5_ofPaddle 74 = .ok (.getfield 113, 3) := by decide +kernel
theorem dX5_ofPaddle_77 : decode cX5_ofPaddle 77 = .ok (.ireturn, 1) := by decide +kernel
theorem dX5_ofPaddle_78 : decode cX5_ofPaddle 78 = .ok (.aload_n 3, 1) := by decide +kernel
theorem dX5_ofPaddle_79 : decode cX5_ofPaddle 79 = .ok (.getfield 116, 3) := by decide +kernel
theorem dX5_ofPaddle_82 : decode cX5_ofPaddle 82 = .ok (.sipush 1000, 3) := by decide +kernel
theorem dX5_ofPaddle_85 : decode cX5_ofPaddle 85 = .ok (.iadd, 1) := by decide +kernel
theorem dX5_ofPaddle_86 : decode cX5_ofPaddle 86 = .ok (.ireturn, 1) := by decide +kernel
theorem dX5_ofPaddle_87 : decode cX5_ofPaddle 87 = .ok (.aload_n 3, 1) := by decide +kernel
theorem dX5_ofPaddle_88 : decode cX5_ofPaddle 88 = .ok (.getfield 119, 3) := by decide +kernel
theorem dX5_ofPaddle_91 : decode cX5_ofPaddle 91 = .ok (.ireturn, 1) := by decide +kernel
theorem dX5_ofPaddle_92 : decode cX5_ofPaddle 92 = .ok (.aload_n 3, 1) := by decide +kernel
theorem dX5_ofPaddle_93 : decode cX5_ofPaddle 93 = .ok (.getfield 122, 3) := by decide +kernel
theorem dX5_ofPaddle_96 : decode cX5_ofPaddle 96 = .ok (.ireturn, 1) := by decide +kernel
theorem dX5_ofPaddle_97 : decode cX5_ofPaddle 97 = .ok (.aload_n 3, 1) := by decide +kernel
theorem dX5_ofPaddle_98 : decode cX5_ofPaddle 98 = .ok (.getfield 125, 3) := by decide +kernel
theorem dX5_ofPaddle_101 : decode cX5_ofPaddle 101 = .ok (.invokestatic 93, 3) := by decide +kernel
theorem dX5_ofPaddle_104 : decode cX5_ofPaddle 104 = .ok (.ireturn, 1) := by decide +kernel
theorem dX5_ofPaddle_105 : decode cX5_ofPaddle 105 = .ok (.aload_n 3, 1) := by decide +kernel
theorem dX5_ofPaddle_106 : decode cX5_ofPaddle 106 = .ok (.aload_n 0, 1) := by decide +kernel
theorem dX5_ofPaddle_107 : decode cX5_ofPaddle 107 = .ok (.getfield 10, 3) := by decide +kernel
theorem dX5_ofPaddle_110 : decode cX5_ofPaddle 110 = .ok (.getfield 129, 3) := by decide +kernel
theorem dX5_ofPaddle_113 : decode cX5_ofPaddle 113 = .ok (.invokevirtual 132, 3) := by decide +kernel
theorem dX5_ofPaddle_116 : decode cX5_ofPaddle 116 = .ok (.sipush 1000, 3) := by decide +kernel
theorem dX5_ofPaddle_119 : decode cX5_ofPaddle 119 = .ok (.iadd, 1) := by decide +kernel
theorem dX5_ofPaddle_120 : decode cX5_ofPaddle 120 = .ok (.ireturn, 1) := by decide +kernel
theorem dX5_ofPaddle_121 : decode cX5_ofPaddle 121 = .ok (.bipush (-2), 2) := by decide +kernel
theorem dX5_ofPaddle_123 : decode cX5_ofPaddle 123 = .ok (.ireturn, 1) := by decide +kernel
theorem dX5_ofGauge_0 : decode cX5_ofGauge 0 = .ok (.iload_n 1, 1) := by decide +kernel
theorem dX5_ofGauge_1 : decode cX5_ofGauge 1 = .ok (.aload_n 0, 1) := by decide +kernel
theorem dX5_ofGauge_2 : decode cX5_ofGauge 2 = .ok (.getfield 10, 3) := by decide +kernel
theorem dX5_ofGauge_5 : decode cX5_ofGauge 5 = .ok (.getfield 135, 3) := by decide +kernel
theorem dX5_ofGauge_8 : decode cX5_ofGauge 8 = .ok (.invokestatic 78, 3) := by decide +kernel
theorem dX5_ofGauge_11 : decode cX5_ofGauge 11 = .ok (.ifCond .eq 5, 3) := by decide +kernel
theorem dX5_ofGauge_14 : decode cX5_ofGauge 14 = .ok (.iconst (-1), 1) := by decide +kernel
theorem dX5_ofGauge_15 : decode cX5_ofGauge 15 = .ok (.ireturn, 1) := by decide +kernel
theorem dX5_ofGauge_16 : decode cX5_ofGauge 16 = .ok (.aload_n 0, 1) := by decide +kernel
theorem dX5_ofGauge_17 : decode cX5_ofGauge 17 = .ok (.getfield 10, 3) := by decide +kernel
theorem dX5_ofGauge_20 : decode cX5_ofGauge 20 = .ok (.getfield 138, 3) := by decide +kernel
theorem dX5_ofGauge_23 : decode cX5_ofGauge 23 = .ok (.iload_n 1, 1) := by decide +kernel
theorem dX5_ofGauge_24 : decode cX5_ofGauge 24 = .ok (.aaload, 1) := by decide +kernel
theorem dX5_ofGauge_25 : decode cX5_ofGauge 25 = .ok (.astore_n 3, 1) := by decide +kernel
theorem dX5_ofGauge_26 : decode cX5_ofGauge 26 = .ok (.iload_n 2, 1) := by decide +kernel
theorem dX5_ofGauge_27 : decode cX5_ofGauge 27 = .ok (.tableswitch 90 0 4 #[33, 38, 43, 64, 85], 33) := by decide +kernel
theorem dX5_ofGauge_60 : decode cX5_ofGauge 60 = .ok (.aload_n 3, 1) := by decide +kernel
theorem dX5_ofGauge_61 : decode cX5_ofGauge 61 = .ok (.getfield 142, 3) := by decide +kernel
theorem dX5_ofGauge_64 : decode cX5_ofGauge 64 = .ok (.ireturn, 1) := by decide +kernel
theorem dX5_ofGauge_65 : decode cX5_ofGauge 65 = .ok (.aload_n 3, 1) := by decide +kernel
theorem dX5_ofGauge_66 : decode cX5_ofGauge 66 = .ok (.getfield 145, 3) := by decide +kernel
theorem dX5_ofGauge_69 : decode cX5_ofGauge 69 = .ok (.ireturn, 1) := by decide +kernel
theorem dX5_ofGauge_70 : decode cX5_ofGauge 70 = .ok (.aload_n 3, 1) := by decide +kernel
theorem dX5_ofGauge_71 : decode cX5_ofGauge 71 = .ok (.getfield 145, 3) := by decide +kernel
theorem dX5_ofGauge_74 : decode cX5_ofGauge 74 = .ok (.ifCond .ne 8, 3) := by decide +kernel
theorem dX5_ofGauge_77 : decode cX5_ofGauge 77 = .ok (.bipush (-6), 2) := by decide +kernel
theorem dX5_ofGauge_79 : decode cX5_ofGauge 79 = .ok (.goto 11, 3) := by decide +kernel
theorem dX5_ofGauge_82 : decode cX5_ofGauge 82 = .ok (.aload_n 3, 1) := by decide +kernel
theorem dX5_ofGauge_83 : decode cX5_ofGauge 83 = .ok (.invokevirtual 148, 3) := by decide +kernel
theorem dX5_ofGauge_86 : decode cX5_ofGauge 86 = .ok (.sipush 10000, 3) := by decide +kernel
theorem dX5_ofGauge_89 : decode cX5_ofGauge 89 = .ok (.iadd, 1) := by decide +kernel
theorem dX5_ofGauge_90 : decode cX5_ofGauge 90 = .ok (.ireturn, 1) := by decide +kernel
theorem dX5_ofGauge_91 : decode cX5_ofGauge 91 = .ok (.aload_n 3, 1) := by decide +kernel
theorem dX5_ofGauge_92 : decode cX5_ofGauge 92 = .ok (.getfield 145, 3) := by decide +kernel
theorem dX5_ofGauge_95 : decode cX5_ofGauge 95 = .ok (.ifCond .ne 8, 3) := by decide +kernel
theorem dX5_ofGauge_98 : decode cX5_ofGauge 98 = .ok (.bipush (-6), 2) := by decide +kernel
theorem dX5_ofGauge_100 : decode cX5_ofGauge 100 = .ok (.goto 11, 3) := by decide +kernel
theorem dX5_ofGauge_103 : decode cX5_ofGauge 103 = .ok (.aload_n 3, 1) := by decide +kernel
theorem dX5_ofGauge_104 : decode cX5_ofGauge 104 = .ok (.invokevirtual 152, 3) := by decide +kernel
theorem dX5_ofGauge_107 : decode cX5_ofGauge 107 = .ok (.sipush 10000, 3) := by decide +kernel
theorem dX5_ofGauge_110 : decode cX5_ofGauge 110 = .ok (.iadd, 1) := by decide +kernel
theorem dX5_ofGauge_111 : decode cX5_ofGauge 111 = .ok (.ireturn, 1) := by decide +kernel
theorem dX5_ofGauge_112 : decode cX5_ofGauge 112 = .ok (.aload_n 3, 1) := by decide +kernel
theorem dX5_ofGauge_113 : decode cX5_ofGauge 113 = .ok (.invokevirtual 155, 3) := by decide +kernel
theorem dX5_ofGauge_116 : decode cX5_ofGauge 116 = .ok (.ireturn, 1) := by decide +kernel
theorem dX5_ofGauge_117 : decode cX5_ofGauge 117 = .ok (.bipush (-2), 2) := by decide +kernel
theorem dX5_ofGauge_119 : decode cX5_ofGauge 119 = .ok (.ireturn, 1) := by decide +kernel
theorem dX5_noted_0 : decode cX5_noted 0 = .ok (.iload_n 1, 1) := by decide +kernel
theorem dX5_noted_1 : decode cX5_noted 1 = .ok (.aload_n 0, 1) := by decide +kernel
theorem dX5_noted_2 : decode cX5_noted 2 = .ok (.getfield 10, 3) := by decide +kernel
theorem dX5_noted_5 : decode cX5_noted 5 = .ok (.getfield 135, 3) := by decide +kernel
theorem dX5_noted_8 : decode cX5_noted 8 = .ok (.invokestatic 78, 3) := by decide +kernel
theorem dX5_noted_11 : decode cX5_noted 11 = .ok (.ifCond .eq 5, 3) := by decide +kernel
theorem dX5_noted_14 : decode cX5_noted 14 = .ok (.iconst (-1), 1) := by decide +kernel
theorem dX5_noted_15 : decode cX5_noted 15 = .ok (.ireturn, 1) := by decide +kernel
theorem dX5_noted_16 : decode cX5_noted 16 = .ok (.aload_n 0, 1) := by decide +kernel
theorem dX5_noted_17 : decode cX5_noted 17 = .ok (.getfield 10, 3) := by decide +kernel
theorem dX5_noted_20 : decode cX5_noted 20 = .ok (.getfield 138, 3) := by decide +kernel
theorem dX5_noted_23 : decode cX5_noted 23 = .ok (.iload_n 1, 1) := by decide +kernel
theorem dX5_noted_24 : decode cX5_noted 24 = .ok (.aaload, 1) := by decide +kernel
theorem dX5_noted_25 : decode cX5_noted 25 = .ok (.astore_n 3, 1) := by decide +kernel
theorem dX5_noted_26 : decode cX5_noted 26 = .ok (.iload_n 2, 1) := by decide +kernel
theorem dX5_noted_27 : decode cX5_noted 27 = .ok (.aload_n 3, 1) := by decide +kernel
theorem dX5_noted_28 : decode cX5_noted 28 = .ok (.getfield 145, 3) := by decide +kernel
theorem dX5_noted_31 : decode cX5_noted 31 = .ok (.invokestatic 78, 3) := by decide +kernel
theorem dX5_noted_34 : decode cX5_noted 34 = .ok (.ifCond .eq 5, 3) := by decide +kernel
theorem dX5_noted_37 : decode cX5_noted 37 = .ok (.iconst (-1), 1) := by decide +kernel
theorem dX5_noted_38 : decode cX5_noted 38 = .ok (.ireturn, 1) := by decide +kernel
theorem dX5_noted_39 : decode cX5_noted 39 = .ok (.aload_n 3, 1) := by decide +kernel
theorem dX5_noted_40 : decode cX5_noted 40 = .ok (.iload_n 2, 1) := by decide +kernel
theorem dX5_noted_41 : decode cX5_noted 41 = .ok (.invokevirtual 158, 3) := by decide +kernel
theorem dX5_noted_44 : decode cX5_noted 44 = .ok (.sipush 10000, 3) := by decide +kernel
theorem dX5_noted_47 : decode cX5_noted 47 = .ok (.iadd, 1) := by decide +kernel
theorem dX5_noted_48 : decode cX5_noted 48 = .ok (.ireturn, 1) := by decide +kernel
theorem dX5_places_0 : decode cX5_places 0 = .ok (.iload_n 1, 1) := by decide +kernel
theorem dX5_places_1 : decode cX5_places 1 = .ok (.iconst 5, 1) := by decide +kernel
theorem dX5_places_2 : decode cX5_places 2 = .ok (.invokestatic 78, 3) := by decide +kernel
theorem dX5_places_5 : decode cX5_places 5 = .ok (.ifCond .eq 9, 3) := by decide +kernel
theorem dX5_places_8 : decode cX5_places 8 = .ok (.ldc2_w 161, 3) := by decide +kernel
theorem dX5_places_11 : decode cX5_places 11 = .ok (.goto 11, 3) := by decide +kernel
theorem dX5_places_14 : decode cX5_places 14 = .ok (.aload_n 0, 1) := by decide +kernel
theorem dX5_places_15 : decode cX5_places 15 = .ok (.getfield 10, 3) := by decide +kernel
theorem dX5_places_18 : decode cX5_places 18 = .ok (.iload_n 1, 1) := by decide +kernel
theorem dX5_places_19 : decode cX5_places 19 = .ok (.invokevirtual 163, 3) := by decide +kernel
theorem dX5_places_22 : decode cX5_places 22 = .ok (.lreturn, 1) := by decide +kernel
theorem dX5_count_0 : decode cX5_count 0 = .ok (.iload_n 1, 1) := by decide +kernel
theorem dX5_count_1 : decode cX5_count 1 = .ok (.tableswitch 167 0 12 #[67, 75, 83, 95, 103, 114, 122, 130, 138, 138, 138, 151, 159], 67) := by decide +kernel
theorem dX5_count_68 : decode cX5_count 68 = .ok (.aload_n 0, 1) := by decide +kernel
theorem dX5_count_69 : decode cX5_count 69 = .ok (.getfield 10, 3) := by decide +kernel
theorem dX5_count_72 : decode cX5_count 72 = .ok (.getfield 129, 3) := by decide +kernel
theorem dX5_count_75 : decode cX5_count 75 = .ok (.ireturn, 1) := by decide +kernel
theorem dX5_count_76 : decode cX5_count 76 = .ok (.aload_n 0, 1) := by decide +kernel
theorem dX5_count_77 : decode cX5_count 77 = .ok (.getfield 10, 3) := by decide +kernel
theorem dX5_count_80 : decode cX5_count 80 = .ok (.getfield 100, 3) := by decide +kernel
theorem dX5_count_83 : decode cX5_count 83 = .ok (.ireturn, 1) := by decide +kernel
theorem dX5_count_84 : decode cX5_count 84 = .ok (.aload_n 0, 1) := by decide +kernel
theorem dX5_count_85 : decode cX5_count 85 = .ok (.getfield 10, 3) := by decide +kernel
theorem dX5_count_88 : decode cX5_count 88 = .ok (.iconst 4, 1) := by decide +kernel
theorem dX5_count_89 : decode cX5_count 89 = .ok (.invokevirtual 163, 3) := by decide +kernel
theorem dX5_count_92 : decode cX5_count 92 = .ok (.invokestatic 167, 3) := by decide +kernel
theorem dX5_count_95 : decode cX5_count 95 = .ok (.ireturn, 1) := by decide +kernel
theorem dX5_count_96 : decode cX5_count 96 = .ok (.aload_n 0, 1) := by decide +kernel
theorem dX5_count_97 : decode cX5_count 97 = .ok (.getfield 10, 3) := by decide +kernel
theorem dX5_count_100 : decode cX5_count 100 = .ok (.getfield 135, 3) := by decide +kernel
theorem dX5_count_103 : decode cX5_count 103 = .ok (.ireturn, 1) := by decide +kernel
theorem dX5_count_104 : decode cX5_count 104 = .ok (.aload_n 0, 1) := by decide +kernel
theorem dX5_count_105 : decode cX5_count 105 = .ok (.getfield 10, 3) := by decide +kernel
theorem dX5_count_108 : decode cX5_count 108 = .ok (.invokevirtual 173, 3) := by decide +kernel
theorem dX5_count_111 : decode cX5_count 111 = .ok (.ldc 176, 2) := by decide +kernel
theorem dX5_count_113 : decode cX5_count 113 = .ok (.iadd, 1) := by decide +kernel
theorem dX5_count_114 : decode cX5_count 114 = .ok (.ireturn, 1) := by decide +kernel
theorem dX5_count_115 : decode cX5_count 115 = .ok (.aload_n 0, 1) := by decide +kernel
theorem dX5_count_116 : decode cX5_count 116 = .ok (.getfield 10, 3) := by decide +kernel
theorem dX5_count_119 : decode cX5_count 119 = .ok (.invokevirtual 177, 3) := by decide +kernel
theorem dX5_count_122 : decode cX5_count 122 = .ok (.ireturn, 1) := by decide +kernel
theorem dX5_count_123 : decode cX5_count 123 = .ok (.aload_n 0, 1) := by decide +kernel
theorem dX5_count_124 : decode cX5_count 124 = .ok (.getfield 10, 3) := by decide +kernel
theorem dX5_count_127 : decode cX5_count 127 = .ok (.invokevirtual 180, 3) := by decide +kernel
theorem dX5_count_130 : decode cX5_count 130 = .ok (.ireturn, 1) := by decide +kernel
theorem dX5_count_131 : decode cX5_count 131 = .ok (.aload_n 0, 1) := by decide +kernel
theorem dX5_count_132 : decode cX5_count 132 = .ok (.getfield 10, 3) := by decide +kernel
theorem dX5_count_135 : decode cX5_count 135 = .ok (.invokevirtual 183, 3) := by decide +kernel
theorem dX5_count_138 : decode cX5_count 138 = .ok (.ireturn, 1) := by decide +kernel
theorem dX5_count_139 : decode cX5_count 139 = .ok (.aload_n 0, 1) := by decide +kernel
theorem dX5_count_140 : decode cX5_count 140 = .ok (.getfield 10, 3) := by decide +kernel
theorem dX5_count_143 : decode cX5_count 143 = .ok (.getfield 186, 3) := by decide +kernel
theorem dX5_count_146 : decode cX5_count 146 = .ok (.iload_n 1, 1) := by decide +kernel
theorem dX5_count_147 : decode cX5_count 147 = .ok (.bipush 8, 2) := by decide +kernel
theorem dX5_count_149 : decode cX5_count 149 = .ok (.isub, 1) := by decide +kernel
theorem dX5_count_150 : decode cX5_count 150 = .ok (.iaload, 1) := by decide +kernel
theorem dX5_count_151 : decode cX5_count 151 = .ok (.ireturn, 1) := by decide +kernel
theorem dX5_count_152 : decode cX5_count 152 = .ok (.aload_n 0, 1) := by decide +kernel
theorem dX5_count_153 : decode cX5_count 153 = .ok (.getfield 19, 3) := by decide +kernel
theorem dX5_count_156 : decode cX5_count 156 = .ok (.getfield 189, 3) := by decide +kernel
theorem dX5_count_159 : decode cX5_count 159 = .ok (.ireturn, 1) := by decide +kernel
theorem dX5_count_160 : decode cX5_count 160 = .ok (.aload_n 0, 1) := by decide +kernel
theorem dX5_count_161 : decode cX5_count 161 = .ok (.getfield 26, 3) := by decide +kernel
theorem dX5_count_164 : decode cX5_count 164 = .ok (.getfield 192, 3) := by decide +kernel
theorem dX5_count_167 : decode cX5_count 167 = .ok (.ireturn, 1) := by decide +kernel
theorem dX5_count_168 : decode cX5_count 168 = .ok (.bipush (-2), 2) := by decide +kernel
theorem dX5_count_170 : decode cX5_count 170 = .ok (.ireturn, 1) := by decide +kernel
theorem dX5_reaches_0 : decode cX5_reaches 0 = .ok (.iload_n 1, 1) := by decide +kernel
theorem dX5_reaches_1 : decode cX5_reaches 1 = .ok (.bipush 40, 2) := by decide +kernel
theorem dX5_reaches_3 : decode cX5_reaches 3 = .ok (.invokestatic 78, 3) := by decide +kernel
theorem dX5_reaches_6 : decode cX5_reaches 6 = .ok (.ifCond .eq 5, 3) := by decide +kernel
theorem dX5_reaches_9 : decode cX5_reaches 9 = .ok (.iconst (-1), 1) := by decide +kernel
theorem dX5_reaches_10 : decode cX5_reaches 10 = .ok (.ireturn, 1) := by decide +kernel
theorem dX5_reaches_11 : decode cX5_reaches 11 = .ok (.iload_n 2, 1) := by decide +kernel
theorem dX5_reaches_12 : decode cX5_reaches 12 = .ok (.iconst 1, 1) := by decide +kernel
theorem dX5_reaches_13 : decode cX5_reaches 13 = .ok (.if_icmp .lt 10, 3) := by decide +kernel
theorem dX5_reaches_16 : decode cX5_reaches 16 = .ok (.iload_n 2, 1) := by decide +kernel
theorem dX5_reaches_17 : decode cX5_reaches 17 = .ok (.sipush 9999, 3) := by decide +kernel
theorem dX5_reaches_20 : decode cX5_reaches 20 = .ok (.if_icmp .le 6, 3) := by decide +kernel
theorem dX5_reaches_23 : decode cX5_reaches 23 = .ok (.bipush (-2), 2) := by decide +kernel
theorem dX5_reaches_25 : decode cX5_reaches 25 = .ok (.ireturn, 1) := by decide +kernel
theorem dX5_reaches_26 : decode cX5_reaches 26 = .ok (.aload_n 0, 1) := by decide +kernel
theorem dX5_reaches_27 : decode cX5_reaches 27 = .ok (.getfield 41, 3) := by decide +kernel
theorem dX5_reaches_30 : decode cX5_reaches 30 = .ok (.aload_n 0, 1) := by decide +kernel
theorem dX5_reaches_31 : decode cX5_reaches 31 = .ok (.getfield 10, 3) := by decide +kernel
theorem dX5_reaches_34 : decode cX5_reaches 34 = .ok (.invokevirtual 44, 3) := by decide +kernel
theorem dX5_reaches_37 : decode cX5_reaches 37 = .ok (.iconst 0, 1) := by decide +kernel
theorem dX5_reaches_38 : decode cX5_reaches 38 = .ok (.istore_n 3, 1) := by decide +kernel
theorem dX5_reaches_39 : decode cX5_reaches 39 = .ok (.iload_n 3, 1) := by decide +kernel
theorem dX5_reaches_40 : decode cX5_reaches 40 = .ok (.sipush 500, 3) := by decide +kernel
theorem dX5_reaches_43 : decode cX5_reaches 43 = .ok (.if_icmp .gt 35, 3) := by decide +kernel
theorem dX5_reaches_46 : decode cX5_reaches 46 = .ok (.aload_n 0, 1) := by decide +kernel
theorem dX5_reaches_47 : decode cX5_reaches 47 = .ok (.getfield 41, 3) := by decide +kernel
theorem dX5_reaches_50 : decode cX5_reaches 50 = .ok (.getfield 82, 3) := by decide +kernel
theorem dX5_reaches_53 : decode cX5_reaches 53 = .ok (.iload_n 1, 1) := by decide +kernel
theorem dX5_reaches_54 : decode cX5_reaches 54 = .ok (.iaload, 1) := by decide +kernel
theorem dX5_reaches_55 : decode cX5_reaches 55 = .ok (.invokestatic 195, 3) := by decide +kernel
theorem dX5_reaches_58 : decode cX5_reaches 58 = .ok (.iload_n 2, 1) := by decide +kernel
theorem dX5_reaches_59 : decode cX5_reaches 59 = .ok (.if_icmp .lt 5, 3) := by decide +kernel
theorem dX5_reaches_62 : decode cX5_reaches 62 = .ok (.iload_n 3, 1) := by decide +kernel
theorem dX5_reaches_63 : decode cX5_reaches 63 = .ok (.ireturn, 1) := by decide +kernel
theorem dX5_reaches_64 : decode cX5_reaches 64 = .ok (.aload_n 0, 1) := by decide +kernel
theorem dX5_reaches_65 : decode cX5_reaches 65 = .ok (.getfield 41, 3) := by decide +kernel
theorem dX5_reaches_68 : decode cX5_reaches 68 = .ok (.invokevirtual 200, 3) := by decide +kernel
theorem dX5_reaches_71 : decode cX5_reaches 71 = .ok (.pop, 1) := by decide +kernel
theorem dX5_reaches_72 : decode cX5_reaches 72 = .ok (.iinc 3 1, 3) := by decide +kernel
theorem dX5_reaches_75 : decode cX5_reaches 75 = .ok (.goto (-36), 3) := by decide +kernel
theorem dX5_reaches_78 : decode cX5_reaches 78 = .ok (.bipush (-6), 2) := by decide +kernel
theorem dX5_reaches_80 : decode cX5_reaches 80 = .ok (.ireturn, 1) := by decide +kernel
theorem dX5_bestPeriod_0 : decode cX5_bestPeriod 0 = .ok (.iload_n 1, 1) := by decide +kernel
theorem dX5_bestPeriod_1 : decode cX5_bestPeriod 1 = .ok (.aload_n 0, 1) := by decide +kernel
theorem dX5_bestPeriod_2 : decode cX5_bestPeriod 2 = .ok (.getfield 10, 3) := by decide +kernel
theorem dX5_bestPeriod_5 : decode cX5_bestPeriod 5 = .ok (.getfield 100, 3) := by decide +kernel
theorem dX5_bestPeriod_8 : decode cX5_bestPeriod 8 = .ok (.invokestatic 78, 3) := by decide +kernel
theorem dX5_bestPeriod_11 : decode cX5_bestPeriod 11 = .ok (.ifCond .ne 12, 3) := by decide +kernel
theorem dX5_bestPeriod_14 : decode cX5_bestPeriod 14 = .ok (.iload_n 2, 1) := by decide +kernel
theorem dX5_bestPeriod_15 : decode cX5_bestPeriod 15 = .ok (.bipush 40, 2) := by decide +kernel
theorem dX5_bestPeriod_17 : decode cX5_bestPeriod 17 = .ok (.invokestatic 78, 3) := by decide +kernel
theorem dX5_bestPeriod_20 : decode cX5_bestPeriod 20 = .ok (.ifCond .eq 5, 3) := by decide +kernel
theorem dX5_bestPeriod_23 : decode cX5_bestPeriod 23 = .ok (.iconst (-1), 1) := by decide +kernel
theorem dX5_bestPeriod_24 : decode cX5_bestPeriod 24 = .ok (.ireturn, 1) := by decide +kernel
theorem dX5_bestPeriod_25 : decode cX5_bestPeriod 25 = .ok (.iload_n 3, 1) := by decide +kernel
theorem dX5_bestPeriod_26 : decode cX5_bestPeriod 26 = .ok (.iconst 1, 1) := by decide +kernel
theorem dX5_bestPeriod_27 : decode cX5_bestPeriod 27 = .ok (.if_icmp .lt 18, 3) := by decide +kernel
theorem dX5_bestPeriod_30 : decode cX5_bestPeriod 30 = .ok (.iload_n 3, 1) := by decide +kernel
theorem dX5_bestPeriod_31 : decode cX5_bestPeriod 31 = .ok (.bipush 99, 2) := by decide +kernel
theorem dX5_bestPeriod_33 : decode cX5_bestPeriod 33 = .ok (.if_icmp .gt 12, 3) := by decide +kernel
theorem dX5_bestPeriod_36 : decode cX5_bestPeriod 36 = .ok (.iload 4, 2) := by decide +kernel
theorem dX5_bestPeriod_38 : decode cX5_bestPeriod 38 = .ok (.iconst 2, 1) := by decide +kernel
theorem dX5_bestPeriod_39 : decode cX5_bestPeriod 39 = .ok (.invokestatic 78, 3) := by decide +kernel
theorem dX5_bestPeriod_42 : decode cX5_bestPeriod 42 = .ok (.ifCond .eq 6, 3) := by decide +kernel
theorem dX5_bestPeriod_45 : decode cX5_bestPeriod 45 = .ok (.bipush (-2), 2) := by decide +kernel
theorem dX5_bestPeriod_47 : decode cX5_bestPeriod 47 = .ok (.ireturn, 1) := by decide +kernel
theorem dX5_bestPeriod_48 : decode cX5_bestPeriod 48 = .ok (.iconst 0, 1) := by decide +kernel
theorem dX5_bestPeriod_49 : decode cX5_bestPeriod 49 = .ok (.istore 5, 2) := by decide +kernel
theorem dX5_bestPeriod_51 : decode cX5_bestPeriod 51 = .ok (.iconst (-1), 1) := by decide +kernel
theorem dX5_bestPeriod_52 : decode cX5_bestPeriod 52 = .ok (.istore 6, 2) := by decide +kernel
theorem dX5_bestPeriod_54 : decode cX5_bestPeriod 54 = .ok (.iconst 1, 1) := by decide +kernel
theorem dX5_bestPeriod_55 : decode cX5_bestPeriod 55 = .ok (.istore 7, 2) := by decide +kernel
theorem dX5_bestPeriod_57 : decode cX5_bestPeriod 57 = .ok (.iload 7, 2) := by decide +kernel
theorem dX5_bestPeriod_59 : decode cX5_bestPeriod 59 = .ok (.bipush 60, 2) := by decide +kernel
theorem dX5_bestPeriod_61 : decode cX5_bestPeriod 61 = .ok (.if_icmp .gt 35, 3) := by decide +kernel
theorem dX5_bestPeriod_64 : decode cX5_bestPeriod 64 = .ok (.aload_n 0, 1) := by decide +kernel
theorem dX5_bestPeriod_65 : decode cX5_bestPeriod 65 = .ok (.iload_n 1, 1) := by decide +kernel
theorem dX5_bestPeriod_66 : decode cX5_bestPeriod 66 = .ok (.iload 7, 2) := by decide +kernel
theorem dX5_bestPeriod_68 : decode cX5_bestPeriod 68 = .ok (.iload_n 2, 1) := by decide +kernel
theorem dX5_bestPeriod_69 : decode cX5_bestPeriod 69 = .ok (.iload_n 3, 1) := by decide +kernel
theorem dX5_bestPeriod_70 : decode cX5_bestPeriod 70 = .ok (.invokevirtual 203, 3) := by decide +kernel
theorem dX5_bestPeriod_73 : decode cX5_bestPeriod 73 = .ok (.istore 8, 2) := by decide +kernel
theorem dX5_bestPeriod_75 : decode cX5_bestPeriod 75 = .ok (.iload 8, 2) := by decide +kernel
theorem dX5_bestPeriod_77 : decode cX5_bestPeriod 77 = .ok (.iload 6, 2) := by decide +kernel
theorem dX5_bestPeriod_79 : decode cX5_bestPeriod 79 = .ok (.if_icmp .le 11, 3) := by decide +kernel
theorem dX5_bestPeriod_82 : decode cX5_bestPeriod 82 = .ok (.iload 8, 2) := by decide +kernel
theorem dX5_bestPeriod_84 : decode cX5_bestPeriod 84 = .ok (.istore 6, 2) := by decide +kernel
theorem dX5_bestPeriod_86 : decode cX5_bestPeriod 86 = .ok (.iload 7, 2) := by decide +kernel
theorem dX5_bestPeriod_88 : decode cX5_bestPeriod 88 = .ok (.istore 5, 2) := by decide +kernel
theorem dX5_bestPeriod_90 : decode cX5_bestPeriod 90 = .ok (.iinc 7 1, 3) := by decide +kernel
theorem dX5_bestPeriod_93 : decode cX5_bestPeriod 93 = .ok (.goto (-36), 3) := by decide +kernel
theorem dX5_bestPeriod_96 : decode cX5_bestPeriod 96 = .ok (.iload 4, 2) := by decide +kernel
theorem dX5_bestPeriod_98 : decode cX5_bestPeriod 98 = .ok (.ifCond .ne 8, 3) := by decide +kernel
theorem dX5_bestPeriod_101 : decode cX5_bestPeriod 101 = .ok (.iload 5, 2) := by decide +kernel
theorem dX5_bestPeriod_103 : decode cX5_bestPeriod 103 = .ok (.goto 5, 3) := by decide +kernel
theorem dX5_bestPeriod_106 : decode cX5_bestPeriod 106 = .ok (.iload 6, 2) := by decide +kernel
theorem dX5_bestPeriod_108 : decode cX5_bestPeriod 108 = .ok (.ireturn, 1) := by decide +kernel
theorem dX5_peakWithPeriod_0 : decode cX5_peakWithPeriod 0 = .ok (.aload_n 0, 1) := by decide +kernel
theorem dX5_peakWithPeriod_1 : decode cX5_peakWithPeriod 1 = .ok (.getfield 41, 3) := by decide +kernel
theorem dX5_peakWithPeriod_4 : decode cX5_peakWithPeriod 4 = .ok (.aload_n 0, 1) := by decide +kernel
theorem dX5_peakWithPeriod_5 : decode cX5_peakWithPeriod 5 = .ok (.getfield 10, 3) := by decide +kernel
theorem dX5_peakWithPeriod_8 : decode cX5_peakWithPeriod 8 = .ok (.invokevirtual 44, 3) := by decide +kernel
theorem dX5_peakWithPeriod_11 : decode cX5_peakWithPeriod 11 = .ok (.aload_n 0, 1) := by decide +kernel
theorem dX5_peakWithPeriod_12 : decode cX5_peakWithPeriod 12 = .ok (.getfield 41, 3) := by decide +kernel
theorem dX5_peakWithPeriod_15 : decode cX5_peakWithPeriod 15 = .ok (.getfield 104, 3) := by decide +kernel
theorem dX5_peakWithPeriod_18 : decode cX5_peakWithPeriod 18 = .ok (.iload_n 1, 1) := by decide +kernel
theorem dX5_peakWithPeriod_19 : decode cX5_peakWithPeriod 19 = .ok (.aaload, 1) := by decide +kernel
theorem dX5_peakWithPeriod_20 : decode cX5_peakWithPeriod 20 = .ok (.iload_n 2, 1) := by decide +kernel
theorem dX5_peakWithPeriod_21 : decode cX5_peakWithPeriod 21 = .ok (.putfield 119, 3) := by decide +kernel
theorem dX5_peakWithPeriod_24 : decode cX5_peakWithPeriod 24 = .ok (.iconst 0, 1) := by decide +kernel
theorem dX5_peakWithPeriod_25 : decode cX5_peakWithPeriod 25 = .ok (.istore 5, 2) := by decide +kernel
theorem dX5_peakWithPeriod_27 : decode cX5_peakWithPeriod 27 = .ok (.iconst 0, 1) := by decide +kernel
theorem dX5_peakWithPeriod_28 : decode cX5_peakWithPeriod 28 = .ok (.istore 6, 2) := by decide +kernel
theorem dX5_peakWithPeriod_30 : decode cX5_peakWithPeriod 30 = .ok (.iload 6, 2) := by decide +kernel
theorem dX5_peakWithPeriod_32 : decode cX5_peakWithPeriod 32 = .ok (.iload 4, 2) := by decide +kernel
theorem dX5_peakWithPeriod_34 : decode cX5_peakWithPeriod 34 = .ok (.if_icmp .ge 36, 3) := by decide +kernel
theorem dX5_peakWithPeriod_37 : decode cX5_peakWithPeriod 37 = .ok (.aload_n 0, 1) := by decide +kernel
theorem dX5_peakWithPeriod_38 : decode cX5_peakWithPeriod 38 = .ok (.getfield 41, 3) := by decide +kernel
theorem dX5_peakWithPeriod_41 : decode cX5_peakWithPeriod 41 = .ok (.invokevirtual 200, 3) := by decide +kernel
theorem dX5_peakWithPeriod_44 : decode cX5_peakWithPeriod 44 = .ok (.pop, 1) := by decide +kernel
theorem dX5_peakWithPeriod_45 : decode cX5_peakWithPeriod 45 = .ok (.iload 5, 2) := by decide +kernel
theorem dX5_peakWithPeriod_47 : decode cX5_peakWithPeriod 47 = .ok (.aload_n 0, 1) := by decide +kernel
theorem dX5_peakWithPeriod_48 : decode cX5_peakWithPeriod 48 = .ok (.getfield 41, 3) := by decide +kernel
theorem dX5_peakWithPeriod_51 : decode cX5_peakWithPeriod 51 = .ok (.getfield 82, 3) := by decide +kernel
theorem dX5_peakWithPeriod_54 : decode cX5_peakWithPeriod 54 = .ok (.iload_n 3, 1) := by decide +kernel
theorem dX5_peakWithPeriod_55 : decode cX5_peakWithPeriod 55 = .ok (.iaload, 1) := by decide +kernel
theorem dX5_peakWithPeriod_56 : decode cX5_peakWithPeriod 56 = .ok (.invokestatic 195, 3) := by decide +kernel
theorem dX5_peakWithPeriod_59 : decode cX5_peakWithPeriod 59 = .ok (.invokestatic 207, 3) := by decide +kernel
theorem dX5_peakWithPeriod_62 : decode cX5_peakWithPeriod 62 = .ok (.istore 5, 2) := by decide +kernel
theorem dX5_peakWithPeriod_64 : decode cX5_peakWithPeriod 64 = .ok (.iinc 6 1, 3) := by decide +kernel
theorem dX5_peakWithPeriod_67 : decode cX5_peakWithPeriod 67 = .ok (.goto (-37), 3) := by decide +kernel
theorem dX5_peakWithPeriod_70 : decode cX5_peakWithPeriod 70 = .ok (.iload 5, 2) := by decide +kernel
theorem dX5_peakWithPeriod_72 : decode cX5_peakWithPeriod 72 = .ok (.ireturn, 1) := by decide +kernel
theorem dX5_calmIn_0 : decode cX5_calmIn 0 = .ok (.aload_n 0, 1) := by decide +kernel
theorem dX5_calmIn_1 : decode cX5_calmIn 1 = .ok (.getfield 41, 3) := by decide +kernel
theorem dX5_calmIn_4 : decode cX5_calmIn 4 = .ok (.aload_n 0, 1) := by decide +kernel
theorem dX5_calmIn_5 : decode cX5_calmIn 5 = .ok (.getfield 10, 3) := by decide +kernel
theorem dX5_calmIn_8 : decode cX5_calmIn 8 = .ok (.invokevirtual 44, 3) := by decide +kernel
theorem dX5_calmIn_11 : decode cX5_calmIn 11 = .ok (.aload_n 0, 1) := by decide +kernel
theorem dX5_calmIn_12 : decode cX5_calmIn 12 = .ok (.getfield 41, 3) := by decide +kernel
theorem dX5_calmIn_15 : decode cX5_calmIn 15 = .ok (.iconst 0, 1) := by decide +kernel
theorem dX5_calmIn_16 : decode cX5_calmIn 16 = .ok (.putfield 100, 3) := by decide +kernel
theorem dX5_calmIn_19 : decode cX5_calmIn 19 = .ok (.iconst 0, 1) := by decide +kernel
theorem dX5_calmIn_20 : decode cX5_calmIn 20 = .ok (.istore_n 1, 1) := by decide +kernel
theorem dX5_calmIn_21 : decode cX5_calmIn 21 = .ok (.iload_n 1, 1) := by decide +kernel
theorem dX5_calmIn_22 : decode cX5_calmIn 22 = .ok (.sipush 500, 3) := by decide +kernel
theorem dX5_calmIn_25 : decode cX5_calmIn 25 = .ok (.if_icmp .gt 29, 3) := by decide +kernel
theorem dX5_calmIn_28 : decode cX5_calmIn 28 = .ok (.aload_n 0, 1) := by decide +kernel
theorem dX5_calmIn_29 : decode cX5_calmIn 29 = .ok (.getfield 41, 3) := by decide +kernel
theorem dX5_calmIn_32 : decode cX5_calmIn 32 = .ok (.invokevirtual 210, 3) := by decide +kernel
theorem dX5_calmIn_35 : decode cX5_calmIn 35 = .ok (.ifCond .eq 5, 3) := by decide +kernel
theorem dX5_calmIn_38 : decode cX5_calmIn 38 = .ok (.iload_n 1, 1) := by decide +kernel
theorem dX5_calmIn_39 : decode cX5_calmIn 39 = .ok (.ireturn, 1) := by decide +kernel
theorem dX5_calmIn_40 : decode cX5_calmIn 40 = .ok (.aload_n 0, 1) := by decide +kernel
theorem dX5_calmIn_41 : decode cX5_calmIn 41 = .ok (.getfield 41, 3) := by decide +kernel
theorem dX5_calmIn_44 : decode cX5_calmIn 44 = .ok (.invokevirtual 200, 3) := by decide +kernel
theorem dX5_calmIn_47 : decode cX5_calmIn 47 = .ok (.pop, 1) := by decide +kernel
theorem dX5_calmIn_48 : decode cX5_calmIn 48 = .ok (.iinc 1 1, 3) := by decide +kernel
theorem dX5_calmIn_51 : decode cX5_calmIn 51 = .ok (.goto (-30), 3) := by decide +kernel
theorem dX5_calmIn_54 : decode cX5_calmIn 54 = .ok (.bipush (-6), 2) := by decide +kernel
theorem dX5_calmIn_56 : decode cX5_calmIn 56 = .ok (.ireturn, 1) := by decide +kernel
theorem dX5_isOutside_0 : decode cX5_isOutside 0 = .ok (.iload_n 0, 1) := by decide +kernel
theorem dX5_isOutside_1 : decode cX5_isOutside 1 = .ok (.ifCond .lt 8, 3) := by decide +kernel
theorem dX5_isOutside_4 : decode cX5_isOutside 4 = .ok (.iload_n 0, 1) := by decide +kernel
theorem dX5_isOutside_5 : decode cX5_isOutside 5 = .ok (.iload_n 1, 1) := by decide +kernel
theorem dX5_isOutside_6 : decode cX5_isOutside 6 = .ok (.if_icmp .lt 7, 3) := by decide +kernel
theorem dX5_isOutside_9 : decode cX5_isOutside 9 = .ok (.iconst 1, 1) := by decide +kernel
theorem dX5_isOutside_10 : decode cX5_isOutside 10 = .ok (.goto 4, 3) := by decide +kernel
theorem dX5_isOutside_13 : decode cX5_isOutside 13 = .ok (.iconst 0, 1) := by decide +kernel
theorem dX5_isOutside_14 : decode cX5_isOutside 14 = .ok (.ireturn, 1) := by decide +kernel
theorem dX5_asNumber_0 : decode cX5_asNumber 0 = .ok (.iload_n 0, 1) := by decide +kernel
theorem dX5_asNumber_1 : decode cX5_asNumber 1 = .ok (.ifCond .eq 7, 3) := by decide +kernel
theorem dX5_asNumber_4 : decode cX5_asNumber 4 = .ok (.iconst 1, 1) := by decide +kernel
theorem dX5_asNumber_5 : decode cX5_asNumber 5 = .ok (.goto 4, 3) := by decide +kernel
theorem dX5_asNumber_8 : decode cX5_asNumber 8 = .ok (.iconst 0, 1) := by decide +kernel
theorem dX5_asNumber_9 : decode cX5_asNumber 9 = .ok (.ireturn, 1) := by decide +kernel
theorem dX5_withinBounds_0 : decode cX5_withinBounds 0 = .ok (.sipush (-9999), 3) := by decide +kernel
theorem dX5_withinBounds_3 : decode cX5_withinBounds 3 = .ok (.sipush 9999, 3) := by decide +kernel
theorem dX5_withinBounds_6 : decode cX5_withinBounds 6 = .ok (.iload_n 0, 1) := by decide +kernel
theorem dX5_withinBounds_7 : decode cX5_withinBounds 7 = .ok (.invokestatic 251, 3) := by decide +kernel
theorem dX5_withinBounds_10 : decode cX5_withinBounds 10 = .ok (.invokestatic 207, 3) := by decide +kernel
theorem dX5_withinBounds_13 : decode cX5_withinBounds 13 = .ok (.ireturn, 1) := by decide +kernel
theorem dJ13_bitCount_95d88_0 : decode cJ13_bitCount_95d88 0 = .ok (.lload_n 0, 1) := by decide +kernel
theorem dJ13_bitCount_95d88_1 : decode cJ13_bitCount_95d88 1 = .ok (.lload_n 0, 1) := by decide +kernel
theorem dJ13_bitCount_95d88_2 : decode cJ13_bitCount_95d88 2 = .ok (.iconst 1, 1) := by decide +kernel
theorem dJ13_bitCount_95d88_3 : decode cJ13_bitCount_95d88 3 = .ok (.lushr, 1) := by decide +kernel
theorem dJ13_bitCount_95d88_4 : decode cJ13_bitCount_95d88 4 = .ok (.ldc2_w 314, 3) := by decide +kernel
theorem dJ13_bitCount_95d88_7 : decode cJ13_bitCount_95d88 7 = .ok (.land, 1) := by decide +kernel
theorem dJ13_bitCount_95d88_8 : decode cJ13_bitCount_95d88 8 = .ok (.lsub, 1) := by decide +kernel
theorem dJ13_bitCount_95d88_9 : decode cJ13_bitCount_95d88 9 = .ok (.lstore_n 0, 1) := by decide +kernel
theorem dJ13_bitCount_95d88_10 : decode cJ13_bitCount_95d88 10 = .ok (.lload_n 0, 1) := by decide +kernel
theorem dJ13_bitCount_95d88_11 : decode cJ13_bitCount_95d88 11 = .ok (.ldc2_w 316, 3) := by decide +kernel
theorem dJ13_bitCount_95d88_14 : decode cJ13_bitCount_95d88 14 = .ok (.land, 1) := by decide +kernel
theorem dJ13_bitCount_95d88_15 : decode cJ13_bitCount_95d88 15 = .ok (.lload_n 0, 1) := by decide +kernel
theorem dJ13_bitCount_95d88_16 : decode cJ13_bitCount_95d88 16 = .ok (.iconst 2, 1) := by decide +kernel
theorem dJ13_bitCount_95d88_17 : decode cJ13_bitCount_95d88 17 = .ok (.lushr, 1) := by decide +kernel
theorem dJ13_bitCount_95d88_18 : decode cJ13_bitCount_95d88 18 = .ok (.ldc2_w 316, 3) := by decide +kernel
theorem dJ13_bitCount_95d88_21 : decode cJ13_bitCount_95d88 21 = .ok (.land, 1) := by decide +kernel
theorem dJ13_bitCount_95d88_22 : decode cJ13_bitCount_95d88 22 = .ok (.ladd, 1) := by decide +kernel
theorem dJ13_bitCount_95d88_23 : decode cJ13_bitCount_95d88 23 = .ok (.lstore_n 0, 1) := by decide +kernel
theorem dJ13_bitCount_95d88_24 : decode cJ13_bitCount_95d88 24 = .ok (.lload_n 0, 1) := by decide +kernel
theorem dJ13_bitCount_95d88_25 : decode cJ13_bitCount_95d88 25 = .ok (.lload_n 0, 1) := by decide +kernel
theorem dJ13_bitCount_95d88_26 : decode cJ13_bitCount_95d88 26 = .ok (.iconst 4, 1) := by decide +kernel
theorem dJ13_bitCount_95d88_27 : decode cJ13_bitCount_95d88 27 = .ok (.lushr, 1) := by decide +kernel
theorem dJ13_bitCount_95d88_28 : decode cJ13_bitCount_95d88 28 = .ok (.ladd, 1) := by decide +kernel
theorem dJ13_bitCount_95d88_29 : decode cJ13_bitCount_95d88 29 = .ok (.ldc2_w 318, 3) := by decide +kernel
theorem dJ13_bitCount_95d88_32 : decode cJ13_bitCount_95d88 32 = .ok (.land, 1) := by decide +kernel
theorem dJ13_bitCount_95d88_33 : decode cJ13_bitCount_95d88 33 = .ok (.lstore_n 0, 1) := by decide +kernel
theorem dJ13_bitCount_95d88_34 : decode cJ13_bitCount_95d88 34 = .ok (.lload_n 0, 1) := by decide +kernel
theorem dJ13_bitCount_95d88_35 : decode cJ13_bitCount_95d88 35 = .ok (.lload_n 0, 1) := by decide +kernel
theorem dJ13_bitCount_95d88_36 : decode cJ13_bitCount_95d88 36 = .ok (.bipush 8, 2) := by decide +kernel
theorem dJ13_bitCount_95d88_38 : decode cJ13_bitCount_95d88 38 = .ok (.lushr, 1) := by decide +kernel
theorem dJ13_bitCount_95d88_39 : decode cJ13_bitCount_95d88 39 = .ok (.ladd, 1) := by decide +kernel
theorem dJ13_bitCount_95d88_40 : decode cJ13_bitCount_95d88 40 = .ok (.lstore_n 0, 1) := by decide +kernel
theorem dJ13_bitCount_95d88_41 : decode cJ13_bitCount_95d88 41 = .ok (.lload_n 0, 1) := by decide +kernel
theorem dJ13_bitCount_95d88_42 : decode cJ13_bitCount_95d88 42 = .ok (.lload_n 0, 1) := by decide +kernel
theorem dJ13_bitCount_95d88_43 : decode cJ13_bitCount_95d88 43 = .ok (.bipush 16, 2) := by decide +kernel
theorem dJ13_bitCount_95d88_45 : decode cJ13_bitCount_95d88 45 = .ok (.lushr, 1) := by decide +kernel
theorem dJ13_bitCount_95d88_46 : decode cJ13_bitCount_95d88 46 = .ok (.ladd, 1) := by decide +kernel
theorem dJ13_bitCount_95d88_47 : decode cJ13_bitCount_95d88 47 = .ok (.lstore_n 0, 1) := by decide +kernel
theorem dJ13_bitCount_95d88_48 : decode cJ13_bitCount_95d88 48 = .ok (.lload_n 0, 1) := by decide +kernel
theorem dJ13_bitCount_95d88_49 : decode cJ13_bitCount_95d88 49 = .ok (.lload_n 0, 1) := by decide +kernel
theorem dJ13_bitCount_95d88_50 : decode cJ13_bitCount_95d88 50 = .ok (.bipush 32, 2) := by decide +kernel
theorem dJ13_bitCount_95d88_52 : decode cJ13_bitCount_95d88 52 = .ok (.lushr, 1) := by decide +kernel
theorem dJ13_bitCount_95d88_53 : decode cJ13_bitCount_95d88 53 = .ok (.ladd, 1) := by decide +kernel
theorem dJ13_bitCount_95d88_54 : decode cJ13_bitCount_95d88 54 = .ok (.lstore_n 0, 1) := by decide +kernel
theorem dJ13_bitCount_95d88_55 : decode cJ13_bitCount_95d88 55 = .ok (.lload_n 0, 1) := by decide +kernel
theorem dJ13_bitCount_95d88_56 : decode cJ13_bitCount_95d88 56 = .ok (.l2i, 1) := by decide +kernel
theorem dJ13_bitCount_95d88_57 : decode cJ13_bitCount_95d88 57 = .ok (.bipush 127, 2) := by decide +kernel
theorem dJ13_bitCount_95d88_59 : decode cJ13_bitCount_95d88 59 = .ok (.iand, 1) := by decide +kernel
theorem dJ13_bitCount_95d88_60 : decode cJ13_bitCount_95d88 60 = .ok (.ireturn, 1) := by decide +kernel
theorem dJ9_floorMod_7cf53_0 : decode cJ9_floorMod_7cf53 0 = .ok (.iload_n 0, 1) := by decide +kernel
theorem dJ9_floorMod_7cf53_1 : decode cJ9_floorMod_7cf53 1 = .ok (.iload_n 1, 1) := by decide +kernel
theorem dJ9_floorMod_7cf53_2 : decode cJ9_floorMod_7cf53 2 = .ok (.irem, 1) := by decide +kernel
theorem dJ9_floorMod_7cf53_3 : decode cJ9_floorMod_7cf53 3 = .ok (.istore_n 2, 1) := by decide +kernel
theorem dJ9_floorMod_7cf53_4 : decode cJ9_floorMod_7cf53 4 = .ok (.iload_n 0, 1) := by decide +kernel
theorem dJ9_floorMod_7cf53_5 : decode cJ9_floorMod_7cf53 5 = .ok (.iload_n 1, 1) := by decide +kernel
theorem dJ9_floorMod_7cf53_6 : decode cJ9_floorMod_7cf53 6 = .ok (.ixor, 1) := by decide +kernel
theorem dJ9_floorMod_7cf53_7 : decode cJ9_floorMod_7cf53 7 = .ok (.ifCond .ge 11, 3) := by decide +kernel
theorem dJ9_floorMod_7cf53_10 : decode cJ9_floorMod_7cf53 10 = .ok (.iload_n 2, 1) := by decide +kernel
theorem dJ9_floorMod_7cf53_11 : decode cJ9_floorMod_7cf53 11 = .ok (.ifCond .eq 7, 3) := by decide +kernel
theorem dJ9_floorMod_7cf53_14 : decode cJ9_floorMod_7cf53 14 = .ok (.iload_n 2, 1) := by decide +kernel
theorem dJ9_floorMod_7cf53_15 : decode cJ9_floorMod_7cf53 15 = .ok (.iload_n 1, 1) := by decide +kernel
theorem dJ9_floorMod_7cf53_16 : decode cJ9_floorMod_7cf53 16 = .ok (.iadd, 1) := by decide +kernel
theorem dJ9_floorMod_7cf53_17 : decode cJ9_floorMod_7cf53 17 = .ok (.ireturn, 1) := by decide +kernel
theorem dJ9_floorMod_7cf53_18 : decode cJ9_floorMod_7cf53 18 = .ok (.iload_n 2, 1) := by decide +kernel
theorem dJ9_floorMod_7cf53_19 : decode cJ9_floorMod_7cf53 19 = .ok (.ireturn, 1) := by decide +kernel
theorem dJ9_abs_0f7a4_0 : decode cJ9_abs_0f7a4 0 = .ok (.iload_n 0, 1) := by decide +kernel
theorem dJ9_abs_0f7a4_1 : decode cJ9_abs_0f7a4 1 = .ok (.ifCond .ge 8, 3) := by decide +kernel
theorem dJ9_abs_0f7a4_4 : decode cJ9_abs_0f7a4 4 = .ok (.iload_n 0, 1) := by decide +kernel
theorem dJ9_abs_0f7a4_5 : decode cJ9_abs_0f7a4 5 = .ok (.ineg, 1) := by decide +kernel
theorem dJ9_abs_0f7a4_6 : decode cJ9_abs_0f7a4 6 = .ok (.goto 4, 3) := by decide +kernel
theorem dJ9_abs_0f7a4_9 : decode cJ9_abs_0f7a4 9 = .ok (.iload_n 0, 1) := by decide +kernel
theorem dJ9_abs_0f7a4_10 : decode cJ9_abs_0f7a4 10 = .ok (.ireturn, 1) := by decide +kernel
theorem dJ9_max_7cf53_0 : decode cJ9_max_7cf53 0 = .ok (.iload_n 0, 1) := by decide +kernel
theorem dJ9_max_7cf53_1 : decode cJ9_max_7cf53 1 = .ok (.iload_n 1, 1) := by decide +kernel
theorem dJ9_max_7cf53_2 : decode cJ9_max_7cf53 2 = .ok (.if_icmp .lt 7, 3) := by decide +kernel
theorem dJ9_max_7cf53_5 : decode cJ9_max_7cf53 5 = .ok (.iload_n 0, 1) := by decide +kernel
theorem dJ9_max_7cf53_6 : decode cJ9_max_7cf53 6 = .ok (.goto 4, 3) := by decide +kernel
theorem dJ9_max_7cf53_9 : decode cJ9_max_7cf53 9 = .ok (.iload_n 1, 1) := by decide +kernel
theorem dJ9_max_7cf53_10 : decode cJ9_max_7cf53 10 = .ok (.ireturn, 1) := by decide +kernel
theorem dJ9_min_7cf53_0 : decode cJ9_min_7cf53 0 = .ok (.iload_n 0, 1) := by decide +kernel
theorem dJ9_min_7cf53_1 : decode cJ9_min_7cf53 1 = .ok (.iload_n 1, 1) := by decide +kernel
theorem dJ9_min_7cf53_2 : decode cJ9_min_7cf53 2 = .ok (.if_icmp .gt 7, 3) := by decide +kernel
theorem dJ9_min_7cf53_5 : decode cJ9_min_7cf53 5 = .ok (.iload_n 0, 1) := by decide +kernel
theorem dJ9_min_7cf53_6 : decode cJ9_min_7cf53 6 = .ok (.goto 4, 3) := by decide +kernel
theorem dJ9_min_7cf53_9 : decode cJ9_min_7cf53 9 = .ok (.iload_n 1, 1) := by decide +kernel
theorem dJ9_min_7cf53_10 : decode cJ9_min_7cf53 10 = .ok (.ireturn, 1) := by decide +kernel
end
section
theorem dL_cell_0 : decode cL_cell 0 = .ok (.iload_n 1, 1) := by decide +kernel
theorem dL_cell_1 : decode cL_cell 1 = .ok (.aload_n 0, 1) := by decide +kernel
theorem dL_cell_2 : decode cL_cell 2 = .ok (.arraylength, 1) := by decide +kernel
theorem dL_cell_3 : decode cL_cell 3 = .ok (.if_icmp .ge 9, 3) := by decide +kernel
theorem dL_cell_6 : decode cL_cell 6 = .ok (.aload_n 0, 1) := by decide +kernel
theorem dL_cell_7 : decode cL_cell 7 = .ok (.iload_n 1, 1) := by decide +kernel
theorem dL_cell_8 : decode cL_cell 8 = .ok (.iaload, 1) := by decide +kernel
theorem dL_cell_9 : decode cL_cell 9 = .ok (.goto 12, 3) := by decide +kernel
theorem dL_cell_12 : decode cL_cell 12 = .ok (.ldc 7, 2) := by decide +kernel
theorem dL_cell_14 : decode cL_cell 14 = .ok (.iload_n 1, 1) := by decide +kernel
theorem dL_cell_15 : decode cL_cell 15 = .ok (.iconst 1, 1) := by decide +kernel
theorem dL_cell_16 : decode cL_cell 16 = .ok (.iadd, 1) := by decide +kernel
theorem dL_cell_17 : decode cL_cell 17 = .ok (.imul, 1) := by decide +kernel
theorem dL_cell_18 : decode cL_cell 18 = .ok (.ldc 8, 2) := by decide +kernel
theorem dL_cell_20 : decode cL_cell 20 = .ok (.iadd, 1) := by decide +kernel
theorem dL_cell_21 : decode cL_cell 21 = .ok (.ireturn, 1) := by decide +kernel
theorem dL_low_0 : decode cL_low 0 = .ok (.iload_n 0, 1) := by decide +kernel
theorem dL_low_1 : decode cL_low 1 = .ok (.ldc 9, 2) := by decide +kernel
theorem dL_low_3 : decode cL_low 3 = .ok (.iand, 1) := by decide +kernel
theorem dL_low_4 : decode cL_low 4 = .ok (.iload_n 1, 1) := by decide +kernel
theorem dL_low_5 : decode cL_low 5 = .ok (.irem, 1) := by decide +kernel
theorem dL_low_6 : decode cL_low 6 = .ok (.ireturn, 1) := by decide +kernel
theorem dL_bound_0 : decode cL_bound 0 = .ok (.iload_n 0, 1) := by decide +kernel
theorem dL_bound_1 : decode cL_bound 1 = .ok (.sipush 9999, 3) := by decide +kernel
theorem dL_bound_4 : decode cL_bound 4 = .ok (.if_icmp .le 9, 3) := by decide +kernel
theorem dL_bound_7 : decode cL_bound 7 = .ok (.sipush 9999, 3) := by decide +kernel
theorem dL_bound_10 : decode cL_bound 10 = .ok (.goto 17, 3) := by decide +kernel
theorem dL_bound_13 : decode cL_bound 13 = .ok (.iload_n 0, 1) := by decide +kernel
theorem dL_bound_14 : decode cL_bound 14 = .ok (.sipush (-9999), 3) := by decide +kernel
theorem dL_bound_17 : decode cL_bound 17 = .ok (.if_icmp .ge 9, 3) := by decide +kernel
theorem dL_bound_20 : decode cL_bound 20 = .ok (.sipush (-9999), 3) := by decide +kernel
theorem dL_bound_23 : decode cL_bound 23 = .ok (.goto 4, 3) := by decide +kernel
theorem dL_bound_26 : decode cL_bound 26 = .ok (.iload_n 0, 1) := by decide +kernel
theorem dL_bound_27 : decode cL_bound 27 = .ok (.ireturn, 1) := by decide +kernel
theorem dL_abs_0 : decode cL_abs 0 = .ok (.iload_n 0, 1) := by decide +kernel
theorem dL_abs_1 : decode cL_abs 1 = .ok (.ifCond .ge 8, 3) := by decide +kernel
theorem dL_abs_4 : decode cL_abs 4 = .ok (.iload_n 0, 1) := by decide +kernel
theorem dL_abs_5 : decode cL_abs 5 = .ok (.ineg, 1) := by decide +kernel
theorem dL_abs_6 : decode cL_abs 6 = .ok (.goto 4, 3) := by decide +kernel
theorem dL_abs_9 : decode cL_abs 9 = .ok (.iload_n 0, 1) := by decide +kernel
theorem dL_abs_10 : decode cL_abs 10 = .ok (.ireturn, 1) := by decide +kernel
theorem dL_push_0 : decode cL_push 0 = .ok (.aload_n 2, 1) := by decide +kernel
theorem dL_push_1 : decode cL_push 1 = .ok (.iconst 5, 1) := by decide +kernel
theorem dL_push_2 : decode cL_push 2 = .ok (.iload_n 0, 1) := by decide +kernel
theorem dL_push_3 : decode cL_push 3 = .ok (.imul, 1) := by decide +kernel
theorem dL_push_4 : decode cL_push 4 = .ok (.iconst 1, 1) := by decide +kernel
theorem dL_push_5 : decode cL_push 5 = .ok (.iadd, 1) := by decide +kernel
theorem dL_push_6 : decode cL_push 6 = .ok (.iaload, 1) := by decide +kernel
theorem dL_push_7 : decode cL_push 7 = .ok (.istore_n 3, 1) := by decide +kernel
theorem dL_push_8 : decode cL_push 8 = .ok (.aload_n 2, 1) := by decide +kernel
theorem dL_push_9 : decode cL_push 9 = .ok (.iconst 5, 1) := by decide +kernel
theorem dL_push_10 : decode cL_push 10 = .ok (.iload_n 0, 1) := by decide +kernel
theorem dL_push_11 : decode cL_push 11 = .ok (.imul, 1) := by decide +kernel
theorem dL_push_12 : decode cL_push 12 = .ok (.iconst 2, 1) := by decide +kernel
theorem dL_push_13 : decode cL_push 13 = .ok (.iadd, 1) := by decide +kernel
theorem dL_push_14 : decode cL_push 14 = .ok (.iaload, 1) := by decide +kernel
theorem dL_push_15 : decode cL_push 15 = .ok (.istore 4, 2) := by decide +kernel
theorem dL_push_17 : decode cL_push 17 = .ok (.aload_n 1, 1) := by decide +kernel
theorem dL_push_18 : decode cL_push 18 = .ok (.iconst 3, 1) := by decide +kernel
theorem dL_push_19 : decode cL_push 19 = .ok (.iaload, 1) := by decide +kernel
theorem dL_push_20 : decode cL_push 20 = .ok (.aload_n 2, 1) := by decide +kernel
theorem dL_push_21 : decode cL_push 21 = .ok (.iconst 5, 1) := by decide +kernel
theorem dL_push_22 : decode cL_push 22 = .ok (.iload_n 0, 1) := by decide +kernel
theorem dL_push_23 : decode cL_push 23 = .ok (.imul, 1) := by decide +kernel
theorem dL_push_24 : decode cL_push 24 = .ok (.iconst 3, 1) := by decide +kernel
theorem dL_push_25 : decode cL_push 25 = .ok (.iadd, 1) := by decide +kernel
theorem dL_push_26 : decode cL_push 26 = .ok (.iaload, 1) := by decide +kernel
theorem dL_push_27 : decode cL_push 27 = .ok (.iadd, 1) := by decide +kernel
theorem dL_push_28 : decode cL_push 28 = .ok (.iload 4, 2) := by decide +kernel
theorem dL_push_30 : decode cL_push 30 = .ok (.irem, 1) := by decide +kernel
theorem dL_push_31 : decode cL_push 31 = .ok (.istore 5, 2) := by decide +kernel
theorem dL_push_33 : decode cL_push 33 = .ok (.aload_n 2, 1) := by decide +kernel
theorem dL_push_34 : decode cL_push 34 = .ok (.iconst 5, 1) := by decide +kernel
theorem dL_push_35 : decode cL_push 35 = .ok (.iload_n 0, 1) := by decide +kernel
theorem dL_push_36 : decode cL_push 36 = .ok (.imul, 1) := by decide +kernel
theorem dL_push_37 : decode cL_push 37 = .ok (.iaload, 1) := by decide +kernel
theorem dL_push_38 : decode cL_push 38 = .ok (.ifCond .ne 5, 3) := by decide +kernel
theorem dL_push_41 : decode cL_push 41 = .ok (.iload_n 3, 1) := by decide +kernel
theorem dL_push_42 : decode cL_push 42 = .ok (.ireturn, 1) := by decide +kernel
theorem dL_push_43 : decode cL_push 43 = .ok (.aload_n 2, 1) := by decide +kernel
theorem dL_push_44 : decode cL_push 44 = .ok (.iconst 5, 1) := by decide +kernel
theorem dL_push_45 : decode cL_push 45 = .ok (.iload_n 0, 1) := by decide +kernel
theorem dL_push_46 : decode cL_push 46 = .ok (.imul, 1) := by decide +kernel
theorem dL_push_47 : decode cL_push 47 = .ok (.iaload, 1) := by decide +kernel
theorem dL_push_48 : decode cL_push 48 = .ok (.iconst 1, 1) := by decide +kernel
theorem dL_push_49 : decode cL_push 49 = .ok (.if_icmp .ne 17, 3) := by decide +kernel
theorem dL_push_52 : decode cL_push 52 = .ok (.iload_n 3, 1) := by decide +kernel
theorem dL_push_53 : decode cL_push 53 = .ok (.iload 5, 2) := by decide +kernel
theorem dL_push_55 : decode cL_push 55 = .ok (.iload 5, 2) := by decide +kernel
theorem dL_push_57 : decode cL_push 57 = .ok (.iadd, 1) := by decide +kernel
theorem dL_push_58 : decode cL_push 58 = .ok (.iload 4, 2) := by decide +kernel
theorem dL_push_60 : decode cL_push 60 = .ok (.isub, 1) := by decide +kernel
theorem dL_push_61 : decode cL_push 61 = .ok (.imul, 1) := by decide +kernel
theorem dL_push_62 : decode cL_push 62 = .ok (.iload 4, 2) := by decide +kernel
theorem dL_push_64 : decode cL_push 64 = .ok (.idiv, 1) := by decide +kernel
theorem dL_push_65 : decode cL_push 65 = .ok (.ireturn, 1) := by decide +kernel
theorem dL_push_66 : decode cL_push 66 = .ok (.aload_n 2, 1) := by decide +kernel
theorem dL_push_67 : decode cL_push 67 = .ok (.iconst 5, 1) := by decide +kernel
theorem dL_push_68 : decode cL_push 68 = .ok (.iload_n 0, 1) := by decide +kernel
theorem dL_push_69 : decode cL_push 69 = .ok (.imul, 1) := by decide +kernel
theorem dL_push_70 : decode cL_push 70 = .ok (.iaload, 1) := by decide +kernel
theorem dL_push_71 : decode cL_push 71 = .ok (.iconst 2, 1) := by decide +kernel
theorem dL_push_72 : decode cL_push 72 = .ok (.if_icmp .ne 20, 3) := by decide +kernel
theorem dL_push_75 : decode cL_push 75 = .ok (.iload 5, 2) := by decide +kernel
theorem dL_push_77 : decode cL_push 77 = .ok (.iload 5, 2) := by decide +kernel
theorem dL_push_79 : decode cL_push 79 = .ok (.iadd, 1) := by decide +kernel
theorem dL_push_80 : decode cL_push 80 = .ok (.iload 4, 2) := by decide +kernel
theorem dL_push_82 : decode cL_push 82 = .ok (.if_icmp .ge 7, 3) := by decide +kernel
theorem dL_push_85 : decode cL_push 85 = .ok (.iload_n 3, 1) := by decide +kernel
theorem dL_push_86 : decode cL_push 86 = .ok (.goto 5, 3) := by decide +kernel
theorem dL_push_89 : decode cL_push 89 = .ok (.iload_n 3, 1) := by decide +kernel
theorem dL_push_90 : decode cL_push 90 = .ok (.ineg, 1) := by decide +kernel
theorem dL_push_91 : decode cL_push 91 = .ok (.ireturn, 1) := by decide +kernel
theorem dL_push_92 : decode cL_push 92 = .ok (.iload_n 3, 1) := by decide +kernel
theorem dL_push_93 : decode cL_push 93 = .ok (.iload 5, 2) := by decide +kernel
theorem dL_push_95 : decode cL_push 95 = .ok (.iload 4, 2) := by decide +kernel
theorem dL_push_97 : decode cL_push 97 = .ok (.iload 5, 2) := by decide +kernel
theorem dL_push_99 : decode cL_push 99 = .ok (.isub, 1) := by decide +kernel
theorem dL_push_100 : decode cL_push 100 = .ok (.if_icmp .ge 10, 3) := by decide +kernel
theorem dL_push_103 : decode cL_push 103 = .ok (.iconst 4, 1) := by decide +kernel
theorem dL_push_104 : decode cL_push 104 = .ok (.iload 5, 2) := by decide +kernel
theorem dL_push_106 : decode cL_push 106 = .ok (.imul, 1) := by decide +kernel
theorem dL_push_107 : decode cL_push 107 = .ok (.goto 10, 3) := by decide +kernel
theorem dL_push_110 : decode cL_push 110 = .ok (.iconst 4, 1) := by decide +kernel
theorem dL_push_111 : decode cL_push 111 = .ok (.iload 4, 2) := by decide +kernel
theorem dL_push_113 : decode cL_push 113 = .ok (.iload 5, 2) := by decide +kernel
theorem dL_push_115 : decode cL_push 115 = .ok (.isub, 1) := by decide +kernel
theorem dL_push_116 : decode cL_push 116 = .ok (.imul, 1) := by decide +kernel
theorem dL_push_117 : decode cL_push 117 = .ok (.iload 4, 2) := by decide +kernel
theorem dL_push_119 : decode cL_push 119 = .ok (.isub, 1) := by decide +kernel
theorem dL_push_120 : decode cL_push 120 = .ok (.imul, 1) := by decide +kernel
theorem dL_push_121 : decode cL_push 121 = .ok (.iload 4, 2) := by decide +kernel
theorem dL_push_123 : decode cL_push 123 = .ok (.idiv, 1) := by decide +kernel
theorem dL_push_124 : decode cL_push 124 = .ok (.ireturn, 1) := by decide +kernel
theorem dL_step_0 : decode cL_step 0 = .ok (.iconst 0, 1) := by decide +kernel
theorem dL_step_1 : decode cL_step 1 = .ok (.istore 5, 2) := by decide +kernel
theorem dL_step_3 : decode cL_step 3 = .ok (.iconst 0, 1) := by decide +kernel
theorem dL_step_4 : decode cL_step 4 = .ok (.istore 6, 2) := by decide +kernel
theorem dL_step_6 : decode cL_step 6 = .ok (.iload 6, 2) := by decide +kernel
theorem dL_step_8 : decode cL_step 8 = .ok (.bipush 36, 2) := by decide +kernel
theorem dL_step_10 : decode cL_step 10 = .ok (.if_icmp .ge 78, 3) := by decide +kernel
theorem dL_step_13 : decode cL_step 13 = .ok (.aload_n 3, 1) := by decide +kernel
theorem dL_step_14 : decode cL_step 14 = .ok (.iload 6, 2) := by decide +kernel
theorem dL_step_16 : decode cL_step 16 = .ok (.iaload, 1) := by decide +kernel
theorem dL_step_17 : decode cL_step 17 = .ok (.iconst 1, 1) := by decide +kernel
theorem dL_step_18 : decode cL_step 18 = .ok (.isub, 1) := by decide +kernel
theorem dL_step_19 : decode cL_step 19 = .ok (.istore 7, 2) := by decide +kernel
theorem dL_step_21 : decode cL_step 21 = .ok (.iload 7, 2) := by decide +kernel
theorem dL_step_23 : decode cL_step 23 = .ok (.ifCond .lt 59, 3) := by decide +kernel
theorem dL_step_26 : decode cL_step 26 = .ok (.aload 4, 2) := by decide +kernel
theorem dL_step_28 : decode cL_step 28 = .ok (.iconst 5, 1) := by decide +kernel
theorem dL_step_29 : decode cL_step 29 = .ok (.iload 7, 2) := by decide +kernel
theorem dL_step_31 : decode cL_step 31 = .ok (.imul, 1) := by decide +kernel
theorem dL_step_32 : decode cL_step 32 = .ok (.iconst 4, 1) := by decide +kernel
theorem dL_step_33 : decode cL_step 33 = .ok (.iadd, 1) := by decide +kernel
theorem dL_step_34 : decode cL_step 34 = .ok (.iaload, 1) := by decide +kernel
theorem dL_step_35 : decode cL_step 35 = .ok (.ifCond .ne 6, 3) := by decide +kernel
theorem dL_step_38 : decode cL_step 38 = .ok (.goto 44, 3) := by decide +kernel
theorem dL_step_41 : decode cL_step 41 = .ok (.aload_n 1, 1) := by decide +kernel
theorem dL_step_42 : decode cL_step 42 = .ok (.iload 6, 2) := by decide +kernel
theorem dL_step_44 : decode cL_step 44 = .ok (.iaload, 1) := by decide +kernel
theorem dL_step_45 : decode cL_step 45 = .ok (.invokestatic 10, 3) := by decide +kernel
theorem dL_step_48 : decode cL_step 48 = .ok (.aload_n 0, 1) := by decide +kernel
theorem dL_step_49 : decode cL_step 49 = .ok (.iconst 2, 1) := by decide +kernel
theorem dL_step_50 : decode cL_step 50 = .ok (.iaload, 1) := by decide +kernel
theorem dL_step_51 : decode cL_step 51 = .ok (.if_icmp .le 19, 3) := by decide +kernel
theorem dL_step_54 : decode cL_step 54 = .ok (.aload 4, 2) := by decide +kernel
theorem dL_step_56 : decode cL_step 56 = .ok (.iconst 5, 1) := by decide +kernel
theorem dL_step_57 : decode cL_step 57 = .ok (.iload 7, 2) := by decide +kernel
theorem dL_step_59 : decode cL_step 59 = .ok (.imul, 1) := by decide +kernel
theorem dL_step_60 : decode cL_step 60 = .ok (.iconst 4, 1) := by decide +kernel
theorem dL_step_61 : decode cL_step 61 = .ok (.iadd, 1) := by decide +kernel
theorem dL_step_62 : decode cL_step 62 = .ok (.iconst 0, 1) := by decide +kernel
theorem dL_step_63 : decode cL_step 63 = .ok (.iastore, 1) := by decide +kernel
theorem dL_step_64 : decode cL_step 64 = .ok (.iinc 5 1, 3) := by decide +kernel
theorem dL_step_67 : decode cL_step 67 = .ok (.goto 15, 3) := by decide +kernel
theorem dL_step_70 : decode cL_step 70 = .ok (.aload_n 1, 1) := by decide +kernel
theorem dL_step_71 : decode cL_step 71 = .ok (.iload 6, 2) := by decide +kernel
theorem dL_step_73 : decode cL_step 73 = .ok (.iload 7, 2) := by decide +kernel
theorem dL_step_75 : decode cL_step 75 = .ok (.aload_n 0, 1) := by decide +kernel
theorem dL_step_76 : decode cL_step 76 = .ok (.aload 4, 2) := by decide +kernel
theorem dL_step_78 : decode cL_step 78 = .ok (.invokestatic 16, 3) := by decide +kernel
theorem dL_step_81 : decode cL_step 81 = .ok (.iastore, 1) := by decide +kernel
theorem dL_step_82 : decode cL_step 82 = .ok (.iinc 6 1, 3) := by decide +kernel
theorem dL_step_85 : decode cL_step 85 = .ok (.goto (-79), 3) := by decide +kernel
theorem dL_step_88 : decode cL_step 88 = .ok (.aload_n 1, 1) := by decide +kernel
theorem dL_step_89 : decode cL_step 89 = .ok (.iconst 0, 1) := by decide +kernel
theorem dL_step_90 : decode cL_step 90 = .ok (.iaload, 1) := by decide +kernel
theorem dL_step_91 : decode cL_step 91 = .ok (.istore 6, 2) := by decide +kernel
theorem dL_step_93 : decode cL_step 93 = .ok (.iconst 0, 1) := by decide +kernel
theorem dL_step_94 : decode cL_step 94 = .ok (.istore 7, 2) := by decide +kernel
theorem dL_step_96 : decode cL_step 96 = .ok (.iload 7, 2) := by decide +kernel
theorem dL_step_98 : decode cL_step 98 = .ok (.bipush 40, 2) := by decide +kernel
theorem dL_step_100 : decode cL_step 100 = .ok (.if_icmp .ge 92, 3) := by decide +kernel
theorem dL_step_103 : decode cL_step 103 = .ok (.aload_n 1, 1) := by decide +kernel
theorem dL_step_104 : decode cL_step 104 = .ok (.iload 7, 2) := by decide +kernel
theorem dL_step_106 : decode cL_step 106 = .ok (.iaload, 1) := by decide +kernel
theorem dL_step_107 : decode cL_step 107 = .ok (.istore 8, 2) := by decide +kernel
theorem dL_step_109 : decode cL_step 109 = .ok (.iload 7, 2) := by decide +kernel
theorem dL_step_111 : decode cL_step 111 = .ok (.bipush 39, 2) := by decide +kernel
theorem dL_step_113 : decode cL_step 113 = .ok (.if_icmp .ne 8, 3) := by decide +kernel
theorem dL_step_116 : decode cL_step 116 = .ok (.iload 8, 2) := by decide +kernel
theorem dL_step_118 : decode cL_step 118 = .ok (.goto 9, 3) := by decide +kernel
theorem dL_step_121 : decode cL_step 121 = .ok (.aload_n 1, 1) := by decide +kernel
theorem dL_step_122 : decode cL_step 122 = .ok (.iload 7, 2) := by decide +kernel
theorem dL_step_124 : decode cL_step 124 = .ok (.iconst 1, 1) := by decide +kernel
theorem dL_step_125 : decode cL_step 125 = .ok (.iadd, 1) := by decide +kernel
theorem dL_step_126 : decode cL_step 126 = .ok (.iaload, 1) := by decide +kernel
theorem dL_step_127 : decode cL_step 127 = .ok (.istore 9, 2) := by decide +kernel
theorem dL_step_129 : decode cL_step 129 = .ok (.aload_n 2, 1) := by decide +kernel
theorem dL_step_130 : decode cL_step 130 = .ok (.iload 7, 2) := by decide +kernel
theorem dL_step_132 : decode cL_step 132 = .ok (.iaload, 1) := by decide +kernel
theorem dL_step_133 : decode cL_step 133 = .ok (.iload 6, 2) := by decide +kernel
theorem dL_step_135 : decode cL_step 135 = .ok (.iload 9, 2) := by decide +kernel
theorem dL_step_137 : decode cL_step 137 = .ok (.iadd, 1) := by decide +kernel
theorem dL_step_138 : decode cL_step 138 = .ok (.iload 8, 2) := by decide +kernel
theorem dL_step_140 : decode cL_step 140 = .ok (.isub, 1) := by decide +kernel
theorem dL_step_141 : decode cL_step 141 = .ok (.iload 8, 2) := by decide +kernel
theorem dL_step_143 : decode cL_step 143 = .ok (.isub, 1) := by decide +kernel
theorem dL_step_144 : decode cL_step 144 = .ok (.iconst 4, 1) := by decide +kernel
theorem dL_step_145 : decode cL_step 145 = .ok (.idiv, 1) := by decide +kernel
theorem dL_step_146 : decode cL_step 146 = .ok (.iadd, 1) := by decide +kernel
theorem dL_step_147 : decode cL_step 147 = .ok (.invokestatic 20, 3) := by decide +kernel
theorem dL_step_150 : decode cL_step 150 = .ok (.istore 10, 2) := by decide +kernel
theorem dL_step_152 : decode cL_step 152 = .ok (.aload_n 2, 1) := by decide +kernel
theorem dL_step_153 : decode cL_step 153 = .ok (.iload 7, 2) := by decide +kernel
theorem dL_step_155 : decode cL_step 155 = .ok (.iload 10, 2) := by decide +kernel
theorem dL_step_157 : decode cL_step 157 = .ok (.iload 10, 2) := by decide +kernel
theorem dL_step_159 : decode cL_step 159 = .ok (.aload_n 0, 1) := by decide +kernel
theorem dL_step_160 : decode cL_step 160 = .ok (.iconst 1, 1) := by decide +kernel
theorem dL_step_161 : decode cL_step 161 = .ok (.iaload, 1) := by decide +kernel
theorem dL_step_162 : decode cL_step 162 = .ok (.imul, 1) := by decide +kernel
theorem dL_step_163 : decode cL_step 163 = .ok (.bipush 100, 2) := by decide +kernel
theorem dL_step_165 : decode cL_step 165 = .ok (.idiv, 1) := by decide +kernel
theorem dL_step_166 : decode cL_step 166 = .ok (.isub, 1) := by decide +kernel
theorem dL_step_167 : decode cL_step 167 = .ok (.iastore, 1) := by decide +kernel
theorem dL_step_168 : decode cL_step 168 = .ok (.iload 8, 2) := by decide +kernel
theorem dL_step_170 : decode cL_step 170 = .ok (.istore 6, 2) := by decide +kernel
theorem dL_step_172 : decode cL_step 172 = .ok (.aload_n 1, 1) := by decide +kernel
theorem dL_step_173 : decode cL_step 173 = .ok (.iload 7, 2) := by decide +kernel
theorem dL_step_175 : decode cL_step 175 = .ok (.iload 8, 2) := by decide +kernel
theorem dL_step_177 : decode cL_step 177 = .ok (.aload_n 2, 1) := by decide +kernel
theorem dL_step_178 : decode cL_step 178 = .ok (.iload 7, 2) := by decide +kernel
theorem dL_step_180 : decode cL_step 180 = .ok (.iaload, 1) := by decide +kernel
theorem dL_step_181 : decode cL_step 181 = .ok (.iadd, 1) := by decide +kernel
theorem dL_step_182 : decode cL_step 182 = .ok (.invokestatic 20, 3) := by decide +kernel
theorem dL_step_185 : decode cL_step 185 = .ok (.iastore, 1) := by decide +kernel
theorem dL_step_186 : decode cL_step 186 = .ok (.iinc 7 1, 3) := by decide +kernel
theorem dL_step_189 : decode cL_step 189 = .ok (.goto (-93), 3) := by decide +kernel
theorem dL_step_192 : decode cL_step 192 = .ok (.iconst 1, 1) := by decide +kernel
theorem dL_step_193 : decode cL_step 193 = .ok (.istore 7, 2) := by decide +kernel
theorem dL_step_195 : decode cL_step 195 = .ok (.iload 7, 2) := by decide +kernel
theorem dL_step_197 : decode cL_step 197 = .ok (.iconst 5, 1) := by decide +kernel
theorem dL_step_198 : decode cL_step 198 = .ok (.if_icmp .ge 65, 3) := by decide +kernel
theorem dL_step_201 : decode cL_step 201 = .ok (.aload_n 1, 1) := by decide +kernel
theorem dL_step_202 : decode cL_step 202 = .ok (.bipush 35, 2) := by decide +kernel
theorem dL_step_204 : decode cL_step 204 = .ok (.iload 7, 2) := by decide +kernel
theorem dL_step_206 : decode cL_step 206 = .ok (.iadd, 1) := by decide +kernel
theorem dL_step_207 : decode cL_step 207 = .ok (.dup2, 1) := by decide +kernel
theorem dL_step_208 : decode cL_step 208 = .ok (.iaload, 1) := by decide +kernel
theorem dL_step_209 : decode cL_step 209 = .ok (.aload_n 1, 1) := by decide +kernel
theorem dL_step_210 : decode cL_step 210 = .ok (.bipush 35, 2) := by decide +kernel
theorem dL_step_212 : decode cL_step 212 = .ok (.iload 7, 2) := by decide +kernel
theorem dL_step_214 : decode cL_step 214 = .ok (.iadd, 1) := by decide +kernel
theorem dL_step_215 : decode cL_step 215 = .ok (.iaload, 1) := by decide +kernel
theorem dL_step_216 : decode cL_step 216 = .ok (.aload_n 0, 1) := by decide +kernel
theorem dL_step_217 : decode cL_step 217 = .ok (.iconst 0, 1) := by decide +kernel
theorem dL_step_218 : decode cL_step 218 = .ok (.iaload, 1) := by decide +kernel
theorem dL_step_219 : decode cL_step 219 = .ok (.iload 7, 2) := by decide +kernel
theorem dL_step_221 : decode cL_step 221 = .ok (.imul, 1) := by decide +kernel
theorem dL_step_222 : decode cL_step 222 = .ok (.imul, 1) := by decide +kernel
theorem dL_step_223 : decode cL_step 223 = .ok (.sipush 400, 3) := by decide +kernel
theorem dL_step_226 : decode cL_step 226 = .ok (.idiv, 1) := by decide +kernel
theorem dL_step_227 : decode cL_step 227 = .ok (.isub, 1) := by decide +kernel
theorem dL_step_228 : decode cL_step 228 = .ok (.iastore, 1) := by decide +kernel
theorem dL_step_229 : decode cL_step 229 = .ok (.aload_n 2, 1) := by decide +kernel
theorem dL_step_230 : decode cL_step 230 = .ok (.bipush 35, 2) := by decide +kernel
theorem dL_step_232 : decode cL_step 232 = .ok (.iload 7, 2) := by decide +kernel
theorem dL_step_234 : decode cL_step 234 = .ok (.iadd, 1) := by decide +kernel
theorem dL_step_235 : decode cL_step 235 = .ok (.dup2, 1) := by decide +kernel
theorem dL_step_236 : decode cL_step 236 = .ok (.iaload, 1) := by decide +kernel
theorem dL_step_237 : decode cL_step 237 = .ok (.aload_n 2, 1) := by decide +kernel
theorem dL_step_238 : decode cL_step 238 = .ok (.bipush 35, 2) := by decide +kernel
theorem dL_step_240 : decode cL_step 240 = .ok (.iload 7, 2) := by decide +kernel
theorem dL_step_242 : decode cL_step 242 = .ok (.iadd, 1) := by decide +kernel
theorem dL_step_243 : decode cL_step 243 = .ok (.iaload, 1) := by decide +kernel
theorem dL_step_244 : decode cL_step 244 = .ok (.aload_n 0, 1) := by decide +kernel
theorem dL_step_245 : decode cL_step 245 = .ok (.iconst 0, 1) := by decide +kernel
theorem dL_step_246 : decode cL_step 246 = .ok (.iaload, 1) := by decide +kernel
theorem dL_step_247 : decode cL_step 247 = .ok (.iload 7, 2) := by decide +kernel
theorem dL_step_249 : decode cL_step 249 = .ok (.imul, 1) := by decide +kernel
theorem dL_step_250 : decode cL_step 250 = .ok (.imul, 1) := by decide +kernel
theorem dL_step_251 : decode cL_step 251 = .ok (.sipush 400, 3) := by decide +kernel
theorem dL_step_254 : decode cL_step 254 = .ok (.idiv, 1) := by decide +kernel
theorem dL_step_255 : decode cL_step 255 = .ok (.isub, 1) := by decide +kernel
theorem dL_step_256 : decode cL_step 256 = .ok (.iastore, 1) := by decide +kernel
theorem dL_step_257 : decode cL_step 257 = .ok (.iinc 7 1, 3) := by decide +kernel
theorem dL_step_260 : decode cL_step 260 = .ok (.goto (-65), 3) := by decide +kernel
theorem dL_step_263 : decode cL_step 263 = .ok (.aload_n 0, 1) := by decide +kernel
theorem dL_step_264 : decode cL_step 264 = .ok (.iconst 3, 1) := by decide +kernel
theorem dL_step_265 : decode cL_step 265 = .ok (.dup2, 1) := by decide +kernel
theorem dL_step_266 : decode cL_step 266 = .ok (.iaload, 1) := by decide +kernel
theorem dL_step_267 : decode cL_step 267 = .ok (.iconst 1, 1) := by decide +kernel
theorem dL_step_268 : decode cL_step 268 = .ok (.iadd, 1) := by decide +kernel
theorem dL_step_269 : decode cL_step 269 = .ok (.iastore, 1) := by decide +kernel
theorem dL_step_270 : decode cL_step 270 = .ok (.iload 5, 2) := by decide +kernel
theorem dL_step_272 : decode cL_step 272 = .ok (.ireturn, 1) := by decide +kernel
theorem dL_copy_0 : decode cL_copy 0 = .ok (.iconst 0, 1) := by decide +kernel
theorem dL_copy_1 : decode cL_copy 1 = .ok (.istore_n 3, 1) := by decide +kernel
theorem dL_copy_2 : decode cL_copy 2 = .ok (.iload_n 3, 1) := by decide +kernel
theorem dL_copy_3 : decode cL_copy 3 = .ok (.iload_n 2, 1) := by decide +kernel
theorem dL_copy_4 : decode cL_copy 4 = .ok (.if_icmp .ge 15, 3) := by decide +kernel
theorem dL_copy_7 : decode cL_copy 7 = .ok (.aload_n 1, 1) := by decide +kernel
theorem dL_copy_8 : decode cL_copy 8 = .ok (.iload_n 3, 1) := by decide +kernel
theorem dL_copy_9 : decode cL_copy 9 = .ok (.aload_n 0, 1) := by decide +kernel
theorem dL_copy_10 : decode cL_copy 10 = .ok (.iload_n 3, 1) := by decide +kernel
theorem dL_copy_11 : decode cL_copy 11 = .ok (.iaload, 1) := by decide +kernel
theorem dL_copy_12 : decode cL_copy 12 = .ok (.iastore, 1) := by decide +kernel
theorem dL_copy_13 : decode cL_copy 13 = .ok (.iinc 3 1, 3) := by decide +kernel
theorem dL_copy_16 : decode cL_copy 16 = .ok (.goto (-14), 3) := by decide +kernel
theorem dL_copy_19 : decode cL_copy 19 = .ok (.return_, 1) := by decide +kernel
end
section
theorem dL_same_0 : decode cL_same 0 = .ok (.iconst 0, 1) := by decide +kernel
theorem dL_same_1 : decode cL_same 1 = .ok (.istore 9, 2) := by decide +kernel
theorem dL_same_3 : decode cL_same 3 = .ok (.iconst 0, 1) := by decide +kernel
theorem dL_same_4 : decode cL_same 4 = .ok (.istore 10, 2) := by decide +kernel
theorem dL_same_6 : decode cL_same 6 = .ok (.iconst 0, 1) := by decide +kernel
theorem dL_same_7 : decode cL_same 7 = .ok (.istore 11, 2) := by decide +kernel
theorem dL_same_9 : decode cL_same 9 = .ok (.iconst 0, 1) := by decide +kernel
theorem dL_same_10 : decode cL_same 10 = .ok (.istore 12, 2) := by decide +kernel
theorem dL_same_12 : decode cL_same 12 = .ok (.iconst 0, 1) := by decide +kernel
theorem dL_same_13 : decode cL_same 13 = .ok (.istore 13, 2) := by decide +kernel
theorem dL_same_15 : decode cL_same 15 = .ok (.bipush (-6), 2) := by decide +kernel
theorem dL_same_17 : decode cL_same 17 = .ok (.istore 14, 2) := by decide +kernel
theorem dL_same_19 : decode cL_same 19 = .ok (.lconst 0, 1) := by decide +kernel
theorem dL_same_20 : decode cL_same 20 = .ok (.lstore 15, 2) := by decide +kernel
theorem dL_same_22 : decode cL_same 22 = .ok (.lconst 0, 1) := by decide +kernel
theorem dL_same_23 : decode cL_same 23 = .ok (.lstore 17, 2) := by decide +kernel
theorem dL_same_25 : decode cL_same 25 = .ok (.lconst 0, 1) := by decide +kernel
theorem dL_same_26 : decode cL_same 26 = .ok (.lstore 19, 2) := by decide +kernel
theorem dL_same_28 : decode cL_same 28 = .ok (.lconst 0, 1) := by decide +kernel
theorem dL_same_29 : decode cL_same 29 = .ok (.lstore 21, 2) := by decide +kernel
theorem dL_same_31 : decode cL_same 31 = .ok (.lconst 0, 1) := by decide +kernel
theorem dL_same_32 : decode cL_same 32 = .ok (.lstore 23, 2) := by decide +kernel
theorem dL_same_34 : decode cL_same 34 = .ok (.iconst 0, 1) := by decide +kernel
theorem dL_same_35 : decode cL_same 35 = .ok (.istore 25, 2) := by decide +kernel
theorem dL_same_37 : decode cL_same 37 = .ok (.iload 25, 2) := by decide +kernel
theorem dL_same_39 : decode cL_same 39 = .ok (.bipush 40, 2) := by decide +kernel
theorem dL_same_41 : decode cL_same 41 = .ok (.if_icmp .ge 530, 3) := by decide +kernel
theorem dL_same_44 : decode cL_same 44 = .ok (.iload 25, 2) := by decide +kernel
theorem dL_same_46 : decode cL_same 46 = .ok (.ifCond .le 14, 3) := by decide +kernel
theorem dL_same_49 : decode cL_same 49 = .ok (.iload 25, 2) := by decide +kernel
theorem dL_same_51 : decode cL_same 51 = .ok (.bipush 39, 2) := by decide +kernel
theorem dL_same_53 : decode cL_same 53 = .ok (.if_icmp .ge 7, 3) := by decide +kernel
theorem dL_same_56 : decode cL_same 56 = .ok (.iconst 1, 1) := by decide +kernel
theorem dL_same_57 : decode cL_same 57 = .ok (.goto 4, 3) := by decide +kernel
theorem dL_same_60 : decode cL_same 60 = .ok (.iconst 0, 1) := by decide +kernel
theorem dL_same_61 : decode cL_same 61 = .ok (.istore 26, 2) := by decide +kernel
theorem dL_same_63 : decode cL_same 63 = .ok (.iload 26, 2) := by decide +kernel
theorem dL_same_65 : decode cL_same 65 = .ok (.ifCond .eq 33, 3) := by decide +kernel
theorem dL_same_68 : decode cL_same 68 = .ok (.aload_n 3, 1) := by decide +kernel
theorem dL_same_69 : decode cL_same 69 = .ok (.iload 25, 2) := by decide +kernel
theorem dL_same_71 : decode cL_same 71 = .ok (.iaload, 1) := by decide +kernel
theorem dL_same_72 : decode cL_same 72 = .ok (.aload_n 3, 1) := by decide +kernel
theorem dL_same_73 : decode cL_same 73 = .ok (.iload 25, 2) := by decide +kernel
theorem dL_same_75 : decode cL_same 75 = .ok (.iconst 1, 1) := by decide +kernel
theorem dL_same_76 : decode cL_same 76 = .ok (.isub, 1) := by decide +kernel
theorem dL_same_77 : decode cL_same 77 = .ok (.iaload, 1) := by decide +kernel
theorem dL_same_78 : decode cL_same 78 = .ok (.if_icmp .le 20, 3) := by decide +kernel
theorem dL_same_81 : decode cL_same 81 = .ok (.aload_n 3, 1) := by decide +kernel
theorem dL_same_82 : decode cL_same 82 = .ok (.iload 25, 2) := by decide +kernel
theorem dL_same_84 : decode cL_same 84 = .ok (.iaload, 1) := by decide +kernel
theorem dL_same_85 : decode cL_same 85 = .ok (.aload_n 3, 1) := by decide +kernel
theorem dL_same_86 : decode cL_same 86 = .ok (.iload 25, 2) := by decide +kernel
theorem dL_same_88 : decode cL_same 88 = .ok (.iconst 1, 1) := by decide +kernel
theorem dL_same_89 : decode cL_same 89 = .ok (.iadd, 1) := by decide +kernel
theorem dL_same_90 : decode cL_same 90 = .ok (.iaload, 1) := by decide +kernel
theorem dL_same_91 : decode cL_same 91 = .ok (.if_icmp .le 7, 3) := by decide +kernel
theorem dL_same_94 : decode cL_same 94 = .ok (.iconst 1, 1) := by decide +kernel
theorem dL_same_95 : decode cL_same 95 = .ok (.goto 4, 3) := by decide +kernel
theorem dL_same_98 : decode cL_same 98 = .ok (.iconst 0, 1) := by decide +kernel
theorem dL_same_99 : decode cL_same 99 = .ok (.istore 27, 2) := by decide +kernel
theorem dL_same_101 : decode cL_same 101 = .ok (.iload 26, 2) := by decide +kernel
theorem dL_same_103 : decode cL_same 103 = .ok (.ifCond .eq 33, 3) := by decide +kernel
theorem dL_same_106 : decode cL_same 106 = .ok (.aload_n 3, 1) := by decide +kernel
theorem dL_same_107 : decode cL_same 107 = .ok (.iload 25, 2) := by decide +kernel
theorem dL_same_109 : decode cL_same 109 = .ok (.iaload, 1) := by decide +kernel
theorem dL_same_110 : decode cL_same 110 = .ok (.aload_n 3, 1) := by decide +kernel
theorem dL_same_111 : decode cL_same 111 = .ok (.iload 25, 2) := by decide +kernel
theorem dL_same_113 : decode cL_same 113 = .ok (.iconst 1, 1) := by decide +kernel
theorem dL_same_114 : decode cL_same 114 = .ok (.isub, 1) := by decide +kernel
theorem dL_same_115 : decode cL_same 115 = .ok (.iaload, 1) := by decide +kernel
theorem dL_same_116 : decode cL_same 116 = .ok (.if_icmp .ge 20, 3) := by decide +kernel
theorem dL_same_119 : decode cL_same 119 = .ok (.aload_n 3, 1) := by decide +kernel
theorem dL_same_120 : decode cL_same 120 = .ok (.iload 25, 2) := by decide +kernel
theorem dL_same_122 : decode cL_same 122 = .ok (.iaload, 1) := by decide +kernel
theorem dL_same_123 : decode cL_same 123 = .ok (.aload_n 3, 1) := by decide +kernel
theorem dL_same_124 : decode cL_same 124 = .ok (.iload 25, 2) := by decide +kernel
theorem dL_same_126 : decode cL_same 126 = .ok (.iconst 1, 1) := by decide +kernel
theorem dL_same_127 : decode cL_same 127 = .ok (.iadd, 1) := by decide +kernel
theorem dL_same_128 : decode cL_same 128 = .ok (.iaload, 1) := by decide +kernel
theorem dL_same_129 : decode cL_same 129 = .ok (.if_icmp .ge 7, 3) := by decide +kernel
theorem dL_same_132 : decode cL_same 132 = .ok (.iconst 1, 1) := by decide +kernel
theorem dL_same_133 : decode cL_same 133 = .ok (.goto 4, 3) := by decide +kernel
theorem dL_same_136 : decode cL_same 136 = .ok (.iconst 0, 1) := by decide +kernel
theorem dL_same_137 : decode cL_same 137 = .ok (.istore 28, 2) := by decide +kernel
theorem dL_same_139 : decode cL_same 139 = .ok (.aload_n 0, 1) := by decide +kernel
theorem dL_same_140 : decode cL_same 140 = .ok (.iload 25, 2) := by decide +kernel
theorem dL_same_142 : decode cL_same 142 = .ok (.iconst 0, 1) := by decide +kernel
theorem dL_same_143 : decode cL_same 143 = .ok (.invokevirtual 23, 3) := by decide +kernel
theorem dL_same_146 : decode cL_same 146 = .ok (.aload_n 3, 1) := by decide +kernel
theorem dL_same_147 : decode cL_same 147 = .ok (.iload 25, 2) := by decide +kernel
theorem dL_same_149 : decode cL_same 149 = .ok (.iaload, 1) := by decide +kernel
theorem dL_same_150 : decode cL_same 150 = .ok (.sipush 10000, 3) := by decide +kernel
theorem dL_same_153 : decode cL_same 153 = .ok (.iadd, 1) := by decide +kernel
theorem dL_same_154 : decode cL_same 154 = .ok (.if_icmp .ne 62, 3) := by decide +kernel
theorem dL_same_157 : decode cL_same 157 = .ok (.aload_n 0, 1) := by decide +kernel
theorem dL_same_158 : decode cL_same 158 = .ok (.iload 25, 2) := by decide +kernel
theorem dL_same_160 : decode cL_same 160 = .ok (.iconst 1, 1) := by decide +kernel
theorem dL_same_161 : decode cL_same 161 = .ok (.invokevirtual 23, 3) := by decide +kernel
theorem dL_same_164 : decode cL_same 164 = .ok (.aload 4, 2) := by decide +kernel
theorem dL_same_166 : decode cL_same 166 = .ok (.iload 25, 2) := by decide +kernel
theorem dL_same_168 : decode cL_same 168 = .ok (.iaload, 1) := by decide +kernel
theorem dL_same_169 : decode cL_same 169 = .ok (.sipush 10000, 3) := by decide +kernel
theorem dL_same_172 : decode cL_same 172 = .ok (.iadd, 1) := by decide +kernel
theorem dL_same_173 : decode cL_same 173 = .ok (.if_icmp .ne 43, 3) := by decide +kernel
theorem dL_same_176 : decode cL_same 176 = .ok (.aload_n 0, 1) := by decide +kernel
theorem dL_same_177 : decode cL_same 177 = .ok (.iload 25, 2) := by decide +kernel
theorem dL_same_179 : decode cL_same 179 = .ok (.iconst 2, 1) := by decide +kernel
theorem dL_same_180 : decode cL_same 180 = .ok (.invokevirtual 23, 3) := by decide +kernel
theorem dL_same_183 : decode cL_same 183 = .ok (.iload 27, 2) := by decide +kernel
theorem dL_same_185 : decode cL_same 185 = .ok (.ifCond .eq 7, 3) := by decide +kernel
theorem dL_same_188 : decode cL_same 188 = .ok (.iconst 1, 1) := by decide +kernel
theorem dL_same_189 : decode cL_same 189 = .ok (.goto 4, 3) := by decide +kernel
theorem dL_same_192 : decode cL_same 192 = .ok (.iconst 0, 1) := by decide +kernel
theorem dL_same_193 : decode cL_same 193 = .ok (.if_icmp .ne 23, 3) := by decide +kernel
theorem dL_same_196 : decode cL_same 196 = .ok (.aload_n 0, 1) := by decide +kernel
theorem dL_same_197 : decode cL_same 197 = .ok (.iload 25, 2) := by decide +kernel
theorem dL_same_199 : decode cL_same 199 = .ok (.iconst 3, 1) := by decide +kernel
theorem dL_same_200 : decode cL_same 200 = .ok (.invokevirtual 23, 3) := by decide +kernel
theorem dL_same_203 : decode cL_same 203 = .ok (.iload 28, 2) := by decide +kernel
theorem dL_same_205 : decode cL_same 205 = .ok (.ifCond .eq 7, 3) := by decide +kernel
theorem dL_same_208 : decode cL_same 208 = .ok (.iconst 1, 1) := by decide +kernel
theorem dL_same_209 : decode cL_same 209 = .ok (.goto 4, 3) := by decide +kernel
theorem dL_same_212 : decode cL_same 212 = .ok (.iconst 0, 1) := by decide +kernel
theorem dL_same_213 : decode cL_same 213 = .ok (.if_icmp .eq 5, 3) := by decide +kernel
theorem dL_same_216 : decode cL_same 216 = .ok (.iconst 0, 1) := by decide +kernel
theorem dL_same_217 : decode cL_same 217 = .ok (.ireturn, 1) := by decide +kernel
theorem dL_same_218 : decode cL_same 218 = .ok (.lload 15, 2) := by decide +kernel
theorem dL_same_220 : decode cL_same 220 = .ok (.iload 27, 2) := by decide +kernel
theorem dL_same_222 : decode cL_same 222 = .ok (.ifCond .eq 10, 3) := by decide +kernel
theorem dL_same_225 : decode cL_same 225 = .ok (.lconst 1, 1) := by decide +kernel
theorem dL_same_226 : decode cL_same 226 = .ok (.iload 25, 2) := by decide +kernel
theorem dL_same_228 : decode cL_same 228 = .ok (.lshl, 1) := by decide +kernel
theorem dL_same_229 : decode cL_same 229 = .ok (.goto 4, 3) := by decide +kernel
theorem dL_same_232 : decode cL_same 232 = .ok (.lconst 0, 1) := by decide +kernel
theorem dL_same_233 : decode cL_same 233 = .ok (.lor, 1) := by decide +kernel
theorem dL_same_234 : decode cL_same 234 = .ok (.lstore 15, 2) := by decide +kernel
theorem dL_same_236 : decode cL_same 236 = .ok (.lload 17, 2) := by decide +kernel
theorem dL_same_238 : decode cL_same 238 = .ok (.iload 28, 2) := by decide +kernel
theorem dL_same_240 : decode cL_same 240 = .ok (.ifCond .eq 10, 3) := by decide +kernel
theorem dL_same_243 : decode cL_same 243 = .ok (.lconst 1, 1) := by decide +kernel
theorem dL_same_244 : decode cL_same 244 = .ok (.iload 25, 2) := by decide +kernel
theorem dL_same_246 : decode cL_same 246 = .ok (.lshl, 1) := by decide +kernel
theorem dL_same_247 : decode cL_same 247 = .ok (.goto 4, 3) := by decide +kernel
theorem dL_same_250 : decode cL_same 250 = .ok (.lconst 0, 1) := by decide +kernel
theorem dL_same_251 : decode cL_same 251 = .ok (.lor, 1) := by decide +kernel
theorem dL_same_252 : decode cL_same 252 = .ok (.lstore 17, 2) := by decide +kernel
theorem dL_same_254 : decode cL_same 254 = .ok (.lload 19, 2) := by decide +kernel
theorem dL_same_256 : decode cL_same 256 = .ok (.aload_n 3, 1) := by decide +kernel
theorem dL_same_257 : decode cL_same 257 = .ok (.iload 25, 2) := by decide +kernel
theorem dL_same_259 : decode cL_same 259 = .ok (.iaload, 1) := by decide +kernel
theorem dL_same_260 : decode cL_same 260 = .ok (.ifCond .eq 10, 3) := by decide +kernel
theorem dL_same_263 : decode cL_same 263 = .ok (.lconst 1, 1) := by decide +kernel
theorem dL_same_264 : decode cL_same 264 = .ok (.iload 25, 2) := by decide +kernel
theorem dL_same_266 : decode cL_same 266 = .ok (.lshl, 1) := by decide +kernel
theorem dL_same_267 : decode cL_same 267 = .ok (.goto 4, 3) := by decide +kernel
theorem dL_same_270 : decode cL_same 270 = .ok (.lconst 0, 1) := by decide +kernel
theorem dL_same_271 : decode cL_same 271 = .ok (.lor, 1) := by decide +kernel
theorem dL_same_272 : decode cL_same 272 = .ok (.lstore 19, 2) := by decide +kernel
theorem dL_same_274 : decode cL_same 274 = .ok (.aload_n 3, 1) := by decide +kernel
theorem dL_same_275 : decode cL_same 275 = .ok (.iload 25, 2) := by decide +kernel
theorem dL_same_277 : decode cL_same 277 = .ok (.iaload, 1) := by decide +kernel
theorem dL_same_278 : decode cL_same 278 = .ok (.ifCond .eq 8, 3) := by decide +kernel
theorem dL_same_281 : decode cL_same 281 = .ok (.iload 25, 2) := by decide +kernel
theorem dL_same_283 : decode cL_same 283 = .ok (.goto 5, 3) := by decide +kernel
theorem dL_same_286 : decode cL_same 286 = .ok (.iload 14, 2) := by decide +kernel
theorem dL_same_288 : decode cL_same 288 = .ok (.istore 14, 2) := by decide +kernel
theorem dL_same_290 : decode cL_same 290 = .ok (.iload 11, 2) := by decide +kernel
theorem dL_same_292 : decode cL_same 292 = .ok (.aload_n 3, 1) := by decide +kernel
theorem dL_same_293 : decode cL_same 293 = .ok (.iload 25, 2) := by decide +kernel
theorem dL_same_295 : decode cL_same 295 = .ok (.iaload, 1) := by decide +kernel
theorem dL_same_296 : decode cL_same 296 = .ok (.iadd, 1) := by decide +kernel
theorem dL_same_297 : decode cL_same 297 = .ok (.istore 11, 2) := by decide +kernel
theorem dL_same_299 : decode cL_same 299 = .ok (.iload 12, 2) := by decide +kernel
theorem dL_same_301 : decode cL_same 301 = .ok (.aload_n 3, 1) := by decide +kernel
theorem dL_same_302 : decode cL_same 302 = .ok (.iload 25, 2) := by decide +kernel
theorem dL_same_304 : decode cL_same 304 = .ok (.iaload, 1) := by decide +kernel
theorem dL_same_305 : decode cL_same 305 = .ok (.invokestatic 10, 3) := by decide +kernel
theorem dL_same_308 : decode cL_same 308 = .ok (.aload 4, 2) := by decide +kernel
theorem dL_same_310 : decode cL_same 310 = .ok (.iload 25, 2) := by decide +kernel
theorem dL_same_312 : decode cL_same 312 = .ok (.iaload, 1) := by decide +kernel
theorem dL_same_313 : decode cL_same 313 = .ok (.invokestatic 10, 3) := by decide +kernel
theorem dL_same_316 : decode cL_same 316 = .ok (.iadd, 1) := by decide +kernel
theorem dL_same_317 : decode cL_same 317 = .ok (.iadd, 1) := by decide +kernel
theorem dL_same_318 : decode cL_same 318 = .ok (.istore 12, 2) := by decide +kernel
theorem dL_same_320 : decode cL_same 320 = .ok (.aload_n 3, 1) := by decide +kernel
theorem dL_same_321 : decode cL_same 321 = .ok (.iload 25, 2) := by decide +kernel
theorem dL_same_323 : decode cL_same 323 = .ok (.iaload, 1) := by decide +kernel
theorem dL_same_324 : decode cL_same 324 = .ok (.invokestatic 10, 3) := by decide +kernel
theorem dL_same_327 : decode cL_same 327 = .ok (.iload 13, 2) := by decide +kernel
theorem dL_same_329 : decode cL_same 329 = .ok (.if_icmp .le 13, 3) := by decide +kernel
theorem dL_same_332 : decode cL_same 332 = .ok (.aload_n 3, 1) := by decide +kernel
theorem dL_same_333 : decode cL_same 333 = .ok (.iload 25, 2) := by decide +kernel
theorem dL_same_335 : decode cL_same 335 = .ok (.iaload, 1) := by decide +kernel
theorem dL_same_336 : decode cL_same 336 = .ok (.invokestatic 10, 3) := by decide +kernel
theorem dL_same_339 : decode cL_same 339 = .ok (.goto 5, 3) := by decide +kernel
theorem dL_same_342 : decode cL_same 342 = .ok (.iload 13, 2) := by decide +kernel
theorem dL_same_344 : decode cL_same 344 = .ok (.istore 13, 2) := by decide +kernel
theorem dL_same_346 : decode cL_same 346 = .ok (.iload 25, 2) := by decide +kernel
theorem dL_same_348 : decode cL_same 348 = .ok (.bipush 36, 2) := by decide +kernel
theorem dL_same_350 : decode cL_same 350 = .ok (.if_icmp .ge 13, 3) := by decide +kernel
theorem dL_same_353 : decode cL_same 353 = .ok (.aload 5, 2) := by decide +kernel
theorem dL_same_355 : decode cL_same 355 = .ok (.iload 25, 2) := by decide +kernel
theorem dL_same_357 : decode cL_same 357 = .ok (.iaload, 1) := by decide +kernel
theorem dL_same_358 : decode cL_same 358 = .ok (.iconst 1, 1) := by decide +kernel
theorem dL_same_359 : decode cL_same 359 = .ok (.isub, 1) := by decide +kernel
theorem dL_same_360 : decode cL_same 360 = .ok (.goto 4, 3) := by decide +kernel
theorem dL_same_363 : decode cL_same 363 = .ok (.iconst (-1), 1) := by decide +kernel
theorem dL_same_364 : decode cL_same 364 = .ok (.istore 29, 2) := by decide +kernel
theorem dL_same_366 : decode cL_same 366 = .ok (.iload 29, 2) := by decide +kernel
theorem dL_same_368 : decode cL_same 368 = .ok (.ifCond .ge 6, 3) := by decide +kernel
theorem dL_same_371 : decode cL_same 371 = .ok (.goto 194, 3) := by decide +kernel
theorem dL_same_374 : decode cL_same 374 = .ok (.lload 21, 2) := by decide +kernel
theorem dL_same_376 : decode cL_same 376 = .ok (.lconst 1, 1) := by decide +kernel
theorem dL_same_377 : decode cL_same 377 = .ok (.iload 25, 2) := by decide +kernel
theorem dL_same_379 : decode cL_same 379 = .ok (.lshl, 1) := by decide +kernel
theorem dL_same_380 : decode cL_same 380 = .ok (.lor, 1) := by decide +kernel
theorem dL_same_381 : decode cL_same 381 = .ok (.lstore 21, 2) := by decide +kernel
theorem dL_same_383 : decode cL_same 383 = .ok (.lload 23, 2) := by decide +kernel
theorem dL_same_385 : decode cL_same 385 = .ok (.aload 6, 2) := by decide +kernel
theorem dL_same_387 : decode cL_same 387 = .ok (.iconst 5, 1) := by decide +kernel
theorem dL_same_388 : decode cL_same 388 = .ok (.iload 29, 2) := by decide +kernel
theorem dL_same_390 : decode cL_same 390 = .ok (.imul, 1) := by decide +kernel
theorem dL_same_391 : decode cL_same 391 = .ok (.iconst 4, 1) := by decide +kernel
theorem dL_same_392 : decode cL_same 392 = .ok (.iadd, 1) := by decide +kernel
theorem dL_same_393 : decode cL_same 393 = .ok (.iaload, 1) := by decide +kernel
theorem dL_same_394 : decode cL_same 394 = .ok (.ifCond .ne 10, 3) := by decide +kernel
theorem dL_same_397 : decode cL_same 397 = .ok (.lconst 1, 1) := by decide +kernel
theorem dL_same_398 : decode cL_same 398 = .ok (.iload 25, 2) := by decide +kernel
theorem dL_same_400 : decode cL_same 400 = .ok (.lshl, 1) := by decide +kernel
theorem dL_same_401 : decode cL_same 401 = .ok (.goto 4, 3) := by decide +kernel
theorem dL_same_404 : decode cL_same 404 = .ok (.lconst 0, 1) := by decide +kernel
theorem dL_same_405 : decode cL_same 405 = .ok (.lor, 1) := by decide +kernel
theorem dL_same_406 : decode cL_same 406 = .ok (.lstore 23, 2) := by decide +kernel
theorem dL_same_408 : decode cL_same 408 = .ok (.iload 9, 2) := by decide +kernel
theorem dL_same_410 : decode cL_same 410 = .ok (.iconst 1, 1) := by decide +kernel
theorem dL_same_411 : decode cL_same 411 = .ok (.aload 6, 2) := by decide +kernel
theorem dL_same_413 : decode cL_same 413 = .ok (.iconst 5, 1) := by decide +kernel
theorem dL_same_414 : decode cL_same 414 = .ok (.iload 29, 2) := by decide +kernel
theorem dL_same_416 : decode cL_same 416 = .ok (.imul, 1) := by decide +kernel
theorem dL_same_417 : decode cL_same 417 = .ok (.iconst 4, 1) := by decide +kernel
theorem dL_same_418 : decode cL_same 418 = .ok (.iadd, 1) := by decide +kernel
theorem dL_same_419 : decode cL_same 419 = .ok (.iaload, 1) := by decide +kernel
theorem dL_same_420 : decode cL_same 420 = .ok (.isub, 1) := by decide +kernel
theorem dL_same_421 : decode cL_same 421 = .ok (.iadd, 1) := by decide +kernel
theorem dL_same_422 : decode cL_same 422 = .ok (.istore 9, 2) := by decide +kernel
theorem dL_same_424 : decode cL_same 424 = .ok (.iload 10, 2) := by decide +kernel
theorem dL_same_426 : decode cL_same 426 = .ok (.iinc 10 1, 3) := by decide +kernel
theorem dL_same_429 : decode cL_same 429 = .ok (.istore 30, 2) := by decide +kernel
theorem dL_same_431 : decode cL_same 431 = .ok (.aload_n 0, 1) := by decide +kernel
theorem dL_same_432 : decode cL_same 432 = .ok (.iload 30, 2) := by decide +kernel
theorem dL_same_434 : decode cL_same 434 = .ok (.iconst 0, 1) := by decide +kernel
theorem dL_same_435 : decode cL_same 435 = .ok (.invokevirtual 29, 3) := by decide +kernel
theorem dL_same_438 : decode cL_same 438 = .ok (.iload 25, 2) := by decide +kernel
theorem dL_same_440 : decode cL_same 440 = .ok (.if_icmp .ne 123, 3) := by decide +kernel
theorem dL_same_443 : decode cL_same 443 = .ok (.aload_n 0, 1) := by decide +kernel
theorem dL_same_444 : decode cL_same 444 = .ok (.iload 30, 2) := by decide +kernel
theorem dL_same_446 : decode cL_same 446 = .ok (.iconst 1, 1) := by decide +kernel
theorem dL_same_447 : decode cL_same 447 = .ok (.invokevirtual 29, 3) := by decide +kernel
theorem dL_same_450 : decode cL_same 450 = .ok (.aload 6, 2) := by decide +kernel
theorem dL_same_452 : decode cL_same 452 = .ok (.iconst 5, 1) := by decide +kernel
theorem dL_same_453 : decode cL_same 453 = .ok (.iload 29, 2) := by decide +kernel
theorem dL_same_455 : decode cL_same 455 = .ok (.imul, 1) := by decide +kernel
theorem dL_same_456 : decode cL_same 456 = .ok (.iaload, 1) := by decide +kernel
theorem dL_same_457 : decode cL_same 457 = .ok (.if_icmp .ne 106, 3) := by decide +kernel
theorem dL_same_460 : decode cL_same 460 = .ok (.aload_n 0, 1) := by decide +kernel
theorem dL_same_461 : decode cL_same 461 = .ok (.iload 30, 2) := by decide +kernel
theorem dL_same_463 : decode cL_same 463 = .ok (.iconst 2, 1) := by decide +kernel
theorem dL_same_464 : decode cL_same 464 = .ok (.invokevirtual 29, 3) := by decide +kernel
theorem dL_same_467 : decode cL_same 467 = .ok (.aload 6, 2) := by decide +kernel
theorem dL_same_469 : decode cL_same 469 = .ok (.iconst 5, 1) := by decide +kernel
theorem dL_same_470 : decode cL_same 470 = .ok (.iload 29, 2) := by decide +kernel
theorem dL_same_472 : decode cL_same 472 = .ok (.imul, 1) := by decide +kernel
theorem dL_same_473 : decode cL_same 473 = .ok (.iconst 1, 1) := by decide +kernel
theorem dL_same_474 : decode cL_same 474 = .ok (.iadd, 1) := by decide +kernel
theorem dL_same_475 : decode cL_same 475 = .ok (.iaload, 1) := by decide +kernel
theorem dL_same_476 : decode cL_same 476 = .ok (.sipush 1000, 3) := by decide +kernel
theorem dL_same_479 : decode cL_same 479 = .ok (.iadd, 1) := by decide +kernel
theorem dL_same_480 : decode cL_same 480 = .ok (.if_icmp .ne 83, 3) := by decide +kernel
theorem dL_same_483 : decode cL_same 483 = .ok (.aload_n 0, 1) := by decide +kernel
theorem dL_same_484 : decode cL_same 484 = .ok (.iload 30, 2) := by decide +kernel
theorem dL_same_486 : decode cL_same 486 = .ok (.iconst 3, 1) := by decide +kernel
theorem dL_same_487 : decode cL_same 487 = .ok (.invokevirtual 29, 3) := by decide +kernel
theorem dL_same_490 : decode cL_same 490 = .ok (.aload 6, 2) := by decide +kernel
theorem dL_same_492 : decode cL_same 492 = .ok (.iconst 5, 1) := by decide +kernel
theorem dL_same_493 : decode cL_same 493 = .ok (.iload 29, 2) := by decide +kernel
theorem dL_same_495 : decode cL_same 495 = .ok (.imul, 1) := by decide +kernel
theorem dL_same_496 : decode cL_same 496 = .ok (.iconst 2, 1) := by decide +kernel
theorem dL_same_497 : decode cL_same 497 = .ok (.iadd, 1) := by decide +kernel
theorem dL_same_498 : decode cL_same 498 = .ok (.iaload, 1) := by decide +kernel
theorem dL_same_499 : decode cL_same 499 = .ok (.if_icmp .ne 64, 3) := by decide +kernel
theorem dL_same_502 : decode cL_same 502 = .ok (.aload_n 0, 1) := by decide +kernel
theorem dL_same_503 : decode cL_same 503 = .ok (.iload 30, 2) := by decide +kernel
theorem dL_same_505 : decode cL_same 505 = .ok (.iconst 4, 1) := by decide +kernel
theorem dL_same_506 : decode cL_same 506 = .ok (.invokevirtual 29, 3) := by decide +kernel
theorem dL_same_509 : decode cL_same 509 = .ok (.aload 6, 2) := by decide +kernel
theorem dL_same_511 : decode cL_same 511 = .ok (.iconst 5, 1) := by decide +kernel
theorem dL_same_512 : decode cL_same 512 = .ok (.iload 29, 2) := by decide +kernel
theorem dL_same_514 : decode cL_same 514 = .ok (.imul, 1) := by decide +kernel
theorem dL_same_515 : decode cL_same 515 = .ok (.iconst 3, 1) := by decide +kernel
theorem dL_same_516 : decode cL_same 516 = .ok (.iadd, 1) := by decide +kernel
theorem dL_same_517 : decode cL_same 517 = .ok (.iaload, 1) := by decide +kernel
theorem dL_same_518 : decode cL_same 518 = .ok (.if_icmp .ne 45, 3) := by decide +kernel
theorem dL_same_521 : decode cL_same 521 = .ok (.aload_n 0, 1) := by decide +kernel
theorem dL_same_522 : decode cL_same 522 = .ok (.iload 30, 2) := by decide +kernel
theorem dL_same_524 : decode cL_same 524 = .ok (.iconst 5, 1) := by decide +kernel
theorem dL_same_525 : decode cL_same 525 = .ok (.invokevirtual 29, 3) := by decide +kernel
theorem dL_same_528 : decode cL_same 528 = .ok (.aload 6, 2) := by decide +kernel
theorem dL_same_530 : decode cL_same 530 = .ok (.iconst 5, 1) := by decide +kernel
theorem dL_same_531 : decode cL_same 531 = .ok (.iload 29, 2) := by decide +kernel
theorem dL_same_533 : decode cL_same 533 = .ok (.imul, 1) := by decide +kernel
theorem dL_same_534 : decode cL_same 534 = .ok (.iconst 4, 1) := by decide +kernel
theorem dL_same_535 : decode cL_same 535 = .ok (.iadd, 1) := by decide +kernel
theorem dL_same_536 : decode cL_same 536 = .ok (.iaload, 1) := by decide +kernel
theorem dL_same_537 : decode cL_same 537 = .ok (.if_icmp .ne 26, 3) := by decide +kernel
theorem dL_same_540 : decode cL_same 540 = .ok (.aload_n 0, 1) := by decide +kernel
theorem dL_same_541 : decode cL_same 541 = .ok (.iload 30, 2) := by decide +kernel
theorem dL_same_543 : decode cL_same 543 = .ok (.bipush 6, 2) := by decide +kernel
theorem dL_same_545 : decode cL_same 545 = .ok (.invokevirtual 29, 3) := by decide +kernel
theorem dL_same_548 : decode cL_same 548 = .ok (.iload 29, 2) := by decide +kernel
theorem dL_same_550 : decode cL_same 550 = .ok (.aload_n 2, 1) := by decide +kernel
theorem dL_same_551 : decode cL_same 551 = .ok (.aload 6, 2) := by decide +kernel
theorem dL_same_553 : decode cL_same 553 = .ok (.invokestatic 16, 3) := by decide +kernel
theorem dL_same_556 : decode cL_same 556 = .ok (.sipush 1000, 3) := by decide +kernel
theorem dL_same_559 : decode cL_same 559 = .ok (.iadd, 1) := by decide +kernel
theorem dL_same_560 : decode cL_same 560 = .ok (.if_icmp .eq 5, 3) := by decide +kernel
theorem dL_same_563 : decode cL_same 563 = .ok (.iconst 0, 1) := by decide +kernel
theorem dL_same_564 : decode cL_same 564 = .ok (.ireturn, 1) := by decide +kernel
theorem dL_same_565 : decode cL_same 565 = .ok (.iinc 25 1, 3) := by decide +kernel
theorem dL_same_568 : decode cL_same 568 = .ok (.goto (-531), 3) := by decide +kernel
theorem dL_same_571 : decode cL_same 571 = .ok (.aload 7, 2) := by decide +kernel
theorem dL_same_573 : decode cL_same 573 = .ok (.iconst 0, 1) := by decide +kernel
theorem dL_same_574 : decode cL_same 574 = .ok (.iaload, 1) := by decide +kernel
theorem dL_same_575 : decode cL_same 575 = .ok (.ifCond .lt 245, 3) := by decide +kernel
theorem dL_same_578 : decode cL_same 578 = .ok (.bipush (-6), 2) := by decide +kernel
theorem dL_same_580 : decode cL_same 580 = .ok (.istore 25, 2) := by decide +kernel
theorem dL_same_582 : decode cL_same 582 = .ok (.bipush (-6), 2) := by decide +kernel
theorem dL_same_584 : decode cL_same 584 = .ok (.istore 26, 2) := by decide +kernel
theorem dL_same_586 : decode cL_same 586 = .ok (.iconst 0, 1) := by decide +kernel
theorem dL_same_587 : decode cL_same 587 = .ok (.istore 27, 2) := by decide +kernel
theorem dL_same_589 : decode cL_same 589 = .ok (.iconst 0, 1) := by decide +kernel
theorem dL_same_590 : decode cL_same 590 = .ok (.istore 28, 2) := by decide +kernel
theorem dL_same_592 : decode cL_same 592 = .ok (.iload 28, 2) := by decide +kernel
theorem dL_same_594 : decode cL_same 594 = .ok (.aload 7, 2) := by decide +kernel
theorem dL_same_596 : decode cL_same 596 = .ok (.iconst 1, 1) := by decide +kernel
theorem dL_same_597 : decode cL_same 597 = .ok (.iaload, 1) := by decide +kernel
theorem dL_same_598 : decode cL_same 598 = .ok (.if_icmp .ge 148, 3) := by decide +kernel
theorem dL_same_601 : decode cL_same 601 = .ok (.aload 8, 2) := by decide +kernel
theorem dL_same_603 : decode cL_same 603 = .ok (.aload_n 2, 1) := by decide +kernel
theorem dL_same_604 : decode cL_same 604 = .ok (.iconst 3, 1) := by decide +kernel
theorem dL_same_605 : decode cL_same 605 = .ok (.iaload, 1) := by decide +kernel
theorem dL_same_606 : decode cL_same 606 = .ok (.iload 28, 2) := by decide +kernel
theorem dL_same_608 : decode cL_same 608 = .ok (.isub, 1) := by decide +kernel
theorem dL_same_609 : decode cL_same 609 = .ok (.ldc 32, 2) := by decide +kernel
theorem dL_same_611 : decode cL_same 611 = .ok (.iadd, 1) := by decide +kernel
theorem dL_same_612 : decode cL_same 612 = .ok (.bipush 60, 2) := by decide +kernel
theorem dL_same_614 : decode cL_same 614 = .ok (.irem, 1) := by decide +kernel
theorem dL_same_615 : decode cL_same 615 = .ok (.iaload, 1) := by decide +kernel
theorem dL_same_616 : decode cL_same 616 = .ok (.istore 29, 2) := by decide +kernel
theorem dL_same_618 : decode cL_same 618 = .ok (.aload_n 0, 1) := by decide +kernel
theorem dL_same_619 : decode cL_same 619 = .ok (.iconst 0, 1) := by decide +kernel
theorem dL_same_620 : decode cL_same 620 = .ok (.iload 28, 2) := by decide +kernel
theorem dL_same_622 : decode cL_same 622 = .ok (.invokevirtual 33, 3) := by decide +kernel
theorem dL_same_625 : decode cL_same 625 = .ok (.iload 29, 2) := by decide +kernel
theorem dL_same_627 : decode cL_same 627 = .ok (.sipush 10000, 3) := by decide +kernel
theorem dL_same_630 : decode cL_same 630 = .ok (.iadd, 1) := by decide +kernel
theorem dL_same_631 : decode cL_same 631 = .ok (.if_icmp .eq 5, 3) := by decide +kernel
theorem dL_same_634 : decode cL_same 634 = .ok (.iconst 0, 1) := by decide +kernel
theorem dL_same_635 : decode cL_same 635 = .ok (.ireturn, 1) := by decide +kernel
theorem dL_same_636 : decode cL_same 636 = .ok (.iload 25, 2) := by decide +kernel
theorem dL_same_638 : decode cL_same 638 = .ok (.ifCond .lt 14, 3) := by decide +kernel
theorem dL_same_641 : decode cL_same 641 = .ok (.iload 29, 2) := by decide +kernel
theorem dL_same_643 : decode cL_same 643 = .ok (.sipush 10000, 3) := by decide +kernel
theorem dL_same_646 : decode cL_same 646 = .ok (.iadd, 1) := by decide +kernel
theorem dL_same_647 : decode cL_same 647 = .ok (.iload 25, 2) := by decide +kernel
theorem dL_same_649 : decode cL_same 649 = .ok (.if_icmp .le 12, 3) := by decide +kernel
theorem dL_same_652 : decode cL_same 652 = .ok (.iload 29, 2) := by decide +kernel
theorem dL_same_654 : decode cL_same 654 = .ok (.sipush 10000, 3) := by decide +kernel
theorem dL_same_657 : decode cL_same 657 = .ok (.iadd, 1) := by decide +kernel
theorem dL_same_658 : decode cL_same 658 = .ok (.goto 5, 3) := by decide +kernel
theorem dL_same_661 : decode cL_same 661 = .ok (.iload 25, 2) := by decide +kernel
theorem dL_same_663 : decode cL_same 663 = .ok (.istore 25, 2) := by decide +kernel
theorem dL_same_665 : decode cL_same 665 = .ok (.iload 26, 2) := by decide +kernel
theorem dL_same_667 : decode cL_same 667 = .ok (.ifCond .lt 14, 3) := by decide +kernel
theorem dL_same_670 : decode cL_same 670 = .ok (.iload 29, 2) := by decide +kernel
theorem dL_same_672 : decode cL_same 672 = .ok (.sipush 10000, 3) := by decide +kernel
theorem dL_same_675 : decode cL_same 675 = .ok (.iadd, 1) := by decide +kernel
theorem dL_same_676 : decode cL_same 676 = .ok (.iload 26, 2) := by decide +kernel
theorem dL_same_678 : decode cL_same 678 = .ok (.if_icmp .ge 12, 3) := by decide +kernel
theorem dL_same_681 : decode cL_same 681 = .ok (.iload 29, 2) := by decide +kernel
theorem dL_same_683 : decode cL_same 683 = .ok (.sipush 10000, 3) := by decide +kernel
theorem dL_same_686 : decode cL_same 686 = .ok (.iadd, 1) := by decide +kernel
theorem dL_same_687 : decode cL_same 687 = .ok (.goto 5, 3) := by decide +kernel
theorem dL_same_690 : decode cL_same 690 = .ok (.iload 26, 2) := by decide +kernel
theorem dL_same_692 : decode cL_same 692 = .ok (.istore 26, 2) := by decide +kernel
theorem dL_same_694 : decode cL_same 694 = .ok (.iload 27, 2) := by decide +kernel
theorem dL_same_696 : decode cL_same 696 = .ok (.iload 28, 2) := by decide +kernel
theorem dL_same_698 : decode cL_same 698 = .ok (.iconst 1, 1) := by decide +kernel
theorem dL_same_699 : decode cL_same 699 = .ok (.iadd, 1) := by decide +kernel
theorem dL_same_700 : decode cL_same 700 = .ok (.aload 7, 2) := by decide +kernel
theorem dL_same_702 : decode cL_same 702 = .ok (.iconst 1, 1) := by decide +kernel
theorem dL_same_703 : decode cL_same 703 = .ok (.iaload, 1) := by decide +kernel
theorem dL_same_704 : decode cL_same 704 = .ok (.if_icmp .ge 32, 3) := by decide +kernel
theorem dL_same_707 : decode cL_same 707 = .ok (.iload 29, 2) := by decide +kernel
theorem dL_same_709 : decode cL_same 709 = .ok (.ifCond .lt 27, 3) := by decide +kernel
theorem dL_same_712 : decode cL_same 712 = .ok (.aload 8, 2) := by decide +kernel
theorem dL_same_714 : decode cL_same 714 = .ok (.aload_n 2, 1) := by decide +kernel
theorem dL_same_715 : decode cL_same 715 = .ok (.iconst 3, 1) := by decide +kernel
theorem dL_same_716 : decode cL_same 716 = .ok (.iaload, 1) := by decide +kernel
theorem dL_same_717 : decode cL_same 717 = .ok (.iload 28, 2) := by decide +kernel
theorem dL_same_719 : decode cL_same 719 = .ok (.isub, 1) := by decide +kernel
theorem dL_same_720 : decode cL_same 720 = .ok (.iconst 1, 1) := by decide +kernel
theorem dL_same_721 : decode cL_same 721 = .ok (.isub, 1) := by decide +kernel
theorem dL_same_722 : decode cL_same 722 = .ok (.ldc 32, 2) := by decide +kernel
theorem dL_same_724 : decode cL_same 724 = .ok (.iadd, 1) := by decide +kernel
theorem dL_same_725 : decode cL_same 725 = .ok (.bipush 60, 2) := by decide +kernel
theorem dL_same_727 : decode cL_same 727 = .ok (.irem, 1) := by decide +kernel
theorem dL_same_728 : decode cL_same 728 = .ok (.iaload, 1) := by decide +kernel
theorem dL_same_729 : decode cL_same 729 = .ok (.ifCond .ge 7, 3) := by decide +kernel
theorem dL_same_732 : decode cL_same 732 = .ok (.iconst 1, 1) := by decide +kernel
theorem dL_same_733 : decode cL_same 733 = .ok (.goto 4, 3) := by decide +kernel
theorem dL_same_736 : decode cL_same 736 = .ok (.iconst 0, 1) := by decide +kernel
theorem dL_same_737 : decode cL_same 737 = .ok (.iadd, 1) := by decide +kernel
theorem dL_same_738 : decode cL_same 738 = .ok (.istore 27, 2) := by decide +kernel
theorem dL_same_740 : decode cL_same 740 = .ok (.iinc 28 1, 3) := by decide +kernel
theorem dL_same_743 : decode cL_same 743 = .ok (.goto (-151), 3) := by decide +kernel
theorem dL_same_746 : decode cL_same 746 = .ok (.aload_n 0, 1) := by decide +kernel
theorem dL_same_747 : decode cL_same 747 = .ok (.iconst 0, 1) := by decide +kernel
theorem dL_same_748 : decode cL_same 748 = .ok (.iconst 0, 1) := by decide +kernel
theorem dL_same_749 : decode cL_same 749 = .ok (.invokevirtual 36, 3) := by decide +kernel
theorem dL_same_752 : decode cL_same 752 = .ok (.aload 7, 2) := by decide +kernel
theorem dL_same_754 : decode cL_same 754 = .ok (.iconst 0, 1) := by decide +kernel
theorem dL_same_755 : decode cL_same 755 = .ok (.iaload, 1) := by decide +kernel
theorem dL_same_756 : decode cL_same 756 = .ok (.if_icmp .ne 62, 3) := by decide +kernel
theorem dL_same_759 : decode cL_same 759 = .ok (.aload_n 0, 1) := by decide +kernel
theorem dL_same_760 : decode cL_same 760 = .ok (.iconst 0, 1) := by decide +kernel
theorem dL_same_761 : decode cL_same 761 = .ok (.iconst 1, 1) := by decide +kernel
theorem dL_same_762 : decode cL_same 762 = .ok (.invokevirtual 36, 3) := by decide +kernel
theorem dL_same_765 : decode cL_same 765 = .ok (.aload 7, 2) := by decide +kernel
theorem dL_same_767 : decode cL_same 767 = .ok (.iconst 1, 1) := by decide +kernel
theorem dL_same_768 : decode cL_same 768 = .ok (.iaload, 1) := by decide +kernel
theorem dL_same_769 : decode cL_same 769 = .ok (.if_icmp .ne 49, 3) := by decide +kernel
theorem dL_same_772 : decode cL_same 772 = .ok (.aload_n 0, 1) := by decide +kernel
theorem dL_same_773 : decode cL_same 773 = .ok (.iconst 0, 1) := by decide +kernel
theorem dL_same_774 : decode cL_same 774 = .ok (.iconst 2, 1) := by decide +kernel
theorem dL_same_775 : decode cL_same 775 = .ok (.invokevirtual 36, 3) := by decide +kernel
theorem dL_same_778 : decode cL_same 778 = .ok (.iload 25, 2) := by decide +kernel
theorem dL_same_780 : decode cL_same 780 = .ok (.if_icmp .ne 38, 3) := by decide +kernel
theorem dL_same_783 : decode cL_same 783 = .ok (.aload_n 0, 1) := by decide +kernel
theorem dL_same_784 : decode cL_same 784 = .ok (.iconst 0, 1) := by decide +kernel
theorem dL_same_785 : decode cL_same 785 = .ok (.iconst 3, 1) := by decide +kernel
theorem dL_same_786 : decode cL_same 786 = .ok (.invokevirtual 36, 3) := by decide +kernel
theorem dL_same_789 : decode cL_same 789 = .ok (.iload 26, 2) := by decide +kernel
theorem dL_same_791 : decode cL_same 791 = .ok (.if_icmp .ne 27, 3) := by decide +kernel
theorem dL_same_794 : decode cL_same 794 = .ok (.aload_n 0, 1) := by decide +kernel
theorem dL_same_795 : decode cL_same 795 = .ok (.iconst 0, 1) := by decide +kernel
theorem dL_same_796 : decode cL_same 796 = .ok (.iconst 4, 1) := by decide +kernel
theorem dL_same_797 : decode cL_same 797 = .ok (.invokevirtual 36, 3) := by decide +kernel
theorem dL_same_800 : decode cL_same 800 = .ok (.iload 27, 2) := by decide +kernel
theorem dL_same_802 : decode cL_same 802 = .ok (.if_icmp .ne 16, 3) := by decide +kernel
theorem dL_same_805 : decode cL_same 805 = .ok (.aload_n 0, 1) := by decide +kernel
theorem dL_same_806 : decode cL_same 806 = .ok (.iconst 0, 1) := by decide +kernel
theorem dL_same_807 : decode cL_same 807 = .ok (.aload 7, 2) := by decide +kernel
theorem dL_same_809 : decode cL_same 809 = .ok (.iconst 1, 1) := by decide +kernel
theorem dL_same_810 : decode cL_same 810 = .ok (.iaload, 1) := by decide +kernel
theorem dL_same_811 : decode cL_same 811 = .ok (.invokevirtual 33, 3) := by decide +kernel
theorem dL_same_814 : decode cL_same 814 = .ok (.iconst (-1), 1) := by decide +kernel
theorem dL_same_815 : decode cL_same 815 = .ok (.if_icmp .eq 5, 3) := by decide +kernel
theorem dL_same_818 : decode cL_same 818 = .ok (.iconst 0, 1) := by decide +kernel
theorem dL_same_819 : decode cL_same 819 = .ok (.ireturn, 1) := by decide +kernel
theorem dL_same_820 : decode cL_same 820 = .ok (.iload 10, 2) := by decide +kernel
theorem dL_same_822 : decode cL_same 822 = .ok (.aload_n 2, 1) := by decide +kernel
theorem dL_same_823 : decode cL_same 823 = .ok (.iconst 4, 1) := by decide +kernel
theorem dL_same_824 : decode cL_same 824 = .ok (.iaload, 1) := by decide +kernel
theorem dL_same_825 : decode cL_same 825 = .ok (.if_icmp .ne 205, 3) := by decide +kernel
theorem dL_same_828 : decode cL_same 828 = .ok (.aload_n 0, 1) := by decide +kernel
theorem dL_same_829 : decode cL_same 829 = .ok (.iconst 0, 1) := by decide +kernel
theorem dL_same_830 : decode cL_same 830 = .ok (.invokevirtual 39, 3) := by decide +kernel
theorem dL_same_833 : decode cL_same 833 = .ok (.lload 15, 2) := by decide +kernel
theorem dL_same_835 : decode cL_same 835 = .ok (.lcmp, 1) := by decide +kernel
theorem dL_same_836 : decode cL_same 836 = .ok (.ifCond .ne 194, 3) := by decide +kernel
theorem dL_same_839 : decode cL_same 839 = .ok (.aload_n 0, 1) := by decide +kernel
theorem dL_same_840 : decode cL_same 840 = .ok (.iconst 1, 1) := by decide +kernel
theorem dL_same_841 : decode cL_same 841 = .ok (.invokevirtual 39, 3) := by decide +kernel
theorem dL_same_844 : decode cL_same 844 = .ok (.lload 17, 2) := by decide +kernel
theorem dL_same_846 : decode cL_same 846 = .ok (.lcmp, 1) := by decide +kernel
theorem dL_same_847 : decode cL_same 847 = .ok (.ifCond .ne 183, 3) := by decide +kernel
theorem dL_same_850 : decode cL_same 850 = .ok (.aload_n 0, 1) := by decide +kernel
theorem dL_same_851 : decode cL_same 851 = .ok (.iconst 2, 1) := by decide +kernel
theorem dL_same_852 : decode cL_same 852 = .ok (.invokevirtual 39, 3) := by decide +kernel
theorem dL_same_855 : decode cL_same 855 = .ok (.lload 19, 2) := by decide +kernel
theorem dL_same_857 : decode cL_same 857 = .ok (.lcmp, 1) := by decide +kernel
theorem dL_same_858 : decode cL_same 858 = .ok (.ifCond .ne 172, 3) := by decide +kernel
theorem dL_same_861 : decode cL_same 861 = .ok (.aload_n 0, 1) := by decide +kernel
theorem dL_same_862 : decode cL_same 862 = .ok (.iconst 3, 1) := by decide +kernel
theorem dL_same_863 : decode cL_same 863 = .ok (.invokevirtual 39, 3) := by decide +kernel
theorem dL_same_866 : decode cL_same 866 = .ok (.lload 21, 2) := by decide +kernel
theorem dL_same_868 : decode cL_same 868 = .ok (.lcmp, 1) := by decide +kernel
theorem dL_same_869 : decode cL_same 869 = .ok (.ifCond .ne 161, 3) := by decide +kernel
theorem dL_same_872 : decode cL_same 872 = .ok (.aload_n 0, 1) := by decide +kernel
theorem dL_same_873 : decode cL_same 873 = .ok (.iconst 4, 1) := by decide +kernel
theorem dL_same_874 : decode cL_same 874 = .ok (.invokevirtual 39, 3) := by decide +kernel
theorem dL_same_877 : decode cL_same 877 = .ok (.lload 23, 2) := by decide +kernel
theorem dL_same_879 : decode cL_same 879 = .ok (.lcmp, 1) := by decide +kernel
theorem dL_same_880 : decode cL_same 880 = .ok (.ifCond .ne 150, 3) := by decide +kernel
theorem dL_same_883 : decode cL_same 883 = .ok (.aload_n 0, 1) := by decide +kernel
theorem dL_same_884 : decode cL_same 884 = .ok (.iconst 0, 1) := by decide +kernel
theorem dL_same_885 : decode cL_same 885 = .ok (.invokevirtual 43, 3) := by decide +kernel
theorem dL_same_888 : decode cL_same 888 = .ok (.aload_n 2, 1) := by decide +kernel
theorem dL_same_889 : decode cL_same 889 = .ok (.iconst 3, 1) := by decide +kernel
theorem dL_same_890 : decode cL_same 890 = .ok (.iaload, 1) := by decide +kernel
theorem dL_same_891 : decode cL_same 891 = .ok (.if_icmp .ne 139, 3) := by decide +kernel
theorem dL_same_894 : decode cL_same 894 = .ok (.aload_n 0, 1) := by decide +kernel
theorem dL_same_895 : decode cL_same 895 = .ok (.iconst 1, 1) := by decide +kernel
theorem dL_same_896 : decode cL_same 896 = .ok (.invokevirtual 43, 3) := by decide +kernel
theorem dL_same_899 : decode cL_same 899 = .ok (.iload 10, 2) := by decide +kernel
theorem dL_same_901 : decode cL_same 901 = .ok (.if_icmp .ne 129, 3) := by decide +kernel
theorem dL_same_904 : decode cL_same 904 = .ok (.aload_n 0, 1) := by decide +kernel
theorem dL_same_905 : decode cL_same 905 = .ok (.iconst 2, 1) := by decide +kernel
theorem dL_same_906 : decode cL_same 906 = .ok (.invokevirtual 43, 3) := by decide +kernel
theorem dL_same_909 : decode cL_same 909 = .ok (.iload 9, 2) := by decide +kernel
theorem dL_same_911 : decode cL_same 911 = .ok (.if_icmp .ne 119, 3) := by decide +kernel
theorem dL_same_914 : decode cL_same 914 = .ok (.aload_n 0, 1) := by decide +kernel
theorem dL_same_915 : decode cL_same 915 = .ok (.iconst 3, 1) := by decide +kernel
theorem dL_same_916 : decode cL_same 916 = .ok (.invokevirtual 43, 3) := by decide +kernel
theorem dL_same_919 : decode cL_same 919 = .ok (.aload 7, 2) := by decide +kernel
theorem dL_same_921 : decode cL_same 921 = .ok (.iconst 0, 1) := by decide +kernel
theorem dL_same_922 : decode cL_same 922 = .ok (.iaload, 1) := by decide +kernel
theorem dL_same_923 : decode cL_same 923 = .ok (.ifCond .ge 7, 3) := by decide +kernel
theorem dL_same_926 : decode cL_same 926 = .ok (.iconst 0, 1) := by decide +kernel
theorem dL_same_927 : decode cL_same 927 = .ok (.goto 4, 3) := by decide +kernel
theorem dL_same_930 : decode cL_same 930 = .ok (.iconst 1, 1) := by decide +kernel
theorem dL_same_931 : decode cL_same 931 = .ok (.if_icmp .ne 99, 3) := by decide +kernel
theorem dL_same_934 : decode cL_same 934 = .ok (.aload_n 0, 1) := by decide +kernel
theorem dL_same_935 : decode cL_same 935 = .ok (.iconst 4, 1) := by decide +kernel
theorem dL_same_936 : decode cL_same 936 = .ok (.invokevirtual 43, 3) := by decide +kernel
theorem dL_same_939 : decode cL_same 939 = .ok (.iload 11, 2) := by decide +kernel
theorem dL_same_941 : decode cL_same 941 = .ok (.ldc 46, 2) := by decide +kernel
theorem dL_same_943 : decode cL_same 943 = .ok (.iadd, 1) := by decide +kernel
theorem dL_same_944 : decode cL_same 944 = .ok (.if_icmp .ne 86, 3) := by decide +kernel
theorem dL_same_947 : decode cL_same 947 = .ok (.aload_n 0, 1) := by decide +kernel
theorem dL_same_948 : decode cL_same 948 = .ok (.iconst 5, 1) := by decide +kernel
theorem dL_same_949 : decode cL_same 949 = .ok (.invokevirtual 43, 3) := by decide +kernel
theorem dL_same_952 : decode cL_same 952 = .ok (.iload 12, 2) := by decide +kernel
theorem dL_same_954 : decode cL_same 954 = .ok (.if_icmp .ne 76, 3) := by decide +kernel
theorem dL_same_957 : decode cL_same 957 = .ok (.aload_n 0, 1) := by decide +kernel
theorem dL_same_958 : decode cL_same 958 = .ok (.bipush 6, 2) := by decide +kernel
theorem dL_same_960 : decode cL_same 960 = .ok (.invokevirtual 43, 3) := by decide +kernel
theorem dL_same_963 : decode cL_same 963 = .ok (.iload 13, 2) := by decide +kernel
theorem dL_same_965 : decode cL_same 965 = .ok (.if_icmp .ne 65, 3) := by decide +kernel
theorem dL_same_968 : decode cL_same 968 = .ok (.aload_n 0, 1) := by decide +kernel
theorem dL_same_969 : decode cL_same 969 = .ok (.bipush 7, 2) := by decide +kernel
theorem dL_same_971 : decode cL_same 971 = .ok (.invokevirtual 43, 3) := by decide +kernel
theorem dL_same_974 : decode cL_same 974 = .ok (.iload 14, 2) := by decide +kernel
theorem dL_same_976 : decode cL_same 976 = .ok (.if_icmp .ne 54, 3) := by decide +kernel
theorem dL_same_979 : decode cL_same 979 = .ok (.aload_n 0, 1) := by decide +kernel
theorem dL_same_980 : decode cL_same 980 = .ok (.bipush 8, 2) := by decide +kernel
theorem dL_same_982 : decode cL_same 982 = .ok (.invokevirtual 43, 3) := by decide +kernel
theorem dL_same_985 : decode cL_same 985 = .ok (.aload_n 2, 1) := by decide +kernel
theorem dL_same_986 : decode cL_same 986 = .ok (.iconst 0, 1) := by decide +kernel
theorem dL_same_987 : decode cL_same 987 = .ok (.iaload, 1) := by decide +kernel
theorem dL_same_988 : decode cL_same 988 = .ok (.if_icmp .ne 42, 3) := by decide +kernel
theorem dL_same_991 : decode cL_same 991 = .ok (.aload_n 0, 1) := by decide +kernel
theorem dL_same_992 : decode cL_same 992 = .ok (.bipush 9, 2) := by decide +kernel
theorem dL_same_994 : decode cL_same 994 = .ok (.invokevirtual 43, 3) := by decide +kernel
theorem dL_same_997 : decode cL_same 997 = .ok (.aload_n 2, 1) := by decide +kernel
theorem dL_same_998 : decode cL_same 998 = .ok (.iconst 1, 1) := by decide +kernel
theorem dL_same_999 : decode cL_same 999 = .ok (.iaload, 1) := by decide +kernel
theorem dL_same_1000 : decode cL_same 1000 = .ok (.if_icmp .ne 30, 3) := by decide +kernel
theorem dL_same_1003 : decode cL_same 1003 = .ok (.aload_n 0, 1) := by decide +kernel
theorem dL_same_1004 : decode cL_same 1004 = .ok (.bipush 10, 2) := by decide +kernel
theorem dL_same_1006 : decode cL_same 1006 = .ok (.invokevirtual 43, 3) := by decide +kernel
theorem dL_same_1009 : decode cL_same 1009 = .ok (.aload_n 2, 1) := by decide +kernel
theorem dL_same_1010 : decode cL_same 1010 = .ok (.iconst 2, 1) := by decide +kernel
theorem dL_same_1011 : decode cL_same 1011 = .ok (.iaload, 1) := by decide +kernel
theorem dL_same_1012 : decode cL_same 1012 = .ok (.if_icmp .ne 18, 3) := by decide +kernel
theorem dL_same_1015 : decode cL_same 1015 = .ok (.aload_n 0, 1) := by decide +kernel
theorem dL_same_1016 : decode cL_same 1016 = .ok (.iload 10, 2) := by decide +kernel
theorem dL_same_1018 : decode cL_same 1018 = .ok (.iconst 0, 1) := by decide +kernel
theorem dL_same_1019 : decode cL_same 1019 = .ok (.invokevirtual 29, 3) := by decide +kernel
theorem dL_same_1022 : decode cL_same 1022 = .ok (.iconst (-1), 1) := by decide +kernel
theorem dL_same_1023 : decode cL_same 1023 = .ok (.if_icmp .ne 7, 3) := by decide +kernel
theorem dL_same_1026 : decode cL_same 1026 = .ok (.iconst 1, 1) := by decide +kernel
theorem dL_same_1027 : decode cL_same 1027 = .ok (.goto 4, 3) := by decide +kernel
theorem dL_same_1030 : decode cL_same 1030 = .ok (.iconst 0, 1) := by decide +kernel
theorem dL_same_1031 : decode cL_same 1031 = .ok (.ireturn, 1) := by decide +kernel
end
section
theorem dL_would_0 : decode cL_would 0 = .ok (.iload_n 1, 1) := by decide +kernel
theorem dL_would_1 : decode cL_would 1 = .ok (.bipush 40, 2) := by decide +kernel
theorem dL_would_3 : decode cL_would 3 = .ok (.invokestatic 47, 3) := by decide +kernel
theorem dL_would_6 : decode cL_would 6 = .ok (.istore 12, 2) := by decide +kernel
theorem dL_would_8 : decode cL_would 8 = .ok (.iconst 1, 1) := by decide +kernel
theorem dL_would_9 : decode cL_would 9 = .ok (.iload_n 1, 1) := by decide +kernel
theorem dL_would_10 : decode cL_would 10 = .ok (.bipush 6, 2) := by decide +kernel
theorem dL_would_12 : decode cL_would 12 = .ok (.ishr, 1) := by decide +kernel
theorem dL_would_13 : decode cL_would 13 = .ok (.iload_n 1, 1) := by decide +kernel
theorem dL_would_14 : decode cL_would 14 = .ok (.iconst 5, 1) := by decide +kernel
theorem dL_would_15 : decode cL_would 15 = .ok (.ishr, 1) := by decide +kernel
theorem dL_would_16 : decode cL_would 16 = .ok (.iconst 2, 1) := by decide +kernel
theorem dL_would_17 : decode cL_would 17 = .ok (.invokestatic 47, 3) := by decide +kernel
theorem dL_would_20 : decode cL_would 20 = .ok (.ifCond .ne 9, 3) := by decide +kernel
theorem dL_would_23 : decode cL_would 23 = .ok (.sipush 9999, 3) := by decide +kernel
theorem dL_would_26 : decode cL_would 26 = .ok (.goto 5, 3) := by decide +kernel
theorem dL_would_29 : decode cL_would 29 = .ok (.bipush 90, 2) := by decide +kernel
theorem dL_would_31 : decode cL_would 31 = .ok (.invokestatic 47, 3) := by decide +kernel
theorem dL_would_34 : decode cL_would 34 = .ok (.iadd, 1) := by decide +kernel
theorem dL_would_35 : decode cL_would 35 = .ok (.istore 13, 2) := by decide +kernel
theorem dL_would_37 : decode cL_would 37 = .ok (.aload_n 2, 1) := by decide +kernel
theorem dL_would_38 : decode cL_would 38 = .ok (.aload 7, 2) := by decide +kernel
theorem dL_would_40 : decode cL_would 40 = .ok (.iconst 5, 1) := by decide +kernel
theorem dL_would_41 : decode cL_would 41 = .ok (.invokestatic 50, 3) := by decide +kernel
theorem dL_would_44 : decode cL_would 44 = .ok (.aload_n 3, 1) := by decide +kernel
theorem dL_would_45 : decode cL_would 45 = .ok (.aload 8, 2) := by decide +kernel
theorem dL_would_47 : decode cL_would 47 = .ok (.bipush 40, 2) := by decide +kernel
theorem dL_would_49 : decode cL_would 49 = .ok (.invokestatic 50, 3) := by decide +kernel
theorem dL_would_52 : decode cL_would 52 = .ok (.aload 4, 2) := by decide +kernel
theorem dL_would_54 : decode cL_would 54 = .ok (.aload 9, 2) := by decide +kernel
theorem dL_would_56 : decode cL_would 56 = .ok (.bipush 40, 2) := by decide +kernel
theorem dL_would_58 : decode cL_would 58 = .ok (.invokestatic 50, 3) := by decide +kernel
theorem dL_would_61 : decode cL_would 61 = .ok (.aload 6, 2) := by decide +kernel
theorem dL_would_63 : decode cL_would 63 = .ok (.aload 11, 2) := by decide +kernel
theorem dL_would_65 : decode cL_would 65 = .ok (.bipush 30, 2) := by decide +kernel
theorem dL_would_67 : decode cL_would 67 = .ok (.invokestatic 50, 3) := by decide +kernel
theorem dL_would_70 : decode cL_would 70 = .ok (.iconst 0, 1) := by decide +kernel
theorem dL_would_71 : decode cL_would 71 = .ok (.istore 14, 2) := by decide +kernel
theorem dL_would_73 : decode cL_would 73 = .ok (.iload 14, 2) := by decide +kernel
theorem dL_would_75 : decode cL_would 75 = .ok (.sipush 501, 3) := by decide +kernel
theorem dL_would_78 : decode cL_would 78 = .ok (.if_icmp .ge 36, 3) := by decide +kernel
theorem dL_would_81 : decode cL_would 81 = .ok (.aload 8, 2) := by decide +kernel
theorem dL_would_83 : decode cL_would 83 = .ok (.iload 12, 2) := by decide +kernel
theorem dL_would_85 : decode cL_would 85 = .ok (.iaload, 1) := by decide +kernel
theorem dL_would_86 : decode cL_would 86 = .ok (.invokestatic 10, 3) := by decide +kernel
theorem dL_would_89 : decode cL_would 89 = .ok (.iload 13, 2) := by decide +kernel
theorem dL_would_91 : decode cL_would 91 = .ok (.if_icmp .ge 23, 3) := by decide +kernel
theorem dL_would_94 : decode cL_would 94 = .ok (.aload 7, 2) := by decide +kernel
theorem dL_would_96 : decode cL_would 96 = .ok (.aload 8, 2) := by decide +kernel
theorem dL_would_98 : decode cL_would 98 = .ok (.aload 9, 2) := by decide +kernel
theorem dL_would_100 : decode cL_would 100 = .ok (.aload 5, 2) := by decide +kernel
theorem dL_would_102 : decode cL_would 102 = .ok (.aload 11, 2) := by decide +kernel
theorem dL_would_104 : decode cL_would 104 = .ok (.invokestatic 54, 3) := by decide +kernel
theorem dL_would_107 : decode cL_would 107 = .ok (.pop, 1) := by decide +kernel
theorem dL_would_108 : decode cL_would 108 = .ok (.iinc 14 1, 3) := by decide +kernel
theorem dL_would_111 : decode cL_would 111 = .ok (.goto (-38), 3) := by decide +kernel
theorem dL_would_114 : decode cL_would 114 = .ok (.aload_n 0, 1) := by decide +kernel
theorem dL_would_115 : decode cL_would 115 = .ok (.iload 12, 2) := by decide +kernel
theorem dL_would_117 : decode cL_would 117 = .ok (.iload 13, 2) := by decide +kernel
theorem dL_would_119 : decode cL_would 119 = .ok (.invokevirtual 58, 3) := by decide +kernel
theorem dL_would_122 : decode cL_would 122 = .ok (.iload 14, 2) := by decide +kernel
theorem dL_would_124 : decode cL_would 124 = .ok (.sipush 501, 3) := by decide +kernel
theorem dL_would_127 : decode cL_would 127 = .ok (.if_icmp .ge 8, 3) := by decide +kernel
theorem dL_would_130 : decode cL_would 130 = .ok (.iload 14, 2) := by decide +kernel
theorem dL_would_132 : decode cL_would 132 = .ok (.goto 5, 3) := by decide +kernel
theorem dL_would_135 : decode cL_would 135 = .ok (.bipush (-6), 2) := by decide +kernel
theorem dL_would_137 : decode cL_would 137 = .ok (.if_icmp .eq 5, 3) := by decide +kernel
theorem dL_would_140 : decode cL_would 140 = .ok (.iconst 0, 1) := by decide +kernel
theorem dL_would_141 : decode cL_would 141 = .ok (.ireturn, 1) := by decide +kernel
theorem dL_would_142 : decode cL_would 142 = .ok (.aload_n 3, 1) := by decide +kernel
theorem dL_would_143 : decode cL_would 143 = .ok (.aload 8, 2) := by decide +kernel
theorem dL_would_145 : decode cL_would 145 = .ok (.bipush 40, 2) := by decide +kernel
theorem dL_would_147 : decode cL_would 147 = .ok (.invokestatic 50, 3) := by decide +kernel
theorem dL_would_150 : decode cL_would 150 = .ok (.aload 4, 2) := by decide +kernel
theorem dL_would_152 : decode cL_would 152 = .ok (.aload 9, 2) := by decide +kernel
theorem dL_would_154 : decode cL_would 154 = .ok (.bipush 40, 2) := by decide +kernel
theorem dL_would_156 : decode cL_would 156 = .ok (.invokestatic 50, 3) := by decide +kernel
theorem dL_would_159 : decode cL_would 159 = .ok (.iconst 0, 1) := by decide +kernel
theorem dL_would_160 : decode cL_would 160 = .ok (.istore 15, 2) := by decide +kernel
theorem dL_would_162 : decode cL_would 162 = .ok (.iload 15, 2) := by decide +kernel
theorem dL_would_164 : decode cL_would 164 = .ok (.bipush 36, 2) := by decide +kernel
theorem dL_would_166 : decode cL_would 166 = .ok (.if_icmp .ge 15, 3) := by decide +kernel
theorem dL_would_169 : decode cL_would 169 = .ok (.aload 10, 2) := by decide +kernel
theorem dL_would_171 : decode cL_would 171 = .ok (.iload 15, 2) := by decide +kernel
theorem dL_would_173 : decode cL_would 173 = .ok (.iconst 0, 1) := by decide +kernel
theorem dL_would_174 : decode cL_would 174 = .ok (.iastore, 1) := by decide +kernel
theorem dL_would_175 : decode cL_would 175 = .ok (.iinc 15 1, 3) := by decide +kernel
theorem dL_would_178 : decode cL_would 178 = .ok (.goto (-16), 3) := by decide +kernel
theorem dL_would_181 : decode cL_would 181 = .ok (.iconst 0, 1) := by decide +kernel
theorem dL_would_182 : decode cL_would 182 = .ok (.istore 14, 2) := by decide +kernel
theorem dL_would_184 : decode cL_would 184 = .ok (.iconst 0, 1) := by decide +kernel
theorem dL_would_185 : decode cL_would 185 = .ok (.istore 15, 2) := by decide +kernel
theorem dL_would_187 : decode cL_would 187 = .ok (.iload 14, 2) := by decide +kernel
theorem dL_would_189 : decode cL_would 189 = .ok (.sipush 501, 3) := by decide +kernel
theorem dL_would_192 : decode cL_would 192 = .ok (.if_icmp .ge 80, 3) := by decide +kernel
theorem dL_would_195 : decode cL_would 195 = .ok (.iload 15, 2) := by decide +kernel
theorem dL_would_197 : decode cL_would 197 = .ok (.ifCond .ne 75, 3) := by decide +kernel
theorem dL_would_200 : decode cL_would 200 = .ok (.iconst 1, 1) := by decide +kernel
theorem dL_would_201 : decode cL_would 201 = .ok (.istore 15, 2) := by decide +kernel
theorem dL_would_203 : decode cL_would 203 = .ok (.iconst 0, 1) := by decide +kernel
theorem dL_would_204 : decode cL_would 204 = .ok (.istore 16, 2) := by decide +kernel
theorem dL_would_206 : decode cL_would 206 = .ok (.iload 16, 2) := by decide +kernel
theorem dL_would_208 : decode cL_would 208 = .ok (.bipush 40, 2) := by decide +kernel
theorem dL_would_210 : decode cL_would 210 = .ok (.if_icmp .ge 37, 3) := by decide +kernel
theorem dL_would_213 : decode cL_would 213 = .ok (.iload 15, 2) := by decide +kernel
theorem dL_would_215 : decode cL_would 215 = .ok (.ifCond .eq 23, 3) := by decide +kernel
theorem dL_would_218 : decode cL_would 218 = .ok (.aload 8, 2) := by decide +kernel
theorem dL_would_220 : decode cL_would 220 = .ok (.iload 16, 2) := by decide +kernel
theorem dL_would_222 : decode cL_would 222 = .ok (.iaload, 1) := by decide +kernel
theorem dL_would_223 : decode cL_would 223 = .ok (.ifCond .ne 15, 3) := by decide +kernel
theorem dL_would_226 : decode cL_would 226 = .ok (.aload 9, 2) := by decide +kernel
theorem dL_would_228 : decode cL_would 228 = .ok (.iload 16, 2) := by decide +kernel
theorem dL_would_230 : decode cL_would 230 = .ok (.iaload, 1) := by decide +kernel
theorem dL_would_231 : decode cL_would 231 = .ok (.ifCond .ne 7, 3) := by decide +kernel
theorem dL_would_234 : decode cL_would 234 = .ok (.iconst 1, 1) := by decide +kernel
theorem dL_would_235 : decode cL_would 235 = .ok (.goto 4, 3) := by decide +kernel
theorem dL_would_238 : decode cL_would 238 = .ok (.iconst 0, 1) := by decide +kernel
theorem dL_would_239 : decode cL_would 239 = .ok (.istore 15, 2) := by decide +kernel
theorem dL_would_241 : decode cL_would 241 = .ok (.iinc 16 1, 3) := by decide +kernel
theorem dL_would_244 : decode cL_would 244 = .ok (.goto (-38), 3) := by decide +kernel
theorem dL_would_247 : decode cL_would 247 = .ok (.iload 15, 2) := by decide +kernel
theorem dL_would_249 : decode cL_would 249 = .ok (.ifCond .ne (-62), 3) := by decide +kernel
theorem dL_would_252 : decode cL_would 252 = .ok (.aload 7, 2) := by decide +kernel
theorem dL_would_254 : decode cL_would 254 = .ok (.aload 8, 2) := by decide +kernel
theorem dL_would_256 : decode cL_would 256 = .ok (.aload 9, 2) := by decide +kernel
theorem dL_would_258 : decode cL_would 258 = .ok (.aload 10, 2) := by decide +kernel
theorem dL_would_260 : decode cL_would 260 = .ok (.aload 11, 2) := by decide +kernel
theorem dL_would_262 : decode cL_would 262 = .ok (.invokestatic 54, 3) := by decide +kernel
theorem dL_would_265 : decode cL_would 265 = .ok (.pop, 1) := by decide +kernel
theorem dL_would_266 : decode cL_would 266 = .ok (.iinc 14 1, 3) := by decide +kernel
theorem dL_would_269 : decode cL_would 269 = .ok (.goto (-82), 3) := by decide +kernel
theorem dL_would_272 : decode cL_would 272 = .ok (.aload_n 0, 1) := by decide +kernel
theorem dL_would_273 : decode cL_would 273 = .ok (.invokevirtual 61, 3) := by decide +kernel
theorem dL_would_276 : decode cL_would 276 = .ok (.iload 14, 2) := by decide +kernel
theorem dL_would_278 : decode cL_would 278 = .ok (.sipush 501, 3) := by decide +kernel
theorem dL_would_281 : decode cL_would 281 = .ok (.if_icmp .ge 8, 3) := by decide +kernel
theorem dL_would_284 : decode cL_would 284 = .ok (.iload 14, 2) := by decide +kernel
theorem dL_would_286 : decode cL_would 286 = .ok (.goto 5, 3) := by decide +kernel
theorem dL_would_289 : decode cL_would 289 = .ok (.bipush (-6), 2) := by decide +kernel
theorem dL_would_291 : decode cL_would 291 = .ok (.if_icmp .eq 5, 3) := by decide +kernel
theorem dL_would_294 : decode cL_would 294 = .ok (.iconst 0, 1) := by decide +kernel
theorem dL_would_295 : decode cL_would 295 = .ok (.ireturn, 1) := by decide +kernel
theorem dL_would_296 : decode cL_would 296 = .ok (.aload_n 2, 1) := by decide +kernel
theorem dL_would_297 : decode cL_would 297 = .ok (.iconst 4, 1) := by decide +kernel
theorem dL_would_298 : decode cL_would 298 = .ok (.iaload, 1) := by decide +kernel
theorem dL_would_299 : decode cL_would 299 = .ok (.ifCond .ne 5, 3) := by decide +kernel
theorem dL_would_302 : decode cL_would 302 = .ok (.iconst 1, 1) := by decide +kernel
theorem dL_would_303 : decode cL_would 303 = .ok (.ireturn, 1) := by decide +kernel
theorem dL_would_304 : decode cL_would 304 = .ok (.iload_n 1, 1) := by decide +kernel
theorem dL_would_305 : decode cL_would 305 = .ok (.bipush 9, 2) := by decide +kernel
theorem dL_would_307 : decode cL_would 307 = .ok (.ishr, 1) := by decide +kernel
theorem dL_would_308 : decode cL_would 308 = .ok (.aload_n 2, 1) := by decide +kernel
theorem dL_would_309 : decode cL_would 309 = .ok (.iconst 4, 1) := by decide +kernel
theorem dL_would_310 : decode cL_would 310 = .ok (.iaload, 1) := by decide +kernel
theorem dL_would_311 : decode cL_would 311 = .ok (.invokestatic 47, 3) := by decide +kernel
theorem dL_would_314 : decode cL_would 314 = .ok (.istore 16, 2) := by decide +kernel
theorem dL_would_316 : decode cL_would 316 = .ok (.iconst 1, 1) := by decide +kernel
theorem dL_would_317 : decode cL_would 317 = .ok (.iload_n 1, 1) := by decide +kernel
theorem dL_would_318 : decode cL_would 318 = .ok (.bipush 12, 2) := by decide +kernel
theorem dL_would_320 : decode cL_would 320 = .ok (.ishr, 1) := by decide +kernel
theorem dL_would_321 : decode cL_would 321 = .ok (.bipush 40, 2) := by decide +kernel
theorem dL_would_323 : decode cL_would 323 = .ok (.invokestatic 47, 3) := by decide +kernel
theorem dL_would_326 : decode cL_would 326 = .ok (.iadd, 1) := by decide +kernel
theorem dL_would_327 : decode cL_would 327 = .ok (.istore 17, 2) := by decide +kernel
theorem dL_would_329 : decode cL_would 329 = .ok (.iconst (-1), 1) := by decide +kernel
theorem dL_would_330 : decode cL_would 330 = .ok (.istore 18, 2) := by decide +kernel
theorem dL_would_332 : decode cL_would 332 = .ok (.iconst 0, 1) := by decide +kernel
theorem dL_would_333 : decode cL_would 333 = .ok (.istore 19, 2) := by decide +kernel
theorem dL_would_335 : decode cL_would 335 = .ok (.iload 19, 2) := by decide +kernel
theorem dL_would_337 : decode cL_would 337 = .ok (.bipush 36, 2) := by decide +kernel
theorem dL_would_339 : decode cL_would 339 = .ok (.if_icmp .ge 37, 3) := by decide +kernel
theorem dL_would_342 : decode cL_would 342 = .ok (.iload 16, 2) := by decide +kernel
theorem dL_would_344 : decode cL_would 344 = .ok (.ifCond .lt 32, 3) := by decide +kernel
theorem dL_would_347 : decode cL_would 347 = .ok (.aload 5, 2) := by decide +kernel
theorem dL_would_349 : decode cL_would 349 = .ok (.iload 19, 2) := by decide +kernel
theorem dL_would_351 : decode cL_would 351 = .ok (.iaload, 1) := by decide +kernel
theorem dL_would_352 : decode cL_would 352 = .ok (.ifCond .ne 6, 3) := by decide +kernel
theorem dL_would_355 : decode cL_would 355 = .ok (.goto 15, 3) := by decide +kernel
theorem dL_would_358 : decode cL_would 358 = .ok (.aload 5, 2) := by decide +kernel
theorem dL_would_360 : decode cL_would 360 = .ok (.iload 19, 2) := by decide +kernel
theorem dL_would_362 : decode cL_would 362 = .ok (.iaload, 1) := by decide +kernel
theorem dL_would_363 : decode cL_would 363 = .ok (.iconst 1, 1) := by decide +kernel
theorem dL_would_364 : decode cL_would 364 = .ok (.isub, 1) := by decide +kernel
theorem dL_would_365 : decode cL_would 365 = .ok (.istore 18, 2) := by decide +kernel
theorem dL_would_367 : decode cL_would 367 = .ok (.iinc 16 (-1), 3) := by decide +kernel
theorem dL_would_370 : decode cL_would 370 = .ok (.iinc 19 1, 3) := by decide +kernel
theorem dL_would_373 : decode cL_would 373 = .ok (.goto (-38), 3) := by decide +kernel
theorem dL_would_376 : decode cL_would 376 = .ok (.iconst 0, 1) := by decide +kernel
theorem dL_would_377 : decode cL_would 377 = .ok (.istore 19, 2) := by decide +kernel
theorem dL_would_379 : decode cL_would 379 = .ok (.iconst (-1), 1) := by decide +kernel
theorem dL_would_380 : decode cL_would 380 = .ok (.istore 20, 2) := by decide +kernel
theorem dL_would_382 : decode cL_would 382 = .ok (.bipush 60, 2) := by decide +kernel
theorem dL_would_384 : decode cL_would 384 = .ok (.istore 21, 2) := by decide +kernel
theorem dL_would_386 : decode cL_would 386 = .ok (.iload 21, 2) := by decide +kernel
theorem dL_would_388 : decode cL_would 388 = .ok (.ifCond .le 132, 3) := by decide +kernel
theorem dL_would_391 : decode cL_would 391 = .ok (.aload_n 2, 1) := by decide +kernel
theorem dL_would_392 : decode cL_would 392 = .ok (.aload 7, 2) := by decide +kernel
theorem dL_would_394 : decode cL_would 394 = .ok (.iconst 5, 1) := by decide +kernel
theorem dL_would_395 : decode cL_would 395 = .ok (.invokestatic 50, 3) := by decide +kernel
theorem dL_would_398 : decode cL_would 398 = .ok (.aload_n 3, 1) := by decide +kernel
theorem dL_would_399 : decode cL_would 399 = .ok (.aload 8, 2) := by decide +kernel
theorem dL_would_401 : decode cL_would 401 = .ok (.bipush 40, 2) := by decide +kernel
theorem dL_would_403 : decode cL_would 403 = .ok (.invokestatic 50, 3) := by decide +kernel
theorem dL_would_406 : decode cL_would 406 = .ok (.aload 4, 2) := by decide +kernel
theorem dL_would_408 : decode cL_would 408 = .ok (.aload 9, 2) := by decide +kernel
theorem dL_would_410 : decode cL_would 410 = .ok (.bipush 40, 2) := by decide +kernel
theorem dL_would_412 : decode cL_would 412 = .ok (.invokestatic 50, 3) := by decide +kernel
theorem dL_would_415 : decode cL_would 415 = .ok (.aload 6, 2) := by decide +kernel
theorem dL_would_417 : decode cL_would 417 = .ok (.aload 11, 2) := by decide +kernel
theorem dL_would_419 : decode cL_would 419 = .ok (.bipush 30, 2) := by decide +kernel
theorem dL_would_421 : decode cL_would 421 = .ok (.invokestatic 50, 3) := by decide +kernel
theorem dL_would_424 : decode cL_would 424 = .ok (.aload 11, 2) := by decide +kernel
theorem dL_would_426 : decode cL_would 426 = .ok (.iconst 5, 1) := by decide +kernel
theorem dL_would_427 : decode cL_would 427 = .ok (.iload 18, 2) := by decide +kernel
theorem dL_would_429 : decode cL_would 429 = .ok (.imul, 1) := by decide +kernel
theorem dL_would_430 : decode cL_would 430 = .ok (.iconst 2, 1) := by decide +kernel
theorem dL_would_431 : decode cL_would 431 = .ok (.iadd, 1) := by decide +kernel
theorem dL_would_432 : decode cL_would 432 = .ok (.iload 21, 2) := by decide +kernel
theorem dL_would_434 : decode cL_would 434 = .ok (.iastore, 1) := by decide +kernel
theorem dL_would_435 : decode cL_would 435 = .ok (.iconst 0, 1) := by decide +kernel
theorem dL_would_436 : decode cL_would 436 = .ok (.istore 22, 2) := by decide +kernel
theorem dL_would_438 : decode cL_would 438 = .ok (.iconst 0, 1) := by decide +kernel
theorem dL_would_439 : decode cL_would 439 = .ok (.istore 23, 2) := by decide +kernel
theorem dL_would_441 : decode cL_would 441 = .ok (.iload 23, 2) := by decide +kernel
theorem dL_would_443 : decode cL_would 443 = .ok (.iload 17, 2) := by decide +kernel
theorem dL_would_445 : decode cL_would 445 = .ok (.if_icmp .ge 51, 3) := by decide +kernel
theorem dL_would_448 : decode cL_would 448 = .ok (.aload 7, 2) := by decide +kernel
theorem dL_would_450 : decode cL_would 450 = .ok (.aload 8, 2) := by decide +kernel
theorem dL_would_452 : decode cL_would 452 = .ok (.aload 9, 2) := by decide +kernel
theorem dL_would_454 : decode cL_would 454 = .ok (.aload 5, 2) := by decide +kernel
theorem dL_would_456 : decode cL_would 456 = .ok (.aload 11, 2) := by decide +kernel
theorem dL_would_458 : decode cL_would 458 = .ok (.invokestatic 54, 3) := by decide +kernel
theorem dL_would_461 : decode cL_would 461 = .ok (.pop, 1) := by decide +kernel
theorem dL_would_462 : decode cL_would 462 = .ok (.aload 8, 2) := by decide +kernel
theorem dL_would_464 : decode cL_would 464 = .ok (.iload 12, 2) := by decide +kernel
theorem dL_would_466 : decode cL_would 466 = .ok (.iaload, 1) := by decide +kernel
theorem dL_would_467 : decode cL_would 467 = .ok (.invokestatic 10, 3) := by decide +kernel
theorem dL_would_470 : decode cL_would 470 = .ok (.iload 22, 2) := by decide +kernel
theorem dL_would_472 : decode cL_would 472 = .ok (.if_icmp .le 14, 3) := by decide +kernel
theorem dL_would_475 : decode cL_would 475 = .ok (.aload 8, 2) := by decide +kernel
theorem dL_would_477 : decode cL_would 477 = .ok (.iload 12, 2) := by decide +kernel
theorem dL_would_479 : decode cL_would 479 = .ok (.iaload, 1) := by decide +kernel
theorem dL_would_480 : decode cL_would 480 = .ok (.invokestatic 10, 3) := by decide +kernel
theorem dL_would_483 : decode cL_would 483 = .ok (.goto 5, 3) := by decide +kernel
theorem dL_would_486 : decode cL_would 486 = .ok (.iload 22, 2) := by decide +kernel
theorem dL_would_488 : decode cL_would 488 = .ok (.istore 22, 2) := by decide +kernel
theorem dL_would_490 : decode cL_would 490 = .ok (.iinc 23 1, 3) := by decide +kernel
theorem dL_would_493 : decode cL_would 493 = .ok (.goto (-52), 3) := by decide +kernel
theorem dL_would_496 : decode cL_would 496 = .ok (.iload 22, 2) := by decide +kernel
theorem dL_would_498 : decode cL_would 498 = .ok (.iload 20, 2) := by decide +kernel
theorem dL_would_500 : decode cL_would 500 = .ok (.if_icmp .ge 6, 3) := by decide +kernel
theorem dL_would_503 : decode cL_would 503 = .ok (.goto 11, 3) := by decide +kernel
theorem dL_would_506 : decode cL_would 506 = .ok (.iload 22, 2) := by decide +kernel
theorem dL_would_508 : decode cL_would 508 = .ok (.istore 20, 2) := by decide +kernel
theorem dL_would_510 : decode cL_would 510 = .ok (.iload 21, 2) := by decide +kernel
theorem dL_would_512 : decode cL_would 512 = .ok (.istore 19, 2) := by decide +kernel
theorem dL_would_514 : decode cL_would 514 = .ok (.iinc 21 (-1), 3) := by decide +kernel
theorem dL_would_517 : decode cL_would 517 = .ok (.goto (-131), 3) := by decide +kernel
theorem dL_would_520 : decode cL_would 520 = .ok (.iload_n 1, 1) := by decide +kernel
theorem dL_would_521 : decode cL_would 521 = .ok (.bipush 9, 2) := by decide +kernel
theorem dL_would_523 : decode cL_would 523 = .ok (.ishr, 1) := by decide +kernel
theorem dL_would_524 : decode cL_would 524 = .ok (.aload_n 2, 1) := by decide +kernel
theorem dL_would_525 : decode cL_would 525 = .ok (.iconst 4, 1) := by decide +kernel
theorem dL_would_526 : decode cL_would 526 = .ok (.iaload, 1) := by decide +kernel
theorem dL_would_527 : decode cL_would 527 = .ok (.invokestatic 47, 3) := by decide +kernel
theorem dL_would_530 : decode cL_would 530 = .ok (.istore 16, 2) := by decide +kernel
theorem dL_would_532 : decode cL_would 532 = .ok (.aload_n 0, 1) := by decide +kernel
theorem dL_would_533 : decode cL_would 533 = .ok (.iload 16, 2) := by decide +kernel
theorem dL_would_535 : decode cL_would 535 = .ok (.iload 12, 2) := by decide +kernel
theorem dL_would_537 : decode cL_would 537 = .ok (.iload 17, 2) := by decide +kernel
theorem dL_would_539 : decode cL_would 539 = .ok (.iconst 0, 1) := by decide +kernel
theorem dL_would_540 : decode cL_would 540 = .ok (.invokevirtual 65, 3) := by decide +kernel
theorem dL_would_543 : decode cL_would 543 = .ok (.iload 19, 2) := by decide +kernel
theorem dL_would_545 : decode cL_would 545 = .ok (.if_icmp .ne 23, 3) := by decide +kernel
theorem dL_would_548 : decode cL_would 548 = .ok (.aload_n 0, 1) := by decide +kernel
theorem dL_would_549 : decode cL_would 549 = .ok (.iload 16, 2) := by decide +kernel
theorem dL_would_551 : decode cL_would 551 = .ok (.iload 12, 2) := by decide +kernel
theorem dL_would_553 : decode cL_would 553 = .ok (.iload 17, 2) := by decide +kernel
theorem dL_would_555 : decode cL_would 555 = .ok (.iconst 1, 1) := by decide +kernel
theorem dL_would_556 : decode cL_would 556 = .ok (.invokevirtual 65, 3) := by decide +kernel
theorem dL_would_559 : decode cL_would 559 = .ok (.iload 20, 2) := by decide +kernel
theorem dL_would_561 : decode cL_would 561 = .ok (.if_icmp .ne 7, 3) := by decide +kernel
theorem dL_would_564 : decode cL_would 564 = .ok (.iconst 1, 1) := by decide +kernel
theorem dL_would_565 : decode cL_would 565 = .ok (.goto 4, 3) := by decide +kernel
theorem dL_would_568 : decode cL_would 568 = .ok (.iconst 0, 1) := by decide +kernel
theorem dL_would_569 : decode cL_would 569 = .ok (.ireturn, 1) := by decide +kernel
end
section
theorem dL_law_0 : decode cL_law 0 = .ok (.new 24, 3) := by decide +kernel
theorem dL_law_3 : decode cL_law 3 = .ok (.dup, 1) := by decide +kernel
theorem dL_law_4 : decode cL_law 4 = .ok (.invokespecial 69, 3) := by decide +kernel
theorem dL_law_7 : decode cL_law 7 = .ok (.astore_n 1, 1) := by decide +kernel
theorem dL_law_8 : decode cL_law 8 = .ok (.iconst 5, 1) := by decide +kernel
theorem dL_law_9 : decode cL_law 9 = .ok (.newarray .int, 2) := by decide +kernel
theorem dL_law_11 : decode cL_law 11 = .ok (.astore_n 2, 1) := by decide +kernel
theorem dL_law_12 : decode cL_law 12 = .ok (.bipush 40, 2) := by decide +kernel
theorem dL_law_14 : decode cL_law 14 = .ok (.newarray .int, 2) := by decide +kernel
theorem dL_law_16 : decode cL_law 16 = .ok (.astore_n 3, 1) := by decide +kernel
theorem dL_law_17 : decode cL_law 17 = .ok (.bipush 40, 2) := by decide +kernel
theorem dL_law_19 : decode cL_law 19 = .ok (.newarray .int, 2) := by decide +kernel
theorem dL_law_21 : decode cL_law 21 = .ok (.astore 4, 2) := by decide +kernel
theorem dL_law_23 : decode cL_law 23 = .ok (.bipush 36, 2) := by decide +kernel
theorem dL_law_25 : decode cL_law 25 = .ok (.newarray .int, 2) := by decide +kernel
theorem dL_law_27 : decode cL_law 27 = .ok (.astore 5, 2) := by decide +kernel
theorem dL_law_29 : decode cL_law 29 = .ok (.bipush 30, 2) := by decide +kernel
theorem dL_law_31 : decode cL_law 31 = .ok (.newarray .int, 2) := by decide +kernel
theorem dL_law_33 : decode cL_law 33 = .ok (.astore 6, 2) := by decide +kernel
theorem dL_law_35 : decode cL_law 35 = .ok (.iconst 2, 1) := by decide +kernel
theorem dL_law_36 : decode cL_law 36 = .ok (.newarray .int, 2) := by decide +kernel
theorem dL_law_38 : decode cL_law 38 = .ok (.astore 7, 2) := by decide +kernel
theorem dL_law_40 : decode cL_law 40 = .ok (.bipush 60, 2) := by decide +kernel
theorem dL_law_42 : decode cL_law 42 = .ok (.newarray .int, 2) := by decide +kernel
theorem dL_law_44 : decode cL_law 44 = .ok (.astore 8, 2) := by decide +kernel
theorem dL_law_46 : decode cL_law 46 = .ok (.iconst 5, 1) := by decide +kernel
theorem dL_law_47 : decode cL_law 47 = .ok (.newarray .int, 2) := by decide +kernel
theorem dL_law_49 : decode cL_law 49 = .ok (.astore 9, 2) := by decide +kernel
theorem dL_law_51 : decode cL_law 51 = .ok (.bipush 40, 2) := by decide +kernel
theorem dL_law_53 : decode cL_law 53 = .ok (.newarray .int, 2) := by decide +kernel
theorem dL_law_55 : decode cL_law 55 = .ok (.astore 10, 2) := by decide +kernel
theorem dL_law_57 : decode cL_law 57 = .ok (.bipush 40, 2) := by decide +kernel
theorem dL_law_59 : decode cL_law 59 = .ok (.newarray .int, 2) := by decide +kernel
theorem dL_law_61 : decode cL_law 61 = .ok (.astore 11, 2) := by decide +kernel
theorem dL_law_63 : decode cL_law 63 = .ok (.bipush 36, 2) := by decide +kernel
theorem dL_law_65 : decode cL_law 65 = .ok (.newarray .int, 2) := by decide +kernel
theorem dL_law_67 : decode cL_law 67 = .ok (.astore 12, 2) := by decide +kernel
theorem dL_law_69 : decode cL_law 69 = .ok (.bipush 30, 2) := by decide +kernel
theorem dL_law_71 : decode cL_law 71 = .ok (.newarray .int, 2) := by decide +kernel
theorem dL_law_73 : decode cL_law 73 = .ok (.astore 13, 2) := by decide +kernel
theorem dL_law_75 : decode cL_law 75 = .ok (.aload_n 2, 1) := by decide +kernel
theorem dL_law_76 : decode cL_law 76 = .ok (.iconst 0, 1) := by decide +kernel
theorem dL_law_77 : decode cL_law 77 = .ok (.bipush 80, 2) := by decide +kernel
theorem dL_law_79 : decode cL_law 79 = .ok (.iastore, 1) := by decide +kernel
theorem dL_law_80 : decode cL_law 80 = .ok (.aload_n 2, 1) := by decide +kernel
theorem dL_law_81 : decode cL_law 81 = .ok (.iconst 1, 1) := by decide +kernel
theorem dL_law_82 : decode cL_law 82 = .ok (.iconst 2, 1) := by decide +kernel
theorem dL_law_83 : decode cL_law 83 = .ok (.iastore, 1) := by decide +kernel
theorem dL_law_84 : decode cL_law 84 = .ok (.aload_n 2, 1) := by decide +kernel
theorem dL_law_85 : decode cL_law 85 = .ok (.iconst 2, 1) := by decide +kernel
theorem dL_law_86 : decode cL_law 86 = .ok (.sipush 500, 3) := by decide +kernel
theorem dL_law_89 : decode cL_law 89 = .ok (.iastore, 1) := by decide +kernel
theorem dL_law_90 : decode cL_law 90 = .ok (.aload 7, 2) := by decide +kernel
theorem dL_law_92 : decode cL_law 92 = .ok (.iconst 0, 1) := by decide +kernel
theorem dL_law_93 : decode cL_law 93 = .ok (.iconst (-1), 1) := by decide +kernel
theorem dL_law_94 : decode cL_law 94 = .ok (.iastore, 1) := by decide +kernel
theorem dL_law_95 : decode cL_law 95 = .ok (.iconst 0, 1) := by decide +kernel
theorem dL_law_96 : decode cL_law 96 = .ok (.istore 14, 2) := by decide +kernel
theorem dL_law_98 : decode cL_law 98 = .ok (.iload 14, 2) := by decide +kernel
theorem dL_law_100 : decode cL_law 100 = .ok (.bipush 24, 2) := by decide +kernel
theorem dL_law_102 : decode cL_law 102 = .ok (.if_icmp .ge 879, 3) := by decide +kernel
theorem dL_law_105 : decode cL_law 105 = .ok (.aload_n 0, 1) := by decide +kernel
theorem dL_law_106 : decode cL_law 106 = .ok (.iconst 2, 1) := by decide +kernel
theorem dL_law_107 : decode cL_law 107 = .ok (.iload 14, 2) := by decide +kernel
theorem dL_law_109 : decode cL_law 109 = .ok (.imul, 1) := by decide +kernel
theorem dL_law_110 : decode cL_law 110 = .ok (.invokestatic 70, 3) := by decide +kernel
theorem dL_law_113 : decode cL_law 113 = .ok (.istore 15, 2) := by decide +kernel
theorem dL_law_115 : decode cL_law 115 = .ok (.aload_n 0, 1) := by decide +kernel
theorem dL_law_116 : decode cL_law 116 = .ok (.iconst 2, 1) := by decide +kernel
theorem dL_law_117 : decode cL_law 117 = .ok (.iload 14, 2) := by decide +kernel
theorem dL_law_119 : decode cL_law 119 = .ok (.imul, 1) := by decide +kernel
theorem dL_law_120 : decode cL_law 120 = .ok (.iconst 1, 1) := by decide +kernel
theorem dL_law_121 : decode cL_law 121 = .ok (.iadd, 1) := by decide +kernel
theorem dL_law_122 : decode cL_law 122 = .ok (.invokestatic 70, 3) := by decide +kernel
theorem dL_law_125 : decode cL_law 125 = .ok (.istore 16, 2) := by decide +kernel
theorem dL_law_127 : decode cL_law 127 = .ok (.iload 14, 2) := by decide +kernel
theorem dL_law_129 : decode cL_law 129 = .ok (.iconst 2, 1) := by decide +kernel
theorem dL_law_130 : decode cL_law 130 = .ok (.if_icmp .ge 7, 3) := by decide +kernel
theorem dL_law_133 : decode cL_law 133 = .ok (.iconst 0, 1) := by decide +kernel
theorem dL_law_134 : decode cL_law 134 = .ok (.goto 10, 3) := by decide +kernel
theorem dL_law_137 : decode cL_law 137 = .ok (.iload 15, 2) := by decide +kernel
theorem dL_law_139 : decode cL_law 139 = .ok (.bipush 12, 2) := by decide +kernel
theorem dL_law_141 : decode cL_law 141 = .ok (.invokestatic 47, 3) := by decide +kernel
theorem dL_law_144 : decode cL_law 144 = .ok (.istore 17, 2) := by decide +kernel
theorem dL_law_146 : decode cL_law 146 = .ok (.iload 15, 2) := by decide +kernel
theorem dL_law_148 : decode cL_law 148 = .ok (.iconst 4, 1) := by decide +kernel
theorem dL_law_149 : decode cL_law 149 = .ok (.ishr, 1) := by decide +kernel
theorem dL_law_150 : decode cL_law 150 = .ok (.iload 15, 2) := by decide +kernel
theorem dL_law_152 : decode cL_law 152 = .ok (.bipush 10, 2) := by decide +kernel
theorem dL_law_154 : decode cL_law 154 = .ok (.ishr, 1) := by decide +kernel
theorem dL_law_155 : decode cL_law 155 = .ok (.iconst 2, 1) := by decide +kernel
theorem dL_law_156 : decode cL_law 156 = .ok (.invokestatic 47, 3) := by decide +kernel
theorem dL_law_159 : decode cL_law 159 = .ok (.ifCond .ne 8, 3) := by decide +kernel
theorem dL_law_162 : decode cL_law 162 = .ok (.bipush 36, 2) := by decide +kernel
theorem dL_law_164 : decode cL_law 164 = .ok (.goto 4, 3) := by decide +kernel
theorem dL_law_167 : decode cL_law 167 = .ok (.iconst 5, 1) := by decide +kernel
theorem dL_law_168 : decode cL_law 168 = .ok (.invokestatic 47, 3) := by decide +kernel
theorem dL_law_171 : decode cL_law 171 = .ok (.istore 18, 2) := by decide +kernel
theorem dL_law_173 : decode cL_law 173 = .ok (.iload 17, 2) := by decide +kernel
theorem dL_law_175 : decode cL_law 175 = .ok (.iconst 3, 1) := by decide +kernel
theorem dL_law_176 : decode cL_law 176 = .ok (.if_icmp .ge 282, 3) := by decide +kernel
theorem dL_law_179 : decode cL_law 179 = .ok (.iload 16, 2) := by decide +kernel
theorem dL_law_181 : decode cL_law 181 = .ok (.iconst 4, 1) := by decide +kernel
theorem dL_law_182 : decode cL_law 182 = .ok (.invokestatic 47, 3) := by decide +kernel
theorem dL_law_185 : decode cL_law 185 = .ok (.istore 19, 2) := by decide +kernel
theorem dL_law_187 : decode cL_law 187 = .ok (.iload 16, 2) := by decide +kernel
theorem dL_law_189 : decode cL_law 189 = .ok (.iconst 2, 1) := by decide +kernel
theorem dL_law_190 : decode cL_law 190 = .ok (.ishr, 1) := by decide +kernel
theorem dL_law_191 : decode cL_law 191 = .ok (.sipush 1999, 3) := by decide +kernel
theorem dL_law_194 : decode cL_law 194 = .ok (.invokestatic 47, 3) := by decide +kernel
theorem dL_law_197 : decode cL_law 197 = .ok (.sipush 999, 3) := by decide +kernel
theorem dL_law_200 : decode cL_law 200 = .ok (.isub, 1) := by decide +kernel
theorem dL_law_201 : decode cL_law 201 = .ok (.istore 20, 2) := by decide +kernel
theorem dL_law_203 : decode cL_law 203 = .ok (.iconst 1, 1) := by decide +kernel
theorem dL_law_204 : decode cL_law 204 = .ok (.iload 16, 2) := by decide +kernel
theorem dL_law_206 : decode cL_law 206 = .ok (.bipush 7, 2) := by decide +kernel
theorem dL_law_208 : decode cL_law 208 = .ok (.ishr, 1) := by decide +kernel
theorem dL_law_209 : decode cL_law 209 = .ok (.bipush 60, 2) := by decide +kernel
theorem dL_law_211 : decode cL_law 211 = .ok (.invokestatic 47, 3) := by decide +kernel
theorem dL_law_214 : decode cL_law 214 = .ok (.iadd, 1) := by decide +kernel
theorem dL_law_215 : decode cL_law 215 = .ok (.istore 21, 2) := by decide +kernel
theorem dL_law_217 : decode cL_law 217 = .ok (.iload 16, 2) := by decide +kernel
theorem dL_law_219 : decode cL_law 219 = .ok (.bipush 11, 2) := by decide +kernel
theorem dL_law_221 : decode cL_law 221 = .ok (.ishr, 1) := by decide +kernel
theorem dL_law_222 : decode cL_law 222 = .ok (.bipush 60, 2) := by decide +kernel
theorem dL_law_224 : decode cL_law 224 = .ok (.invokestatic 47, 3) := by decide +kernel
theorem dL_law_227 : decode cL_law 227 = .ok (.istore 22, 2) := by decide +kernel
theorem dL_law_229 : decode cL_law 229 = .ok (.aload 5, 2) := by decide +kernel
theorem dL_law_231 : decode cL_law 231 = .ok (.iload 18, 2) := by decide +kernel
theorem dL_law_233 : decode cL_law 233 = .ok (.iaload, 1) := by decide +kernel
theorem dL_law_234 : decode cL_law 234 = .ok (.ifCond .gt 11, 3) := by decide +kernel
theorem dL_law_237 : decode cL_law 237 = .ok (.aload_n 2, 1) := by decide +kernel
theorem dL_law_238 : decode cL_law 238 = .ok (.iconst 4, 1) := by decide +kernel
theorem dL_law_239 : decode cL_law 239 = .ok (.iaload, 1) := by decide +kernel
theorem dL_law_240 : decode cL_law 240 = .ok (.bipush 6, 2) := by decide +kernel
theorem dL_law_242 : decode cL_law 242 = .ok (.if_icmp .ge 7, 3) := by decide +kernel
theorem dL_law_245 : decode cL_law 245 = .ok (.iconst 1, 1) := by decide +kernel
theorem dL_law_246 : decode cL_law 246 = .ok (.goto 4, 3) := by decide +kernel
theorem dL_law_249 : decode cL_law 249 = .ok (.iconst 0, 1) := by decide +kernel
theorem dL_law_250 : decode cL_law 250 = .ok (.istore 23, 2) := by decide +kernel
theorem dL_law_252 : decode cL_law 252 = .ok (.iconst 0, 1) := by decide +kernel
theorem dL_law_253 : decode cL_law 253 = .ok (.istore 24, 2) := by decide +kernel
theorem dL_law_255 : decode cL_law 255 = .ok (.aload 5, 2) := by decide +kernel
theorem dL_law_257 : decode cL_law 257 = .ok (.iload 18, 2) := by decide +kernel
theorem dL_law_259 : decode cL_law 259 = .ok (.iaload, 1) := by decide +kernel
theorem dL_law_260 : decode cL_law 260 = .ok (.ifCond .ne 77, 3) := by decide +kernel
theorem dL_law_263 : decode cL_law 263 = .ok (.iload 23, 2) := by decide +kernel
theorem dL_law_265 : decode cL_law 265 = .ok (.ifCond .eq 72, 3) := by decide +kernel
theorem dL_law_268 : decode cL_law 268 = .ok (.iload 24, 2) := by decide +kernel
theorem dL_law_270 : decode cL_law 270 = .ok (.ifCond .lt 67, 3) := by decide +kernel
theorem dL_law_273 : decode cL_law 273 = .ok (.iconst 0, 1) := by decide +kernel
theorem dL_law_274 : decode cL_law 274 = .ok (.istore 25, 2) := by decide +kernel
theorem dL_law_276 : decode cL_law 276 = .ok (.iconst 0, 1) := by decide +kernel
theorem dL_law_277 : decode cL_law 277 = .ok (.istore 26, 2) := by decide +kernel
theorem dL_law_279 : decode cL_law 279 = .ok (.iload 26, 2) := by decide +kernel
theorem dL_law_281 : decode cL_law 281 = .ok (.bipush 36, 2) := by decide +kernel
theorem dL_law_283 : decode cL_law 283 = .ok (.if_icmp .ge 33, 3) := by decide +kernel
theorem dL_law_286 : decode cL_law 286 = .ok (.iload 25, 2) := by decide +kernel
theorem dL_law_288 : decode cL_law 288 = .ok (.ifCond .ne 15, 3) := by decide +kernel
theorem dL_law_291 : decode cL_law 291 = .ok (.aload 5, 2) := by decide +kernel
theorem dL_law_293 : decode cL_law 293 = .ok (.iload 26, 2) := by decide +kernel
theorem dL_law_295 : decode cL_law 295 = .ok (.iaload, 1) := by decide +kernel
theorem dL_law_296 : decode cL_law 296 = .ok (.iload 24, 2) := by decide +kernel
theorem dL_law_298 : decode cL_law 298 = .ok (.iconst 1, 1) := by decide +kernel
theorem dL_law_299 : decode cL_law 299 = .ok (.iadd, 1) := by decide +kernel
theorem dL_law_300 : decode cL_law 300 = .ok (.if_icmp .ne 7, 3) := by decide +kernel
theorem dL_law_303 : decode cL_law 303 = .ok (.iconst 1, 1) := by decide +kernel
theorem dL_law_304 : decode cL_law 304 = .ok (.goto 4, 3) := by decide +kernel
theorem dL_law_307 : decode cL_law 307 = .ok (.iconst 0, 1) := by decide +kernel
theorem dL_law_308 : decode cL_law 308 = .ok (.istore 25, 2) := by decide +kernel
theorem dL_law_310 : decode cL_law 310 = .ok (.iinc 26 1, 3) := by decide +kernel
theorem dL_law_313 : decode cL_law 313 = .ok (.goto (-34), 3) := by decide +kernel
theorem dL_law_316 : decode cL_law 316 = .ok (.iload 25, 2) := by decide +kernel
theorem dL_law_318 : decode cL_law 318 = .ok (.ifCond .eq 10, 3) := by decide +kernel
theorem dL_law_321 : decode cL_law 321 = .ok (.iload 24, 2) := by decide +kernel
theorem dL_law_323 : decode cL_law 323 = .ok (.iconst 1, 1) := by decide +kernel
theorem dL_law_324 : decode cL_law 324 = .ok (.iadd, 1) := by decide +kernel
theorem dL_law_325 : decode cL_law 325 = .ok (.goto 7, 3) := by decide +kernel
theorem dL_law_328 : decode cL_law 328 = .ok (.iconst (-1), 1) := by decide +kernel
theorem dL_law_329 : decode cL_law 329 = .ok (.iload 24, 2) := by decide +kernel
theorem dL_law_331 : decode cL_law 331 = .ok (.isub, 1) := by decide +kernel
theorem dL_law_332 : decode cL_law 332 = .ok (.istore 24, 2) := by decide +kernel
theorem dL_law_334 : decode cL_law 334 = .ok (.goto (-79), 3) := by decide +kernel
theorem dL_law_337 : decode cL_law 337 = .ok (.aload 5, 2) := by decide +kernel
theorem dL_law_339 : decode cL_law 339 = .ok (.iload 18, 2) := by decide +kernel
theorem dL_law_341 : decode cL_law 341 = .ok (.iaload, 1) := by decide +kernel
theorem dL_law_342 : decode cL_law 342 = .ok (.ifCond .ne 23, 3) := by decide +kernel
theorem dL_law_345 : decode cL_law 345 = .ok (.iload 23, 2) := by decide +kernel
theorem dL_law_347 : decode cL_law 347 = .ok (.ifCond .eq 18, 3) := by decide +kernel
theorem dL_law_350 : decode cL_law 350 = .ok (.aload 5, 2) := by decide +kernel
theorem dL_law_352 : decode cL_law 352 = .ok (.iload 18, 2) := by decide +kernel
theorem dL_law_354 : decode cL_law 354 = .ok (.iload 24, 2) := by decide +kernel
theorem dL_law_356 : decode cL_law 356 = .ok (.ineg, 1) := by decide +kernel
theorem dL_law_357 : decode cL_law 357 = .ok (.iastore, 1) := by decide +kernel
theorem dL_law_358 : decode cL_law 358 = .ok (.aload_n 2, 1) := by decide +kernel
theorem dL_law_359 : decode cL_law 359 = .ok (.iconst 4, 1) := by decide +kernel
theorem dL_law_360 : decode cL_law 360 = .ok (.dup2, 1) := by decide +kernel
theorem dL_law_361 : decode cL_law 361 = .ok (.iaload, 1) := by decide +kernel
theorem dL_law_362 : decode cL_law 362 = .ok (.iconst 1, 1) := by decide +kernel
theorem dL_law_363 : decode cL_law 363 = .ok (.iadd, 1) := by decide +kernel
theorem dL_law_364 : decode cL_law 364 = .ok (.iastore, 1) := by decide +kernel
theorem dL_law_365 : decode cL_law 365 = .ok (.iload 23, 2) := by decide +kernel
theorem dL_law_367 : decode cL_law 367 = .ok (.ifCond .eq 56, 3) := by decide +kernel
theorem dL_law_370 : decode cL_law 370 = .ok (.iconst 5, 1) := by decide +kernel
theorem dL_law_371 : decode cL_law 371 = .ok (.aload 5, 2) := by decide +kernel
theorem dL_law_373 : decode cL_law 373 = .ok (.iload 18, 2) := by decide +kernel
theorem dL_law_375 : decode cL_law 375 = .ok (.iaload, 1) := by decide +kernel
theorem dL_law_376 : decode cL_law 376 = .ok (.iconst 1, 1) := by decide +kernel
theorem dL_law_377 : decode cL_law 377 = .ok (.isub, 1) := by decide +kernel
theorem dL_law_378 : decode cL_law 378 = .ok (.imul, 1) := by decide +kernel
theorem dL_law_379 : decode cL_law 379 = .ok (.istore 25, 2) := by decide +kernel
theorem dL_law_381 : decode cL_law 381 = .ok (.aload 6, 2) := by decide +kernel
theorem dL_law_383 : decode cL_law 383 = .ok (.iload 25, 2) := by decide +kernel
theorem dL_law_385 : decode cL_law 385 = .ok (.iload 19, 2) := by decide +kernel
theorem dL_law_387 : decode cL_law 387 = .ok (.iastore, 1) := by decide +kernel
theorem dL_law_388 : decode cL_law 388 = .ok (.aload 6, 2) := by decide +kernel
theorem dL_law_390 : decode cL_law 390 = .ok (.iload 25, 2) := by decide +kernel
theorem dL_law_392 : decode cL_law 392 = .ok (.iconst 1, 1) := by decide +kernel
theorem dL_law_393 : decode cL_law 393 = .ok (.iadd, 1) := by decide +kernel
theorem dL_law_394 : decode cL_law 394 = .ok (.iload 20, 2) := by decide +kernel
theorem dL_law_396 : decode cL_law 396 = .ok (.iastore, 1) := by decide +kernel
theorem dL_law_397 : decode cL_law 397 = .ok (.aload 6, 2) := by decide +kernel
theorem dL_law_399 : decode cL_law 399 = .ok (.iload 25, 2) := by decide +kernel
theorem dL_law_401 : decode cL_law 401 = .ok (.iconst 2, 1) := by decide +kernel
theorem dL_law_402 : decode cL_law 402 = .ok (.iadd, 1) := by decide +kernel
theorem dL_law_403 : decode cL_law 403 = .ok (.iload 21, 2) := by decide +kernel
theorem dL_law_405 : decode cL_law 405 = .ok (.iastore, 1) := by decide +kernel
theorem dL_law_406 : decode cL_law 406 = .ok (.aload 6, 2) := by decide +kernel
theorem dL_law_408 : decode cL_law 408 = .ok (.iload 25, 2) := by decide +kernel
theorem dL_law_410 : decode cL_law 410 = .ok (.iconst 3, 1) := by decide +kernel
theorem dL_law_411 : decode cL_law 411 = .ok (.iadd, 1) := by decide +kernel
theorem dL_law_412 : decode cL_law 412 = .ok (.iload 22, 2) := by decide +kernel
theorem dL_law_414 : decode cL_law 414 = .ok (.iastore, 1) := by decide +kernel
theorem dL_law_415 : decode cL_law 415 = .ok (.aload 6, 2) := by decide +kernel
theorem dL_law_417 : decode cL_law 417 = .ok (.iload 25, 2) := by decide +kernel
theorem dL_law_419 : decode cL_law 419 = .ok (.iconst 4, 1) := by decide +kernel
theorem dL_law_420 : decode cL_law 420 = .ok (.iadd, 1) := by decide +kernel
theorem dL_law_421 : decode cL_law 421 = .ok (.iconst 1, 1) := by decide +kernel
theorem dL_law_422 : decode cL_law 422 = .ok (.iastore, 1) := by decide +kernel
theorem dL_law_423 : decode cL_law 423 = .ok (.aload_n 1, 1) := by decide +kernel
theorem dL_law_424 : decode cL_law 424 = .ok (.iload 18, 2) := by decide +kernel
theorem dL_law_426 : decode cL_law 426 = .ok (.iload 19, 2) := by decide +kernel
theorem dL_law_428 : decode cL_law 428 = .ok (.iload 20, 2) := by decide +kernel
theorem dL_law_430 : decode cL_law 430 = .ok (.iload 21, 2) := by decide +kernel
theorem dL_law_432 : decode cL_law 432 = .ok (.iload 22, 2) := by decide +kernel
theorem dL_law_434 : decode cL_law 434 = .ok (.invokevirtual 73, 3) := by decide +kernel
theorem dL_law_437 : decode cL_law 437 = .ok (.iload 23, 2) := by decide +kernel
theorem dL_law_439 : decode cL_law 439 = .ok (.ifCond .eq 9, 3) := by decide +kernel
theorem dL_law_442 : decode cL_law 442 = .ok (.aload_n 2, 1) := by decide +kernel
theorem dL_law_443 : decode cL_law 443 = .ok (.iconst 4, 1) := by decide +kernel
theorem dL_law_444 : decode cL_law 444 = .ok (.iaload, 1) := by decide +kernel
theorem dL_law_445 : decode cL_law 445 = .ok (.goto 5, 3) := by decide +kernel
theorem dL_law_448 : decode cL_law 448 = .ok (.bipush (-4), 2) := by decide +kernel
theorem dL_law_450 : decode cL_law 450 = .ok (.if_icmp .eq 5, 3) := by decide +kernel
theorem dL_law_453 : decode cL_law 453 = .ok (.iconst 0, 1) := by decide +kernel
theorem dL_law_454 : decode cL_law 454 = .ok (.ireturn, 1) := by decide +kernel
theorem dL_law_455 : decode cL_law 455 = .ok (.goto 455, 3) := by decide +kernel
theorem dL_law_458 : decode cL_law 458 = .ok (.iload 17, 2) := by decide +kernel
theorem dL_law_460 : decode cL_law 460 = .ok (.bipush 8, 2) := by decide +kernel
theorem dL_law_462 : decode cL_law 462 = .ok (.if_icmp .ge 128, 3) := by decide +kernel
theorem dL_law_465 : decode cL_law 465 = .ok (.iconst 1, 1) := by decide +kernel
theorem dL_law_466 : decode cL_law 466 = .ok (.iload 16, 2) := by decide +kernel
theorem dL_law_468 : decode cL_law 468 = .ok (.iload 15, 2) := by decide +kernel
theorem dL_law_470 : decode cL_law 470 = .ok (.bipush 11, 2) := by decide +kernel
theorem dL_law_472 : decode cL_law 472 = .ok (.ishr, 1) := by decide +kernel
theorem dL_law_473 : decode cL_law 473 = .ok (.iconst 3, 1) := by decide +kernel
theorem dL_law_474 : decode cL_law 474 = .ok (.invokestatic 47, 3) := by decide +kernel
theorem dL_law_477 : decode cL_law 477 = .ok (.ifCond .ne 8, 3) := by decide +kernel
theorem dL_law_480 : decode cL_law 480 = .ok (.bipush 99, 2) := by decide +kernel
theorem dL_law_482 : decode cL_law 482 = .ok (.goto 5, 3) := by decide +kernel
theorem dL_law_485 : decode cL_law 485 = .ok (.bipush 12, 2) := by decide +kernel
theorem dL_law_487 : decode cL_law 487 = .ok (.invokestatic 47, 3) := by decide +kernel
theorem dL_law_490 : decode cL_law 490 = .ok (.iadd, 1) := by decide +kernel
theorem dL_law_491 : decode cL_law 491 = .ok (.istore 19, 2) := by decide +kernel
theorem dL_law_493 : decode cL_law 493 = .ok (.iconst 0, 1) := by decide +kernel
theorem dL_law_494 : decode cL_law 494 = .ok (.istore 20, 2) := by decide +kernel
theorem dL_law_496 : decode cL_law 496 = .ok (.iconst 0, 1) := by decide +kernel
theorem dL_law_497 : decode cL_law 497 = .ok (.istore 21, 2) := by decide +kernel
theorem dL_law_499 : decode cL_law 499 = .ok (.iload 21, 2) := by decide +kernel
theorem dL_law_501 : decode cL_law 501 = .ok (.iload 19, 2) := by decide +kernel
theorem dL_law_503 : decode cL_law 503 = .ok (.if_icmp .ge 71, 3) := by decide +kernel
theorem dL_law_506 : decode cL_law 506 = .ok (.iload 20, 2) := by decide +kernel
theorem dL_law_508 : decode cL_law 508 = .ok (.aload_n 2, 1) := by decide +kernel
theorem dL_law_509 : decode cL_law 509 = .ok (.aload_n 3, 1) := by decide +kernel
theorem dL_law_510 : decode cL_law 510 = .ok (.aload 4, 2) := by decide +kernel
theorem dL_law_512 : decode cL_law 512 = .ok (.aload 5, 2) := by decide +kernel
theorem dL_law_514 : decode cL_law 514 = .ok (.aload 6, 2) := by decide +kernel
theorem dL_law_516 : decode cL_law 516 = .ok (.invokestatic 54, 3) := by decide +kernel
theorem dL_law_519 : decode cL_law 519 = .ok (.iadd, 1) := by decide +kernel
theorem dL_law_520 : decode cL_law 520 = .ok (.istore 20, 2) := by decide +kernel
theorem dL_law_522 : decode cL_law 522 = .ok (.aload 7, 2) := by decide +kernel
theorem dL_law_524 : decode cL_law 524 = .ok (.iconst 0, 1) := by decide +kernel
theorem dL_law_525 : decode cL_law 525 = .ok (.iaload, 1) := by decide +kernel
theorem dL_law_526 : decode cL_law 526 = .ok (.ifCond .ge 6, 3) := by decide +kernel
theorem dL_law_529 : decode cL_law 529 = .ok (.goto 39, 3) := by decide +kernel
theorem dL_law_532 : decode cL_law 532 = .ok (.aload 8, 2) := by decide +kernel
theorem dL_law_534 : decode cL_law 534 = .ok (.aload_n 2, 1) := by decide +kernel
theorem dL_law_535 : decode cL_law 535 = .ok (.iconst 3, 1) := by decide +kernel
theorem dL_law_536 : decode cL_law 536 = .ok (.iaload, 1) := by decide +kernel
theorem dL_law_537 : decode cL_law 537 = .ok (.bipush 60, 2) := by decide +kernel
theorem dL_law_539 : decode cL_law 539 = .ok (.irem, 1) := by decide +kernel
theorem dL_law_540 : decode cL_law 540 = .ok (.aload_n 3, 1) := by decide +kernel
theorem dL_law_541 : decode cL_law 541 = .ok (.aload 7, 2) := by decide +kernel
theorem dL_law_543 : decode cL_law 543 = .ok (.iconst 0, 1) := by decide +kernel
theorem dL_law_544 : decode cL_law 544 = .ok (.iaload, 1) := by decide +kernel
theorem dL_law_545 : decode cL_law 545 = .ok (.iaload, 1) := by decide +kernel
theorem dL_law_546 : decode cL_law 546 = .ok (.iastore, 1) := by decide +kernel
theorem dL_law_547 : decode cL_law 547 = .ok (.aload 7, 2) := by decide +kernel
theorem dL_law_549 : decode cL_law 549 = .ok (.iconst 1, 1) := by decide +kernel
theorem dL_law_550 : decode cL_law 550 = .ok (.dup2, 1) := by decide +kernel
theorem dL_law_551 : decode cL_law 551 = .ok (.iaload, 1) := by decide +kernel
theorem dL_law_552 : decode cL_law 552 = .ok (.aload 7, 2) := by decide +kernel
theorem dL_law_554 : decode cL_law 554 = .ok (.iconst 1, 1) := by decide +kernel
theorem dL_law_555 : decode cL_law 555 = .ok (.iaload, 1) := by decide +kernel
theorem dL_law_556 : decode cL_law 556 = .ok (.bipush 60, 2) := by decide +kernel
theorem dL_law_558 : decode cL_law 558 = .ok (.if_icmp .ge 7, 3) := by decide +kernel
theorem dL_law_561 : decode cL_law 561 = .ok (.iconst 1, 1) := by decide +kernel
theorem dL_law_562 : decode cL_law 562 = .ok (.goto 4, 3) := by decide +kernel
theorem dL_law_565 : decode cL_law 565 = .ok (.iconst 0, 1) := by decide +kernel
theorem dL_law_566 : decode cL_law 566 = .ok (.iadd, 1) := by decide +kernel
theorem dL_law_567 : decode cL_law 567 = .ok (.iastore, 1) := by decide +kernel
theorem dL_law_568 : decode cL_law 568 = .ok (.iinc 21 1, 3) := by decide +kernel
theorem dL_law_571 : decode cL_law 571 = .ok (.goto (-72), 3) := by decide +kernel
theorem dL_law_574 : decode cL_law 574 = .ok (.aload_n 1, 1) := by decide +kernel
theorem dL_law_575 : decode cL_law 575 = .ok (.iload 19, 2) := by decide +kernel
theorem dL_law_577 : decode cL_law 577 = .ok (.invokevirtual 77, 3) := by decide +kernel
theorem dL_law_580 : decode cL_law 580 = .ok (.iload 20, 2) := by decide +kernel
theorem dL_law_582 : decode cL_law 582 = .ok (.if_icmp .eq 5, 3) := by decide +kernel
theorem dL_law_585 : decode cL_law 585 = .ok (.iconst 0, 1) := by decide +kernel
theorem dL_law_586 : decode cL_law 586 = .ok (.ireturn, 1) := by decide +kernel
theorem dL_law_587 : decode cL_law 587 = .ok (.goto 323, 3) := by decide +kernel
theorem dL_law_590 : decode cL_law 590 = .ok (.iload 17, 2) := by decide +kernel
theorem dL_law_592 : decode cL_law 592 = .ok (.bipush 8, 2) := by decide +kernel
theorem dL_law_594 : decode cL_law 594 = .ok (.if_icmp .ne 58, 3) := by decide +kernel
theorem dL_law_597 : decode cL_law 597 = .ok (.iload 16, 2) := by decide +kernel
theorem dL_law_599 : decode cL_law 599 = .ok (.bipush 40, 2) := by decide +kernel
theorem dL_law_601 : decode cL_law 601 = .ok (.invokestatic 47, 3) := by decide +kernel
theorem dL_law_604 : decode cL_law 604 = .ok (.istore 19, 2) := by decide +kernel
theorem dL_law_606 : decode cL_law 606 = .ok (.iload 16, 2) := by decide +kernel
theorem dL_law_608 : decode cL_law 608 = .ok (.iconst 4, 1) := by decide +kernel
theorem dL_law_609 : decode cL_law 609 = .ok (.ishr, 1) := by decide +kernel
theorem dL_law_610 : decode cL_law 610 = .ok (.sipush 1201, 3) := by decide +kernel
theorem dL_law_613 : decode cL_law 613 = .ok (.invokestatic 47, 3) := by decide +kernel
theorem dL_law_616 : decode cL_law 616 = .ok (.sipush 600, 3) := by decide +kernel
theorem dL_law_619 : decode cL_law 619 = .ok (.isub, 1) := by decide +kernel
theorem dL_law_620 : decode cL_law 620 = .ok (.istore 20, 2) := by decide +kernel
theorem dL_law_622 : decode cL_law 622 = .ok (.aload_n 1, 1) := by decide +kernel
theorem dL_law_623 : decode cL_law 623 = .ok (.iload 19, 2) := by decide +kernel
theorem dL_law_625 : decode cL_law 625 = .ok (.iload 20, 2) := by decide +kernel
theorem dL_law_627 : decode cL_law 627 = .ok (.invokevirtual 80, 3) := by decide +kernel
theorem dL_law_630 : decode cL_law 630 = .ok (.aload_n 3, 1) := by decide +kernel
theorem dL_law_631 : decode cL_law 631 = .ok (.iload 19, 2) := by decide +kernel
theorem dL_law_633 : decode cL_law 633 = .ok (.iaload, 1) := by decide +kernel
theorem dL_law_634 : decode cL_law 634 = .ok (.sipush 10000, 3) := by decide +kernel
theorem dL_law_637 : decode cL_law 637 = .ok (.iadd, 1) := by decide +kernel
theorem dL_law_638 : decode cL_law 638 = .ok (.if_icmp .eq 5, 3) := by decide +kernel
theorem dL_law_641 : decode cL_law 641 = .ok (.iconst 0, 1) := by decide +kernel
theorem dL_law_642 : decode cL_law 642 = .ok (.ireturn, 1) := by decide +kernel
theorem dL_law_643 : decode cL_law 643 = .ok (.aload_n 3, 1) := by decide +kernel
theorem dL_law_644 : decode cL_law 644 = .ok (.iload 19, 2) := by decide +kernel
theorem dL_law_646 : decode cL_law 646 = .ok (.iload 20, 2) := by decide +kernel
theorem dL_law_648 : decode cL_law 648 = .ok (.iastore, 1) := by decide +kernel
theorem dL_law_649 : decode cL_law 649 = .ok (.goto 261, 3) := by decide +kernel
theorem dL_law_652 : decode cL_law 652 = .ok (.iload 17, 2) := by decide +kernel
theorem dL_law_654 : decode cL_law 654 = .ok (.bipush 9, 2) := by decide +kernel
theorem dL_law_656 : decode cL_law 656 = .ok (.if_icmp .ne 34, 3) := by decide +kernel
theorem dL_law_659 : decode cL_law 659 = .ok (.aload 7, 2) := by decide +kernel
theorem dL_law_661 : decode cL_law 661 = .ok (.iconst 0, 1) := by decide +kernel
theorem dL_law_662 : decode cL_law 662 = .ok (.iaload, 1) := by decide +kernel
theorem dL_law_663 : decode cL_law 663 = .ok (.ifCond .ge 27, 3) := by decide +kernel
theorem dL_law_666 : decode cL_law 666 = .ok (.aload 7, 2) := by decide +kernel
theorem dL_law_668 : decode cL_law 668 = .ok (.iconst 0, 1) := by decide +kernel
theorem dL_law_669 : decode cL_law 669 = .ok (.iload 16, 2) := by decide +kernel
theorem dL_law_671 : decode cL_law 671 = .ok (.bipush 40, 2) := by decide +kernel
theorem dL_law_673 : decode cL_law 673 = .ok (.invokestatic 47, 3) := by decide +kernel
theorem dL_law_676 : decode cL_law 676 = .ok (.iastore, 1) := by decide +kernel
theorem dL_law_677 : decode cL_law 677 = .ok (.aload_n 1, 1) := by decide +kernel
theorem dL_law_678 : decode cL_law 678 = .ok (.aload 7, 2) := by decide +kernel
theorem dL_law_680 : decode cL_law 680 = .ok (.iconst 0, 1) := by decide +kernel
theorem dL_law_681 : decode cL_law 681 = .ok (.iaload, 1) := by decide +kernel
theorem dL_law_682 : decode cL_law 682 = .ok (.invokevirtual 83, 3) := by decide +kernel
theorem dL_law_685 : decode cL_law 685 = .ok (.ifCond .eq 225, 3) := by decide +kernel
theorem dL_law_688 : decode cL_law 688 = .ok (.iconst 0, 1) := by decide +kernel
theorem dL_law_689 : decode cL_law 689 = .ok (.ireturn, 1) := by decide +kernel
theorem dL_law_690 : decode cL_law 690 = .ok (.iload 17, 2) := by decide +kernel
theorem dL_law_692 : decode cL_law 692 = .ok (.bipush 10, 2) := by decide +kernel
theorem dL_law_694 : decode cL_law 694 = .ok (.if_icmp .ne 136, 3) := by decide +kernel
theorem dL_law_697 : decode cL_law 697 = .ok (.aload 5, 2) := by decide +kernel
theorem dL_law_699 : decode cL_law 699 = .ok (.iload 18, 2) := by decide +kernel
theorem dL_law_701 : decode cL_law 701 = .ok (.iaload, 1) := by decide +kernel
theorem dL_law_702 : decode cL_law 702 = .ok (.ifCond .le 7, 3) := by decide +kernel
theorem dL_law_705 : decode cL_law 705 = .ok (.iconst 1, 1) := by decide +kernel
theorem dL_law_706 : decode cL_law 706 = .ok (.goto 4, 3) := by decide +kernel
theorem dL_law_709 : decode cL_law 709 = .ok (.iconst 0, 1) := by decide +kernel
theorem dL_law_710 : decode cL_law 710 = .ok (.istore 19, 2) := by decide +kernel
theorem dL_law_712 : decode cL_law 712 = .ok (.iload 16, 2) := by decide +kernel
theorem dL_law_714 : decode cL_law 714 = .ok (.iconst 2, 1) := by decide +kernel
theorem dL_law_715 : decode cL_law 715 = .ok (.invokestatic 47, 3) := by decide +kernel
theorem dL_law_718 : decode cL_law 718 = .ok (.ifCond .ne 62, 3) := by decide +kernel
theorem dL_law_721 : decode cL_law 721 = .ok (.aload_n 1, 1) := by decide +kernel
theorem dL_law_722 : decode cL_law 722 = .ok (.iload 18, 2) := by decide +kernel
theorem dL_law_724 : decode cL_law 724 = .ok (.invokevirtual 86, 3) := by decide +kernel
theorem dL_law_727 : decode cL_law 727 = .ok (.iload 19, 2) := by decide +kernel
theorem dL_law_729 : decode cL_law 729 = .ok (.ifCond .eq 22, 3) := by decide +kernel
theorem dL_law_732 : decode cL_law 732 = .ok (.iconst 1, 1) := by decide +kernel
theorem dL_law_733 : decode cL_law 733 = .ok (.aload 6, 2) := by decide +kernel
theorem dL_law_735 : decode cL_law 735 = .ok (.iconst 5, 1) := by decide +kernel
theorem dL_law_736 : decode cL_law 736 = .ok (.aload 5, 2) := by decide +kernel
theorem dL_law_738 : decode cL_law 738 = .ok (.iload 18, 2) := by decide +kernel
theorem dL_law_740 : decode cL_law 740 = .ok (.iaload, 1) := by decide +kernel
theorem dL_law_741 : decode cL_law 741 = .ok (.iconst 1, 1) := by decide +kernel
theorem dL_law_742 : decode cL_law 742 = .ok (.isub, 1) := by decide +kernel
theorem dL_law_743 : decode cL_law 743 = .ok (.imul, 1) := by decide +kernel
theorem dL_law_744 : decode cL_law 744 = .ok (.iconst 4, 1) := by decide +kernel
theorem dL_law_745 : decode cL_law 745 = .ok (.iadd, 1) := by decide +kernel
theorem dL_law_746 : decode cL_law 746 = .ok (.iaload, 1) := by decide +kernel
theorem dL_law_747 : decode cL_law 747 = .ok (.isub, 1) := by decide +kernel
theorem dL_law_748 : decode cL_law 748 = .ok (.goto 4, 3) := by decide +kernel
theorem dL_law_751 : decode cL_law 751 = .ok (.iconst (-1), 1) := by decide +kernel
theorem dL_law_752 : decode cL_law 752 = .ok (.if_icmp .eq 5, 3) := by decide +kernel
theorem dL_law_755 : decode cL_law 755 = .ok (.iconst 0, 1) := by decide +kernel
theorem dL_law_756 : decode cL_law 756 = .ok (.ireturn, 1) := by decide +kernel
theorem dL_law_757 : decode cL_law 757 = .ok (.iload 19, 2) := by decide +kernel
theorem dL_law_759 : decode cL_law 759 = .ok (.ifCond .eq 68, 3) := by decide +kernel
theorem dL_law_762 : decode cL_law 762 = .ok (.aload 6, 2) := by decide +kernel
theorem dL_law_764 : decode cL_law 764 = .ok (.iconst 5, 1) := by decide +kernel
theorem dL_law_765 : decode cL_law 765 = .ok (.aload 5, 2) := by decide +kernel
theorem dL_law_767 : decode cL_law 767 = .ok (.iload 18, 2) := by decide +kernel
theorem dL_law_769 : decode cL_law 769 = .ok (.iaload, 1) := by decide +kernel
theorem dL_law_770 : decode cL_law 770 = .ok (.iconst 1, 1) := by decide +kernel
theorem dL_law_771 : decode cL_law 771 = .ok (.isub, 1) := by decide +kernel
theorem dL_law_772 : decode cL_law 772 = .ok (.imul, 1) := by decide +kernel
theorem dL_law_773 : decode cL_law 773 = .ok (.iconst 4, 1) := by decide +kernel
theorem dL_law_774 : decode cL_law 774 = .ok (.iadd, 1) := by decide +kernel
theorem dL_law_775 : decode cL_law 775 = .ok (.iconst 1, 1) := by decide +kernel
theorem dL_law_776 : decode cL_law 776 = .ok (.iastore, 1) := by decide +kernel
theorem dL_law_777 : decode cL_law 777 = .ok (.goto 50, 3) := by decide +kernel
theorem dL_law_780 : decode cL_law 780 = .ok (.aload_n 1, 1) := by decide +kernel
theorem dL_law_781 : decode cL_law 781 = .ok (.iload 18, 2) := by decide +kernel
theorem dL_law_783 : decode cL_law 783 = .ok (.invokevirtual 89, 3) := by decide +kernel
theorem dL_law_786 : decode cL_law 786 = .ok (.iload 19, 2) := by decide +kernel
theorem dL_law_788 : decode cL_law 788 = .ok (.ifCond .eq 11, 3) := by decide +kernel
theorem dL_law_791 : decode cL_law 791 = .ok (.aload_n 2, 1) := by decide +kernel
theorem dL_law_792 : decode cL_law 792 = .ok (.iconst 4, 1) := by decide +kernel
theorem dL_law_793 : decode cL_law 793 = .ok (.iaload, 1) := by decide +kernel
theorem dL_law_794 : decode cL_law 794 = .ok (.iconst 1, 1) := by decide +kernel
theorem dL_law_795 : decode cL_law 795 = .ok (.isub, 1) := by decide +kernel
theorem dL_law_796 : decode cL_law 796 = .ok (.goto 4, 3) := by decide +kernel
theorem dL_law_799 : decode cL_law 799 = .ok (.iconst (-1), 1) := by decide +kernel
theorem dL_law_800 : decode cL_law 800 = .ok (.if_icmp .eq 5, 3) := by decide +kernel
theorem dL_law_803 : decode cL_law 803 = .ok (.iconst 0, 1) := by decide +kernel
theorem dL_law_804 : decode cL_law 804 = .ok (.ireturn, 1) := by decide +kernel
theorem dL_law_805 : decode cL_law 805 = .ok (.aload 5, 2) := by decide +kernel
theorem dL_law_807 : decode cL_law 807 = .ok (.iload 18, 2) := by decide +kernel
theorem dL_law_809 : decode cL_law 809 = .ok (.iconst 0, 1) := by decide +kernel
theorem dL_law_810 : decode cL_law 810 = .ok (.iastore, 1) := by decide +kernel
theorem dL_law_811 : decode cL_law 811 = .ok (.aload_n 2, 1) := by decide +kernel
theorem dL_law_812 : decode cL_law 812 = .ok (.iconst 4, 1) := by decide +kernel
theorem dL_law_813 : decode cL_law 813 = .ok (.dup2, 1) := by decide +kernel
theorem dL_law_814 : decode cL_law 814 = .ok (.iaload, 1) := by decide +kernel
theorem dL_law_815 : decode cL_law 815 = .ok (.iload 19, 2) := by decide +kernel
theorem dL_law_817 : decode cL_law 817 = .ok (.ifCond .eq 7, 3) := by decide +kernel
theorem dL_law_820 : decode cL_law 820 = .ok (.iconst 1, 1) := by decide +kernel
theorem dL_law_821 : decode cL_law 821 = .ok (.goto 4, 3) := by decide +kernel
theorem dL_law_824 : decode cL_law 824 = .ok (.iconst 0, 1) := by decide +kernel
theorem dL_law_825 : decode cL_law 825 = .ok (.isub, 1) := by decide +kernel
theorem dL_law_826 : decode cL_law 826 = .ok (.iastore, 1) := by decide +kernel
theorem dL_law_827 : decode cL_law 827 = .ok (.goto 83, 3) := by decide +kernel
theorem dL_law_830 : decode cL_law 830 = .ok (.iload 16, 2) := by decide +kernel
theorem dL_law_832 : decode cL_law 832 = .ok (.iconst 3, 1) := by decide +kernel
theorem dL_law_833 : decode cL_law 833 = .ok (.invokestatic 47, 3) := by decide +kernel
theorem dL_law_836 : decode cL_law 836 = .ok (.istore 19, 2) := by decide +kernel
theorem dL_law_838 : decode cL_law 838 = .ok (.iload 19, 2) := by decide +kernel
theorem dL_law_840 : decode cL_law 840 = .ok (.ifCond .ne 15, 3) := by decide +kernel
theorem dL_law_843 : decode cL_law 843 = .ok (.iload 16, 2) := by decide +kernel
theorem dL_law_845 : decode cL_law 845 = .ok (.iconst 2, 1) := by decide +kernel
theorem dL_law_846 : decode cL_law 846 = .ok (.ishr, 1) := by decide +kernel
theorem dL_law_847 : decode cL_law 847 = .ok (.bipush 101, 2) := by decide +kernel
theorem dL_law_849 : decode cL_law 849 = .ok (.invokestatic 47, 3) := by decide +kernel
theorem dL_law_852 : decode cL_law 852 = .ok (.goto 33, 3) := by decide +kernel
theorem dL_law_855 : decode cL_law 855 = .ok (.iload 19, 2) := by decide +kernel
theorem dL_law_857 : decode cL_law 857 = .ok (.iconst 1, 1) := by decide +kernel
theorem dL_law_858 : decode cL_law 858 = .ok (.if_icmp .ne 15, 3) := by decide +kernel
theorem dL_law_861 : decode cL_law 861 = .ok (.iload 16, 2) := by decide +kernel
theorem dL_law_863 : decode cL_law 863 = .ok (.iconst 2, 1) := by decide +kernel
theorem dL_law_864 : decode cL_law 864 = .ok (.ishr, 1) := by decide +kernel
theorem dL_law_865 : decode cL_law 865 = .ok (.bipush 51, 2) := by decide +kernel
theorem dL_law_867 : decode cL_law 867 = .ok (.invokestatic 47, 3) := by decide +kernel
theorem dL_law_870 : decode cL_law 870 = .ok (.goto 15, 3) := by decide +kernel
theorem dL_law_873 : decode cL_law 873 = .ok (.iconst 1, 1) := by decide +kernel
theorem dL_law_874 : decode cL_law 874 = .ok (.iload 16, 2) := by decide +kernel
theorem dL_law_876 : decode cL_law 876 = .ok (.iconst 2, 1) := by decide +kernel
theorem dL_law_877 : decode cL_law 877 = .ok (.ishr, 1) := by decide +kernel
theorem dL_law_878 : decode cL_law 878 = .ok (.sipush 900, 3) := by decide +kernel
theorem dL_law_881 : decode cL_law 881 = .ok (.invokestatic 47, 3) := by decide +kernel
theorem dL_law_884 : decode cL_law 884 = .ok (.iadd, 1) := by decide +kernel
theorem dL_law_885 : decode cL_law 885 = .ok (.istore 20, 2) := by decide +kernel
theorem dL_law_887 : decode cL_law 887 = .ok (.aload_n 1, 1) := by decide +kernel
theorem dL_law_888 : decode cL_law 888 = .ok (.iload 19, 2) := by decide +kernel
theorem dL_law_890 : decode cL_law 890 = .ok (.iload 20, 2) := by decide +kernel
theorem dL_law_892 : decode cL_law 892 = .ok (.invokevirtual 92, 3) := by decide +kernel
theorem dL_law_895 : decode cL_law 895 = .ok (.aload_n 2, 1) := by decide +kernel
theorem dL_law_896 : decode cL_law 896 = .ok (.iload 19, 2) := by decide +kernel
theorem dL_law_898 : decode cL_law 898 = .ok (.iaload, 1) := by decide +kernel
theorem dL_law_899 : decode cL_law 899 = .ok (.if_icmp .eq 5, 3) := by decide +kernel
theorem dL_law_902 : decode cL_law 902 = .ok (.iconst 0, 1) := by decide +kernel
theorem dL_law_903 : decode cL_law 903 = .ok (.ireturn, 1) := by decide +kernel
theorem dL_law_904 : decode cL_law 904 = .ok (.aload_n 2, 1) := by decide +kernel
theorem dL_law_905 : decode cL_law 905 = .ok (.iload 19, 2) := by decide +kernel
theorem dL_law_907 : decode cL_law 907 = .ok (.iload 20, 2) := by decide +kernel
theorem dL_law_909 : decode cL_law 909 = .ok (.iastore, 1) := by decide +kernel
theorem dL_law_910 : decode cL_law 910 = .ok (.aload_n 1, 1) := by decide +kernel
theorem dL_law_911 : decode cL_law 911 = .ok (.iload 16, 2) := by decide +kernel
theorem dL_law_913 : decode cL_law 913 = .ok (.aload_n 2, 1) := by decide +kernel
theorem dL_law_914 : decode cL_law 914 = .ok (.aload_n 3, 1) := by decide +kernel
theorem dL_law_915 : decode cL_law 915 = .ok (.aload 4, 2) := by decide +kernel
theorem dL_law_917 : decode cL_law 917 = .ok (.aload 5, 2) := by decide +kernel
theorem dL_law_919 : decode cL_law 919 = .ok (.aload 6, 2) := by decide +kernel
theorem dL_law_921 : decode cL_law 921 = .ok (.aload 7, 2) := by decide +kernel
theorem dL_law_923 : decode cL_law 923 = .ok (.aload 8, 2) := by decide +kernel
theorem dL_law_925 : decode cL_law 925 = .ok (.invokestatic 95, 3) := by decide +kernel
theorem dL_law_928 : decode cL_law 928 = .ok (.ifCond .eq 45, 3) := by decide +kernel
theorem dL_law_931 : decode cL_law 931 = .ok (.iload 16, 2) := by decide +kernel
theorem dL_law_933 : decode cL_law 933 = .ok (.bipush 13, 2) := by decide +kernel
theorem dL_law_935 : decode cL_law 935 = .ok (.ishr, 1) := by decide +kernel
theorem dL_law_936 : decode cL_law 936 = .ok (.bipush 7, 2) := by decide +kernel
theorem dL_law_938 : decode cL_law 938 = .ok (.invokestatic 47, 3) := by decide +kernel
theorem dL_law_941 : decode cL_law 941 = .ok (.ifCond .ne 34, 3) := by decide +kernel
theorem dL_law_944 : decode cL_law 944 = .ok (.aload_n 1, 1) := by decide +kernel
theorem dL_law_945 : decode cL_law 945 = .ok (.iload 15, 2) := by decide +kernel
theorem dL_law_947 : decode cL_law 947 = .ok (.iconst 2, 1) := by decide +kernel
theorem dL_law_948 : decode cL_law 948 = .ok (.ishr, 1) := by decide +kernel
theorem dL_law_949 : decode cL_law 949 = .ok (.aload_n 2, 1) := by decide +kernel
theorem dL_law_950 : decode cL_law 950 = .ok (.aload_n 3, 1) := by decide +kernel
theorem dL_law_951 : decode cL_law 951 = .ok (.aload 4, 2) := by decide +kernel
theorem dL_law_953 : decode cL_law 953 = .ok (.aload 5, 2) := by decide +kernel
theorem dL_law_955 : decode cL_law 955 = .ok (.aload 6, 2) := by decide +kernel
theorem dL_law_957 : decode cL_law 957 = .ok (.aload 9, 2) := by decide +kernel
theorem dL_law_959 : decode cL_law 959 = .ok (.aload 10, 2) := by decide +kernel
theorem dL_law_961 : decode cL_law 961 = .ok (.aload 11, 2) := by decide +kernel
theorem dL_law_963 : decode cL_law 963 = .ok (.aload 12, 2) := by decide +kernel
theorem dL_law_965 : decode cL_law 965 = .ok (.aload 13, 2) := by decide +kernel
theorem dL_law_967 : decode cL_law 967 = .ok (.invokestatic 99, 3) := by decide +kernel
theorem dL_law_970 : decode cL_law 970 = .ok (.ifCond .ne 5, 3) := by decide +kernel
theorem dL_law_973 : decode cL_law 973 = .ok (.iconst 0, 1) := by decide +kernel
theorem dL_law_974 : decode cL_law 974 = .ok (.ireturn, 1) := by decide +kernel
theorem dL_law_975 : decode cL_law 975 = .ok (.iinc 14 1, 3) := by decide +kernel
theorem dL_law_978 : decode cL_law 978 = .ok (.goto (-880), 3) := by decide +kernel
theorem dL_law_981 : decode cL_law 981 = .ok (.iconst 1, 1) := by decide +kernel
theorem dL_law_982 : decode cL_law 982 = .ok (.ireturn, 1) := by decide +kernel
end
section
/-! THE BASE: the whole world as one memory. Cells at abstract addresses: 1, 2, 3 the three static tables, 4 the script, from 8 on the cells that the law's run makes, in the order in which they come.
M holds the numbers of a cell, R its references (0: null). -/
abbrev Mm : Type := Nat → Nat → Int32
abbrev Rm : Type := Nat → Nat → Nat
/-- classes and slots; the old addresses 1..4; where the new cells begin; the array classes by tag; the script's length and numbers -/
abbrev Gm : Type := va_G × (Nat → Nat) × Nat × (Nat → ClassId) × Nat × (Nat → Int32)
def gN (γ : Gm) : Nat := γ.2.2.1
def gC (γ : Gm) (t : Nat) : ClassId := γ.2.2.2.1 t
def ph (γ : Gm) (k : Nat) : Nat := if k < 8 then γ.2.1 k else gN γ + (k - 8)
def pv (γ : Gm) (v : Value) : Value := match v with
  | .ref k => .ref (ph γ k)
  | w => w
/-- a tank's twenty cells -/
def shTank : List (Nat × Nat) := [(4, 8), (10, 3), (10, 40), (10, 40), (14, 6), (15, 4), (3, 6), (3, 6), (3, 6), (3, 6), (3, 6), (3, 6), (0, 4), (10, 60), (0, 4), (10, 60), (0, 4), (10, 60), (0, 4), (10, 60)]
/-- tag and size of each cell: a tag below 8 is the number of the class in vwCl, 10 int[], 11 char[], 12 boolean[], 13 Tank[], 14 Paddle[], 15 Gauge[] -/
def shL : List (Nat × Nat) := [(99, 0), (10, 3), (10, 3), (10, 3), (99, 0), (99, 0), (99, 0), (99, 0), (5, 7)] ++ (shTank ++ ([(2, 9), (11, 80), (1, 2), (13, 6)] ++ (shTank ++ (shTank ++ (shTank ++ (shTank ++ (shTank ++ (shTank ++ ([(13, 2), (12, 2)] ++ (shTank ++ (shTank ++ (shTank ++ (shTank ++ [(10, 5), (10, 40), (10, 40), (10, 36), (10, 30), (10, 2), (10, 60), (10, 5), (10, 40), (10, 40), (10, 36), (10, 30)])))))))))))))
def Sh (k : Nat) : Nat × Nat := shL.getD k (99, 0)
def tg (k : Nat) : Nat := (Sh k).1
def ln (k : Nat) : Nat := (Sh k).2
/-- which slots of a class are references -/
def isR (t j : Nat) : Bool := if t = 0 ∨ t = 1 ∨ t = 2 then decide (j = 0) else if t = 4 then decide (j < 5) else if t = 5 then true else if t = 6 then decide (j = 0 ∨ j = 1 ∨ j = 2 ∨ j = 4 ∨ j = 5 ∨ j = 6 ∨ j = 11) else false
def rv (γ : Gm) (r : Nat) : Value := if r = 0 then .null else .ref (ph γ r)
def rq (γ : Gm) (r : Nat) : Option Nat := if r = 0 then none else some (ph γ r)
def fv (γ : Gm) (M : Mm) (R : Rm) (k j : Nat) : Value := if isR (tg k) j then rv γ (R k j) else .int (M k j)
def ce (γ : Gm) (M : Mm) (R : Rm) (k : Nat) : va_E :=
  if tg k < 8 then .inr (tg k, (List.range (ln k)).map (fv γ M R k)) else if tg k < 13 then .inl (gC γ (tg k), ln k, .inl (M k)) else .inl (gC γ (tg k), ln k, .inr (.inr (.inr (.inr (fun j => rq γ (R k j))))))
def wl (γ : Gm) (n : Nat) (M : Mm) (R : Rm) : va_W := (List.range (n - 8)).map (fun i => (gN γ + i, ce γ M R (i + 8)))
/-- slots used by the cells below k -/
def sl : Nat → Nat
  | 0 => 0
  | k + 1 => sl k + ln k
def up {α : Type} (f : Nat → α) (k : Nat) (v : α) : Nat → α := fun j => if j = k then v else f j
def u2 {α : Type} (f : Nat → Nat → α) (a j : Nat) (v : α) : Nat → Nat → α := up f a (up (f a) j v)
theorem up_s {α : Type} (f : Nat → α) (k : Nat) (v : α) : up f k v k = v := by simp [up]
theorem up_n {α : Type} (f : Nat → α) {k j : Nat} (v : α) (h : j ≠ k) : up f k v j = f j := by simp [up, h]
theorem u2_s {α : Type} (f : Nat → Nat → α) (a j : Nat) (v : α) : u2 f a j v a = up (f a) j v := by simp [u2, up]
theorem u2_n {α : Type} (f : Nat → Nat → α) {a b : Nat} (j : Nat) (v : α) (h : b ≠ a) : u2 f a j v b = f b := by simp [u2, up, h]
theorem sl_mono {a b : Nat} (h : a ≤ b) : sl a ≤ sl b := by
  induction b with
  | zero => rw [Nat.le_zero.mp h]; exact Nat.le_refl _
  | succ b ih =>
    rcases Nat.lt_or_ge a (b + 1) with h1 | h1
    · exact Nat.le_trans (ih (Nat.le_of_lt_succ h1)) (Nat.le_add_right _ _)
    · rw [Nat.le_antisymm h h1]; exact Nat.le_refl _
theorem ph_new (γ : Gm) {k : Nat} (h : 8 ≤ k) : ph γ k = gN γ + (k - 8) := by rw [ph, if_neg (Nat.not_lt.mpr h)]
theorem ce_congr {γ : Gm} {M M' : Mm} {R R' : Rm} {k : Nat} (h1 : M k = M' k) (h2 : R k = R' k) : ce γ M R k = ce γ M' R' k := by
  unfold ce fv
  rw [h1, h2]
theorem wl_get {γ : Gm} {n : Nat} {M : Mm} {R : Rm} {k : Nat} (h8 : 8 ≤ k) (hk : k < n) : (wl γ n M R)[k - 8]? = some (ph γ k, ce γ M R k) := by
  have h1 : k - 8 < n - 8 := by omega
  rw [wl, List.getElem?_map, List.getElem?_range h1, Option.map_some, ph_new γ h8, Nat.sub_add_cancel h8]
theorem wl_len (γ : Gm) (n : Nat) (M : Mm) (R : Rm) : (wl γ n M R).length = n - 8 := by simp [wl]
theorem wl_inv {γ : Gm} {n : Nat} {M : Mm} {R : Rm} {i : Nat} {q : Nat × va_E} (h : (wl γ n M R)[i]? = some q) : i + 8 < n ∧ q = (gN γ + i, ce γ M R (i + 8)) := by
  have h1 : i < (wl γ n M R).length := (List.getElem?_eq_some_iff.mp h).1
  rw [wl_len] at h1
  have h2 := wl_get (γ := γ) (M := M) (R := R) (k := i + 8) (n := n) (by omega) (by omega)
  rw [Nat.add_sub_cancel, h, ph_new γ (by omega), Nat.add_sub_cancel] at h2
  exact ⟨by omega, Option.some.inj h2⟩
theorem wl_D (γ : Gm) (n : Nat) (M : Mm) (R : Rm) : va_D (fun q => gN γ ≤ q) (wl γ n M R) := by
  refine ⟨fun i j p q hi hj hpq => ?_, fun k q hk => ?_⟩
  · obtain ⟨-, rfl⟩ := wl_inv hi
    obtain ⟨-, rfl⟩ := wl_inv hj
    exact Nat.add_left_cancel hpq
  · obtain ⟨-, rfl⟩ := wl_inv hk
    exact Nat.le_add_right _ _
theorem wl_set {γ : Gm} {n : Nat} {M M' : Mm} {R R' : Rm} {k : Nat} {e : va_E} (h8 : 8 ≤ k) (hk : k < n) (he : e = ce γ M' R' k) (ho : ∀ j, j ≠ k → ce γ M' R' j = ce γ M R j) : (wl γ n M R).set (k - 8) (ph γ k, e) = wl γ n M' R' := by
  apply List.ext_getElem?
  intro i
  by_cases hi : i = k - 8
  · subst hi
    rw [List.getElem?_set_self (by rw [wl_len]; omega), wl_get h8 hk, he]
  · rw [List.getElem?_set_ne (Ne.symm hi)]
    rcases Nat.lt_or_ge i (n - 8) with h | h
    · have h1 := wl_get (γ := γ) (M := M) (R := R) (k := i + 8) (n := n) (by omega) (by omega)
      have h2 := wl_get (γ := γ) (M := M') (R := R') (k := i + 8) (n := n) (by omega) (by omega)
      rw [Nat.add_sub_cancel] at h1 h2
      rw [h1, h2, ho (i + 8) (by omega)]
    · rw [List.getElem?_eq_none (by rw [wl_len]; omega), List.getElem?_eq_none (by rw [wl_len]; omega)]
theorem wl_push {γ : Gm} {n : Nat} {M M' : Mm} {R R' : Rm} {e : va_E} (h8 : 8 ≤ n) (he : e = ce γ M' R' n) (ho : ∀ j, j ≠ n → ce γ M' R' j = ce γ M R j) : wl γ n M R ++ [(gN γ + (n - 8), e)] = wl γ (n + 1) M' R' := by
  apply List.ext_getElem?
  intro i
  rcases Nat.lt_trichotomy i (n - 8) with h | h | h
  · rw [List.getElem?_append_left (by rw [wl_len]; exact h)]
    have h1 := wl_get (γ := γ) (M := M) (R := R) (k := i + 8) (n := n) (by omega) (by omega)
    have h2 := wl_get (γ := γ) (M := M') (R := R') (k := i + 8) (n := n + 1) (by omega) (by omega)
    rw [Nat.add_sub_cancel] at h1 h2
    rw [h1, h2, ho (i + 8) (by omega)]
  · subst h
    rw [List.getElem?_append_right (by rw [wl_len]; omega), wl_len, Nat.sub_self, wl_get h8 (Nat.lt_succ_self n), ph_new γ h8, he]
    rfl
  · rw [List.getElem?_eq_none (by simp [wl_len]; omega), List.getElem?_eq_none (by rw [wl_len]; omega)]
theorem ce_o {γ : Gm} {M : Mm} {R : Rm} {k : Nat} (h : tg k < 8) : ce γ M R k = .inr (tg k, (List.range (ln k)).map (fv γ M R k)) := by rw [ce, if_pos h]
theorem ce_i {γ : Gm} {M : Mm} {R : Rm} {k : Nat} (h : 10 ≤ tg k) (h2 : tg k < 13) : ce γ M R k = .inl (gC γ (tg k), ln k, .inl (M k)) := by rw [ce, if_neg (by omega), if_pos h2]
theorem ce_q {γ : Gm} {M : Mm} {R : Rm} {k : Nat} (h : 13 ≤ tg k) : ce γ M R k = .inl (gC γ (tg k), ln k, .inr (.inr (.inr (.inr (fun j => rq γ (R k j)))))) := by rw [ce, if_neg (by omega), if_neg (by omega)]
theorem range_set {α : Type} (f : Nat → α) (N k : Nat) (v : α) : ((List.range N).map f).set k v = (List.range N).map (up f k v) := by
  apply List.ext_getElem?
  intro i
  rcases Nat.lt_or_ge i N with h | h
  · by_cases hi : k = i
    · subst hi
      rw [List.getElem?_set_self (by simpa using h), List.getElem?_map, List.getElem?_range h]
      simp [up]
    · rw [List.getElem?_set_ne hi, List.getElem?_map, List.getElem?_map, List.getElem?_range h]
      simp [up, Ne.symm hi]
  · rw [List.getElem?_eq_none (by simpa using h), List.getElem?_eq_none (by simpa using h)]
theorem fv_setI {γ : Gm} {M : Mm} {R : Rm} {a k : Nat} {x : Int32} (h : isR (tg a) k = false) : up (fv γ M R a) k (.int x) = fv γ (u2 M a k x) R a := by
  funext j
  by_cases hj : j = k
  · subst hj
    simp [up, fv, h, u2]
  · simp [up, fv, hj, u2]
theorem fv_setR {γ : Gm} {M : Mm} {R : Rm} {a k r : Nat} (h : isR (tg a) k = true) (hr : r ≠ 0) : up (fv γ M R a) k (.ref (ph γ r)) = fv γ M (u2 R a k r) a := by
  funext j
  by_cases hj : j = k
  · subst hj
    simp [up, fv, h, u2, rv, hr]
  · simp [up, fv, hj, u2]
/-! locals -/
def asc (γ : Gm) : Nat → List (Option Value) → List (Nat × Value)
  | _, [] => []
  | i, none :: L => asc γ (i + 1) L
  | i, some v :: L => (i, pv γ v) :: asc γ (i + 1) L
theorem asc_mem {γ : Gm} {v : Value} : ∀ {L : List (Option Value)} {i j : Nat}, L[j]? = some (some v) → (i + j, pv γ v) ∈ asc γ i L
  | [], i, j, h => by simp at h
  | o :: L, i, 0, h => by
    rw [List.getElem?_cons_zero] at h
    cases h
    exact List.mem_cons_self
  | o :: L, i, j + 1, h => by
    rw [List.getElem?_cons_succ] at h
    have h1 := asc_mem (γ := γ) (i := i + 1) h
    rw [show i + 1 + j = i + (j + 1) by omega] at h1
    cases o with
    | none => exact h1
    | some w => exact List.mem_cons_of_mem _ h1
theorem asc_inv {γ : Gm} : ∀ {L : List (Option Value)} {i : Nat} {q : Nat × Value}, q ∈ asc γ i L → ∃ (j : Nat) (v : Value), L[j]? = some (some v) ∧ q = (i + j, pv γ v)
  | [], i, q, h => by simp [asc] at h
  | none :: L, i, q, h => by
    obtain ⟨j, v, h1, h2⟩ := asc_inv (γ := γ) (L := L) (i := i + 1) h
    exact ⟨j + 1, v, by rw [List.getElem?_cons_succ]; exact h1, by rw [h2]; congr 1; omega⟩
  | some w :: L, i, q, h => by
    rcases List.mem_cons.mp h with rfl | h
    · exact ⟨0, w, rfl, rfl⟩
    · obtain ⟨j, v, h1, h2⟩ := asc_inv (γ := γ) (L := L) (i := i + 1) h
      exact ⟨j + 1, v, by rw [List.getElem?_cons_succ]; exact h1, by rw [h2]; congr 1; omega⟩
def is2 (o : Option Value) : Bool := match o with
  | some (.long _) => true
  | some (.double _) => true
  | _ => false
theorem pv_cat (γ : Gm) (v : Value) : (pv γ v).category = v.category := by cases v <;> rfl
theorem is2_cat (v : Value) : is2 (some v) = true ↔ v.category = 2 := by cases v <;> simp [is2, Value.category]
/-- storing a value of one slot, of two -/
def stA : List (Option Value) → Nat → Value → List (Option Value)
  | [], _, _ => []
  | _ :: L, 0, v => some v :: L
  | o :: L, i + 1, v => (if i = 0 ∧ is2 o = true then none else o) :: stA L i v
def stB : List (Option Value) → Nat → Value → List (Option Value)
  | [], _, _ => []
  | _ :: L, 0, v => some v :: (match L with
    | [] => []
    | _ :: T => none :: T)
  | o :: L, i + 1, v => (if i = 0 ∧ is2 o = true then none else o) :: stB L i v
theorem stA_get {v w : Value} : ∀ {L : List (Option Value)} {i j : Nat}, (stA L i v)[j]? = some (some w) → (j = i ∧ w = v) ∨ (j ≠ i ∧ L[j]? = some (some w) ∧ ¬ (j + 1 = i ∧ is2 (some w) = true))
  | [], i, j, h => by simp [stA] at h
  | o :: L, 0, 0, h => by
    simp [stA] at h
    exact Or.inl ⟨rfl, h.symm⟩
  | o :: L, 0, j + 1, h => by
    simp [stA] at h
    exact Or.inr ⟨by omega, by rw [List.getElem?_cons_succ]; exact h, by omega⟩
  | o :: L, i + 1, 0, h => by
    rw [stA, List.getElem?_cons_zero] at h
    by_cases hc : i = 0 ∧ is2 o = true
    · rw [if_pos hc] at h
      cases h
    · rw [if_neg hc] at h
      cases h
      exact Or.inr ⟨by omega, rfl, fun ⟨a, b⟩ => hc ⟨by omega, b⟩⟩
  | o :: L, i + 1, j + 1, h => by
    rw [stA, List.getElem?_cons_succ] at h
    rcases stA_get h with ⟨a, b⟩ | ⟨a, b, c⟩
    · exact Or.inl ⟨by omega, b⟩
    · exact Or.inr ⟨by omega, by rw [List.getElem?_cons_succ]; exact b, fun ⟨x, y⟩ => c ⟨by omega, y⟩⟩
theorem stB_get {v w : Value} : ∀ {L : List (Option Value)} {i j : Nat}, (stB L i v)[j]? = some (some w) → (j = i ∧ w = v) ∨ (j ≠ i ∧ j ≠ i + 1 ∧ L[j]? = some (some w) ∧ ¬ (j + 1 = i ∧ is2 (some w) = true))
  | [], i, j, h => by simp [stB] at h
  | o :: [], 0, 0, h => by
    simp [stB] at h
    exact Or.inl ⟨rfl, h.symm⟩
  | o :: [], 0, j + 1, h => by simp [stB] at h
  | o :: _ :: T, 0, 0, h => by
    simp [stB] at h
    exact Or.inl ⟨rfl, h.symm⟩
  | o :: _ :: T, 0, 1, h => by simp [stB] at h
  | o :: _ :: T, 0, j + 2, h => by
    simp [stB] at h
    exact Or.inr ⟨by omega, by omega, by rw [List.getElem?_cons_succ, List.getElem?_cons_succ]; exact h, by omega⟩
  | o :: L, i + 1, 0, h => by
    rw [stB, List.getElem?_cons_zero] at h
    by_cases hc : i = 0 ∧ is2 o = true
    · rw [if_pos hc] at h
      cases h
    · rw [if_neg hc] at h
      cases h
      exact Or.inr ⟨by omega, by omega, rfl, fun ⟨a, b⟩ => hc ⟨by omega, b⟩⟩
  | o :: L, i + 1, j + 1, h => by
    rw [stB, List.getElem?_cons_succ] at h
    rcases stB_get h with ⟨a, b⟩ | ⟨a, a2, b, c⟩
    · exact Or.inl ⟨by omega, b⟩
    · exact Or.inr ⟨by omega, by omega, by rw [List.getElem?_cons_succ]; exact b, fun ⟨x, y⟩ => c ⟨by omega, y⟩⟩
def lvh (γ : Gm) (ls : Array Slot) (nL : Nat) (L : List (Option Value)) : Prop := lv_has ls nL (asc γ 0 L)
theorem lvh_at {γ : Gm} {ls : Array Slot} {nL : Nat} {L : List (Option Value)} (h : lvh γ ls nL L) {j : Nat} {v : Value} (hj : L[j]? = some (some v)) : ls[j]? = some (.val (pv γ v)) := by
  have h1 := h.2.2 _ (asc_mem (γ := γ) (i := 0) hj)
  rwa [Nat.zero_add] at h1
theorem lvh_stA {γ : Gm} {ls' : Array Slot} {nL i : Nat} {L : List (Option Value)} {v : Value} (h : lv_has ls' nL ((i, pv γ v) :: (asc γ 0 L).filter (fun q => !(q.1 == i) && !(q.1 + 1 == i && q.2.category == 2)))) : lvh γ ls' nL (stA L i v) := by
  refine ⟨h.1, h.2.1, fun q hq => h.2.2 q ?_⟩
  obtain ⟨j, w, h1, rfl⟩ := asc_inv hq
  rw [Nat.zero_add]
  rcases stA_get h1 with ⟨rfl, rfl⟩ | ⟨a, b, c⟩
  · exact List.mem_cons_self
  · refine List.mem_cons_of_mem _ (List.mem_filter.mpr ⟨?_, ?_⟩)
    · have h2 := asc_mem (γ := γ) (i := 0) b
      rwa [Nat.zero_add] at h2
    · rw [is2_cat] at c
      simp only [pv_cat, Bool.and_eq_true, Bool.not_eq_true', beq_eq_false_iff_ne, ne_eq, Bool.and_eq_false_iff]
      refine ⟨a, ?_⟩
      by_cases z : j + 1 = i
      · exact Or.inr (by simpa using fun q => c ⟨z, q⟩)
      · exact Or.inl z
theorem lvh_stB {γ : Gm} {ls' : Array Slot} {nL i : Nat} {L : List (Option Value)} {v : Value} (h : lv_has ls' nL ((i, pv γ v) :: (asc γ 0 L).filter (fun q => !(q.1 == i) && (!(q.1 == i + 1) && !(q.1 + 1 == i && q.2.category == 2))))) : lvh γ ls' nL (stB L i v) := by
  refine ⟨h.1, h.2.1, fun q hq => h.2.2 q ?_⟩
  obtain ⟨j, w, h1, rfl⟩ := asc_inv hq
  rw [Nat.zero_add]
  rcases stB_get h1 with ⟨rfl, rfl⟩ | ⟨a, a2, b, c⟩
  · exact List.mem_cons_self
  · refine List.mem_cons_of_mem _ (List.mem_filter.mpr ⟨?_, ?_⟩)
    · have h2 := asc_mem (γ := γ) (i := 0) b
      rwa [Nat.zero_add] at h2
    · rw [is2_cat] at c
      simp only [pv_cat, Bool.and_eq_true, Bool.not_eq_true', beq_eq_false_iff_ne, ne_eq, Bool.and_eq_false_iff]
      refine ⟨a, a2, ?_⟩
      by_cases z : j + 1 = i
      · exact Or.inr (by simpa using fun q => c ⟨z, q⟩)
      · exact Or.inl z
def iL : List Value → List (Option Value)
  | [] => []
  | v :: vs => if v.category = 2 then some v :: none :: iL vs else some v :: iL vs
def inL (n : Nat) (vs : List Value) : List (Option Value) := iL vs ++ List.replicate (n - (iL vs).length) none
theorem asc_app (γ : Gm) : ∀ (L L' : List (Option Value)) (i : Nat), asc γ i (L ++ L') = asc γ i L ++ asc γ (i + L.length) L'
  | [], L', i => rfl
  | none :: L, L', i => by
    show asc γ (i + 1) (L ++ L') = asc γ (i + 1) L ++ _
    rw [asc_app γ L L' (i + 1), List.length_cons, show i + 1 + L.length = i + (L.length + 1) by omega]
  | some v :: L, L', i => by
    show (i, pv γ v) :: asc γ (i + 1) (L ++ L') = (i, pv γ v) :: (asc γ (i + 1) L ++ _)
    rw [asc_app γ L L' (i + 1), List.length_cons, show i + 1 + L.length = i + (L.length + 1) by omega]
theorem asc_none (γ : Gm) : ∀ (k i : Nat), asc γ i (List.replicate k none) = []
  | 0, _ => rfl
  | k + 1, i => asc_none γ k (i + 1)
theorem asc_iL (γ : Gm) : ∀ (vs : List Value) (i : Nat), asc γ i (iL vs) = lv_args i (vs.map (pv γ))
  | [], _ => rfl
  | v :: vs, i => by
    rw [List.map_cons, lv_args, pv_cat, iL]
    by_cases h : v.category = 2
    · rw [if_pos h, if_pos h, ← asc_iL γ vs (i + 2)]
      rfl
    · rw [if_neg h, if_neg h, ← asc_iL γ vs (i + 1)]
      rfl
theorem lvh_entry {γ : Gm} {ls : Array Slot} {n : Nat} {vs : List Value} (h : lv_has ls n (lv_args 0 (vs.map (pv γ)))) : lvh γ ls n (inL n vs) := by
  unfold lvh inL
  rw [asc_app, asc_none, List.append_nil, asc_iL]
  exact h
theorem lg_len : ∀ (γ : Gm) (vs : List Value), (lg_sl (vs.map (pv γ))).length = (iL vs).length
  | _, [] => rfl
  | γ, v :: vs => by
    have ih := lg_len γ vs
    unfold lg_sl at ih ⊢
    rw [List.map_cons, List.flatMap_cons, List.length_append, ih, pv_cat, iL]
    by_cases h : v.category = 2
    · rw [if_pos h, if_pos h]
      simp
      omega
    · rw [if_neg h, if_neg h]
      simp
      omega
end
section
/-! THE WORLD'S WORDS, AND WHAT A WALK OF A METHOD IS OVER THE MEMORY -/
def WS : List Cond := lw_tbl.filter goodWord
theorem inWS {w : Cond} (h : w ∈ lw_tbl) (hg : goodWord w = true) : w ∈ WS := List.mem_filter.mpr ⟨h, hg⟩
theorem WS_good {w : Cond} (h : w ∈ WS) : (w.onTables && w.keeps) = true ∨ ∃ ty, w = .arrayClass ty := good_of_word (List.mem_filter.mp h).2
/-- the words of nest mates, and the one cast: they move by laws of their own -/
def nestW (w : Cond) : Bool := match w with
  | .fieldLinkNest _ _ _ _ _ _ => true
  | .methodLinkNest _ _ _ _ => true
  | .castable _ _ => true
  | _ => false
theorem nestW_warm {w : Cond} (h : nestW w = true) {s U : State} (hW : s.WarmedH U.vm) (hZ : va_Nw w s) : va_Nw w U := by
  cases w <;> first | exact hZ.warmF hW | exact hZ.warmM hW | exact hZ.warmC hW | exact Bool.noConfusion h
def NW : List Cond := tables_1.filter nestW
abbrev tysG (γ : Gm) : List (ClassId × FieldType) := [(gC γ 10, .int), (gC γ 11, .char), (gC γ 12, .boolean), (gC γ 13, .object RX4), (gC γ 14, .object RX3), (gC γ 15, .object RX0)]
/-- the three static tables -/
def stN (k : Nat) : String := if k = 1 then "FIRST_SETTINGS" else if k = 2 then "LEAST_SETTINGS" else "GREATEST_SETTINGS"
def stV (k j : Nat) : Int32 := if k = 1 then (if j = 0 then 80 else if j = 1 then 2 else 500) else if k = 2 then (if j = 0 then 0 else if j = 1 then 0 else 1) else (if j = 0 then 100 else if j = 1 then 50 else 9999)
abbrev aN (γ : Gm) : Nat → Prop := fun q => gN γ ≤ q
def StK (γ : Gm) (s : State) (k : Nat) : Prop := va_Z RX5 (stN k) "[I" (.ref (ph γ k)) (aN γ) s s.heap ∧ va_T .int (ph γ k) 3 (fun j => .int (stV k j)) (aN γ) s s.heap ∧ ∃ cell : Cell, s.heap[ph γ k]? = some cell ∧ cell.cls = gC γ 10 ∧ cell.slots.size = 3
def ScK (γ : Gm) (s : State) : Prop := va_X (ph γ 4) γ.2.2.2.2.1 γ.2.2.2.2.2 s s.heap ∧ ph γ 4 < s.heap.size ∧ ¬ aN γ (ph γ 4)
theorem ScK.moved {γ : Gm} {s U : State} (h : ScK γ s) (hvm : s.vm.Alike U.vm) (hz : s.heap.size ≤ U.heap.size) (hq : ∀ a : Nat, a < s.heap.size → ¬ aN γ a → U.heap[a]? = s.heap[a]?) : ScK γ U := ⟨(h.1.moved hvm).kept (hq _ h.2.1 h.2.2), Nat.lt_of_lt_of_le h.2.1 hz, h.2.2⟩
def KK (γ : Gm) (s : State) : Prop := va_K γ.1 vwCl (tysG γ) s ∧ (∀ w ∈ NW, va_Nw w s) ∧ (va_AO RX4 s ∧ va_AO RX3 s ∧ va_AO RX0 s) ∧ (∀ k, 1 ≤ k → k < 4 → StK γ s k) ∧ gN γ ≤ s.heap.size ∧ ScK γ s
theorem StK.moved {γ : Gm} {s U : State} {k : Nat} (h : StK γ s k) (hvm : s.vm.Alike U.vm) (hq : ∀ a : Nat, a < s.heap.size → ¬ aN γ a → U.heap[a]? = s.heap[a]?) : StK γ U k := by
  obtain ⟨h1, h2, cell, h3, h4⟩ := h
  refine ⟨(h1.moved hvm).kept hq, (h2.moved hvm).kept hq, cell, ?_, h4⟩
  obtain ⟨cell', g1, -, -, -, -, -, g7⟩ := h2
  rw [hq _ (Array.getElem?_eq_some_iff.mp g1).1 g7]
  exact h3
theorem KK.moved {γ : Gm} {s U : State} (h : KK γ s) (hW : s.WarmedH U.vm) (hz : s.heap.size ≤ U.heap.size) (hq : ∀ a : Nat, a < s.heap.size → ¬ aN γ a → U.heap[a]? = s.heap[a]?) : KK γ U := by
  obtain ⟨h1, h2, ⟨a1, a2, a3⟩, h4, h5, h6⟩ := h
  have hvm := hW.alike
  exact ⟨h1.moved hvm, fun w hw => nestW_warm (List.mem_filter.mp hw).2 hW (h2 w hw), ⟨a1.moved hvm, a2.moved hvm, a3.moved hvm⟩, fun k k1 k2 => (h4 k k1 k2).moved hvm hq, Nat.le_trans h5 hz, h6.moved hvm hz hq⟩
theorem KK.calling {γ : Gm} {U : State} {g : JFrame} {mk : MethodId} {a : Array Value} (h : KK γ U) : KK γ (U.calling g mk a) :=
  ⟨va_K.moved (u := U) (U := U.calling g mk a) (Vm.Alike.refl U.vm) h.1, fun w hw => by
    have h1 := h.2.1 w hw
    have h2 := (List.mem_filter.mp hw).2
    refine va_Nw.same ?_ (rfl : U.vm = (U.calling g mk a).vm) h1
    cases w <;> first | rfl | exact Bool.noConfusion h2, ⟨va_AO.moved (u := U) (U := U.calling g mk a) (Vm.Alike.refl U.vm) h.2.2.1.1, va_AO.moved (u := U) (U := U.calling g mk a) (Vm.Alike.refl U.vm) h.2.2.1.2.1, va_AO.moved (u := U) (U := U.calling g mk a) (Vm.Alike.refl U.vm) h.2.2.1.2.2⟩, fun k k1 k2 => (h.2.2.2.1 k k1 k2).moved (U := U.calling g mk a) (Vm.Alike.refl U.vm) (fun _ _ _ => rfl), h.2.2.2.2.1, h.2.2.2.2.2.moved (U := U.calling g mk a) (Vm.Alike.refl U.vm) (Nat.le_refl _) (fun _ _ _ => rfl)⟩
def Cx (γ : Gm) (y : Mt) (d nE nX : Nat) (p : Program) (R0 : Room) (s : State) (m : MethodId) (args : Array Value) (meth : Method) (c : Code) : Prop :=
  p.tables.exec = Jvm.exec ∧ c.code = y.2.1 ∧ c.maxLocals = y.2.2.1 ∧ s.vm.findClass y.1.cls = some m.cls ∧ (∀ w ∈ WS, w.before args s = true) ∧ KK γ s ∧ (d ≤ R0.frames ∧ 34 * d ≤ R0.locals ∧ nX - nE ≤ R0.cells ∧ sl nX - sl nE ≤ R0.slots) ∧ (8 ≤ nE ∧ s.heap.size = gN γ + (nE - 8)) ∧ (y.1.name = "<init>" → meth.name = "<init>")
def Wd (γ : Gm) (n : Nat) (M : Mm) (R : Rm) (s : State) (H : Heap) (locs : List Loc) : Prop := va_P γ.1 vwCl (wl γ n M R) H ∧ va_S (aN γ) s.heap H locs
def retOk (y : Mt) (pc : Nat) (v : Option Value) : Prop := match v with
  | none => decode y.2.1 pc = .ok (.return_, 1) ∧ y.2.2.2 = none
  | some (.int x) => decode y.2.1 pc = .ok (.ireturn, 1) ∧ ∃ ty, y.2.2.2 = some ty ∧ narrow ty (.int x) = .int x
  | some (.long _) => decode y.2.1 pc = .ok (.lreturn, 1) ∧ y.2.2.2 = some .long
  | _ => False
/-- from pc, with these locals and this stack and this memory, method y comes to its end, and there K holds of its answer and of the memory -/
def WP (γ : Gm) (l : Launch) (y : Mt) (d nE nX : Nat) (pc : Nat) (L : List (Option Value)) (S : List Value) (n : Nat) (M : Mm) (R : Rm) (K : Option Value → Nat → Mm → Rm → Prop) : Prop :=
  ∀ (p : Program) (e : Env) (R0 : Room) (s : State) (m : MethodId) (args : Array Value) (below : List Frame) (meth : Method) (c : Code) (Q : State → Prop) (H : Heap) (locs : List Loc) (ls : Array Slot),
    Cx γ y d nE nX p R0 s m args meth c →
    (∀ (pc' : Nat) (v : Option Value) (M' : Mm) (R' : Rm) (H' : Heap) (locs' : List Loc) (ls' : Array Slot), retOk y pc' v → Wd γ nX M' R' s H' locs' → K v nX M' R' →
      W p l e R0 s m args below meth c H' locs' (nX - nE) (sl nX - sl nE) Q (F0 m pc' ls' (v.map (pv γ)).toList)) →
    Wd γ n M R s H locs → nE ≤ n → n ≤ nX → lvh γ ls y.2.2.1 L →
    W p l e R0 s m args below meth c H locs (n - nE) (sl n - sl nE) Q (F0 m pc ls (S.map (pv γ)))
def CL (γ : Gm) (l : Launch) (z : Mt) (d n n' : Nat) (As : List Value) (M : Mm) (R : Rm) (K : Option Value → Nat → Mm → Rm → Prop) : Prop := WP γ l z d n n' 0 (inL z.2.2.1 As) [] n M R K
theorem WP.mono {γ : Gm} {l : Launch} {y : Mt} {d nE nX pc n : Nat} {L : List (Option Value)} {S : List Value} {M : Mm} {R : Rm} {K K' : Option Value → Nat → Mm → Rm → Prop} (h : WP γ l y d nE nX pc L S n M R K) (hK : ∀ v M' R', K v nX M' R' → K' v nX M' R') : WP γ l y d nE nX pc L S n M R K' :=
  fun p e R0 s m args below meth c Q H locs ls C hr => h p e R0 s m args below meth c Q H locs ls C (fun pc' v M' R' H' locs' ls' h1 h2 h3 => hr pc' v M' R' H' locs' ls' h1 h2 (hK v M' R' h3))
/-! calls -/
def PcW (γ : Gm) (As : List Value) (n : Nat) (M : Mm) (R : Rm) : Array Value → State → Prop := fun a U => a = (As.map (pv γ)).toArray ∧ KK γ U ∧ 8 ≤ n ∧ U.heap.size = gN γ + (n - 8) ∧ va_P γ.1 vwCl (wl γ n M R) U.heap
def QcW (γ : Gm) (n' : Nat) (K : Option Value → Nat → Mm → Rm → Prop) : Array Value → State → Outcome → State → Prop := fun _ st o t => ∃ (r : Option Value) (M' : Mm) (R' : Rm), o = .returned (r.map (pv γ)) ∧ K r n' M' R' ∧ va_P γ.1 vwCl (wl γ n' M' R') t.heap ∧ va_F (aN γ) st t
abbrev rmW (d n n' : Nat) : Room := { frames := d, cells := n' - n, slots := sl n' - sl n, locals := 34 * d }
theorem Met.ofWF {l : Launch} {y : MethodName} {ws ws' : List Cond} {rm : Room} {Pc : Array Value → State → Prop} {Qc : Array Value → State → Outcome → State → Prop} {mc ms : Nat} {free : Addr → Prop} {cc : ByteArray} {maxL : Nat} {ret : Option FieldType}
    (hy : plainFor y = true) (hw : ws = Cond.code y cc maxL ret :: ws')
    (body : ∀ p e s m args below meth c s₁, BodyLoose p l y (headSpec ws rm) cc maxL ret e s m args below meth c s₁ → c.maxLocals = maxL → Pc args s →
      W p l e (headSpec ws rm).room s m args below meth c s.heap [] 0 0 (MQ below Qc args s mc ms free) (entryFrame m args maxL)) : Met l y ws rm Pc Qc mc ms free := by
  refine MetFree.of_bodySF (code := cc) (maxLocals := maxL) (ret := ret) hy ?_ ?_
  · intro args s m h hn
    obtain ⟨meth, c, h1, h2, h3, h4, h5, h6, -, -⟩ := Cond.code_spec hn (atoms_spec (ws := ws) h _ (by rw [hw]; exact List.mem_cons_self))
    exact ⟨meth, c, h1, h2, h3, h4, h5, h6⟩
  · intro p e s m args below meth c s₁ B hml hP _
    have hh0 : s₁.heap = s.heap := by rw [B.state]; rfl
    obtain ⟨t, a1, o, b1, b2, b3⟩ := body p e s m args below meth c s₁ B hml hP s₁ hh0 (Stand.of_body B)
    exact ⟨t, o, a1, b1, b2, ⟨b3.1, b3.2⟩⟩
set_option maxHeartbeats 1000000 in
theorem met_of {γ : Gm} {l : Launch} {z : Mt} {d n n' : Nat} {As : List Value} {M : Mm} {R : Rm} {K : Option Value → Nat → Mm → Rm → Prop} (hpl : plainFor z.1 = true) (hn : n ≤ n') (hlen : (iL As).length ≤ z.2.2.1) (hk : CL γ l z d n n' As M R K) :
    Met l z.1 (Cond.code z.1 z.2.1 z.2.2.1 z.2.2.2 :: WS) (rmW d n n') (PcW γ As n M R) (QcW γ n' K) (n' - n) (sl n' - sl n) (aN γ) := by
  refine Met.ofWF (cc := z.2.1) (maxL := z.2.2.1) (ret := z.2.2.2) hpl rfl ?_
  intro p e s m args below meth c s₁ B hml hv
  obtain ⟨rfl, hKK, h8, hsz, hP⟩ := hv
  have hlocks := B.notSynchronized
  have hb := B.bytes
  have hr := B.returns
  have hts := atoms_spec (ws := Cond.code z.1 z.2.1 z.2.2.1 z.2.2.2 :: WS) B.pre
  rw [lg_entry_eq]
  have hl := lv_entry (As.map (pv γ)) (n := z.2.2.1) (by rw [lg_len]; exact hlen)
  have h := hk p e (headSpec (Cond.code z.1 z.2.1 z.2.2.1 z.2.2.2 :: WS) (rmW d n n')).room s m (As.map (pv γ)).toArray below meth c (MQ below (QcW γ n' K) (As.map (pv γ)).toArray s (n' - n) (sl n' - sl n) (aN γ)) s.heap [] _
    ⟨B.exec, hb, hml, findClass_of_methodNamed B.named, fun w hw => hts w (List.mem_cons_of_mem _ hw), hKK, ⟨Nat.le_refl _, Nat.le_refl _, Nat.le_refl _, Nat.le_refl _⟩, ⟨h8, hsz⟩, fun h => (name_of_methodNamed B.named B.method).1.trans h⟩
    (fun pc' v M' R' H' locs' ls' hret hW hK => by
      obtain ⟨wP, wS⟩ := hW
      match v, hret with
      | none, hret => exact W.vret B.exec hb (hr.trans hret.2) (fun t ht hW => ⟨none, M', R', rfl, hK, by rw [ht]; exact wP, wS.F ht⟩) wS.2.2 hret.1 hlocks
      | some (.int x), hret =>
        obtain ⟨hd, ty, h1, h2⟩ := hret
        exact W.zret B.exec hb (hr.trans h1) h2 (fun t ht hW => ⟨some (.int x), M', R', rfl, hK, by rw [ht]; exact wP, wS.F ht⟩) wS.2.2 hd hlocks
      | some (.long x), hret => exact W.lret B.exec hb (hr.trans hret.2) (fun t ht hW => ⟨some (.long x), M', R', rfl, hK, by rw [ht]; exact wP, wS.F ht⟩) wS.2.2 hret.1 hlocks
      | some (.ref _), hret => exact hret.elim
      | some .null, hret => exact hret.elim
      | some (.float _), hret => exact hret.elim
      | some (.double _), hret => exact hret.elim)
    ⟨hP, va_S.rf⟩ (Nat.le_refl _) hn (lvh_entry hl)
  rw [Nat.sub_self, Nat.sub_self] at h
  exact h
section CALLS
variable {γ : Gm} {p : Program} {l : Launch} {e : Env} {R0 : Room} {s : State} {m : MethodId} {args : Array Value} {below : List Frame} {meth : Method} {c : Code} {H : Heap} {locs : List Loc} {cells slots : Nat} {Q : State → Prop}
theorem call_fin {pc : Nat} {ls : Array Slot} {rest st0 : List Value} {a : Array Value} {mc ms n' : Nat} {K : Option Value → Nat → Mm → Rm → Prop} (hr : va_Run p l e R0 s m args below meth c H locs cells slots mc ms (F0 m pc ls st0) rest (QcW γ n' K a) (aN γ)) (hS : va_S (aN γ) s.heap H locs)
    (kk : ∀ (r : Option Value) (M' : Mm) (R' : Rm) (H1 : Heap) (locs1 : List Loc), K r n' M' R' → Wd γ n' M' R' s H1 locs1 → W p l e R0 s m args below meth c H1 locs1 (cells + mc) (slots + ms) Q (F0 m (pc + 3) ls ((r.map (pv γ)).toList ++ rest))) : W p l e R0 s m args below meth c H locs cells slots Q (F0 m pc ls st0) := by
  intro T hT X
  obtain ⟨v, st₀, t, T', L, h0, X', hL, e1, e2, ⟨r, M', R', hv, hK, hP, hz, hk⟩, st⟩ := hr T hT X
  cases hv
  rw [h0] at hz hk
  obtain ⟨t2, a1, b1⟩ := kk r M' R' T'.heap (locs ++ L) hK ⟨by rw [e1]; exact hP, Nat.le_trans hS.1 (by rw [e1]; exact hz), fun q h1 h2 => by rw [e1, hk q (Nat.lt_of_lt_of_le h1 hS.1) h2]; exact hS.2.1 q h1 h2, fun q hq => by
      rcases List.mem_append.mp hq with h | h
      · exact hS.2.2 q h
      · exact hL q h⟩ T' rfl X'
  exact ⟨t2, st t2 a1, b1⟩
theorem pcW_blind {As : List Value} {n : Nat} {M : Mm} {R : Rm} : FrameBlind (PcW γ As n M R) := fun _ _ _ _ h => ⟨h.1, h.2.1.calling, h.2.2.1, h.2.2.2.1, h.2.2.2.2⟩
theorem pcW_at {As : List Value} {n : Nat} {M : Mm} {R : Rm} (hK : KK γ s) (h8 : 8 ≤ n) (hsz : H.size = gN γ + (n - 8)) (hW : Wd γ n M R s H locs) : ∀ U : State, U.heap = H → s.WarmedH U.vm → PcW γ As n M R (As.map (pv γ)).toArray U := by
  intro U hU hw
  obtain ⟨hP, hS⟩ := hW
  exact ⟨rfl, hK.moved hw (by rw [hU]; exact hS.1) (fun a h1 h2 => by rw [hU]; exact hS.2.1 a h1 h2), h8, by rw [hU]; exact hsz, by rw [hU]; exact hP⟩
theorem W_sz {g : JFrame} (h : H.size ≤ s.heap.size + cells → W p l e R0 s m args below meth c H locs cells slots Q g) : W p l e R0 s m args below meth c H locs cells slots Q g := fun T hT X => h (by rw [← hT]; exact X.heapSize) T hT X
theorem wd_size {n nE : Nat} {M : Mm} {R : Rm} (hW : Wd γ n M R s H locs) (h8 : 8 ≤ nE) (hs : s.heap.size = gN γ + (nE - 8)) (h1 : nE ≤ n) (hu : H.size ≤ s.heap.size + (n - nE)) : H.size = gN γ + (n - 8) := by
  rcases Nat.lt_or_ge nE n with h | h
  · have h2 := (hW.1 _ _ (wl_get (γ := γ) (n := n) (k := n - 1) (by omega) (by omega))).lt
    rw [show ((ph γ (n - 1), ce γ M R (n - 1)) : Nat × va_E).1 = ph γ (n - 1) from rfl, ph_new γ (by omega)] at h2
    omega
  · have h2 := hW.2.1
    omega
end CALLS
end
section
/-! A ROW AN INSTRUCTION -/
section ROWS
variable {γ : Gm} {l : Launch} {y : Mt} {d nE nX pc n : Nat} {L : List (Option Value)} {S : List Value} {M : Mm} {R : Rm} {K : Option Value → Nat → Mm → Rm → Prop}
theorem wp_iconst {i : Int} {v : Int32} (hd : decode y.2.1 pc = .ok (.iconst i, 1)) (hv : Int32.ofInt i = v) (k : WP γ l y d nE nX (pc + 1) L (.int v :: S) n M R K) : WP γ l y d nE nX pc L (S) n M R K :=
  fun p e R0 s m args below meth c Q H locs ls C hr hW h1 h2 hl => lv_iconst C.1 C.2.1 hd hv (k p e R0 s m args below meth c Q H locs ls C hr hW h1 h2 hl)
theorem wp_bipush {i : Int} {v : Int32} (hd : decode y.2.1 pc = .ok (.bipush i, 2)) (hv : (Int8.ofInt i).toInt32 = v) (k : WP γ l y d nE nX (pc + 2) L (.int v :: S) n M R K) : WP γ l y d nE nX pc L (S) n M R K :=
  fun p e R0 s m args below meth c Q H locs ls C hr hW h1 h2 hl => lv_bipush C.1 C.2.1 hd hv (k p e R0 s m args below meth c Q H locs ls C hr hW h1 h2 hl)
theorem wp_sipush {i : Int} {v : Int32} (hd : decode y.2.1 pc = .ok (.sipush i, 3)) (hv : (Int16.ofInt i).toInt32 = v) (k : WP γ l y d nE nX (pc + 3) L (.int v :: S) n M R K) : WP γ l y d nE nX pc L (S) n M R K :=
  fun p e R0 s m args below meth c Q H locs ls C hr hW h1 h2 hl => lv_sipush C.1 C.2.1 hd hv (k p e R0 s m args below meth c Q H locs ls C hr hW h1 h2 hl)
theorem wp_lconst {i : Fin 2} {v : Int64} (hd : decode y.2.1 pc = .ok (.lconst i, 1)) (hv : Int64.ofNat (i : Nat) = v) (k : WP γ l y d nE nX (pc + 1) L (.long v :: S) n M R K) : WP γ l y d nE nX pc L (S) n M R K :=
  fun p e R0 s m args below meth c Q H locs ls C hr hW h1 h2 hl => lv_lconst C.1 C.2.1 hd hv (k p e R0 s m args below meth c Q H locs ls C hr hW h1 h2 hl)
theorem wp_ldc {i : Nat} {v : Int32} (hd : decode y.2.1 pc = .ok (.ldc i, 2)) (hc : Cond.constant y.1.cls i v ∈ WS) (k : WP γ l y d nE nX (pc + 2) L (.int v :: S) n M R K) : WP γ l y d nE nX pc L (S) n M R K :=
  fun p e R0 s m args below meth c Q H locs ls C hr hW h1 h2 hl => lv_ldc C.1 C.2.1 C.2.2.2.1 (C.2.2.2.2.1 _ hc) hd (k p e R0 s m args below meth c Q H locs ls C hr hW h1 h2 hl)
theorem wp_ldc2 {i : Nat} {v : Int64} (hd : decode y.2.1 pc = .ok (.ldc2_w i, 3)) (hc : Cond.constantLong y.1.cls i v ∈ WS) (k : WP γ l y d nE nX (pc + 3) L (.long v :: S) n M R K) : WP γ l y d nE nX pc L (S) n M R K :=
  fun p e R0 s m args below meth c Q H locs ls C hr hW h1 h2 hl => lv_ldc2 C.1 C.2.1 C.2.2.2.1 (C.2.2.2.2.1 _ hc) hd (k p e R0 s m args below meth c Q H locs ls C hr hW h1 h2 hl)
theorem wp_iload_n {i : Fin 4} {x : Int32} (hd : decode y.2.1 pc = .ok (.iload_n i, 1)) (hx : L[(i : Nat)]? = some (some (.int x))) (k : WP γ l y d nE nX (pc + 1) L (.int x :: S) n M R K) : WP γ l y d nE nX pc L (S) n M R K :=
  fun p e R0 s m args below meth c Q H locs ls C hr hW h1 h2 hl => lv_iload_n C.1 C.2.1 hd rfl (lvh_at hl hx) (k p e R0 s m args below meth c Q H locs ls C hr hW h1 h2 hl)
theorem wp_iload {i : Nat} {x : Int32} (hd : decode y.2.1 pc = .ok (.iload i, 2)) (hx : L[i]? = some (some (.int x))) (k : WP γ l y d nE nX (pc + 2) L (.int x :: S) n M R K) : WP γ l y d nE nX pc L (S) n M R K :=
  fun p e R0 s m args below meth c Q H locs ls C hr hW h1 h2 hl => lv_iload C.1 C.2.1 hd (lvh_at hl hx) (k p e R0 s m args below meth c Q H locs ls C hr hW h1 h2 hl)
theorem wp_aload_n {i : Fin 4} {x : Nat} (hd : decode y.2.1 pc = .ok (.aload_n i, 1)) (hx : L[(i : Nat)]? = some (some (.ref x))) (k : WP γ l y d nE nX (pc + 1) L (.ref x :: S) n M R K) : WP γ l y d nE nX pc L (S) n M R K :=
  fun p e R0 s m args below meth c Q H locs ls C hr hW h1 h2 hl => lv_aload_n C.1 C.2.1 hd rfl (lvh_at hl hx) (k p e R0 s m args below meth c Q H locs ls C hr hW h1 h2 hl)
theorem wp_aload {i : Nat} {x : Nat} (hd : decode y.2.1 pc = .ok (.aload i, 2)) (hx : L[i]? = some (some (.ref x))) (k : WP γ l y d nE nX (pc + 2) L (.ref x :: S) n M R K) : WP γ l y d nE nX pc L (S) n M R K :=
  fun p e R0 s m args below meth c Q H locs ls C hr hW h1 h2 hl => lv_aload C.1 C.2.1 hd (lvh_at hl hx) (k p e R0 s m args below meth c Q H locs ls C hr hW h1 h2 hl)
theorem wp_lload_n {i : Fin 4} {x : Int64} (hd : decode y.2.1 pc = .ok (.lload_n i, 1)) (hx : L[(i : Nat)]? = some (some (.long x))) (k : WP γ l y d nE nX (pc + 1) L (.long x :: S) n M R K) : WP γ l y d nE nX pc L (S) n M R K :=
  fun p e R0 s m args below meth c Q H locs ls C hr hW h1 h2 hl => lv_lload_n C.1 C.2.1 hd rfl (lvh_at hl hx) (k p e R0 s m args below meth c Q H locs ls C hr hW h1 h2 hl)
theorem wp_lload {i : Nat} {x : Int64} (hd : decode y.2.1 pc = .ok (.lload i, 2)) (hx : L[i]? = some (some (.long x))) (k : WP γ l y d nE nX (pc + 2) L (.long x :: S) n M R K) : WP γ l y d nE nX pc L (S) n M R K :=
  fun p e R0 s m args below meth c Q H locs ls C hr hW h1 h2 hl => lv_lload C.1 C.2.1 hd (lvh_at hl hx) (k p e R0 s m args below meth c Q H locs ls C hr hW h1 h2 hl)
theorem wp_istore_n {i : Fin 4} {x : Int32} {L' : List (Option Value)} (hd : decode y.2.1 pc = .ok (.istore_n i, 1)) (hi : (i : Nat) < y.2.2.1) (hL : stA L (i : Nat) (.int x) = L') (k : WP γ l y d nE nX (pc + 1) L' S n M R K) : WP γ l y d nE nX pc L (.int x :: S) n M R K := by
  subst hL
  exact fun p e R0 s m args below meth c Q H locs ls C hr hW h1 h2 hl => lv_istore_n C.1 C.2.1 hd rfl hl hi rfl (fun ls' hl' => k p e R0 s m args below meth c Q H locs ls' C hr hW h1 h2 (lvh_stA hl'))
theorem wp_istore {i : Nat} {x : Int32} {L' : List (Option Value)} (hd : decode y.2.1 pc = .ok (.istore i, 2)) (hi : (i : Nat) < y.2.2.1) (hL : stA L (i : Nat) (.int x) = L') (k : WP γ l y d nE nX (pc + 2) L' S n M R K) : WP γ l y d nE nX pc L (.int x :: S) n M R K := by
  subst hL
  exact fun p e R0 s m args below meth c Q H locs ls C hr hW h1 h2 hl => lv_istore C.1 C.2.1 hd hl hi rfl (fun ls' hl' => k p e R0 s m args below meth c Q H locs ls' C hr hW h1 h2 (lvh_stA hl'))
theorem wp_astore_n {i : Fin 4} {x : Nat} {L' : List (Option Value)} (hd : decode y.2.1 pc = .ok (.astore_n i, 1)) (hi : (i : Nat) < y.2.2.1) (hL : stA L (i : Nat) (.ref x) = L') (k : WP γ l y d nE nX (pc + 1) L' S n M R K) : WP γ l y d nE nX pc L (.ref x :: S) n M R K := by
  subst hL
  exact fun p e R0 s m args below meth c Q H locs ls C hr hW h1 h2 hl => lv_astore_n C.1 C.2.1 hd rfl hl hi rfl (fun ls' hl' => k p e R0 s m args below meth c Q H locs ls' C hr hW h1 h2 (lvh_stA hl'))
theorem wp_astore {i : Nat} {x : Nat} {L' : List (Option Value)} (hd : decode y.2.1 pc = .ok (.astore i, 2)) (hi : (i : Nat) < y.2.2.1) (hL : stA L (i : Nat) (.ref x) = L') (k : WP γ l y d nE nX (pc + 2) L' S n M R K) : WP γ l y d nE nX pc L (.ref x :: S) n M R K := by
  subst hL
  exact fun p e R0 s m args below meth c Q H locs ls C hr hW h1 h2 hl => lv_astore C.1 C.2.1 hd hl hi rfl (fun ls' hl' => k p e R0 s m args below meth c Q H locs ls' C hr hW h1 h2 (lvh_stA hl'))
theorem wp_lstore_n {i : Fin 4} {x : Int64} {L' : List (Option Value)} (hd : decode y.2.1 pc = .ok (.lstore_n i, 1)) (hi : (i : Nat) + 1 < y.2.2.1) (hL : stB L (i : Nat) (.long x) = L') (k : WP γ l y d nE nX (pc + 1) L' S n M R K) : WP γ l y d nE nX pc L (.long x :: S) n M R K := by
  subst hL
  exact fun p e R0 s m args below meth c Q H locs ls C hr hW h1 h2 hl => lv_lstore_n C.1 C.2.1 hd rfl hl hi rfl (fun ls' hl' => k p e R0 s m args below meth c Q H locs ls' C hr hW h1 h2 (lvh_stB hl'))
theorem wp_lstore {i : Nat} {x : Int64} {L' : List (Option Value)} (hd : decode y.2.1 pc = .ok (.lstore i, 2)) (hi : (i : Nat) + 1 < y.2.2.1) (hL : stB L (i : Nat) (.long x) = L') (k : WP γ l y d nE nX (pc + 2) L' S n M R K) : WP γ l y d nE nX pc L (.long x :: S) n M R K := by
  subst hL
  exact fun p e R0 s m args below meth c Q H locs ls C hr hW h1 h2 hl => lv_lstore C.1 C.2.1 hd hl hi rfl (fun ls' hl' => k p e R0 s m args below meth c Q H locs ls' C hr hW h1 h2 (lvh_stB hl'))
theorem asc_at {γ : Gm} {L : List (Option Value)} {i : Nat} {v : Value} (h : L[i]? = some (some v)) : ∃ k : Nat, (asc γ 0 L)[k]? = some (i, pv γ v) := by
  have h1 := asc_mem (γ := γ) (i := 0) h
  rw [Nat.zero_add] at h1
  obtain ⟨k, hk⟩ := List.getElem?_of_mem h1
  exact ⟨k, hk⟩
theorem wp_iinc {i : Nat} {j : Int} {x v : Int32} {L' : List (Option Value)} (hd : decode y.2.1 pc = .ok (.iinc i j, 3)) (hi : i < y.2.2.1) (hx : L[i]? = some (some (.int x))) (hv : x + Int32.ofInt j = v) (hL : stA L i (.int v) = L') (k : WP γ l y d nE nX (pc + 3) L' S n M R K) : WP γ l y d nE nX pc L S n M R K := by
  subst hL
  intro p e R0 s m args below meth c Q H locs ls C hr hW h1 h2 hl
  obtain ⟨q, hq⟩ := asc_at (γ := γ) hx
  exact lv_iinc C.1 C.2.1 hd hl hq hv hi rfl (fun ls' hl' => k p e R0 s m args below meth c Q H locs ls' C hr hW h1 h2 (lvh_stA hl'))
theorem wp_iadd {x z : Int32} (hd : decode y.2.1 pc = .ok (.iadd, 1))  (k : WP γ l y d nE nX (pc + 1) L (.int (x + z) :: S) n M R K) : WP γ l y d nE nX pc L (.int z :: .int x :: S) n M R K :=
  fun p e R0 s m args below meth c Q H locs ls C hr hW h1 h2 hl => lv_iadd C.1 C.2.1 hd (k p e R0 s m args below meth c Q H locs ls C hr hW h1 h2 hl)
theorem wp_isub {x z : Int32} (hd : decode y.2.1 pc = .ok (.isub, 1))  (k : WP γ l y d nE nX (pc + 1) L (.int (x - z) :: S) n M R K) : WP γ l y d nE nX pc L (.int z :: .int x :: S) n M R K :=
  fun p e R0 s m args below meth c Q H locs ls C hr hW h1 h2 hl => lv_isub C.1 C.2.1 hd (k p e R0 s m args below meth c Q H locs ls C hr hW h1 h2 hl)
theorem wp_imul {x z : Int32} (hd : decode y.2.1 pc = .ok (.imul, 1))  (k : WP γ l y d nE nX (pc + 1) L (.int (x * z) :: S) n M R K) : WP γ l y d nE nX pc L (.int z :: .int x :: S) n M R K :=
  fun p e R0 s m args below meth c Q H locs ls C hr hW h1 h2 hl => lv_imul C.1 C.2.1 hd (k p e R0 s m args below meth c Q H locs ls C hr hW h1 h2 hl)
theorem wp_iand {x z : Int32} (hd : decode y.2.1 pc = .ok (.iand, 1))  (k : WP γ l y d nE nX (pc + 1) L (.int (x &&& z) :: S) n M R K) : WP γ l y d nE nX pc L (.int z :: .int x :: S) n M R K :=
  fun p e R0 s m args below meth c Q H locs ls C hr hW h1 h2 hl => lv_iand C.1 C.2.1 hd (k p e R0 s m args below meth c Q H locs ls C hr hW h1 h2 hl)
theorem wp_ixor {x z : Int32} (hd : decode y.2.1 pc = .ok (.ixor, 1))  (k : WP γ l y d nE nX (pc + 1) L (.int (x ^^^ z) :: S) n M R K) : WP γ l y d nE nX pc L (.int z :: .int x :: S) n M R K :=
  fun p e R0 s m args below meth c Q H locs ls C hr hW h1 h2 hl => lv_ixor C.1 C.2.1 hd (k p e R0 s m args below meth c Q H locs ls C hr hW h1 h2 hl)
theorem wp_idiv {x z : Int32} (hd : decode y.2.1 pc = .ok (.idiv, 1)) (hz : ¬ z = 0) (k : WP γ l y d nE nX (pc + 1) L (.int (x / z) :: S) n M R K) : WP γ l y d nE nX pc L (.int z :: .int x :: S) n M R K :=
  fun p e R0 s m args below meth c Q H locs ls C hr hW h1 h2 hl => lv_idiv C.1 C.2.1 hd hz (k p e R0 s m args below meth c Q H locs ls C hr hW h1 h2 hl)
theorem wp_irem {x z : Int32} (hd : decode y.2.1 pc = .ok (.irem, 1)) (hz : ¬ z = 0) (k : WP γ l y d nE nX (pc + 1) L (.int (x - x / z * z) :: S) n M R K) : WP γ l y d nE nX pc L (.int z :: .int x :: S) n M R K :=
  fun p e R0 s m args below meth c Q H locs ls C hr hW h1 h2 hl => lv_irem C.1 C.2.1 hd hz (k p e R0 s m args below meth c Q H locs ls C hr hW h1 h2 hl)
theorem wp_ineg {x : Int32} (hd : decode y.2.1 pc = .ok (.ineg, 1))  (k : WP γ l y d nE nX (pc + 1) L (.int (-x) :: S) n M R K) : WP γ l y d nE nX pc L (.int x :: S) n M R K :=
  fun p e R0 s m args below meth c Q H locs ls C hr hW h1 h2 hl => lv_ineg C.1 C.2.1 hd (k p e R0 s m args below meth c Q H locs ls C hr hW h1 h2 hl)
theorem wp_ladd {x z : Int64} (hd : decode y.2.1 pc = .ok (.ladd, 1))  (k : WP γ l y d nE nX (pc + 1) L (.long (x + z) :: S) n M R K) : WP γ l y d nE nX pc L (.long z :: .long x :: S) n M R K :=
  fun p e R0 s m args below meth c Q H locs ls C hr hW h1 h2 hl => lv_ladd C.1 C.2.1 hd (k p e R0 s m args below meth c Q H locs ls C hr hW h1 h2 hl)
theorem wp_lsub {x z : Int64} (hd : decode y.2.1 pc = .ok (.lsub, 1))  (k : WP γ l y d nE nX (pc + 1) L (.long (x - z) :: S) n M R K) : WP γ l y d nE nX pc L (.long z :: .long x :: S) n M R K :=
  fun p e R0 s m args below meth c Q H locs ls C hr hW h1 h2 hl => lv_lsub C.1 C.2.1 hd (k p e R0 s m args below meth c Q H locs ls C hr hW h1 h2 hl)
theorem wp_land {x z : Int64} (hd : decode y.2.1 pc = .ok (.land, 1))  (k : WP γ l y d nE nX (pc + 1) L (.long (x &&& z) :: S) n M R K) : WP γ l y d nE nX pc L (.long z :: .long x :: S) n M R K :=
  fun p e R0 s m args below meth c Q H locs ls C hr hW h1 h2 hl => lv_land C.1 C.2.1 hd (k p e R0 s m args below meth c Q H locs ls C hr hW h1 h2 hl)
theorem wp_lor {x z : Int64} (hd : decode y.2.1 pc = .ok (.lor, 1))  (k : WP γ l y d nE nX (pc + 1) L (.long (x ||| z) :: S) n M R K) : WP γ l y d nE nX pc L (.long z :: .long x :: S) n M R K :=
  fun p e R0 s m args below meth c Q H locs ls C hr hW h1 h2 hl => lv_lor C.1 C.2.1 hd (k p e R0 s m args below meth c Q H locs ls C hr hW h1 h2 hl)
theorem wp_i2l {x : Int32} (hd : decode y.2.1 pc = .ok (.i2l, 1))  (k : WP γ l y d nE nX (pc + 1) L (.long x.toInt64 :: S) n M R K) : WP γ l y d nE nX pc L (.int x :: S) n M R K :=
  fun p e R0 s m args below meth c Q H locs ls C hr hW h1 h2 hl => lv_i2l C.1 C.2.1 hd rfl (k p e R0 s m args below meth c Q H locs ls C hr hW h1 h2 hl)
theorem wp_l2i {x : Int64} (hd : decode y.2.1 pc = .ok (.l2i, 1))  (k : WP γ l y d nE nX (pc + 1) L (.int x.toInt32 :: S) n M R K) : WP γ l y d nE nX pc L (.long x :: S) n M R K :=
  fun p e R0 s m args below meth c Q H locs ls C hr hW h1 h2 hl => lv_l2i C.1 C.2.1 hd rfl (k p e R0 s m args below meth c Q H locs ls C hr hW h1 h2 hl)
theorem wp_i2c {x : Int32} (hd : decode y.2.1 pc = .ok (.i2c, 1))  (k : WP γ l y d nE nX (pc + 1) L (.int (x.toUInt32 % 65536).toInt32 :: S) n M R K) : WP γ l y d nE nX pc L (.int x :: S) n M R K :=
  fun p e R0 s m args below meth c Q H locs ls C hr hW h1 h2 hl => lv_i2c C.1 C.2.1 hd rfl (k p e R0 s m args below meth c Q H locs ls C hr hW h1 h2 hl)
theorem wp_lushr {x : Int64} {z : Int32} (hd : decode y.2.1 pc = .ok (.lushr, 1))  (k : WP γ l y d nE nX (pc + 1) L (.long (x.toUInt64 >>> (z.toInt64.toUInt64 &&& Int64.toUInt64 63)).toInt64 :: S) n M R K) : WP γ l y d nE nX pc L (.int z :: .long x :: S) n M R K :=
  fun p e R0 s m args below meth c Q H locs ls C hr hW h1 h2 hl => lv_lushr C.1 C.2.1 hd rfl (k p e R0 s m args below meth c Q H locs ls C hr hW h1 h2 hl)
theorem wp_lshl {x : Int64} {z : Int32} (hd : decode y.2.1 pc = .ok (.lshl, 1))  (k : WP γ l y d nE nX (pc + 1) L (.long (x <<< (z.toInt64 &&& 63)) :: S) n M R K) : WP γ l y d nE nX pc L (.int z :: .long x :: S) n M R K :=
  fun p e R0 s m args below meth c Q H locs ls C hr hW h1 h2 hl => lv_lshl C.1 C.2.1 hd rfl (k p e R0 s m args below meth c Q H locs ls C hr hW h1 h2 hl)
theorem wp_lcmp {x z : Int64} (hd : decode y.2.1 pc = .ok (.lcmp, 1))  (k : WP γ l y d nE nX (pc + 1) L (.int (lg_cmp x z) :: S) n M R K) : WP γ l y d nE nX pc L (.long z :: .long x :: S) n M R K :=
  fun p e R0 s m args below meth c Q H locs ls C hr hW h1 h2 hl => W.lcmp C.1 C.2.1 hd (k p e R0 s m args below meth c Q H locs ls C hr hW h1 h2 hl)
theorem wp_dup {v : Value} (hd : decode y.2.1 pc = .ok (.dup, 1)) (hc : v.category = 1) (k : WP γ l y d nE nX (pc + 1) L (v :: v :: S) n M R K) : WP γ l y d nE nX pc L (v :: S) n M R K :=
  fun p e R0 s m args below meth c Q H locs ls C hr hW h1 h2 hl => lv_dup C.1 C.2.1 hd (by rw [pv_cat]; exact hc) (k p e R0 s m args below meth c Q H locs ls C hr hW h1 h2 hl)
theorem wp_pop {v : Value} (hd : decode y.2.1 pc = .ok (.pop, 1)) (hc : v.category = 1) (k : WP γ l y d nE nX (pc + 1) L (S) n M R K) : WP γ l y d nE nX pc L (v :: S) n M R K :=
  fun p e R0 s m args below meth c Q H locs ls C hr hW h1 h2 hl => lv_pop C.1 C.2.1 hd (by rw [pv_cat]; exact hc) (k p e R0 s m args below meth c Q H locs ls C hr hW h1 h2 hl)
theorem wp_dup2 {v w : Value} (hd : decode y.2.1 pc = .ok (.dup2, 1)) (hv : v.category = 1) (hw : w.category = 1) (k : WP γ l y d nE nX (pc + 1) L (v :: w :: v :: w :: S) n M R K) : WP γ l y d nE nX pc L (v :: w :: S) n M R K :=
  fun p e R0 s m args below meth c Q H locs ls C hr hW h1 h2 hl => lv_dup2_11 C.1 C.2.1 hd (by rw [pv_cat]; exact hv) (by rw [pv_cat]; exact hw) (k p e R0 s m args below meth c Q H locs ls C hr hW h1 h2 hl)
theorem wp_if_eq {x : Int32} {off : Int} {tgt : Nat} (hd : decode y.2.1 pc = .ok (.ifCond .eq off, 3)) (ht : (pc : Int) + off = (tgt : Int)) (kt : x = 0 → WP γ l y d nE nX tgt L S n M R K) (kf : ¬ x = 0 → WP γ l y d nE nX (pc + 3) L S n M R K) : WP γ l y d nE nX pc L (.int x :: S) n M R K :=
  fun p e R0 s m args below meth c Q H locs ls C hr hW h1 h2 hl => lv_if_eq C.1 C.2.1 hd ht (fun q => kt q p e R0 s m args below meth c Q H locs ls C hr hW h1 h2 hl) (fun q => kf q p e R0 s m args below meth c Q H locs ls C hr hW h1 h2 hl)
theorem wp_icmp_eq {x z : Int32} {off : Int} {tgt : Nat} (hd : decode y.2.1 pc = .ok (.if_icmp .eq off, 3)) (ht : (pc : Int) + off = (tgt : Int)) (kt : x = z → WP γ l y d nE nX tgt L S n M R K) (kf : ¬ x = z → WP γ l y d nE nX (pc + 3) L S n M R K) : WP γ l y d nE nX pc L (.int z :: .int x :: S) n M R K :=
  fun p e R0 s m args below meth c Q H locs ls C hr hW h1 h2 hl => lv_icmp_eq C.1 C.2.1 hd ht (fun q => kt q p e R0 s m args below meth c Q H locs ls C hr hW h1 h2 hl) (fun q => kf q p e R0 s m args below meth c Q H locs ls C hr hW h1 h2 hl)
theorem wp_if_ne {x : Int32} {off : Int} {tgt : Nat} (hd : decode y.2.1 pc = .ok (.ifCond .ne off, 3)) (ht : (pc : Int) + off = (tgt : Int)) (kt : ¬ x = 0 → WP γ l y d nE nX tgt L S n M R K) (kf : x = 0 → WP γ l y d nE nX (pc + 3) L S n M R K) : WP γ l y d nE nX pc L (.int x :: S) n M R K :=
  fun p e R0 s m args below meth c Q H locs ls C hr hW h1 h2 hl => lv_if_ne C.1 C.2.1 hd ht (fun q => kt q p e R0 s m args below meth c Q H locs ls C hr hW h1 h2 hl) (fun q => kf q p e R0 s m args below meth c Q H locs ls C hr hW h1 h2 hl)
theorem wp_icmp_ne {x z : Int32} {off : Int} {tgt : Nat} (hd : decode y.2.1 pc = .ok (.if_icmp .ne off, 3)) (ht : (pc : Int) + off = (tgt : Int)) (kt : ¬ x = z → WP γ l y d nE nX tgt L S n M R K) (kf : x = z → WP γ l y d nE nX (pc + 3) L S n M R K) : WP γ l y d nE nX pc L (.int z :: .int x :: S) n M R K :=
  fun p e R0 s m args below meth c Q H locs ls C hr hW h1 h2 hl => lv_icmp_ne C.1 C.2.1 hd ht (fun q => kt q p e R0 s m args below meth c Q H locs ls C hr hW h1 h2 hl) (fun q => kf q p e R0 s m args below meth c Q H locs ls C hr hW h1 h2 hl)
theorem wp_if_lt {x : Int32} {off : Int} {tgt : Nat} (hd : decode y.2.1 pc = .ok (.ifCond .lt off, 3)) (ht : (pc : Int) + off = (tgt : Int)) (kt : x < 0 → WP γ l y d nE nX tgt L S n M R K) (kf : ¬ x < 0 → WP γ l y d nE nX (pc + 3) L S n M R K) : WP γ l y d nE nX pc L (.int x :: S) n M R K :=
  fun p e R0 s m args below meth c Q H locs ls C hr hW h1 h2 hl => lv_if_lt C.1 C.2.1 hd ht (fun q => kt q p e R0 s m args below meth c Q H locs ls C hr hW h1 h2 hl) (fun q => kf q p e R0 s m args below meth c Q H locs ls C hr hW h1 h2 hl)
theorem wp_icmp_lt {x z : Int32} {off : Int} {tgt : Nat} (hd : decode y.2.1 pc = .ok (.if_icmp .lt off, 3)) (ht : (pc : Int) + off = (tgt : Int)) (kt : x < z → WP γ l y d nE nX tgt L S n M R K) (kf : ¬ x < z → WP γ l y d nE nX (pc + 3) L S n M R K) : WP γ l y d nE nX pc L (.int z :: .int x :: S) n M R K :=
  fun p e R0 s m args below meth c Q H locs ls C hr hW h1 h2 hl => lv_icmp_lt C.1 C.2.1 hd ht (fun q => kt q p e R0 s m args below meth c Q H locs ls C hr hW h1 h2 hl) (fun q => kf q p e R0 s m args below meth c Q H locs ls C hr hW h1 h2 hl)
theorem wp_if_ge {x : Int32} {off : Int} {tgt : Nat} (hd : decode y.2.1 pc = .ok (.ifCond .ge off, 3)) (ht : (pc : Int) + off = (tgt : Int)) (kt : 0 ≤ x → WP γ l y d nE nX tgt L S n M R K) (kf : ¬ 0 ≤ x → WP γ l y d nE nX (pc + 3) L S n M R K) : WP γ l y d nE nX pc L (.int x :: S) n M R K :=
  fun p e R0 s m args below meth c Q H locs ls C hr hW h1 h2 hl => lv_if_ge C.1 C.2.1 hd ht (fun q => kt q p e R0 s m args below meth c Q H locs ls C hr hW h1 h2 hl) (fun q => kf q p e R0 s m args below meth c Q H locs ls C hr hW h1 h2 hl)
theorem wp_icmp_ge {x z : Int32} {off : Int} {tgt : Nat} (hd : decode y.2.1 pc = .ok (.if_icmp .ge off, 3)) (ht : (pc : Int) + off = (tgt : Int)) (kt : z ≤ x → WP γ l y d nE nX tgt L S n M R K) (kf : ¬ z ≤ x → WP γ l y d nE nX (pc + 3) L S n M R K) : WP γ l y d nE nX pc L (.int z :: .int x :: S) n M R K :=
  fun p e R0 s m args below meth c Q H locs ls C hr hW h1 h2 hl => lv_icmp_ge C.1 C.2.1 hd ht (fun q => kt q p e R0 s m args below meth c Q H locs ls C hr hW h1 h2 hl) (fun q => kf q p e R0 s m args below meth c Q H locs ls C hr hW h1 h2 hl)
theorem wp_if_gt {x : Int32} {off : Int} {tgt : Nat} (hd : decode y.2.1 pc = .ok (.ifCond .gt off, 3)) (ht : (pc : Int) + off = (tgt : Int)) (kt : 0 < x → WP γ l y d nE nX tgt L S n M R K) (kf : ¬ 0 < x → WP γ l y d nE nX (pc + 3) L S n M R K) : WP γ l y d nE nX pc L (.int x :: S) n M R K :=
  fun p e R0 s m args below meth c Q H locs ls C hr hW h1 h2 hl => lv_if_gt C.1 C.2.1 hd ht (fun q => kt q p e R0 s m args below meth c Q H locs ls C hr hW h1 h2 hl) (fun q => kf q p e R0 s m args below meth c Q H locs ls C hr hW h1 h2 hl)
theorem wp_icmp_gt {x z : Int32} {off : Int} {tgt : Nat} (hd : decode y.2.1 pc = .ok (.if_icmp .gt off, 3)) (ht : (pc : Int) + off = (tgt : Int)) (kt : z < x → WP γ l y d nE nX tgt L S n M R K) (kf : ¬ z < x → WP γ l y d nE nX (pc + 3) L S n M R K) : WP γ l y d nE nX pc L (.int z :: .int x :: S) n M R K :=
  fun p e R0 s m args below meth c Q H locs ls C hr hW h1 h2 hl => lv_icmp_gt C.1 C.2.1 hd ht (fun q => kt q p e R0 s m args below meth c Q H locs ls C hr hW h1 h2 hl) (fun q => kf q p e R0 s m args below meth c Q H locs ls C hr hW h1 h2 hl)
theorem wp_if_le {x : Int32} {off : Int} {tgt : Nat} (hd : decode y.2.1 pc = .ok (.ifCond .le off, 3)) (ht : (pc : Int) + off = (tgt : Int)) (kt : x ≤ 0 → WP γ l y d nE nX tgt L S n M R K) (kf : ¬ x ≤ 0 → WP γ l y d nE nX (pc + 3) L S n M R K) : WP γ l y d nE nX pc L (.int x :: S) n M R K :=
  fun p e R0 s m args below meth c Q H locs ls C hr hW h1 h2 hl => lv_if_le C.1 C.2.1 hd ht (fun q => kt q p e R0 s m args below meth c Q H locs ls C hr hW h1 h2 hl) (fun q => kf q p e R0 s m args below meth c Q H locs ls C hr hW h1 h2 hl)
theorem wp_icmp_le {x z : Int32} {off : Int} {tgt : Nat} (hd : decode y.2.1 pc = .ok (.if_icmp .le off, 3)) (ht : (pc : Int) + off = (tgt : Int)) (kt : x ≤ z → WP γ l y d nE nX tgt L S n M R K) (kf : ¬ x ≤ z → WP γ l y d nE nX (pc + 3) L S n M R K) : WP γ l y d nE nX pc L (.int z :: .int x :: S) n M R K :=
  fun p e R0 s m args below meth c Q H locs ls C hr hW h1 h2 hl => lv_icmp_le C.1 C.2.1 hd ht (fun q => kt q p e R0 s m args below meth c Q H locs ls C hr hW h1 h2 hl) (fun q => kf q p e R0 s m args below meth c Q H locs ls C hr hW h1 h2 hl)
theorem wp_goto {off : Int} {tgt : Nat} (hd : decode y.2.1 pc = .ok (.goto off, 3)) (ht : (pc : Int) + off = (tgt : Int)) (k : WP γ l y d nE nX tgt L S n M R K) : WP γ l y d nE nX pc L S n M R K :=
  fun p e R0 s m args below meth c Q H locs ls C hr hW h1 h2 hl => lv_goto C.1 C.2.1 hd ht (k p e R0 s m args below meth c Q H locs ls C hr hW h1 h2 hl)
def swT (x : Int32) (cs : List (Int32 × Nat)) (df : Nat) : Nat := match cs with
  | [] => df
  | (v, t) :: r => if x = v then t else swT x r df
theorem wp_sw {x v : Int32} {t df : Nat} {r : List (Int32 × Nat)} (kt : x = v → WP γ l y d nE nX t L S n M R K) (kf : ¬ x = v → WP γ l y d nE nX (swT x r df) L S n M R K) : WP γ l y d nE nX (swT x ((v, t) :: r) df) L S n M R K := by
  unfold swT
  split
  · rename_i h
    exact kt h
  · rename_i h
    exact kf h
theorem wp_sw0 {x : Int32} {df : Nat} (k : WP γ l y d nE nX df L S n M R K) : WP γ l y d nE nX (swT x [] df) L S n M R K := k
def lsOk (pc : Nat) (dflt : Int) : List (Int × Int) → List (Int32 × Nat) → Nat → Bool
  | [], [], df => decide ((pc : Int) + dflt = (df : Int))
  | (a, o) :: ps, (v, t) :: cs, df => decide (v.toInt = a) && decide ((pc : Int) + o = (t : Int)) && lsOk pc dflt ps cs df
  | _, _, _ => false
theorem lsOk_off {pc : Nat} {dflt : Int} {x : Int32} {df : Nat} : ∀ {ps : List (Int × Int)} {cs : List (Int32 × Nat)}, lsOk pc dflt ps cs df = true → (pc : Int) + Op.lookupswitch.offset ps dflt x.toInt = (swT x cs df : Int)
  | [], [], h => by
    simp only [lsOk, decide_eq_true_eq] at h
    exact h
  | (a, o) :: ps, (v, t) :: cs, h => by
    simp only [lsOk, Bool.and_eq_true, decide_eq_true_eq] at h
    obtain ⟨⟨h1, h2⟩, h3⟩ := h
    unfold swT
    by_cases hx : x = v
    · rw [if_pos hx, Op.lookupswitch.offset_cons, if_pos (by rw [← h1, hx]), h2]
    · rw [if_neg hx, lv_osw hx h1]
      exact lsOk_off h3
  | [], _ :: _, h => by simp [lsOk] at h
  | _ :: _, [], h => by simp [lsOk] at h
theorem wp_lswitch {dflt : Int} {ps : Array (Int × Int)} {len : Nat} {x : Int32} (cs : List (Int32 × Nat)) (df : Nat) (hd : decode y.2.1 pc = .ok (.lookupswitch dflt ps, len)) (hp : (ps.toList.zip (ps.toList.drop 1)).all (fun (a, next) => a.1 < next.1) = true) (hc : lsOk pc dflt ps.toList cs df = true) (k : WP γ l y d nE nX (swT x cs df) L S n M R K) : WP γ l y d nE nX pc L (.int x :: S) n M R K :=
  fun p e R0 s m args below meth c Q H locs ls C hr hW h1 h2 hl => lv_lookup C.1 C.2.1 hd hp rfl (lsOk_off hc) (k p e R0 s m args below meth c Q H locs ls C hr hW h1 h2 hl)
def tsOk (pc : Nat) (a : Int) : List Int → List (Int32 × Nat) → Bool
  | [], [] => true
  | o :: ps, (v, t) :: cs => decide (v.toInt = a) && decide ((pc : Int) + o = (t : Int)) && tsOk pc (a + 1) ps cs
  | _, _ => false
theorem tsOk_out {pc : Nat} {x : Int32} {df : Nat} : ∀ {ps : List Int} {cs : List (Int32 × Nat)} {a : Int}, tsOk pc a ps cs = true → (x.toInt < a ∨ a + ps.length ≤ x.toInt) → swT x cs df = df
  | [], [], a, _, _ => rfl
  | o :: ps, (v, t) :: cs, a, h, hx => by
    simp only [tsOk, Bool.and_eq_true, decide_eq_true_eq] at h
    obtain ⟨⟨h1, h2⟩, h3⟩ := h
    rw [List.length_cons] at hx
    unfold swT
    rw [if_neg (by rintro rfl; omega)]
    exact tsOk_out h3 (by omega)
  | [], _ :: _, _, h, _ => by simp [tsOk] at h
  | _ :: _, [], _, h, _ => by simp [tsOk] at h
theorem tsOk_in {pc : Nat} {x : Int32} {df : Nat} : ∀ {ps : List Int} {cs : List (Int32 × Nat)} {a : Int}, tsOk pc a ps cs = true → a ≤ x.toInt → x.toInt < a + ps.length → ∃ o : Int, ps[(x.toInt - a).toNat]? = some o ∧ (pc : Int) + o = (swT x cs df : Int)
  | [], [], a, _, h1, h2 => by simp at h2; omega
  | o :: ps, (v, t) :: cs, a, h, h1, h2 => by
    simp only [tsOk, Bool.and_eq_true, decide_eq_true_eq] at h
    obtain ⟨⟨g1, g2⟩, g3⟩ := h
    rw [List.length_cons] at h2
    unfold swT
    by_cases hx : x = v
    · subst hx
      rw [if_pos rfl, g1, Int.sub_self]
      exact ⟨o, rfl, g2⟩
    · have hne : x.toInt ≠ a := fun q => hx (Int32.toInt_inj.mp (q.trans g1.symm))
      rw [if_neg hx]
      obtain ⟨o', e1, e2⟩ := tsOk_in (x := x) (df := df) g3 (by omega) (by omega)
      refine ⟨o', ?_, e2⟩
      rw [show (x.toInt - a).toNat = (x.toInt - (a + 1)).toNat + 1 by omega, List.getElem?_cons_succ]
      exact e1
  | [], _ :: _, _, h, _, _ => by simp [tsOk] at h
  | _ :: _, [], _, h, _, _ => by simp [tsOk] at h
theorem wp_tswitch {dflt lo hi : Int} {offs : Array Int} {len : Nat} {x : Int32} (cs : List (Int32 × Nat)) (df : Nat) (hd : decode y.2.1 pc = .ok (.tableswitch dflt lo hi offs, len)) (hdf : (pc : Int) + dflt = (df : Int)) (hh : hi + 1 = lo + offs.toList.length) (hc : tsOk pc lo offs.toList cs = true) (k : WP γ l y d nE nX (swT x cs df) L S n M R K) : WP γ l y d nE nX pc L (.int x :: S) n M R K := by
  intro p e R0 s m args below meth c Q H locs ls C hr hW h1 h2 hl
  by_cases hx : x.toInt < lo ∨ hi < x.toInt
  · have ee := tsOk_out (df := df) (x := x) hc (by omega)
    rw [ee] at k
    exact lv_tableOut C.1 C.2.1 hd hx hdf (k p e R0 s m args below meth c Q H locs ls C hr hW h1 h2 hl)
  · obtain ⟨o, e1, e2⟩ := tsOk_in (df := df) (x := x) hc (by omega) (by omega)
    exact lv_tableIn C.1 C.2.1 hd (fun q => hx (Or.inl q)) (fun q => hx (Or.inr q)) (by rw [← Array.getElem?_toList]; exact e1) e2 (k p e R0 s m args below meth c Q H locs ls C hr hW h1 h2 hl)
theorem wp_iret {x : Int32} {ty : FieldType} (hd : decode y.2.1 pc = .ok (.ireturn, 1)) (hr : y.2.2.2 = some ty) (hx : narrow ty (.int x) = .int x) (hn : n = nX) (hK : K (some (.int x)) n M R) : WP γ l y d nE nX pc L [.int x] n M R K := by
  subst hn
  exact fun p e R0 s m args below meth c Q H locs ls C hret hW h1 h2 hl => hret pc (some (.int x)) M R H locs ls ⟨hd, ty, hr, hx⟩ hW hK
theorem wp_lret {x : Int64} (hd : decode y.2.1 pc = .ok (.lreturn, 1)) (hr : y.2.2.2 = some .long) (hn : n = nX) (hK : K (some (.long x)) n M R) : WP γ l y d nE nX pc L [.long x] n M R K := by
  subst hn
  exact fun p e R0 s m args below meth c Q H locs ls C hret hW h1 h2 hl => hret pc (some (.long x)) M R H locs ls ⟨hd, hr⟩ hW hK
theorem wp_vret (hd : decode y.2.1 pc = .ok (.return_, 1)) (hr : y.2.2.2 = none) (hn : n = nX) (hK : K none n M R) : WP γ l y d nE nX pc L [] n M R K := by
  subst hn
  exact fun p e R0 s m args below meth c Q H locs ls C hret hW h1 h2 hl => hret pc none M R H locs ls ⟨hd, hr⟩ hW hK
end ROWS
end
section
/-! WORDS: each word of the tables that a row asks for, by its place in lw_tbl -/
theorem q0 : (Jvm.Cond.initialized "PaddleRowsLaw") ∈ WS := inWS (List.mem_of_getElem? (i := 2) (by decide +kernel)) (by decide +kernel)
theorem q1 : (Jvm.Cond.initialized "PaddleRows") ∈ WS := inWS (List.mem_of_getElem? (i := 3) (by decide +kernel)) (by decide +kernel)
theorem q2 : (Jvm.Cond.initialized "PaddleRows$Tank") ∈ WS := inWS (List.mem_of_getElem? (i := 4) (by decide +kernel)) (by decide +kernel)
theorem q3 : (Jvm.Cond.initialized "PaddleRows$Paddle") ∈ WS := inWS (List.mem_of_getElem? (i := 5) (by decide +kernel)) (by decide +kernel)
theorem q4 : (Jvm.Cond.initialized "PaddleRows$Gauge") ∈ WS := inWS (List.mem_of_getElem? (i := 6) (by decide +kernel)) (by decide +kernel)
theorem q5 : (Jvm.Cond.initialized "PaddleRows$Pad") ∈ WS := inWS (List.mem_of_getElem? (i := 7) (by decide +kernel)) (by decide +kernel)
theorem q6 : (Jvm.Cond.initialized "PaddleRows$History") ∈ WS := inWS (List.mem_of_getElem? (i := 8) (by decide +kernel)) (by decide +kernel)
theorem q7 : (Jvm.Cond.initialized "java/lang/System") ∈ WS := inWS (List.mem_of_getElem? (i := 9) (by decide +kernel)) (by decide +kernel)
theorem q8 : (Jvm.Cond.initialized "java/lang/Math") ∈ WS := inWS (List.mem_of_getElem? (i := 10) (by decide +kernel)) (by decide +kernel)
theorem q9 : (Jvm.Cond.initialized "java/lang/Long") ∈ WS := inWS (List.mem_of_getElem? (i := 11) (by decide +kernel)) (by decide +kernel)
theorem q10 : (Jvm.Cond.classLink "PaddleRowsLaw" (24 : Nat) "PaddleRows") ∈ WS := inWS (List.mem_of_getElem? (i := 12) (by decide +kernel)) (by decide +kernel)
theorem q11 : (Jvm.Cond.instantiable "PaddleRows" (7 : Nat)) ∈ WS := inWS (List.mem_of_getElem? (i := 13) (by decide +kernel)) (by decide +kernel)
theorem q12 : (Jvm.Cond.methodLink "PaddleRowsLaw" (69 : Nat) ({ cls := "PaddleRows", name := "<init>", desc := "()V" } : Jvm.MethodName)) ∈ WS := inWS (List.mem_of_getElem? (i := 14) (by decide +kernel)) (by decide +kernel)
theorem q13 : (Jvm.Cond.instanceMethod ({ cls := "PaddleRows", name := "<init>", desc := "()V" } : Jvm.MethodName)) ∈ WS := inWS (List.mem_of_getElem? (i := 15) (by decide +kernel)) (by decide +kernel)
theorem q14 : (Jvm.Cond.code ({ cls := "PaddleRows", name := "<init>", desc := "()V" } : Jvm.MethodName) prog_1_method_1_code (2 : Nat) (Option.none : Option Jvm.ClassFile.FieldType)) ∈ WS := inWS (List.mem_of_getElem? (i := 16) (by decide +kernel)) (by decide +kernel)
theorem q15 : (Jvm.Cond.methodLink "PaddleRows" (1 : Nat) ({ cls := "java/lang/Object", name := "<init>", desc := "()V" } : Jvm.MethodName)) ∈ WS := inWS (List.mem_of_getElem? (i := 17) (by decide +kernel)) (by decide +kernel)
theorem q16 : (Jvm.Cond.instanceMethod ({ cls := "java/lang/Object", name := "<init>", desc := "()V" } : Jvm.MethodName)) ∈ WS := inWS (List.mem_of_getElem? (i := 18) (by decide +kernel)) (by decide +kernel)
theorem q17 : (Jvm.Cond.code ({ cls := "java/lang/Object", name := "<init>", desc := "()V" } : Jvm.MethodName) object_method_1_code (1 : Nat) (Option.none : Option Jvm.ClassFile.FieldType)) ∈ WS := inWS (List.mem_of_getElem? (i := 19) (by decide +kernel)) (by decide +kernel)
theorem q18 : (Jvm.Cond.classLink "PaddleRows" (7 : Nat) "PaddleRows$Tank") ∈ WS := inWS (List.mem_of_getElem? (i := 20) (by decide +kernel)) (by decide +kernel)
theorem q19 : (Jvm.Cond.instantiable "PaddleRows$Tank" (8 : Nat)) ∈ WS := inWS (List.mem_of_getElem? (i := 21) (by decide +kernel)) (by decide +kernel)
theorem q20 : (Jvm.Cond.methodLink "PaddleRows" (9 : Nat) ({ cls := "PaddleRows$Tank", name := "<init>", desc := "()V" } : Jvm.MethodName)) ∈ WS := inWS (List.mem_of_getElem? (i := 22) (by decide +kernel)) (by decide +kernel)
theorem q21 : (Jvm.Cond.instanceMethod ({ cls := "PaddleRows$Tank", name := "<init>", desc := "()V" } : Jvm.MethodName)) ∈ WS := inWS (List.mem_of_getElem? (i := 23) (by decide +kernel)) (by decide +kernel)
theorem q22 : (Jvm.Cond.code ({ cls := "PaddleRows$Tank", name := "<init>", desc := "()V" } : Jvm.MethodName) prog_6_method_1_code (2 : Nat) (Option.none : Option Jvm.ClassFile.FieldType)) ∈ WS := inWS (List.mem_of_getElem? (i := 24) (by decide +kernel)) (by decide +kernel)
theorem q23 : (Jvm.Cond.methodLink "PaddleRows$Tank" (3 : Nat) ({ cls := "java/lang/Object", name := "<init>", desc := "()V" } : Jvm.MethodName)) ∈ WS := inWS (List.mem_of_getElem? (i := 25) (by decide +kernel)) (by decide +kernel)
theorem q26 : (Jvm.Cond.methodLink "PaddleRows$Tank" (13 : Nat) ({ cls := "[I", name := "clone", desc := "()Ljava/lang/Object;" } : Jvm.MethodName)) ∈ WS := inWS (List.mem_of_getElem? (i := 28) (by decide +kernel)) (by decide +kernel)
theorem q27 : (Jvm.Cond.sameMethod "[I" "java/lang/Object" "clone" "()Ljava/lang/Object;") ∈ WS := inWS (List.mem_of_getElem? (i := 29) (by decide +kernel)) (by decide +kernel)
theorem q28 : (Jvm.Cond.native ({ cls := "java/lang/Object", name := "clone", desc := "()Ljava/lang/Object;" } : Jvm.MethodName)) ∈ WS := inWS (List.mem_of_getElem? (i := 30) (by decide +kernel)) (by decide +kernel)
theorem q29 : (Jvm.Cond.instanceMethod ({ cls := "java/lang/Object", name := "clone", desc := "()Ljava/lang/Object;" } : Jvm.MethodName)) ∈ WS := inWS (List.mem_of_getElem? (i := 31) (by decide +kernel)) (by decide +kernel)
theorem q30 : (Jvm.Cond.selects "[I" ({ cls := "[I", name := "clone", desc := "()Ljava/lang/Object;" } : Jvm.MethodName) ({ cls := "java/lang/Object", name := "clone", desc := "()Ljava/lang/Object;" } : Jvm.MethodName)) ∈ WS := inWS (List.mem_of_getElem? (i := 32) (by decide +kernel)) (by decide +kernel)
theorem q32 : (Jvm.Cond.classLink "PaddleRows$Tank" (14 : Nat) "[I") ∈ WS := inWS (List.mem_of_getElem? (i := 34) (by decide +kernel)) (by decide +kernel)
theorem q33 : (Jvm.Cond.classLink "PaddleRows$Tank" (29 : Nat) "PaddleRows$Paddle") ∈ WS := inWS (List.mem_of_getElem? (i := 35) (by decide +kernel)) (by decide +kernel)
theorem q35 : (Jvm.Cond.classLink "PaddleRows$Tank" (35 : Nat) "PaddleRows$Gauge") ∈ WS := inWS (List.mem_of_getElem? (i := 37) (by decide +kernel)) (by decide +kernel)
theorem q37 : (Jvm.Cond.instantiable "PaddleRows$Paddle" (6 : Nat)) ∈ WS := inWS (List.mem_of_getElem? (i := 39) (by decide +kernel)) (by decide +kernel)
theorem q39 : (Jvm.Cond.instanceMethod ({ cls := "PaddleRows$Paddle", name := "<init>", desc := "()V" } : Jvm.MethodName)) ∈ WS := inWS (List.mem_of_getElem? (i := 41) (by decide +kernel)) (by decide +kernel)
theorem q40 : (Jvm.Cond.code ({ cls := "PaddleRows$Paddle", name := "<init>", desc := "()V" } : Jvm.MethodName) prog_5_method_1_code (1 : Nat) (Option.none : Option Jvm.ClassFile.FieldType)) ∈ WS := inWS (List.mem_of_getElem? (i := 42) (by decide +kernel)) (by decide +kernel)
theorem q41 : (Jvm.Cond.methodLink "PaddleRows$Paddle" (3 : Nat) ({ cls := "java/lang/Object", name := "<init>", desc := "()V" } : Jvm.MethodName)) ∈ WS := inWS (List.mem_of_getElem? (i := 43) (by decide +kernel)) (by decide +kernel)
theorem q42 : (Jvm.Cond.fieldLink "PaddleRows$Paddle" (15 : Nat) "PaddleRows$Paddle" "cell" "I") ∈ WS := inWS (List.mem_of_getElem? (i := 44) (by decide +kernel)) (by decide +kernel)
theorem q43 : (Jvm.Cond.fieldLink "PaddleRows$Tank" (87 : Nat) "PaddleRows$Paddle" "cell" "I") ∈ WS := inWS (List.mem_of_getElem? (i := 45) (by decide +kernel)) (by decide +kernel)
theorem q44 : (Jvm.Cond.fieldLink "PaddleRows" (108 : Nat) "PaddleRows$Paddle" "cell" "I") ∈ WS := inWS (List.mem_of_getElem? (i := 46) (by decide +kernel)) (by decide +kernel)
theorem q45 : (Jvm.Cond.fieldLink "PaddleRows$Paddle" (18 : Nat) "PaddleRows$Paddle" "sort" "I") ∈ WS := inWS (List.mem_of_getElem? (i := 47) (by decide +kernel)) (by decide +kernel)
theorem q46 : (Jvm.Cond.fieldLink "PaddleRows$Tank" (90 : Nat) "PaddleRows$Paddle" "sort" "I") ∈ WS := inWS (List.mem_of_getElem? (i := 48) (by decide +kernel)) (by decide +kernel)
theorem q47 : (Jvm.Cond.fieldLink "PaddleRows" (113 : Nat) "PaddleRows$Paddle" "sort" "I") ∈ WS := inWS (List.mem_of_getElem? (i := 49) (by decide +kernel)) (by decide +kernel)
theorem q48 : (Jvm.Cond.fieldLink "PaddleRows$Paddle" (21 : Nat) "PaddleRows$Paddle" "height" "I") ∈ WS := inWS (List.mem_of_getElem? (i := 50) (by decide +kernel)) (by decide +kernel)
theorem q49 : (Jvm.Cond.fieldLink "PaddleRows$Tank" (93 : Nat) "PaddleRows$Paddle" "height" "I") ∈ WS := inWS (List.mem_of_getElem? (i := 51) (by decide +kernel)) (by decide +kernel)
theorem q50 : (Jvm.Cond.fieldLink "PaddleRows" (116 : Nat) "PaddleRows$Paddle" "height" "I") ∈ WS := inWS (List.mem_of_getElem? (i := 52) (by decide +kernel)) (by decide +kernel)
theorem q51 : (Jvm.Cond.fieldLink "PaddleRows$Paddle" (9 : Nat) "PaddleRows$Paddle" "period" "I") ∈ WS := inWS (List.mem_of_getElem? (i := 53) (by decide +kernel)) (by decide +kernel)
theorem q52 : (Jvm.Cond.fieldLink "PaddleRows$Tank" (96 : Nat) "PaddleRows$Paddle" "period" "I") ∈ WS := inWS (List.mem_of_getElem? (i := 54) (by decide +kernel)) (by decide +kernel)
theorem q53 : (Jvm.Cond.fieldLink "PaddleRows" (119 : Nat) "PaddleRows$Paddle" "period" "I") ∈ WS := inWS (List.mem_of_getElem? (i := 55) (by decide +kernel)) (by decide +kernel)
theorem q54 : (Jvm.Cond.fieldLink "PaddleRows$Paddle" (24 : Nat) "PaddleRows$Paddle" "phase" "I") ∈ WS := inWS (List.mem_of_getElem? (i := 56) (by decide +kernel)) (by decide +kernel)
theorem q55 : (Jvm.Cond.fieldLink "PaddleRows$Tank" (99 : Nat) "PaddleRows$Paddle" "phase" "I") ∈ WS := inWS (List.mem_of_getElem? (i := 57) (by decide +kernel)) (by decide +kernel)
theorem q56 : (Jvm.Cond.fieldLink "PaddleRows" (122 : Nat) "PaddleRows$Paddle" "phase" "I") ∈ WS := inWS (List.mem_of_getElem? (i := 58) (by decide +kernel)) (by decide +kernel)
theorem q57 : (Jvm.Cond.fieldLink "PaddleRows$Paddle" (27 : Nat) "PaddleRows$Paddle" "goes" "Z") ∈ WS := inWS (List.mem_of_getElem? (i := 59) (by decide +kernel)) (by decide +kernel)
theorem q58 : (Jvm.Cond.fieldLink "PaddleRows$Tank" (102 : Nat) "PaddleRows$Paddle" "goes" "Z") ∈ WS := inWS (List.mem_of_getElem? (i := 60) (by decide +kernel)) (by decide +kernel)
theorem q59 : (Jvm.Cond.fieldLink "PaddleRows" (125 : Nat) "PaddleRows$Paddle" "goes" "Z") ∈ WS := inWS (List.mem_of_getElem? (i := 61) (by decide +kernel)) (by decide +kernel)
theorem q60 : (Jvm.Cond.lays "PaddleRows$Paddle" "PaddleRows$Paddle" "cell" "I") ∈ WS := inWS (List.mem_of_getElem? (i := 62) (by decide +kernel)) (by decide +kernel)
theorem q62 : (Jvm.Cond.lays "PaddleRows$Paddle" "PaddleRows$Paddle" "sort" "I") ∈ WS := inWS (List.mem_of_getElem? (i := 64) (by decide +kernel)) (by decide +kernel)
theorem q64 : (Jvm.Cond.lays "PaddleRows$Paddle" "PaddleRows$Paddle" "height" "I") ∈ WS := inWS (List.mem_of_getElem? (i := 66) (by decide +kernel)) (by decide +kernel)
theorem q66 : (Jvm.Cond.lays "PaddleRows$Paddle" "PaddleRows$Paddle" "period" "I") ∈ WS := inWS (List.mem_of_getElem? (i := 68) (by decide +kernel)) (by decide +kernel)
theorem q68 : (Jvm.Cond.lays "PaddleRows$Paddle" "PaddleRows$Paddle" "phase" "I") ∈ WS := inWS (List.mem_of_getElem? (i := 70) (by decide +kernel)) (by decide +kernel)
theorem q70 : (Jvm.Cond.lays "PaddleRows$Paddle" "PaddleRows$Paddle" "goes" "Z") ∈ WS := inWS (List.mem_of_getElem? (i := 72) (by decide +kernel)) (by decide +kernel)
theorem q73 : (Jvm.Cond.arrayClass Jvm.ClassFile.FieldType.int) ∈ WS := inWS (List.mem_of_getElem? (i := 75) (by decide +kernel)) (by decide +kernel)
theorem q74 : (Jvm.Cond.instantiable "PaddleRows$Gauge" (4 : Nat)) ∈ WS := inWS (List.mem_of_getElem? (i := 76) (by decide +kernel)) (by decide +kernel)
theorem q76 : (Jvm.Cond.instanceMethod ({ cls := "PaddleRows$Gauge", name := "<init>", desc := "()V" } : Jvm.MethodName)) ∈ WS := inWS (List.mem_of_getElem? (i := 78) (by decide +kernel)) (by decide +kernel)
theorem q77 : (Jvm.Cond.code ({ cls := "PaddleRows$Gauge", name := "<init>", desc := "()V" } : Jvm.MethodName) prog_2_method_1_code (1 : Nat) (Option.none : Option Jvm.ClassFile.FieldType)) ∈ WS := inWS (List.mem_of_getElem? (i := 79) (by decide +kernel)) (by decide +kernel)
theorem q78 : (Jvm.Cond.methodLink "PaddleRows$Gauge" (3 : Nat) ({ cls := "java/lang/Object", name := "<init>", desc := "()V" } : Jvm.MethodName)) ∈ WS := inWS (List.mem_of_getElem? (i := 80) (by decide +kernel)) (by decide +kernel)
theorem q79 : (Jvm.Cond.fieldLink "PaddleRows$Gauge" (9 : Nat) "PaddleRows$Gauge" "notes" "[I") ∈ WS := inWS (List.mem_of_getElem? (i := 81) (by decide +kernel)) (by decide +kernel)
theorem q80 : (Jvm.Cond.fieldLink "PaddleRows$Gauge" (21 : Nat) "PaddleRows$Gauge" "cell" "I") ∈ WS := inWS (List.mem_of_getElem? (i := 82) (by decide +kernel)) (by decide +kernel)
theorem q81 : (Jvm.Cond.fieldLink "PaddleRows$Tank" (128 : Nat) "PaddleRows$Gauge" "cell" "I") ∈ WS := inWS (List.mem_of_getElem? (i := 83) (by decide +kernel)) (by decide +kernel)
theorem q82 : (Jvm.Cond.fieldLink "PaddleRows" (142 : Nat) "PaddleRows$Gauge" "cell" "I") ∈ WS := inWS (List.mem_of_getElem? (i := 84) (by decide +kernel)) (by decide +kernel)
theorem q83 : (Jvm.Cond.fieldLink "PaddleRows$Gauge" (25 : Nat) "PaddleRows$Gauge" "known" "I") ∈ WS := inWS (List.mem_of_getElem? (i := 85) (by decide +kernel)) (by decide +kernel)
theorem q84 : (Jvm.Cond.fieldLink "PaddleRows" (145 : Nat) "PaddleRows$Gauge" "known" "I") ∈ WS := inWS (List.mem_of_getElem? (i := 86) (by decide +kernel)) (by decide +kernel)
theorem q85 : (Jvm.Cond.fieldLink "PaddleRows$Gauge" (28 : Nat) "PaddleRows$Gauge" "next" "I") ∈ WS := inWS (List.mem_of_getElem? (i := 87) (by decide +kernel)) (by decide +kernel)
theorem q86 : (Jvm.Cond.laysFinal "PaddleRows$Gauge" "PaddleRows$Gauge" "notes" "[I") ∈ WS := inWS (List.mem_of_getElem? (i := 88) (by decide +kernel)) (by decide +kernel)
theorem q88 : (Jvm.Cond.lays "PaddleRows$Gauge" "PaddleRows$Gauge" "cell" "I") ∈ WS := inWS (List.mem_of_getElem? (i := 90) (by decide +kernel)) (by decide +kernel)
theorem q90 : (Jvm.Cond.lays "PaddleRows$Gauge" "PaddleRows$Gauge" "known" "I") ∈ WS := inWS (List.mem_of_getElem? (i := 92) (by decide +kernel)) (by decide +kernel)
theorem q92 : (Jvm.Cond.lays "PaddleRows$Gauge" "PaddleRows$Gauge" "next" "I") ∈ WS := inWS (List.mem_of_getElem? (i := 94) (by decide +kernel)) (by decide +kernel)
theorem q95 : (Jvm.Cond.fieldLink "PaddleRows$Tank" (18 : Nat) "PaddleRows$Tank" "settings" "[I") ∈ WS := inWS (List.mem_of_getElem? (i := 97) (by decide +kernel)) (by decide +kernel)
theorem q96 : (Jvm.Cond.fieldLink "PaddleRows" (186 : Nat) "PaddleRows$Tank" "settings" "[I") ∈ WS := inWS (List.mem_of_getElem? (i := 98) (by decide +kernel)) (by decide +kernel)
theorem q97 : (Jvm.Cond.fieldLink "PaddleRows$Tank" (23 : Nat) "PaddleRows$Tank" "levels" "[I") ∈ WS := inWS (List.mem_of_getElem? (i := 99) (by decide +kernel)) (by decide +kernel)
theorem q98 : (Jvm.Cond.fieldLink "PaddleRows" (82 : Nat) "PaddleRows$Tank" "levels" "[I") ∈ WS := inWS (List.mem_of_getElem? (i := 100) (by decide +kernel)) (by decide +kernel)
theorem q99 : (Jvm.Cond.fieldLink "PaddleRows$Tank" (26 : Nat) "PaddleRows$Tank" "speeds" "[I") ∈ WS := inWS (List.mem_of_getElem? (i := 101) (by decide +kernel)) (by decide +kernel)
theorem q100 : (Jvm.Cond.fieldLink "PaddleRows" (86 : Nat) "PaddleRows$Tank" "speeds" "[I") ∈ WS := inWS (List.mem_of_getElem? (i := 102) (by decide +kernel)) (by decide +kernel)
theorem q101 : (Jvm.Cond.fieldLink "PaddleRows$Tank" (31 : Nat) "PaddleRows$Tank" "paddles" "[LPaddleRows$Paddle;") ∈ WS := inWS (List.mem_of_getElem? (i := 103) (by decide +kernel)) (by decide +kernel)
theorem q102 : (Jvm.Cond.fieldLink "PaddleRows" (104 : Nat) "PaddleRows$Tank" "paddles" "[LPaddleRows$Paddle;") ∈ WS := inWS (List.mem_of_getElem? (i := 104) (by decide +kernel)) (by decide +kernel)
theorem q103 : (Jvm.Cond.fieldLink "PaddleRows$Tank" (37 : Nat) "PaddleRows$Tank" "gauges" "[LPaddleRows$Gauge;") ∈ WS := inWS (List.mem_of_getElem? (i := 105) (by decide +kernel)) (by decide +kernel)
theorem q104 : (Jvm.Cond.fieldLink "PaddleRows" (138 : Nat) "PaddleRows$Tank" "gauges" "[LPaddleRows$Gauge;") ∈ WS := inWS (List.mem_of_getElem? (i := 106) (by decide +kernel)) (by decide +kernel)
theorem q105 : (Jvm.Cond.fieldLink "PaddleRows$Tank" (49 : Nat) "PaddleRows$Tank" "paddleCount" "I") ∈ WS := inWS (List.mem_of_getElem? (i := 107) (by decide +kernel)) (by decide +kernel)
theorem q106 : (Jvm.Cond.fieldLink "PaddleRows" (100 : Nat) "PaddleRows$Tank" "paddleCount" "I") ∈ WS := inWS (List.mem_of_getElem? (i := 108) (by decide +kernel)) (by decide +kernel)
theorem q107 : (Jvm.Cond.fieldLink "PaddleRows$Tank" (57 : Nat) "PaddleRows$Tank" "gaugeCount" "I") ∈ WS := inWS (List.mem_of_getElem? (i := 109) (by decide +kernel)) (by decide +kernel)
theorem q108 : (Jvm.Cond.fieldLink "PaddleRows" (135 : Nat) "PaddleRows$Tank" "gaugeCount" "I") ∈ WS := inWS (List.mem_of_getElem? (i := 110) (by decide +kernel)) (by decide +kernel)
theorem q109 : (Jvm.Cond.fieldLink "PaddleRows$Tank" (63 : Nat) "PaddleRows$Tank" "steps" "I") ∈ WS := inWS (List.mem_of_getElem? (i := 111) (by decide +kernel)) (by decide +kernel)
theorem q110 : (Jvm.Cond.fieldLink "PaddleRows" (129 : Nat) "PaddleRows$Tank" "steps" "I") ∈ WS := inWS (List.mem_of_getElem? (i := 112) (by decide +kernel)) (by decide +kernel)
theorem q111 : (Jvm.Cond.laysFinal "PaddleRows$Tank" "PaddleRows$Tank" "settings" "[I") ∈ WS := inWS (List.mem_of_getElem? (i := 113) (by decide +kernel)) (by decide +kernel)
theorem q113 : (Jvm.Cond.laysFinal "PaddleRows$Tank" "PaddleRows$Tank" "levels" "[I") ∈ WS := inWS (List.mem_of_getElem? (i := 115) (by decide +kernel)) (by decide +kernel)
theorem q115 : (Jvm.Cond.laysFinal "PaddleRows$Tank" "PaddleRows$Tank" "speeds" "[I") ∈ WS := inWS (List.mem_of_getElem? (i := 117) (by decide +kernel)) (by decide +kernel)
theorem q117 : (Jvm.Cond.laysFinal "PaddleRows$Tank" "PaddleRows$Tank" "paddles" "[LPaddleRows$Paddle;") ∈ WS := inWS (List.mem_of_getElem? (i := 119) (by decide +kernel)) (by decide +kernel)
theorem q119 : (Jvm.Cond.laysFinal "PaddleRows$Tank" "PaddleRows$Tank" "gauges" "[LPaddleRows$Gauge;") ∈ WS := inWS (List.mem_of_getElem? (i := 121) (by decide +kernel)) (by decide +kernel)
theorem q121 : (Jvm.Cond.lays "PaddleRows$Tank" "PaddleRows$Tank" "paddleCount" "I") ∈ WS := inWS (List.mem_of_getElem? (i := 123) (by decide +kernel)) (by decide +kernel)
theorem q123 : (Jvm.Cond.lays "PaddleRows$Tank" "PaddleRows$Tank" "gaugeCount" "I") ∈ WS := inWS (List.mem_of_getElem? (i := 125) (by decide +kernel)) (by decide +kernel)
theorem q125 : (Jvm.Cond.lays "PaddleRows$Tank" "PaddleRows$Tank" "steps" "I") ∈ WS := inWS (List.mem_of_getElem? (i := 127) (by decide +kernel)) (by decide +kernel)
theorem q128 : (Jvm.Cond.classLink "PaddleRows" (16 : Nat) "PaddleRows$Pad") ∈ WS := inWS (List.mem_of_getElem? (i := 130) (by decide +kernel)) (by decide +kernel)
theorem q129 : (Jvm.Cond.instantiable "PaddleRows$Pad" (9 : Nat)) ∈ WS := inWS (List.mem_of_getElem? (i := 131) (by decide +kernel)) (by decide +kernel)
theorem q131 : (Jvm.Cond.instanceMethod ({ cls := "PaddleRows$Pad", name := "<init>", desc := "()V" } : Jvm.MethodName)) ∈ WS := inWS (List.mem_of_getElem? (i := 133) (by decide +kernel)) (by decide +kernel)
theorem q132 : (Jvm.Cond.code ({ cls := "PaddleRows$Pad", name := "<init>", desc := "()V" } : Jvm.MethodName) prog_4_method_1_code (1 : Nat) (Option.none : Option Jvm.ClassFile.FieldType)) ∈ WS := inWS (List.mem_of_getElem? (i := 134) (by decide +kernel)) (by decide +kernel)
theorem q133 : (Jvm.Cond.methodLink "PaddleRows$Pad" (3 : Nat) ({ cls := "java/lang/Object", name := "<init>", desc := "()V" } : Jvm.MethodName)) ∈ WS := inWS (List.mem_of_getElem? (i := 135) (by decide +kernel)) (by decide +kernel)
theorem q134 : (Jvm.Cond.fieldLink "PaddleRows$Pad" (9 : Nat) "PaddleRows$Pad" "signs" "[C") ∈ WS := inWS (List.mem_of_getElem? (i := 136) (by decide +kernel)) (by decide +kernel)
theorem q135 : (Jvm.Cond.fieldLink "PaddleRows" (189 : Nat) "PaddleRows$Pad" "length" "I") ∈ WS := inWS (List.mem_of_getElem? (i := 137) (by decide +kernel)) (by decide +kernel)
theorem q136 : (Jvm.Cond.laysFinal "PaddleRows$Pad" "PaddleRows$Pad" "signs" "[C") ∈ WS := inWS (List.mem_of_getElem? (i := 138) (by decide +kernel)) (by decide +kernel)
theorem q138 : (Jvm.Cond.lays "PaddleRows$Pad" "PaddleRows$Pad" "length" "I") ∈ WS := inWS (List.mem_of_getElem? (i := 140) (by decide +kernel)) (by decide +kernel)
theorem q140 : (Jvm.Cond.lays "PaddleRows$Pad" "PaddleRows$Pad" "at" "I") ∈ WS := inWS (List.mem_of_getElem? (i := 142) (by decide +kernel)) (by decide +kernel)
theorem q142 : (Jvm.Cond.lays "PaddleRows$Pad" "PaddleRows$Pad" "kind" "I") ∈ WS := inWS (List.mem_of_getElem? (i := 144) (by decide +kernel)) (by decide +kernel)
theorem q144 : (Jvm.Cond.lays "PaddleRows$Pad" "PaddleRows$Pad" "target" "I") ∈ WS := inWS (List.mem_of_getElem? (i := 146) (by decide +kernel)) (by decide +kernel)
theorem q146 : (Jvm.Cond.lays "PaddleRows$Pad" "PaddleRows$Pad" "sort" "I") ∈ WS := inWS (List.mem_of_getElem? (i := 148) (by decide +kernel)) (by decide +kernel)
theorem q148 : (Jvm.Cond.lays "PaddleRows$Pad" "PaddleRows$Pad" "value" "I") ∈ WS := inWS (List.mem_of_getElem? (i := 150) (by decide +kernel)) (by decide +kernel)
theorem q150 : (Jvm.Cond.lays "PaddleRows$Pad" "PaddleRows$Pad" "period" "I") ∈ WS := inWS (List.mem_of_getElem? (i := 152) (by decide +kernel)) (by decide +kernel)
theorem q152 : (Jvm.Cond.lays "PaddleRows$Pad" "PaddleRows$Pad" "phase" "I") ∈ WS := inWS (List.mem_of_getElem? (i := 154) (by decide +kernel)) (by decide +kernel)
theorem q155 : (Jvm.Cond.arrayClass Jvm.ClassFile.FieldType.char) ∈ WS := inWS (List.mem_of_getElem? (i := 157) (by decide +kernel)) (by decide +kernel)
theorem q156 : (Jvm.Cond.classLink "PaddleRows" (23 : Nat) "PaddleRows$History") ∈ WS := inWS (List.mem_of_getElem? (i := 158) (by decide +kernel)) (by decide +kernel)
theorem q157 : (Jvm.Cond.instantiable "PaddleRows$History" (2 : Nat)) ∈ WS := inWS (List.mem_of_getElem? (i := 159) (by decide +kernel)) (by decide +kernel)
theorem q158 : (Jvm.Cond.methodLink "PaddleRows" (25 : Nat) ({ cls := "PaddleRows$History", name := "<init>", desc := "()V" } : Jvm.MethodName)) ∈ WS := inWS (List.mem_of_getElem? (i := 160) (by decide +kernel)) (by decide +kernel)
theorem q159 : (Jvm.Cond.instanceMethod ({ cls := "PaddleRows$History", name := "<init>", desc := "()V" } : Jvm.MethodName)) ∈ WS := inWS (List.mem_of_getElem? (i := 161) (by decide +kernel)) (by decide +kernel)
theorem q160 : (Jvm.Cond.code ({ cls := "PaddleRows$History", name := "<init>", desc := "()V" } : Jvm.MethodName) prog_3_method_1_code (2 : Nat) (Option.none : Option Jvm.ClassFile.FieldType)) ∈ WS := inWS (List.mem_of_getElem? (i := 162) (by decide +kernel)) (by decide +kernel)
theorem q161 : (Jvm.Cond.methodLink "PaddleRows$History" (3 : Nat) ({ cls := "java/lang/Object", name := "<init>", desc := "()V" } : Jvm.MethodName)) ∈ WS := inWS (List.mem_of_getElem? (i := 163) (by decide +kernel)) (by decide +kernel)
theorem q162 : (Jvm.Cond.classLink "PaddleRows$History" (9 : Nat) "PaddleRows$Tank") ∈ WS := inWS (List.mem_of_getElem? (i := 164) (by decide +kernel)) (by decide +kernel)
theorem q164 : (Jvm.Cond.methodLink "PaddleRows$History" (17 : Nat) ({ cls := "PaddleRows$Tank", name := "<init>", desc := "()V" } : Jvm.MethodName)) ∈ WS := inWS (List.mem_of_getElem? (i := 166) (by decide +kernel)) (by decide +kernel)
theorem q165 : (Jvm.Cond.fieldLink "PaddleRows$History" (11 : Nat) "PaddleRows$History" "states" "[LPaddleRows$Tank;") ∈ WS := inWS (List.mem_of_getElem? (i := 167) (by decide +kernel)) (by decide +kernel)
theorem q166 : (Jvm.Cond.fieldLink "PaddleRows$History" (18 : Nat) "PaddleRows$History" "size" "I") ∈ WS := inWS (List.mem_of_getElem? (i := 168) (by decide +kernel)) (by decide +kernel)
theorem q167 : (Jvm.Cond.fieldLink "PaddleRows" (192 : Nat) "PaddleRows$History" "size" "I") ∈ WS := inWS (List.mem_of_getElem? (i := 169) (by decide +kernel)) (by decide +kernel)
theorem q168 : (Jvm.Cond.laysFinal "PaddleRows$History" "PaddleRows$History" "states" "[LPaddleRows$Tank;") ∈ WS := inWS (List.mem_of_getElem? (i := 170) (by decide +kernel)) (by decide +kernel)
theorem q170 : (Jvm.Cond.lays "PaddleRows$History" "PaddleRows$History" "size" "I") ∈ WS := inWS (List.mem_of_getElem? (i := 172) (by decide +kernel)) (by decide +kernel)
theorem q173 : (Jvm.Cond.fieldLink "PaddleRows" (10 : Nat) "PaddleRows" "tank" "LPaddleRows$Tank;") ∈ WS := inWS (List.mem_of_getElem? (i := 175) (by decide +kernel)) (by decide +kernel)
theorem q174 : (Jvm.Cond.fieldLink "PaddleRows" (19 : Nat) "PaddleRows" "pad" "LPaddleRows$Pad;") ∈ WS := inWS (List.mem_of_getElem? (i := 176) (by decide +kernel)) (by decide +kernel)
theorem q175 : (Jvm.Cond.fieldLink "PaddleRows" (26 : Nat) "PaddleRows" "history" "LPaddleRows$History;") ∈ WS := inWS (List.mem_of_getElem? (i := 177) (by decide +kernel)) (by decide +kernel)
theorem q176 : (Jvm.Cond.fieldLink "PaddleRows" (30 : Nat) "PaddleRows" "slots" "[LPaddleRows$Tank;") ∈ WS := inWS (List.mem_of_getElem? (i := 178) (by decide +kernel)) (by decide +kernel)
theorem q177 : (Jvm.Cond.fieldLink "PaddleRows" (34 : Nat) "PaddleRows" "slotFilled" "[Z") ∈ WS := inWS (List.mem_of_getElem? (i := 179) (by decide +kernel)) (by decide +kernel)
theorem q178 : (Jvm.Cond.fieldLink "PaddleRows" (38 : Nat) "PaddleRows" "before" "LPaddleRows$Tank;") ∈ WS := inWS (List.mem_of_getElem? (i := 180) (by decide +kernel)) (by decide +kernel)
theorem q179 : (Jvm.Cond.fieldLink "PaddleRows" (41 : Nat) "PaddleRows" "trial" "LPaddleRows$Tank;") ∈ WS := inWS (List.mem_of_getElem? (i := 181) (by decide +kernel)) (by decide +kernel)
theorem q180 : (Jvm.Cond.laysFinal "PaddleRows" "PaddleRows" "tank" "LPaddleRows$Tank;") ∈ WS := inWS (List.mem_of_getElem? (i := 182) (by decide +kernel)) (by decide +kernel)
theorem q182 : (Jvm.Cond.laysFinal "PaddleRows" "PaddleRows" "pad" "LPaddleRows$Pad;") ∈ WS := inWS (List.mem_of_getElem? (i := 184) (by decide +kernel)) (by decide +kernel)
theorem q184 : (Jvm.Cond.laysFinal "PaddleRows" "PaddleRows" "history" "LPaddleRows$History;") ∈ WS := inWS (List.mem_of_getElem? (i := 186) (by decide +kernel)) (by decide +kernel)
theorem q186 : (Jvm.Cond.laysFinal "PaddleRows" "PaddleRows" "slots" "[LPaddleRows$Tank;") ∈ WS := inWS (List.mem_of_getElem? (i := 188) (by decide +kernel)) (by decide +kernel)
theorem q188 : (Jvm.Cond.laysFinal "PaddleRows" "PaddleRows" "slotFilled" "[Z") ∈ WS := inWS (List.mem_of_getElem? (i := 190) (by decide +kernel)) (by decide +kernel)
theorem q190 : (Jvm.Cond.laysFinal "PaddleRows" "PaddleRows" "before" "LPaddleRows$Tank;") ∈ WS := inWS (List.mem_of_getElem? (i := 192) (by decide +kernel)) (by decide +kernel)
theorem q192 : (Jvm.Cond.laysFinal "PaddleRows" "PaddleRows" "trial" "LPaddleRows$Tank;") ∈ WS := inWS (List.mem_of_getElem? (i := 194) (by decide +kernel)) (by decide +kernel)
theorem q195 : (Jvm.Cond.arrayClass Jvm.ClassFile.FieldType.boolean) ∈ WS := inWS (List.mem_of_getElem? (i := 197) (by decide +kernel)) (by decide +kernel)
theorem q196 : (Jvm.Cond.methodLink "PaddleRowsLaw" (92 : Nat) ({ cls := "PaddleRows", name := "set", desc := "(II)I" } : Jvm.MethodName)) ∈ WS := inWS (List.mem_of_getElem? (i := 198) (by decide +kernel)) (by decide +kernel)
theorem q197 : (Jvm.Cond.instanceMethod ({ cls := "PaddleRows", name := "set", desc := "(II)I" } : Jvm.MethodName)) ∈ WS := inWS (List.mem_of_getElem? (i := 199) (by decide +kernel)) (by decide +kernel)
theorem q198 : (Jvm.Cond.selects "PaddleRows" ({ cls := "PaddleRows", name := "set", desc := "(II)I" } : Jvm.MethodName) ({ cls := "PaddleRows", name := "set", desc := "(II)I" } : Jvm.MethodName)) ∈ WS := inWS (List.mem_of_getElem? (i := 200) (by decide +kernel)) (by decide +kernel)
theorem q199 : (Jvm.Cond.code ({ cls := "PaddleRows", name := "set", desc := "(II)I" } : Jvm.MethodName) prog_1_method_2_code (3 : Nat) (Option.some Jvm.ClassFile.FieldType.int)) ∈ WS := inWS (List.mem_of_getElem? (i := 201) (by decide +kernel)) (by decide +kernel)
theorem q200 : (Jvm.Cond.methodLink "PaddleRows" (44 : Nat) ({ cls := "PaddleRows$Tank", name := "copyFrom", desc := "(LPaddleRows$Tank;)V" } : Jvm.MethodName)) ∈ WS := inWS (List.mem_of_getElem? (i := 202) (by decide +kernel)) (by decide +kernel)
theorem q201 : (Jvm.Cond.instanceMethod ({ cls := "PaddleRows$Tank", name := "copyFrom", desc := "(LPaddleRows$Tank;)V" } : Jvm.MethodName)) ∈ WS := inWS (List.mem_of_getElem? (i := 203) (by decide +kernel)) (by decide +kernel)
theorem q202 : (Jvm.Cond.selects "PaddleRows$Tank" ({ cls := "PaddleRows$Tank", name := "copyFrom", desc := "(LPaddleRows$Tank;)V" } : Jvm.MethodName) ({ cls := "PaddleRows$Tank", name := "copyFrom", desc := "(LPaddleRows$Tank;)V" } : Jvm.MethodName)) ∈ WS := inWS (List.mem_of_getElem? (i := 204) (by decide +kernel)) (by decide +kernel)
theorem q203 : (Jvm.Cond.code ({ cls := "PaddleRows$Tank", name := "copyFrom", desc := "(LPaddleRows$Tank;)V" } : Jvm.MethodName) prog_6_method_2_code (3 : Nat) (Option.none : Option Jvm.ClassFile.FieldType)) ∈ WS := inWS (List.mem_of_getElem? (i := 205) (by decide +kernel)) (by decide +kernel)
theorem q204 : (Jvm.Cond.methodLink "PaddleRows$Tank" (43 : Nat) ({ cls := "java/lang/System", name := "arraycopy", desc := "(Ljava/lang/Object;ILjava/lang/Object;II)V" } : Jvm.MethodName)) ∈ WS := inWS (List.mem_of_getElem? (i := 206) (by decide +kernel)) (by decide +kernel)
theorem q205 : (Jvm.Cond.static ({ cls := "java/lang/System", name := "arraycopy", desc := "(Ljava/lang/Object;ILjava/lang/Object;II)V" } : Jvm.MethodName)) ∈ WS := inWS (List.mem_of_getElem? (i := 207) (by decide +kernel)) (by decide +kernel)
theorem q206 : (Jvm.Cond.native ({ cls := "java/lang/System", name := "arraycopy", desc := "(Ljava/lang/Object;ILjava/lang/Object;II)V" } : Jvm.MethodName)) ∈ WS := inWS (List.mem_of_getElem? (i := 208) (by decide +kernel)) (by decide +kernel)
theorem q207 : (Jvm.Cond.methodLink "PaddleRows$Tank" (53 : Nat) ({ cls := "PaddleRows$Paddle", name := "copyFrom", desc := "(LPaddleRows$Paddle;)V" } : Jvm.MethodName)) ∈ WS := inWS (List.mem_of_getElem? (i := 209) (by decide +kernel)) (by decide +kernel)
theorem q208 : (Jvm.Cond.instanceMethod ({ cls := "PaddleRows$Paddle", name := "copyFrom", desc := "(LPaddleRows$Paddle;)V" } : Jvm.MethodName)) ∈ WS := inWS (List.mem_of_getElem? (i := 210) (by decide +kernel)) (by decide +kernel)
theorem q209 : (Jvm.Cond.selects "PaddleRows$Paddle" ({ cls := "PaddleRows$Paddle", name := "copyFrom", desc := "(LPaddleRows$Paddle;)V" } : Jvm.MethodName) ({ cls := "PaddleRows$Paddle", name := "copyFrom", desc := "(LPaddleRows$Paddle;)V" } : Jvm.MethodName)) ∈ WS := inWS (List.mem_of_getElem? (i := 211) (by decide +kernel)) (by decide +kernel)
theorem q210 : (Jvm.Cond.code ({ cls := "PaddleRows$Paddle", name := "copyFrom", desc := "(LPaddleRows$Paddle;)V" } : Jvm.MethodName) prog_5_method_2_code (2 : Nat) (Option.none : Option Jvm.ClassFile.FieldType)) ∈ WS := inWS (List.mem_of_getElem? (i := 212) (by decide +kernel)) (by decide +kernel)
theorem q211 : (Jvm.Cond.methodLink "PaddleRows$Tank" (60 : Nat) ({ cls := "PaddleRows$Gauge", name := "copyFrom", desc := "(LPaddleRows$Gauge;)V" } : Jvm.MethodName)) ∈ WS := inWS (List.mem_of_getElem? (i := 213) (by decide +kernel)) (by decide +kernel)
theorem q212 : (Jvm.Cond.instanceMethod ({ cls := "PaddleRows$Gauge", name := "copyFrom", desc := "(LPaddleRows$Gauge;)V" } : Jvm.MethodName)) ∈ WS := inWS (List.mem_of_getElem? (i := 214) (by decide +kernel)) (by decide +kernel)
theorem q213 : (Jvm.Cond.selects "PaddleRows$Gauge" ({ cls := "PaddleRows$Gauge", name := "copyFrom", desc := "(LPaddleRows$Gauge;)V" } : Jvm.MethodName) ({ cls := "PaddleRows$Gauge", name := "copyFrom", desc := "(LPaddleRows$Gauge;)V" } : Jvm.MethodName)) ∈ WS := inWS (List.mem_of_getElem? (i := 215) (by decide +kernel)) (by decide +kernel)
theorem q214 : (Jvm.Cond.code ({ cls := "PaddleRows$Gauge", name := "copyFrom", desc := "(LPaddleRows$Gauge;)V" } : Jvm.MethodName) prog_2_method_2_code (2 : Nat) (Option.none : Option Jvm.ClassFile.FieldType)) ∈ WS := inWS (List.mem_of_getElem? (i := 216) (by decide +kernel)) (by decide +kernel)
theorem q215 : (Jvm.Cond.methodLink "PaddleRows$Gauge" (15 : Nat) ({ cls := "java/lang/System", name := "arraycopy", desc := "(Ljava/lang/Object;ILjava/lang/Object;II)V" } : Jvm.MethodName)) ∈ WS := inWS (List.mem_of_getElem? (i := 217) (by decide +kernel)) (by decide +kernel)
theorem q216 : (Jvm.Cond.methodLink "PaddleRows" (48 : Nat) ({ cls := "PaddleRows$Tank", name := "changeSetting", desc := "(II)I" } : Jvm.MethodName)) ∈ WS := inWS (List.mem_of_getElem? (i := 218) (by decide +kernel)) (by decide +kernel)
theorem q217 : (Jvm.Cond.instanceMethod ({ cls := "PaddleRows$Tank", name := "changeSetting", desc := "(II)I" } : Jvm.MethodName)) ∈ WS := inWS (List.mem_of_getElem? (i := 219) (by decide +kernel)) (by decide +kernel)
theorem q218 : (Jvm.Cond.selects "PaddleRows$Tank" ({ cls := "PaddleRows$Tank", name := "changeSetting", desc := "(II)I" } : Jvm.MethodName) ({ cls := "PaddleRows$Tank", name := "changeSetting", desc := "(II)I" } : Jvm.MethodName)) ∈ WS := inWS (List.mem_of_getElem? (i := 220) (by decide +kernel)) (by decide +kernel)
theorem q219 : (Jvm.Cond.code ({ cls := "PaddleRows$Tank", name := "changeSetting", desc := "(II)I" } : Jvm.MethodName) prog_6_method_3_code (4 : Nat) (Option.some Jvm.ClassFile.FieldType.int)) ∈ WS := inWS (List.mem_of_getElem? (i := 221) (by decide +kernel)) (by decide +kernel)
theorem q221 : (Jvm.Cond.static ({ cls := "PaddleRows", name := "isOutside", desc := "(II)Z" } : Jvm.MethodName)) ∈ WS := inWS (List.mem_of_getElem? (i := 223) (by decide +kernel)) (by decide +kernel)
theorem q222 : (Jvm.Cond.code ({ cls := "PaddleRows", name := "isOutside", desc := "(II)Z" } : Jvm.MethodName) prog_1_method_29_code (2 : Nat) (Option.some Jvm.ClassFile.FieldType.boolean)) ∈ WS := inWS (List.mem_of_getElem? (i := 224) (by decide +kernel)) (by decide +kernel)
theorem q227 : (Jvm.Cond.methodLink "PaddleRows" (52 : Nat) ({ cls := "PaddleRows", name := "recorded", desc := "(I)I" } : Jvm.MethodName)) ∈ WS := inWS (List.mem_of_getElem? (i := 229) (by decide +kernel)) (by decide +kernel)
theorem q229 : (Jvm.Cond.instanceMethod ({ cls := "PaddleRows", name := "recorded", desc := "(I)I" } : Jvm.MethodName)) ∈ WS := inWS (List.mem_of_getElem? (i := 231) (by decide +kernel)) (by decide +kernel)
theorem q230 : (Jvm.Cond.code ({ cls := "PaddleRows", name := "recorded", desc := "(I)I" } : Jvm.MethodName) prog_1_method_9_code (2 : Nat) (Option.some Jvm.ClassFile.FieldType.int)) ∈ WS := inWS (List.mem_of_getElem? (i := 232) (by decide +kernel)) (by decide +kernel)
theorem q231 : (Jvm.Cond.methodLink "PaddleRows" (75 : Nat) ({ cls := "PaddleRows$History", name := "push", desc := "(LPaddleRows$Tank;)V" } : Jvm.MethodName)) ∈ WS := inWS (List.mem_of_getElem? (i := 233) (by decide +kernel)) (by decide +kernel)
theorem q232 : (Jvm.Cond.instanceMethod ({ cls := "PaddleRows$History", name := "push", desc := "(LPaddleRows$Tank;)V" } : Jvm.MethodName)) ∈ WS := inWS (List.mem_of_getElem? (i := 234) (by decide +kernel)) (by decide +kernel)
theorem q233 : (Jvm.Cond.selects "PaddleRows$History" ({ cls := "PaddleRows$History", name := "push", desc := "(LPaddleRows$Tank;)V" } : Jvm.MethodName) ({ cls := "PaddleRows$History", name := "push", desc := "(LPaddleRows$Tank;)V" } : Jvm.MethodName)) ∈ WS := inWS (List.mem_of_getElem? (i := 235) (by decide +kernel)) (by decide +kernel)
theorem q234 : (Jvm.Cond.code ({ cls := "PaddleRows$History", name := "push", desc := "(LPaddleRows$Tank;)V" } : Jvm.MethodName) prog_3_method_2_code (2 : Nat) (Option.none : Option Jvm.ClassFile.FieldType)) ∈ WS := inWS (List.mem_of_getElem? (i := 236) (by decide +kernel)) (by decide +kernel)
theorem q235 : (Jvm.Cond.methodLink "PaddleRows$History" (22 : Nat) ({ cls := "PaddleRows$History", name := "dropOldest", desc := "()V" } : Jvm.MethodName)) ∈ WS := inWS (List.mem_of_getElem? (i := 237) (by decide +kernel)) (by decide +kernel)
theorem q236 : (Jvm.Cond.instanceMethod ({ cls := "PaddleRows$History", name := "dropOldest", desc := "()V" } : Jvm.MethodName)) ∈ WS := inWS (List.mem_of_getElem? (i := 238) (by decide +kernel)) (by decide +kernel)
theorem q237 : (Jvm.Cond.selects "PaddleRows$History" ({ cls := "PaddleRows$History", name := "dropOldest", desc := "()V" } : Jvm.MethodName) ({ cls := "PaddleRows$History", name := "dropOldest", desc := "()V" } : Jvm.MethodName)) ∈ WS := inWS (List.mem_of_getElem? (i := 239) (by decide +kernel)) (by decide +kernel)
theorem q238 : (Jvm.Cond.code ({ cls := "PaddleRows$History", name := "dropOldest", desc := "()V" } : Jvm.MethodName) prog_3_method_3_code (3 : Nat) (Option.none : Option Jvm.ClassFile.FieldType)) ∈ WS := inWS (List.mem_of_getElem? (i := 240) (by decide +kernel)) (by decide +kernel)
theorem q239 : (Jvm.Cond.methodLink "PaddleRows$History" (25 : Nat) ({ cls := "PaddleRows$Tank", name := "copyFrom", desc := "(LPaddleRows$Tank;)V" } : Jvm.MethodName)) ∈ WS := inWS (List.mem_of_getElem? (i := 241) (by decide +kernel)) (by decide +kernel)
theorem q240 : (Jvm.Cond.methodLink "PaddleRowsLaw" (73 : Nat) ({ cls := "PaddleRows", name := "paddle", desc := "(IIIII)I" } : Jvm.MethodName)) ∈ WS := inWS (List.mem_of_getElem? (i := 242) (by decide +kernel)) (by decide +kernel)
theorem q241 : (Jvm.Cond.instanceMethod ({ cls := "PaddleRows", name := "paddle", desc := "(IIIII)I" } : Jvm.MethodName)) ∈ WS := inWS (List.mem_of_getElem? (i := 243) (by decide +kernel)) (by decide +kernel)
theorem q242 : (Jvm.Cond.selects "PaddleRows" ({ cls := "PaddleRows", name := "paddle", desc := "(IIIII)I" } : Jvm.MethodName) ({ cls := "PaddleRows", name := "paddle", desc := "(IIIII)I" } : Jvm.MethodName)) ∈ WS := inWS (List.mem_of_getElem? (i := 244) (by decide +kernel)) (by decide +kernel)
theorem q243 : (Jvm.Cond.code ({ cls := "PaddleRows", name := "paddle", desc := "(IIIII)I" } : Jvm.MethodName) prog_1_method_3_code (6 : Nat) (Option.some Jvm.ClassFile.FieldType.int)) ∈ WS := inWS (List.mem_of_getElem? (i := 245) (by decide +kernel)) (by decide +kernel)
theorem q244 : (Jvm.Cond.methodLink "PaddleRows" (56 : Nat) ({ cls := "PaddleRows$Tank", name := "placePaddle", desc := "(IIIII)I" } : Jvm.MethodName)) ∈ WS := inWS (List.mem_of_getElem? (i := 246) (by decide +kernel)) (by decide +kernel)
theorem q245 : (Jvm.Cond.instanceMethod ({ cls := "PaddleRows$Tank", name := "placePaddle", desc := "(IIIII)I" } : Jvm.MethodName)) ∈ WS := inWS (List.mem_of_getElem? (i := 247) (by decide +kernel)) (by decide +kernel)
theorem q246 : (Jvm.Cond.selects "PaddleRows$Tank" ({ cls := "PaddleRows$Tank", name := "placePaddle", desc := "(IIIII)I" } : Jvm.MethodName) ({ cls := "PaddleRows$Tank", name := "placePaddle", desc := "(IIIII)I" } : Jvm.MethodName)) ∈ WS := inWS (List.mem_of_getElem? (i := 248) (by decide +kernel)) (by decide +kernel)
theorem q247 : (Jvm.Cond.code ({ cls := "PaddleRows$Tank", name := "placePaddle", desc := "(IIIII)I" } : Jvm.MethodName) prog_6_method_4_code (8 : Nat) (Option.some Jvm.ClassFile.FieldType.int)) ∈ WS := inWS (List.mem_of_getElem? (i := 249) (by decide +kernel)) (by decide +kernel)
theorem q248 : (Jvm.Cond.methodLink "PaddleRows$Tank" (76 : Nat) ({ cls := "PaddleRows$Paddle", name := "isRecipe", desc := "(IIII)Z" } : Jvm.MethodName)) ∈ WS := inWS (List.mem_of_getElem? (i := 250) (by decide +kernel)) (by decide +kernel)
theorem q249 : (Jvm.Cond.static ({ cls := "PaddleRows$Paddle", name := "isRecipe", desc := "(IIII)Z" } : Jvm.MethodName)) ∈ WS := inWS (List.mem_of_getElem? (i := 251) (by decide +kernel)) (by decide +kernel)
theorem q250 : (Jvm.Cond.code ({ cls := "PaddleRows$Paddle", name := "isRecipe", desc := "(IIII)Z" } : Jvm.MethodName) prog_5_method_3_code (4 : Nat) (Option.some Jvm.ClassFile.FieldType.boolean)) ∈ WS := inWS (List.mem_of_getElem? (i := 252) (by decide +kernel)) (by decide +kernel)
theorem q252 : (Jvm.Cond.methodLink "PaddleRows$Tank" (80 : Nat) ({ cls := "PaddleRows$Tank", name := "rankIn", desc := "(I)I" } : Jvm.MethodName)) ∈ WS := inWS (List.mem_of_getElem? (i := 254) (by decide +kernel)) (by decide +kernel)
theorem q253 : (Jvm.Cond.instanceMethod ({ cls := "PaddleRows$Tank", name := "rankIn", desc := "(I)I" } : Jvm.MethodName)) ∈ WS := inWS (List.mem_of_getElem? (i := 255) (by decide +kernel)) (by decide +kernel)
theorem q254 : (Jvm.Cond.selects "PaddleRows$Tank" ({ cls := "PaddleRows$Tank", name := "rankIn", desc := "(I)I" } : Jvm.MethodName) ({ cls := "PaddleRows$Tank", name := "rankIn", desc := "(I)I" } : Jvm.MethodName)) ∈ WS := inWS (List.mem_of_getElem? (i := 256) (by decide +kernel)) (by decide +kernel)
theorem q255 : (Jvm.Cond.code ({ cls := "PaddleRows$Tank", name := "rankIn", desc := "(I)I" } : Jvm.MethodName) prog_6_method_5_code (3 : Nat) (Option.some Jvm.ClassFile.FieldType.int)) ∈ WS := inWS (List.mem_of_getElem? (i := 257) (by decide +kernel)) (by decide +kernel)
theorem q256 : (Jvm.Cond.methodLink "PaddleRows$Tank" (84 : Nat) ({ cls := "PaddleRows$Tank", name := "openRank", desc := "(I)I" } : Jvm.MethodName)) ∈ WS := inWS (List.mem_of_getElem? (i := 258) (by decide +kernel)) (by decide +kernel)
theorem q257 : (Jvm.Cond.instanceMethod ({ cls := "PaddleRows$Tank", name := "openRank", desc := "(I)I" } : Jvm.MethodName)) ∈ WS := inWS (List.mem_of_getElem? (i := 259) (by decide +kernel)) (by decide +kernel)
theorem q258 : (Jvm.Cond.selects "PaddleRows$Tank" ({ cls := "PaddleRows$Tank", name := "openRank", desc := "(I)I" } : Jvm.MethodName) ({ cls := "PaddleRows$Tank", name := "openRank", desc := "(I)I" } : Jvm.MethodName)) ∈ WS := inWS (List.mem_of_getElem? (i := 260) (by decide +kernel)) (by decide +kernel)
theorem q259 : (Jvm.Cond.code ({ cls := "PaddleRows$Tank", name := "openRank", desc := "(I)I" } : Jvm.MethodName) prog_6_method_6_code (4 : Nat) (Option.some Jvm.ClassFile.FieldType.int)) ∈ WS := inWS (List.mem_of_getElem? (i := 261) (by decide +kernel)) (by decide +kernel)
theorem q260 : (Jvm.Cond.methodLink "PaddleRowsLaw" (89 : Nat) ({ cls := "PaddleRows", name := "lift", desc := "(I)I" } : Jvm.MethodName)) ∈ WS := inWS (List.mem_of_getElem? (i := 262) (by decide +kernel)) (by decide +kernel)
theorem q261 : (Jvm.Cond.instanceMethod ({ cls := "PaddleRows", name := "lift", desc := "(I)I" } : Jvm.MethodName)) ∈ WS := inWS (List.mem_of_getElem? (i := 263) (by decide +kernel)) (by decide +kernel)
theorem q262 : (Jvm.Cond.selects "PaddleRows" ({ cls := "PaddleRows", name := "lift", desc := "(I)I" } : Jvm.MethodName) ({ cls := "PaddleRows", name := "lift", desc := "(I)I" } : Jvm.MethodName)) ∈ WS := inWS (List.mem_of_getElem? (i := 264) (by decide +kernel)) (by decide +kernel)
theorem q263 : (Jvm.Cond.code ({ cls := "PaddleRows", name := "lift", desc := "(I)I" } : Jvm.MethodName) prog_1_method_4_code (2 : Nat) (Option.some Jvm.ClassFile.FieldType.int)) ∈ WS := inWS (List.mem_of_getElem? (i := 265) (by decide +kernel)) (by decide +kernel)
theorem q264 : (Jvm.Cond.methodLink "PaddleRows" (60 : Nat) ({ cls := "PaddleRows$Tank", name := "removePaddle", desc := "(I)I" } : Jvm.MethodName)) ∈ WS := inWS (List.mem_of_getElem? (i := 266) (by decide +kernel)) (by decide +kernel)
theorem q265 : (Jvm.Cond.instanceMethod ({ cls := "PaddleRows$Tank", name := "removePaddle", desc := "(I)I" } : Jvm.MethodName)) ∈ WS := inWS (List.mem_of_getElem? (i := 267) (by decide +kernel)) (by decide +kernel)
theorem q266 : (Jvm.Cond.selects "PaddleRows$Tank" ({ cls := "PaddleRows$Tank", name := "removePaddle", desc := "(I)I" } : Jvm.MethodName) ({ cls := "PaddleRows$Tank", name := "removePaddle", desc := "(I)I" } : Jvm.MethodName)) ∈ WS := inWS (List.mem_of_getElem? (i := 268) (by decide +kernel)) (by decide +kernel)
theorem q267 : (Jvm.Cond.code ({ cls := "PaddleRows$Tank", name := "removePaddle", desc := "(I)I" } : Jvm.MethodName) prog_6_method_7_code (5 : Nat) (Option.some Jvm.ClassFile.FieldType.int)) ∈ WS := inWS (List.mem_of_getElem? (i := 269) (by decide +kernel)) (by decide +kernel)
theorem q268 : (Jvm.Cond.methodLink "PaddleRowsLaw" (86 : Nat) ({ cls := "PaddleRows", name := "again", desc := "(I)I" } : Jvm.MethodName)) ∈ WS := inWS (List.mem_of_getElem? (i := 270) (by decide +kernel)) (by decide +kernel)
theorem q269 : (Jvm.Cond.instanceMethod ({ cls := "PaddleRows", name := "again", desc := "(I)I" } : Jvm.MethodName)) ∈ WS := inWS (List.mem_of_getElem? (i := 271) (by decide +kernel)) (by decide +kernel)
theorem q270 : (Jvm.Cond.selects "PaddleRows" ({ cls := "PaddleRows", name := "again", desc := "(I)I" } : Jvm.MethodName) ({ cls := "PaddleRows", name := "again", desc := "(I)I" } : Jvm.MethodName)) ∈ WS := inWS (List.mem_of_getElem? (i := 272) (by decide +kernel)) (by decide +kernel)
theorem q271 : (Jvm.Cond.code ({ cls := "PaddleRows", name := "again", desc := "(I)I" } : Jvm.MethodName) prog_1_method_5_code (2 : Nat) (Option.some Jvm.ClassFile.FieldType.int)) ∈ WS := inWS (List.mem_of_getElem? (i := 273) (by decide +kernel)) (by decide +kernel)
theorem q272 : (Jvm.Cond.methodLink "PaddleRows" (63 : Nat) ({ cls := "PaddleRows$Tank", name := "startPaddle", desc := "(I)I" } : Jvm.MethodName)) ∈ WS := inWS (List.mem_of_getElem? (i := 274) (by decide +kernel)) (by decide +kernel)
theorem q273 : (Jvm.Cond.instanceMethod ({ cls := "PaddleRows$Tank", name := "startPaddle", desc := "(I)I" } : Jvm.MethodName)) ∈ WS := inWS (List.mem_of_getElem? (i := 275) (by decide +kernel)) (by decide +kernel)
theorem q274 : (Jvm.Cond.selects "PaddleRows$Tank" ({ cls := "PaddleRows$Tank", name := "startPaddle", desc := "(I)I" } : Jvm.MethodName) ({ cls := "PaddleRows$Tank", name := "startPaddle", desc := "(I)I" } : Jvm.MethodName)) ∈ WS := inWS (List.mem_of_getElem? (i := 276) (by decide +kernel)) (by decide +kernel)
theorem q275 : (Jvm.Cond.code ({ cls := "PaddleRows$Tank", name := "startPaddle", desc := "(I)I" } : Jvm.MethodName) prog_6_method_8_code (4 : Nat) (Option.some Jvm.ClassFile.FieldType.int)) ∈ WS := inWS (List.mem_of_getElem? (i := 277) (by decide +kernel)) (by decide +kernel)
theorem q277 : (Jvm.Cond.static ({ cls := "PaddleRows", name := "asNumber", desc := "(Z)I" } : Jvm.MethodName)) ∈ WS := inWS (List.mem_of_getElem? (i := 279) (by decide +kernel)) (by decide +kernel)
theorem q278 : (Jvm.Cond.code ({ cls := "PaddleRows", name := "asNumber", desc := "(Z)I" } : Jvm.MethodName) prog_1_method_30_code (1 : Nat) (Option.some Jvm.ClassFile.FieldType.int)) ∈ WS := inWS (List.mem_of_getElem? (i := 280) (by decide +kernel)) (by decide +kernel)
theorem q279 : (Jvm.Cond.methodLink "PaddleRowsLaw" (83 : Nat) ({ cls := "PaddleRows", name := "gauge", desc := "(I)I" } : Jvm.MethodName)) ∈ WS := inWS (List.mem_of_getElem? (i := 281) (by decide +kernel)) (by decide +kernel)
theorem q280 : (Jvm.Cond.instanceMethod ({ cls := "PaddleRows", name := "gauge", desc := "(I)I" } : Jvm.MethodName)) ∈ WS := inWS (List.mem_of_getElem? (i := 282) (by decide +kernel)) (by decide +kernel)
theorem q281 : (Jvm.Cond.selects "PaddleRows" ({ cls := "PaddleRows", name := "gauge", desc := "(I)I" } : Jvm.MethodName) ({ cls := "PaddleRows", name := "gauge", desc := "(I)I" } : Jvm.MethodName)) ∈ WS := inWS (List.mem_of_getElem? (i := 283) (by decide +kernel)) (by decide +kernel)
theorem q282 : (Jvm.Cond.code ({ cls := "PaddleRows", name := "gauge", desc := "(I)I" } : Jvm.MethodName) prog_1_method_6_code (2 : Nat) (Option.some Jvm.ClassFile.FieldType.int)) ∈ WS := inWS (List.mem_of_getElem? (i := 284) (by decide +kernel)) (by decide +kernel)
theorem q283 : (Jvm.Cond.methodLink "PaddleRows" (66 : Nat) ({ cls := "PaddleRows$Tank", name := "placeGauge", desc := "(I)I" } : Jvm.MethodName)) ∈ WS := inWS (List.mem_of_getElem? (i := 285) (by decide +kernel)) (by decide +kernel)
theorem q284 : (Jvm.Cond.instanceMethod ({ cls := "PaddleRows$Tank", name := "placeGauge", desc := "(I)I" } : Jvm.MethodName)) ∈ WS := inWS (List.mem_of_getElem? (i := 286) (by decide +kernel)) (by decide +kernel)
theorem q285 : (Jvm.Cond.selects "PaddleRows$Tank" ({ cls := "PaddleRows$Tank", name := "placeGauge", desc := "(I)I" } : Jvm.MethodName) ({ cls := "PaddleRows$Tank", name := "placeGauge", desc := "(I)I" } : Jvm.MethodName)) ∈ WS := inWS (List.mem_of_getElem? (i := 287) (by decide +kernel)) (by decide +kernel)
theorem q286 : (Jvm.Cond.code ({ cls := "PaddleRows$Tank", name := "placeGauge", desc := "(I)I" } : Jvm.MethodName) prog_6_method_9_code (2 : Nat) (Option.some Jvm.ClassFile.FieldType.int)) ∈ WS := inWS (List.mem_of_getElem? (i := 288) (by decide +kernel)) (by decide +kernel)
theorem q287 : (Jvm.Cond.methodLink "PaddleRows$Tank" (110 : Nat) ({ cls := "PaddleRows$Gauge", name := "startIn", desc := "(I)V" } : Jvm.MethodName)) ∈ WS := inWS (List.mem_of_getElem? (i := 289) (by decide +kernel)) (by decide +kernel)
theorem q288 : (Jvm.Cond.instanceMethod ({ cls := "PaddleRows$Gauge", name := "startIn", desc := "(I)V" } : Jvm.MethodName)) ∈ WS := inWS (List.mem_of_getElem? (i := 290) (by decide +kernel)) (by decide +kernel)
theorem q289 : (Jvm.Cond.selects "PaddleRows$Gauge" ({ cls := "PaddleRows$Gauge", name := "startIn", desc := "(I)V" } : Jvm.MethodName) ({ cls := "PaddleRows$Gauge", name := "startIn", desc := "(I)V" } : Jvm.MethodName)) ∈ WS := inWS (List.mem_of_getElem? (i := 291) (by decide +kernel)) (by decide +kernel)
theorem q290 : (Jvm.Cond.code ({ cls := "PaddleRows$Gauge", name := "startIn", desc := "(I)V" } : Jvm.MethodName) prog_2_method_3_code (2 : Nat) (Option.none : Option Jvm.ClassFile.FieldType)) ∈ WS := inWS (List.mem_of_getElem? (i := 292) (by decide +kernel)) (by decide +kernel)
theorem q291 : (Jvm.Cond.methodLink "PaddleRowsLaw" (80 : Nat) ({ cls := "PaddleRows", name := "level", desc := "(II)I" } : Jvm.MethodName)) ∈ WS := inWS (List.mem_of_getElem? (i := 293) (by decide +kernel)) (by decide +kernel)
theorem q292 : (Jvm.Cond.instanceMethod ({ cls := "PaddleRows", name := "level", desc := "(II)I" } : Jvm.MethodName)) ∈ WS := inWS (List.mem_of_getElem? (i := 294) (by decide +kernel)) (by decide +kernel)
theorem q293 : (Jvm.Cond.selects "PaddleRows" ({ cls := "PaddleRows", name := "level", desc := "(II)I" } : Jvm.MethodName) ({ cls := "PaddleRows", name := "level", desc := "(II)I" } : Jvm.MethodName)) ∈ WS := inWS (List.mem_of_getElem? (i := 295) (by decide +kernel)) (by decide +kernel)
theorem q294 : (Jvm.Cond.code ({ cls := "PaddleRows", name := "level", desc := "(II)I" } : Jvm.MethodName) prog_1_method_7_code (3 : Nat) (Option.some Jvm.ClassFile.FieldType.int)) ∈ WS := inWS (List.mem_of_getElem? (i := 296) (by decide +kernel)) (by decide +kernel)
theorem q295 : (Jvm.Cond.methodLink "PaddleRows" (69 : Nat) ({ cls := "PaddleRows$Tank", name := "changeLevel", desc := "(II)I" } : Jvm.MethodName)) ∈ WS := inWS (List.mem_of_getElem? (i := 297) (by decide +kernel)) (by decide +kernel)
theorem q296 : (Jvm.Cond.instanceMethod ({ cls := "PaddleRows$Tank", name := "changeLevel", desc := "(II)I" } : Jvm.MethodName)) ∈ WS := inWS (List.mem_of_getElem? (i := 298) (by decide +kernel)) (by decide +kernel)
theorem q297 : (Jvm.Cond.selects "PaddleRows$Tank" ({ cls := "PaddleRows$Tank", name := "changeLevel", desc := "(II)I" } : Jvm.MethodName) ({ cls := "PaddleRows$Tank", name := "changeLevel", desc := "(II)I" } : Jvm.MethodName)) ∈ WS := inWS (List.mem_of_getElem? (i := 299) (by decide +kernel)) (by decide +kernel)
theorem q298 : (Jvm.Cond.code ({ cls := "PaddleRows$Tank", name := "changeLevel", desc := "(II)I" } : Jvm.MethodName) prog_6_method_10_code (4 : Nat) (Option.some Jvm.ClassFile.FieldType.int)) ∈ WS := inWS (List.mem_of_getElem? (i := 300) (by decide +kernel)) (by decide +kernel)
theorem q299 : (Jvm.Cond.methodLink "PaddleRowsLaw" (77 : Nat) ({ cls := "PaddleRows", name := "pass", desc := "(I)I" } : Jvm.MethodName)) ∈ WS := inWS (List.mem_of_getElem? (i := 301) (by decide +kernel)) (by decide +kernel)
theorem q300 : (Jvm.Cond.instanceMethod ({ cls := "PaddleRows", name := "pass", desc := "(I)I" } : Jvm.MethodName)) ∈ WS := inWS (List.mem_of_getElem? (i := 302) (by decide +kernel)) (by decide +kernel)
theorem q301 : (Jvm.Cond.selects "PaddleRows" ({ cls := "PaddleRows", name := "pass", desc := "(I)I" } : Jvm.MethodName) ({ cls := "PaddleRows", name := "pass", desc := "(I)I" } : Jvm.MethodName)) ∈ WS := inWS (List.mem_of_getElem? (i := 303) (by decide +kernel)) (by decide +kernel)
theorem q302 : (Jvm.Cond.code ({ cls := "PaddleRows", name := "pass", desc := "(I)I" } : Jvm.MethodName) prog_1_method_8_code (2 : Nat) (Option.some Jvm.ClassFile.FieldType.int)) ∈ WS := inWS (List.mem_of_getElem? (i := 304) (by decide +kernel)) (by decide +kernel)
theorem q303 : (Jvm.Cond.methodLink "PaddleRows" (72 : Nat) ({ cls := "PaddleRows$Tank", name := "passSteps", desc := "(I)I" } : Jvm.MethodName)) ∈ WS := inWS (List.mem_of_getElem? (i := 305) (by decide +kernel)) (by decide +kernel)
theorem q304 : (Jvm.Cond.instanceMethod ({ cls := "PaddleRows$Tank", name := "passSteps", desc := "(I)I" } : Jvm.MethodName)) ∈ WS := inWS (List.mem_of_getElem? (i := 306) (by decide +kernel)) (by decide +kernel)
theorem q305 : (Jvm.Cond.selects "PaddleRows$Tank" ({ cls := "PaddleRows$Tank", name := "passSteps", desc := "(I)I" } : Jvm.MethodName) ({ cls := "PaddleRows$Tank", name := "passSteps", desc := "(I)I" } : Jvm.MethodName)) ∈ WS := inWS (List.mem_of_getElem? (i := 307) (by decide +kernel)) (by decide +kernel)
theorem q306 : (Jvm.Cond.code ({ cls := "PaddleRows$Tank", name := "passSteps", desc := "(I)I" } : Jvm.MethodName) prog_6_method_11_code (4 : Nat) (Option.some Jvm.ClassFile.FieldType.int)) ∈ WS := inWS (List.mem_of_getElem? (i := 308) (by decide +kernel)) (by decide +kernel)
theorem q307 : (Jvm.Cond.constant "PaddleRows$Tank" (114 : Nat) (99999 : Int32)) ∈ WS := inWS (List.mem_of_getElem? (i := 309) (by decide +kernel)) (by decide +kernel)
theorem q308 : (Jvm.Cond.methodLink "PaddleRows$Tank" (115 : Nat) ({ cls := "PaddleRows$Tank", name := "step", desc := "()I" } : Jvm.MethodName)) ∈ WS := inWS (List.mem_of_getElem? (i := 310) (by decide +kernel)) (by decide +kernel)
theorem q309 : (Jvm.Cond.instanceMethod ({ cls := "PaddleRows$Tank", name := "step", desc := "()I" } : Jvm.MethodName)) ∈ WS := inWS (List.mem_of_getElem? (i := 311) (by decide +kernel)) (by decide +kernel)
theorem q310 : (Jvm.Cond.selects "PaddleRows$Tank" ({ cls := "PaddleRows$Tank", name := "step", desc := "()I" } : Jvm.MethodName) ({ cls := "PaddleRows$Tank", name := "step", desc := "()I" } : Jvm.MethodName)) ∈ WS := inWS (List.mem_of_getElem? (i := 312) (by decide +kernel)) (by decide +kernel)
theorem q311 : (Jvm.Cond.code ({ cls := "PaddleRows$Tank", name := "step", desc := "()I" } : Jvm.MethodName) prog_6_method_12_code (3 : Nat) (Option.some Jvm.ClassFile.FieldType.int)) ∈ WS := inWS (List.mem_of_getElem? (i := 313) (by decide +kernel)) (by decide +kernel)
theorem q312 : (Jvm.Cond.methodLink "PaddleRows$Tank" (119 : Nat) ({ cls := "PaddleRows$Tank", name := "movePaddles", desc := "()I" } : Jvm.MethodName)) ∈ WS := inWS (List.mem_of_getElem? (i := 314) (by decide +kernel)) (by decide +kernel)
theorem q313 : (Jvm.Cond.instanceMethod ({ cls := "PaddleRows$Tank", name := "movePaddles", desc := "()I" } : Jvm.MethodName)) ∈ WS := inWS (List.mem_of_getElem? (i := 315) (by decide +kernel)) (by decide +kernel)
theorem q314 : (Jvm.Cond.selects "PaddleRows$Tank" ({ cls := "PaddleRows$Tank", name := "movePaddles", desc := "()I" } : Jvm.MethodName) ({ cls := "PaddleRows$Tank", name := "movePaddles", desc := "()I" } : Jvm.MethodName)) ∈ WS := inWS (List.mem_of_getElem? (i := 316) (by decide +kernel)) (by decide +kernel)
theorem q315 : (Jvm.Cond.code ({ cls := "PaddleRows$Tank", name := "movePaddles", desc := "()I" } : Jvm.MethodName) prog_6_method_13_code (4 : Nat) (Option.some Jvm.ClassFile.FieldType.int)) ∈ WS := inWS (List.mem_of_getElem? (i := 317) (by decide +kernel)) (by decide +kernel)
theorem q316 : (Jvm.Cond.methodLink "PaddleRows$Tank" (132 : Nat) ({ cls := "java/lang/Math", name := "abs", desc := "(I)I" } : Jvm.MethodName)) ∈ WS := inWS (List.mem_of_getElem? (i := 318) (by decide +kernel)) (by decide +kernel)
theorem q317 : (Jvm.Cond.static ({ cls := "java/lang/Math", name := "abs", desc := "(I)I" } : Jvm.MethodName)) ∈ WS := inWS (List.mem_of_getElem? (i := 319) (by decide +kernel)) (by decide +kernel)
theorem q318 : (Jvm.Cond.code ({ cls := "java/lang/Math", name := "abs", desc := "(I)I" } : Jvm.MethodName) prog_11_method_59_code (1 : Nat) (Option.some Jvm.ClassFile.FieldType.int)) ∈ WS := inWS (List.mem_of_getElem? (i := 320) (by decide +kernel)) (by decide +kernel)
theorem q319 : (Jvm.Cond.methodLink "PaddleRows$Tank" (137 : Nat) ({ cls := "PaddleRows$Paddle", name := "pushAt", desc := "(I)I" } : Jvm.MethodName)) ∈ WS := inWS (List.mem_of_getElem? (i := 321) (by decide +kernel)) (by decide +kernel)
theorem q320 : (Jvm.Cond.instanceMethod ({ cls := "PaddleRows$Paddle", name := "pushAt", desc := "(I)I" } : Jvm.MethodName)) ∈ WS := inWS (List.mem_of_getElem? (i := 322) (by decide +kernel)) (by decide +kernel)
theorem q321 : (Jvm.Cond.selects "PaddleRows$Paddle" ({ cls := "PaddleRows$Paddle", name := "pushAt", desc := "(I)I" } : Jvm.MethodName) ({ cls := "PaddleRows$Paddle", name := "pushAt", desc := "(I)I" } : Jvm.MethodName)) ∈ WS := inWS (List.mem_of_getElem? (i := 323) (by decide +kernel)) (by decide +kernel)
theorem q322 : (Jvm.Cond.code ({ cls := "PaddleRows$Paddle", name := "pushAt", desc := "(I)I" } : Jvm.MethodName) prog_5_method_4_code (3 : Nat) (Option.some Jvm.ClassFile.FieldType.int)) ∈ WS := inWS (List.mem_of_getElem? (i := 324) (by decide +kernel)) (by decide +kernel)
theorem q323 : (Jvm.Cond.methodLink "PaddleRows$Paddle" (35 : Nat) ({ cls := "java/lang/Math", name := "min", desc := "(II)I" } : Jvm.MethodName)) ∈ WS := inWS (List.mem_of_getElem? (i := 325) (by decide +kernel)) (by decide +kernel)
theorem q324 : (Jvm.Cond.static ({ cls := "java/lang/Math", name := "min", desc := "(II)I" } : Jvm.MethodName)) ∈ WS := inWS (List.mem_of_getElem? (i := 326) (by decide +kernel)) (by decide +kernel)
theorem q325 : (Jvm.Cond.code ({ cls := "java/lang/Math", name := "min", desc := "(II)I" } : Jvm.MethodName) prog_11_method_69_code (2 : Nat) (Option.some Jvm.ClassFile.FieldType.int)) ∈ WS := inWS (List.mem_of_getElem? (i := 327) (by decide +kernel)) (by decide +kernel)
theorem q326 : (Jvm.Cond.methodLink "PaddleRows$Tank" (122 : Nat) ({ cls := "PaddleRows$Tank", name := "moveWater", desc := "()V" } : Jvm.MethodName)) ∈ WS := inWS (List.mem_of_getElem? (i := 328) (by decide +kernel)) (by decide +kernel)
theorem q327 : (Jvm.Cond.instanceMethod ({ cls := "PaddleRows$Tank", name := "moveWater", desc := "()V" } : Jvm.MethodName)) ∈ WS := inWS (List.mem_of_getElem? (i := 329) (by decide +kernel)) (by decide +kernel)
theorem q328 : (Jvm.Cond.selects "PaddleRows$Tank" ({ cls := "PaddleRows$Tank", name := "moveWater", desc := "()V" } : Jvm.MethodName) ({ cls := "PaddleRows$Tank", name := "moveWater", desc := "()V" } : Jvm.MethodName)) ∈ WS := inWS (List.mem_of_getElem? (i := 330) (by decide +kernel)) (by decide +kernel)
theorem q329 : (Jvm.Cond.code ({ cls := "PaddleRows$Tank", name := "moveWater", desc := "()V" } : Jvm.MethodName) prog_6_method_14_code (6 : Nat) (Option.none : Option Jvm.ClassFile.FieldType)) ∈ WS := inWS (List.mem_of_getElem? (i := 331) (by decide +kernel)) (by decide +kernel)
theorem q331 : (Jvm.Cond.static ({ cls := "PaddleRows", name := "withinBounds", desc := "(I)I" } : Jvm.MethodName)) ∈ WS := inWS (List.mem_of_getElem? (i := 333) (by decide +kernel)) (by decide +kernel)
theorem q332 : (Jvm.Cond.code ({ cls := "PaddleRows", name := "withinBounds", desc := "(I)I" } : Jvm.MethodName) prog_1_method_31_code (1 : Nat) (Option.some Jvm.ClassFile.FieldType.int)) ∈ WS := inWS (List.mem_of_getElem? (i := 334) (by decide +kernel)) (by decide +kernel)
theorem q333 : (Jvm.Cond.methodLink "PaddleRows" (251 : Nat) ({ cls := "java/lang/Math", name := "min", desc := "(II)I" } : Jvm.MethodName)) ∈ WS := inWS (List.mem_of_getElem? (i := 335) (by decide +kernel)) (by decide +kernel)
theorem q334 : (Jvm.Cond.methodLink "PaddleRows" (207 : Nat) ({ cls := "java/lang/Math", name := "max", desc := "(II)I" } : Jvm.MethodName)) ∈ WS := inWS (List.mem_of_getElem? (i := 336) (by decide +kernel)) (by decide +kernel)
theorem q335 : (Jvm.Cond.static ({ cls := "java/lang/Math", name := "max", desc := "(II)I" } : Jvm.MethodName)) ∈ WS := inWS (List.mem_of_getElem? (i := 337) (by decide +kernel)) (by decide +kernel)
theorem q336 : (Jvm.Cond.code ({ cls := "java/lang/Math", name := "max", desc := "(II)I" } : Jvm.MethodName) prog_11_method_65_code (2 : Nat) (Option.some Jvm.ClassFile.FieldType.int)) ∈ WS := inWS (List.mem_of_getElem? (i := 338) (by decide +kernel)) (by decide +kernel)
theorem q337 : (Jvm.Cond.methodLink "PaddleRows$Tank" (125 : Nat) ({ cls := "PaddleRows$Tank", name := "calmBeach", desc := "()V" } : Jvm.MethodName)) ∈ WS := inWS (List.mem_of_getElem? (i := 339) (by decide +kernel)) (by decide +kernel)
theorem q338 : (Jvm.Cond.instanceMethod ({ cls := "PaddleRows$Tank", name := "calmBeach", desc := "()V" } : Jvm.MethodName)) ∈ WS := inWS (List.mem_of_getElem? (i := 340) (by decide +kernel)) (by decide +kernel)
theorem q339 : (Jvm.Cond.selects "PaddleRows$Tank" ({ cls := "PaddleRows$Tank", name := "calmBeach", desc := "()V" } : Jvm.MethodName) ({ cls := "PaddleRows$Tank", name := "calmBeach", desc := "()V" } : Jvm.MethodName)) ∈ WS := inWS (List.mem_of_getElem? (i := 341) (by decide +kernel)) (by decide +kernel)
theorem q340 : (Jvm.Cond.code ({ cls := "PaddleRows$Tank", name := "calmBeach", desc := "()V" } : Jvm.MethodName) prog_6_method_15_code (3 : Nat) (Option.none : Option Jvm.ClassFile.FieldType)) ∈ WS := inWS (List.mem_of_getElem? (i := 342) (by decide +kernel)) (by decide +kernel)
theorem q341 : (Jvm.Cond.methodLink "PaddleRows$Tank" (129 : Nat) ({ cls := "PaddleRows$Gauge", name := "note", desc := "(I)V" } : Jvm.MethodName)) ∈ WS := inWS (List.mem_of_getElem? (i := 343) (by decide +kernel)) (by decide +kernel)
theorem q342 : (Jvm.Cond.instanceMethod ({ cls := "PaddleRows$Gauge", name := "note", desc := "(I)V" } : Jvm.MethodName)) ∈ WS := inWS (List.mem_of_getElem? (i := 344) (by decide +kernel)) (by decide +kernel)
theorem q343 : (Jvm.Cond.selects "PaddleRows$Gauge" ({ cls := "PaddleRows$Gauge", name := "note", desc := "(I)V" } : Jvm.MethodName) ({ cls := "PaddleRows$Gauge", name := "note", desc := "(I)V" } : Jvm.MethodName)) ∈ WS := inWS (List.mem_of_getElem? (i := 345) (by decide +kernel)) (by decide +kernel)
theorem q344 : (Jvm.Cond.code ({ cls := "PaddleRows$Gauge", name := "note", desc := "(I)V" } : Jvm.MethodName) prog_2_method_4_code (2 : Nat) (Option.none : Option Jvm.ClassFile.FieldType)) ∈ WS := inWS (List.mem_of_getElem? (i := 346) (by decide +kernel)) (by decide +kernel)
theorem q345 : (Jvm.Cond.methodLink "PaddleRows$Gauge" (31 : Nat) ({ cls := "java/lang/Math", name := "min", desc := "(II)I" } : Jvm.MethodName)) ∈ WS := inWS (List.mem_of_getElem? (i := 347) (by decide +kernel)) (by decide +kernel)
theorem q346 : (Jvm.Cond.methodLink "PaddleRowsLaw" (70 : Nat) ({ cls := "PaddleRowsLaw", name := "cell", desc := "([II)I" } : Jvm.MethodName)) ∈ WS := inWS (List.mem_of_getElem? (i := 348) (by decide +kernel)) (by decide +kernel)
theorem q347 : (Jvm.Cond.static ({ cls := "PaddleRowsLaw", name := "cell", desc := "([II)I" } : Jvm.MethodName)) ∈ WS := inWS (List.mem_of_getElem? (i := 349) (by decide +kernel)) (by decide +kernel)
theorem q348 : (Jvm.Cond.code ({ cls := "PaddleRowsLaw", name := "cell", desc := "([II)I" } : Jvm.MethodName) method_2_code (2 : Nat) (Option.some Jvm.ClassFile.FieldType.int)) ∈ WS := inWS (List.mem_of_getElem? (i := 350) (by decide +kernel)) (by decide +kernel)
theorem q349 : (Jvm.Cond.constant "PaddleRowsLaw" (7 : Nat) (1033600849 : Int32)) ∈ WS := inWS (List.mem_of_getElem? (i := 351) (by decide +kernel)) (by decide +kernel)
theorem q350 : (Jvm.Cond.constant "PaddleRowsLaw" (8 : Nat) (650700451 : Int32)) ∈ WS := inWS (List.mem_of_getElem? (i := 352) (by decide +kernel)) (by decide +kernel)
theorem q351 : (Jvm.Cond.methodLink "PaddleRowsLaw" (47 : Nat) ({ cls := "PaddleRowsLaw", name := "low", desc := "(II)I" } : Jvm.MethodName)) ∈ WS := inWS (List.mem_of_getElem? (i := 353) (by decide +kernel)) (by decide +kernel)
theorem q352 : (Jvm.Cond.static ({ cls := "PaddleRowsLaw", name := "low", desc := "(II)I" } : Jvm.MethodName)) ∈ WS := inWS (List.mem_of_getElem? (i := 354) (by decide +kernel)) (by decide +kernel)
theorem q353 : (Jvm.Cond.code ({ cls := "PaddleRowsLaw", name := "low", desc := "(II)I" } : Jvm.MethodName) method_3_code (2 : Nat) (Option.some Jvm.ClassFile.FieldType.int)) ∈ WS := inWS (List.mem_of_getElem? (i := 355) (by decide +kernel)) (by decide +kernel)
theorem q354 : (Jvm.Cond.constant "PaddleRowsLaw" (9 : Nat) (2147483647 : Int32)) ∈ WS := inWS (List.mem_of_getElem? (i := 356) (by decide +kernel)) (by decide +kernel)
theorem q355 : (Jvm.Cond.methodLink "PaddleRowsLaw" (54 : Nat) ({ cls := "PaddleRowsLaw", name := "step", desc := "([I[I[I[I[I)I" } : Jvm.MethodName)) ∈ WS := inWS (List.mem_of_getElem? (i := 357) (by decide +kernel)) (by decide +kernel)
theorem q356 : (Jvm.Cond.static ({ cls := "PaddleRowsLaw", name := "step", desc := "([I[I[I[I[I)I" } : Jvm.MethodName)) ∈ WS := inWS (List.mem_of_getElem? (i := 358) (by decide +kernel)) (by decide +kernel)
theorem q357 : (Jvm.Cond.code ({ cls := "PaddleRowsLaw", name := "step", desc := "([I[I[I[I[I)I" } : Jvm.MethodName) method_7_code (11 : Nat) (Option.some Jvm.ClassFile.FieldType.int)) ∈ WS := inWS (List.mem_of_getElem? (i := 359) (by decide +kernel)) (by decide +kernel)
theorem q358 : (Jvm.Cond.methodLink "PaddleRowsLaw" (10 : Nat) ({ cls := "PaddleRowsLaw", name := "abs", desc := "(I)I" } : Jvm.MethodName)) ∈ WS := inWS (List.mem_of_getElem? (i := 360) (by decide +kernel)) (by decide +kernel)
theorem q359 : (Jvm.Cond.static ({ cls := "PaddleRowsLaw", name := "abs", desc := "(I)I" } : Jvm.MethodName)) ∈ WS := inWS (List.mem_of_getElem? (i := 361) (by decide +kernel)) (by decide +kernel)
theorem q360 : (Jvm.Cond.code ({ cls := "PaddleRowsLaw", name := "abs", desc := "(I)I" } : Jvm.MethodName) method_5_code (1 : Nat) (Option.some Jvm.ClassFile.FieldType.int)) ∈ WS := inWS (List.mem_of_getElem? (i := 362) (by decide +kernel)) (by decide +kernel)
theorem q361 : (Jvm.Cond.methodLink "PaddleRowsLaw" (16 : Nat) ({ cls := "PaddleRowsLaw", name := "push", desc := "(I[I[I)I" } : Jvm.MethodName)) ∈ WS := inWS (List.mem_of_getElem? (i := 363) (by decide +kernel)) (by decide +kernel)
theorem q362 : (Jvm.Cond.static ({ cls := "PaddleRowsLaw", name := "push", desc := "(I[I[I)I" } : Jvm.MethodName)) ∈ WS := inWS (List.mem_of_getElem? (i := 364) (by decide +kernel)) (by decide +kernel)
theorem q363 : (Jvm.Cond.code ({ cls := "PaddleRowsLaw", name := "push", desc := "(I[I[I)I" } : Jvm.MethodName) method_6_code (6 : Nat) (Option.some Jvm.ClassFile.FieldType.int)) ∈ WS := inWS (List.mem_of_getElem? (i := 365) (by decide +kernel)) (by decide +kernel)
theorem q364 : (Jvm.Cond.methodLink "PaddleRowsLaw" (20 : Nat) ({ cls := "PaddleRowsLaw", name := "bound", desc := "(I)I" } : Jvm.MethodName)) ∈ WS := inWS (List.mem_of_getElem? (i := 366) (by decide +kernel)) (by decide +kernel)
theorem q365 : (Jvm.Cond.static ({ cls := "PaddleRowsLaw", name := "bound", desc := "(I)I" } : Jvm.MethodName)) ∈ WS := inWS (List.mem_of_getElem? (i := 367) (by decide +kernel)) (by decide +kernel)
theorem q366 : (Jvm.Cond.code ({ cls := "PaddleRowsLaw", name := "bound", desc := "(I)I" } : Jvm.MethodName) method_4_code (1 : Nat) (Option.some Jvm.ClassFile.FieldType.int)) ∈ WS := inWS (List.mem_of_getElem? (i := 368) (by decide +kernel)) (by decide +kernel)
theorem q367 : (Jvm.Cond.methodLink "PaddleRowsLaw" (95 : Nat) ({ cls := "PaddleRowsLaw", name := "same", desc := "(LPaddleRows;I[I[I[I[I[I[I[I)Z" } : Jvm.MethodName)) ∈ WS := inWS (List.mem_of_getElem? (i := 369) (by decide +kernel)) (by decide +kernel)
theorem q368 : (Jvm.Cond.static ({ cls := "PaddleRowsLaw", name := "same", desc := "(LPaddleRows;I[I[I[I[I[I[I[I)Z" } : Jvm.MethodName)) ∈ WS := inWS (List.mem_of_getElem? (i := 370) (by decide +kernel)) (by decide +kernel)
set_option maxRecDepth 100000 in
set_option maxHeartbeats 4000000 in
theorem q369 : (Jvm.Cond.code ({ cls := "PaddleRowsLaw", name := "same", desc := "(LPaddleRows;I[I[I[I[I[I[I[I)Z" } : Jvm.MethodName) method_8_code (31 : Nat) (Option.some Jvm.ClassFile.FieldType.boolean)) ∈ WS := inWS (List.mem_of_getElem? (i := 371) rfl) rfl
theorem q370 : (Jvm.Cond.methodLink "PaddleRowsLaw" (23 : Nat) ({ cls := "PaddleRows", name := "cell", desc := "(II)I" } : Jvm.MethodName)) ∈ WS := inWS (List.mem_of_getElem? (i := 372) (by decide +kernel)) (by decide +kernel)
theorem q371 : (Jvm.Cond.instanceMethod ({ cls := "PaddleRows", name := "cell", desc := "(II)I" } : Jvm.MethodName)) ∈ WS := inWS (List.mem_of_getElem? (i := 373) (by decide +kernel)) (by decide +kernel)
theorem q372 : (Jvm.Cond.selects "PaddleRows" ({ cls := "PaddleRows", name := "cell", desc := "(II)I" } : Jvm.MethodName) ({ cls := "PaddleRows", name := "cell", desc := "(II)I" } : Jvm.MethodName)) ∈ WS := inWS (List.mem_of_getElem? (i := 374) (by decide +kernel)) (by decide +kernel)
theorem q373 : (Jvm.Cond.code ({ cls := "PaddleRows", name := "cell", desc := "(II)I" } : Jvm.MethodName) prog_1_method_10_code (3 : Nat) (Option.some Jvm.ClassFile.FieldType.int)) ∈ WS := inWS (List.mem_of_getElem? (i := 375) (by decide +kernel)) (by decide +kernel)
theorem q374 : (Jvm.Cond.methodLink "PaddleRows" (78 : Nat) ({ cls := "PaddleRows", name := "isOutside", desc := "(II)Z" } : Jvm.MethodName)) ∈ WS := inWS (List.mem_of_getElem? (i := 376) (by decide +kernel)) (by decide +kernel)
theorem q375 : (Jvm.Cond.methodLink "PaddleRows" (89 : Nat) ({ cls := "PaddleRows$Tank", name := "isCrest", desc := "(I)Z" } : Jvm.MethodName)) ∈ WS := inWS (List.mem_of_getElem? (i := 377) (by decide +kernel)) (by decide +kernel)
theorem q376 : (Jvm.Cond.instanceMethod ({ cls := "PaddleRows$Tank", name := "isCrest", desc := "(I)Z" } : Jvm.MethodName)) ∈ WS := inWS (List.mem_of_getElem? (i := 378) (by decide +kernel)) (by decide +kernel)
theorem q377 : (Jvm.Cond.selects "PaddleRows$Tank" ({ cls := "PaddleRows$Tank", name := "isCrest", desc := "(I)Z" } : Jvm.MethodName) ({ cls := "PaddleRows$Tank", name := "isCrest", desc := "(I)Z" } : Jvm.MethodName)) ∈ WS := inWS (List.mem_of_getElem? (i := 379) (by decide +kernel)) (by decide +kernel)
theorem q378 : (Jvm.Cond.code ({ cls := "PaddleRows$Tank", name := "isCrest", desc := "(I)Z" } : Jvm.MethodName) prog_6_method_16_code (2 : Nat) (Option.some Jvm.ClassFile.FieldType.boolean)) ∈ WS := inWS (List.mem_of_getElem? (i := 380) (by decide +kernel)) (by decide +kernel)
theorem q379 : (Jvm.Cond.methodLink "PaddleRows" (93 : Nat) ({ cls := "PaddleRows", name := "asNumber", desc := "(Z)I" } : Jvm.MethodName)) ∈ WS := inWS (List.mem_of_getElem? (i := 381) (by decide +kernel)) (by decide +kernel)
theorem q380 : (Jvm.Cond.methodLink "PaddleRows" (97 : Nat) ({ cls := "PaddleRows$Tank", name := "isTrough", desc := "(I)Z" } : Jvm.MethodName)) ∈ WS := inWS (List.mem_of_getElem? (i := 382) (by decide +kernel)) (by decide +kernel)
theorem q381 : (Jvm.Cond.instanceMethod ({ cls := "PaddleRows$Tank", name := "isTrough", desc := "(I)Z" } : Jvm.MethodName)) ∈ WS := inWS (List.mem_of_getElem? (i := 383) (by decide +kernel)) (by decide +kernel)
theorem q382 : (Jvm.Cond.selects "PaddleRows$Tank" ({ cls := "PaddleRows$Tank", name := "isTrough", desc := "(I)Z" } : Jvm.MethodName) ({ cls := "PaddleRows$Tank", name := "isTrough", desc := "(I)Z" } : Jvm.MethodName)) ∈ WS := inWS (List.mem_of_getElem? (i := 384) (by decide +kernel)) (by decide +kernel)
theorem q383 : (Jvm.Cond.code ({ cls := "PaddleRows$Tank", name := "isTrough", desc := "(I)Z" } : Jvm.MethodName) prog_6_method_17_code (2 : Nat) (Option.some Jvm.ClassFile.FieldType.boolean)) ∈ WS := inWS (List.mem_of_getElem? (i := 385) (by decide +kernel)) (by decide +kernel)
theorem q384 : (Jvm.Cond.methodLink "PaddleRowsLaw" (29 : Nat) ({ cls := "PaddleRows", name := "ofPaddle", desc := "(II)I" } : Jvm.MethodName)) ∈ WS := inWS (List.mem_of_getElem? (i := 386) (by decide +kernel)) (by decide +kernel)
theorem q385 : (Jvm.Cond.instanceMethod ({ cls := "PaddleRows", name := "ofPaddle", desc := "(II)I" } : Jvm.MethodName)) ∈ WS := inWS (List.mem_of_getElem? (i := 387) (by decide +kernel)) (by decide +kernel)
theorem q386 : (Jvm.Cond.selects "PaddleRows" ({ cls := "PaddleRows", name := "ofPaddle", desc := "(II)I" } : Jvm.MethodName) ({ cls := "PaddleRows", name := "ofPaddle", desc := "(II)I" } : Jvm.MethodName)) ∈ WS := inWS (List.mem_of_getElem? (i := 388) (by decide +kernel)) (by decide +kernel)
theorem q387 : (Jvm.Cond.code ({ cls := "PaddleRows", name := "ofPaddle", desc := "(II)I" } : Jvm.MethodName) prog_1_method_11_code (4 : Nat) (Option.some Jvm.ClassFile.FieldType.int)) ∈ WS := inWS (List.mem_of_getElem? (i := 389) (by decide +kernel)) (by decide +kernel)
theorem q388 : (Jvm.Cond.methodLink "PaddleRows" (132 : Nat) ({ cls := "PaddleRows$Paddle", name := "pushAt", desc := "(I)I" } : Jvm.MethodName)) ∈ WS := inWS (List.mem_of_getElem? (i := 390) (by decide +kernel)) (by decide +kernel)
theorem q389 : (Jvm.Cond.constant "PaddleRowsLaw" (32 : Nat) (120000 : Int32)) ∈ WS := inWS (List.mem_of_getElem? (i := 391) (by decide +kernel)) (by decide +kernel)
theorem q390 : (Jvm.Cond.methodLink "PaddleRowsLaw" (33 : Nat) ({ cls := "PaddleRows", name := "noted", desc := "(II)I" } : Jvm.MethodName)) ∈ WS := inWS (List.mem_of_getElem? (i := 392) (by decide +kernel)) (by decide +kernel)
theorem q391 : (Jvm.Cond.instanceMethod ({ cls := "PaddleRows", name := "noted", desc := "(II)I" } : Jvm.MethodName)) ∈ WS := inWS (List.mem_of_getElem? (i := 393) (by decide +kernel)) (by decide +kernel)
theorem q392 : (Jvm.Cond.selects "PaddleRows" ({ cls := "PaddleRows", name := "noted", desc := "(II)I" } : Jvm.MethodName) ({ cls := "PaddleRows", name := "noted", desc := "(II)I" } : Jvm.MethodName)) ∈ WS := inWS (List.mem_of_getElem? (i := 394) (by decide +kernel)) (by decide +kernel)
theorem q393 : (Jvm.Cond.code ({ cls := "PaddleRows", name := "noted", desc := "(II)I" } : Jvm.MethodName) prog_1_method_13_code (4 : Nat) (Option.some Jvm.ClassFile.FieldType.int)) ∈ WS := inWS (List.mem_of_getElem? (i := 395) (by decide +kernel)) (by decide +kernel)
theorem q394 : (Jvm.Cond.methodLink "PaddleRows" (158 : Nat) ({ cls := "PaddleRows$Gauge", name := "levelAgo", desc := "(I)I" } : Jvm.MethodName)) ∈ WS := inWS (List.mem_of_getElem? (i := 396) (by decide +kernel)) (by decide +kernel)
theorem q395 : (Jvm.Cond.instanceMethod ({ cls := "PaddleRows$Gauge", name := "levelAgo", desc := "(I)I" } : Jvm.MethodName)) ∈ WS := inWS (List.mem_of_getElem? (i := 397) (by decide +kernel)) (by decide +kernel)
theorem q396 : (Jvm.Cond.selects "PaddleRows$Gauge" ({ cls := "PaddleRows$Gauge", name := "levelAgo", desc := "(I)I" } : Jvm.MethodName) ({ cls := "PaddleRows$Gauge", name := "levelAgo", desc := "(I)I" } : Jvm.MethodName)) ∈ WS := inWS (List.mem_of_getElem? (i := 398) (by decide +kernel)) (by decide +kernel)
theorem q397 : (Jvm.Cond.code ({ cls := "PaddleRows$Gauge", name := "levelAgo", desc := "(I)I" } : Jvm.MethodName) prog_2_method_5_code (2 : Nat) (Option.some Jvm.ClassFile.FieldType.int)) ∈ WS := inWS (List.mem_of_getElem? (i := 399) (by decide +kernel)) (by decide +kernel)
theorem q398 : (Jvm.Cond.methodLink "PaddleRows$Gauge" (37 : Nat) ({ cls := "java/lang/Math", name := "floorMod", desc := "(II)I" } : Jvm.MethodName)) ∈ WS := inWS (List.mem_of_getElem? (i := 400) (by decide +kernel)) (by decide +kernel)
theorem q399 : (Jvm.Cond.static ({ cls := "java/lang/Math", name := "floorMod", desc := "(II)I" } : Jvm.MethodName)) ∈ WS := inWS (List.mem_of_getElem? (i := 401) (by decide +kernel)) (by decide +kernel)
theorem q400 : (Jvm.Cond.code ({ cls := "java/lang/Math", name := "floorMod", desc := "(II)I" } : Jvm.MethodName) prog_11_method_50_code (3 : Nat) (Option.some Jvm.ClassFile.FieldType.int)) ∈ WS := inWS (List.mem_of_getElem? (i := 402) (by decide +kernel)) (by decide +kernel)
theorem q401 : (Jvm.Cond.methodLink "PaddleRowsLaw" (36 : Nat) ({ cls := "PaddleRows", name := "ofGauge", desc := "(II)I" } : Jvm.MethodName)) ∈ WS := inWS (List.mem_of_getElem? (i := 403) (by decide +kernel)) (by decide +kernel)
theorem q402 : (Jvm.Cond.instanceMethod ({ cls := "PaddleRows", name := "ofGauge", desc := "(II)I" } : Jvm.MethodName)) ∈ WS := inWS (List.mem_of_getElem? (i := 404) (by decide +kernel)) (by decide +kernel)
theorem q403 : (Jvm.Cond.selects "PaddleRows" ({ cls := "PaddleRows", name := "ofGauge", desc := "(II)I" } : Jvm.MethodName) ({ cls := "PaddleRows", name := "ofGauge", desc := "(II)I" } : Jvm.MethodName)) ∈ WS := inWS (List.mem_of_getElem? (i := 405) (by decide +kernel)) (by decide +kernel)
theorem q404 : (Jvm.Cond.code ({ cls := "PaddleRows", name := "ofGauge", desc := "(II)I" } : Jvm.MethodName) prog_1_method_12_code (4 : Nat) (Option.some Jvm.ClassFile.FieldType.int)) ∈ WS := inWS (List.mem_of_getElem? (i := 406) (by decide +kernel)) (by decide +kernel)
theorem q405 : (Jvm.Cond.methodLink "PaddleRows" (148 : Nat) ({ cls := "PaddleRows$Gauge", name := "greatest", desc := "()I" } : Jvm.MethodName)) ∈ WS := inWS (List.mem_of_getElem? (i := 407) (by decide +kernel)) (by decide +kernel)
theorem q406 : (Jvm.Cond.instanceMethod ({ cls := "PaddleRows$Gauge", name := "greatest", desc := "()I" } : Jvm.MethodName)) ∈ WS := inWS (List.mem_of_getElem? (i := 408) (by decide +kernel)) (by decide +kernel)
theorem q407 : (Jvm.Cond.selects "PaddleRows$Gauge" ({ cls := "PaddleRows$Gauge", name := "greatest", desc := "()I" } : Jvm.MethodName) ({ cls := "PaddleRows$Gauge", name := "greatest", desc := "()I" } : Jvm.MethodName)) ∈ WS := inWS (List.mem_of_getElem? (i := 409) (by decide +kernel)) (by decide +kernel)
theorem q408 : (Jvm.Cond.code ({ cls := "PaddleRows$Gauge", name := "greatest", desc := "()I" } : Jvm.MethodName) prog_2_method_6_code (3 : Nat) (Option.some Jvm.ClassFile.FieldType.int)) ∈ WS := inWS (List.mem_of_getElem? (i := 410) (by decide +kernel)) (by decide +kernel)
theorem q409 : (Jvm.Cond.methodLink "PaddleRows$Gauge" (40 : Nat) ({ cls := "PaddleRows$Gauge", name := "levelAgo", desc := "(I)I" } : Jvm.MethodName)) ∈ WS := inWS (List.mem_of_getElem? (i := 411) (by decide +kernel)) (by decide +kernel)
theorem q410 : (Jvm.Cond.methodLink "PaddleRows$Gauge" (44 : Nat) ({ cls := "java/lang/Math", name := "max", desc := "(II)I" } : Jvm.MethodName)) ∈ WS := inWS (List.mem_of_getElem? (i := 412) (by decide +kernel)) (by decide +kernel)
theorem q411 : (Jvm.Cond.methodLink "PaddleRows" (152 : Nat) ({ cls := "PaddleRows$Gauge", name := "least", desc := "()I" } : Jvm.MethodName)) ∈ WS := inWS (List.mem_of_getElem? (i := 413) (by decide +kernel)) (by decide +kernel)
theorem q412 : (Jvm.Cond.instanceMethod ({ cls := "PaddleRows$Gauge", name := "least", desc := "()I" } : Jvm.MethodName)) ∈ WS := inWS (List.mem_of_getElem? (i := 414) (by decide +kernel)) (by decide +kernel)
theorem q413 : (Jvm.Cond.selects "PaddleRows$Gauge" ({ cls := "PaddleRows$Gauge", name := "least", desc := "()I" } : Jvm.MethodName) ({ cls := "PaddleRows$Gauge", name := "least", desc := "()I" } : Jvm.MethodName)) ∈ WS := inWS (List.mem_of_getElem? (i := 415) (by decide +kernel)) (by decide +kernel)
theorem q414 : (Jvm.Cond.code ({ cls := "PaddleRows$Gauge", name := "least", desc := "()I" } : Jvm.MethodName) prog_2_method_7_code (3 : Nat) (Option.some Jvm.ClassFile.FieldType.int)) ∈ WS := inWS (List.mem_of_getElem? (i := 416) (by decide +kernel)) (by decide +kernel)
theorem q415 : (Jvm.Cond.methodLink "PaddleRows" (155 : Nat) ({ cls := "PaddleRows$Gauge", name := "rises", desc := "()I" } : Jvm.MethodName)) ∈ WS := inWS (List.mem_of_getElem? (i := 417) (by decide +kernel)) (by decide +kernel)
theorem q416 : (Jvm.Cond.instanceMethod ({ cls := "PaddleRows$Gauge", name := "rises", desc := "()I" } : Jvm.MethodName)) ∈ WS := inWS (List.mem_of_getElem? (i := 418) (by decide +kernel)) (by decide +kernel)
theorem q417 : (Jvm.Cond.selects "PaddleRows$Gauge" ({ cls := "PaddleRows$Gauge", name := "rises", desc := "()I" } : Jvm.MethodName) ({ cls := "PaddleRows$Gauge", name := "rises", desc := "()I" } : Jvm.MethodName)) ∈ WS := inWS (List.mem_of_getElem? (i := 419) (by decide +kernel)) (by decide +kernel)
theorem q418 : (Jvm.Cond.code ({ cls := "PaddleRows$Gauge", name := "rises", desc := "()I" } : Jvm.MethodName) prog_2_method_8_code (3 : Nat) (Option.some Jvm.ClassFile.FieldType.int)) ∈ WS := inWS (List.mem_of_getElem? (i := 420) (by decide +kernel)) (by decide +kernel)
theorem q419 : (Jvm.Cond.methodLink "PaddleRowsLaw" (39 : Nat) ({ cls := "PaddleRows", name := "places", desc := "(I)J" } : Jvm.MethodName)) ∈ WS := inWS (List.mem_of_getElem? (i := 421) (by decide +kernel)) (by decide +kernel)
theorem q420 : (Jvm.Cond.instanceMethod ({ cls := "PaddleRows", name := "places", desc := "(I)J" } : Jvm.MethodName)) ∈ WS := inWS (List.mem_of_getElem? (i := 422) (by decide +kernel)) (by decide +kernel)
theorem q421 : (Jvm.Cond.selects "PaddleRows" ({ cls := "PaddleRows", name := "places", desc := "(I)J" } : Jvm.MethodName) ({ cls := "PaddleRows", name := "places", desc := "(I)J" } : Jvm.MethodName)) ∈ WS := inWS (List.mem_of_getElem? (i := 423) (by decide +kernel)) (by decide +kernel)
theorem q422 : (Jvm.Cond.code ({ cls := "PaddleRows", name := "places", desc := "(I)J" } : Jvm.MethodName) prog_1_method_14_code (2 : Nat) (Option.some Jvm.ClassFile.FieldType.long)) ∈ WS := inWS (List.mem_of_getElem? (i := 424) (by decide +kernel)) (by decide +kernel)
theorem q423 : (Jvm.Cond.constantLong "PaddleRows" (161 : Nat) (-2 : Int64)) ∈ WS := inWS (List.mem_of_getElem? (i := 425) (by decide +kernel)) (by decide +kernel)
theorem q424 : (Jvm.Cond.methodLink "PaddleRows" (163 : Nat) ({ cls := "PaddleRows$Tank", name := "cellsThatAre", desc := "(I)J" } : Jvm.MethodName)) ∈ WS := inWS (List.mem_of_getElem? (i := 426) (by decide +kernel)) (by decide +kernel)
theorem q425 : (Jvm.Cond.instanceMethod ({ cls := "PaddleRows$Tank", name := "cellsThatAre", desc := "(I)J" } : Jvm.MethodName)) ∈ WS := inWS (List.mem_of_getElem? (i := 427) (by decide +kernel)) (by decide +kernel)
theorem q426 : (Jvm.Cond.selects "PaddleRows$Tank" ({ cls := "PaddleRows$Tank", name := "cellsThatAre", desc := "(I)J" } : Jvm.MethodName) ({ cls := "PaddleRows$Tank", name := "cellsThatAre", desc := "(I)J" } : Jvm.MethodName)) ∈ WS := inWS (List.mem_of_getElem? (i := 428) (by decide +kernel)) (by decide +kernel)
theorem q427 : (Jvm.Cond.code ({ cls := "PaddleRows$Tank", name := "cellsThatAre", desc := "(I)J" } : Jvm.MethodName) prog_6_method_19_code (5 : Nat) (Option.some Jvm.ClassFile.FieldType.long)) ∈ WS := inWS (List.mem_of_getElem? (i := 429) (by decide +kernel)) (by decide +kernel)
theorem q428 : (Jvm.Cond.methodLink "PaddleRows$Tank" (143 : Nat) ({ cls := "PaddleRows$Tank", name := "isPlace", desc := "(II)Z" } : Jvm.MethodName)) ∈ WS := inWS (List.mem_of_getElem? (i := 430) (by decide +kernel)) (by decide +kernel)
theorem q429 : (Jvm.Cond.instanceMethod ({ cls := "PaddleRows$Tank", name := "isPlace", desc := "(II)Z" } : Jvm.MethodName)) ∈ WS := inWS (List.mem_of_getElem? (i := 431) (by decide +kernel)) (by decide +kernel)
theorem q430 : (Jvm.Cond.selects "PaddleRows$Tank" ({ cls := "PaddleRows$Tank", name := "isPlace", desc := "(II)Z" } : Jvm.MethodName) ({ cls := "PaddleRows$Tank", name := "isPlace", desc := "(II)Z" } : Jvm.MethodName)) ∈ WS := inWS (List.mem_of_getElem? (i := 432) (by decide +kernel)) (by decide +kernel)
theorem q431 : (Jvm.Cond.code ({ cls := "PaddleRows$Tank", name := "isPlace", desc := "(II)Z" } : Jvm.MethodName) prog_6_method_20_code (4 : Nat) (Option.some Jvm.ClassFile.FieldType.boolean)) ∈ WS := inWS (List.mem_of_getElem? (i := 433) (by decide +kernel)) (by decide +kernel)
theorem q432 : (Jvm.Cond.methodLink "PaddleRows$Tank" (146 : Nat) ({ cls := "PaddleRows$Tank", name := "isCrest", desc := "(I)Z" } : Jvm.MethodName)) ∈ WS := inWS (List.mem_of_getElem? (i := 434) (by decide +kernel)) (by decide +kernel)
theorem q433 : (Jvm.Cond.methodLink "PaddleRows$Tank" (150 : Nat) ({ cls := "PaddleRows$Tank", name := "isTrough", desc := "(I)Z" } : Jvm.MethodName)) ∈ WS := inWS (List.mem_of_getElem? (i := 435) (by decide +kernel)) (by decide +kernel)
theorem q434 : (Jvm.Cond.methodLink "PaddleRowsLaw" (43 : Nat) ({ cls := "PaddleRows", name := "count", desc := "(I)I" } : Jvm.MethodName)) ∈ WS := inWS (List.mem_of_getElem? (i := 436) (by decide +kernel)) (by decide +kernel)
theorem q435 : (Jvm.Cond.instanceMethod ({ cls := "PaddleRows", name := "count", desc := "(I)I" } : Jvm.MethodName)) ∈ WS := inWS (List.mem_of_getElem? (i := 437) (by decide +kernel)) (by decide +kernel)
theorem q436 : (Jvm.Cond.selects "PaddleRows" ({ cls := "PaddleRows", name := "count", desc := "(I)I" } : Jvm.MethodName) ({ cls := "PaddleRows", name := "count", desc := "(I)I" } : Jvm.MethodName)) ∈ WS := inWS (List.mem_of_getElem? (i := 438) (by decide +kernel)) (by decide +kernel)
theorem q437 : (Jvm.Cond.code ({ cls := "PaddleRows", name := "count", desc := "(I)I" } : Jvm.MethodName) prog_1_method_15_code (2 : Nat) (Option.some Jvm.ClassFile.FieldType.int)) ∈ WS := inWS (List.mem_of_getElem? (i := 439) (by decide +kernel)) (by decide +kernel)
theorem q438 : (Jvm.Cond.methodLink "PaddleRows" (167 : Nat) ({ cls := "java/lang/Long", name := "bitCount", desc := "(J)I" } : Jvm.MethodName)) ∈ WS := inWS (List.mem_of_getElem? (i := 440) (by decide +kernel)) (by decide +kernel)
theorem q439 : (Jvm.Cond.static ({ cls := "java/lang/Long", name := "bitCount", desc := "(J)I" } : Jvm.MethodName)) ∈ WS := inWS (List.mem_of_getElem? (i := 441) (by decide +kernel)) (by decide +kernel)
theorem q440 : (Jvm.Cond.code ({ cls := "java/lang/Long", name := "bitCount", desc := "(J)I" } : Jvm.MethodName) prog_10_method_50_code (2 : Nat) (Option.some Jvm.ClassFile.FieldType.int)) ∈ WS := inWS (List.mem_of_getElem? (i := 442) (by decide +kernel)) (by decide +kernel)
theorem q441 : (Jvm.Cond.constantLong "java/lang/Long" (314 : Nat) (6148914691236517205 : Int64)) ∈ WS := inWS (List.mem_of_getElem? (i := 443) (by decide +kernel)) (by decide +kernel)
theorem q442 : (Jvm.Cond.constantLong "java/lang/Long" (316 : Nat) (3689348814741910323 : Int64)) ∈ WS := inWS (List.mem_of_getElem? (i := 444) (by decide +kernel)) (by decide +kernel)
theorem q443 : (Jvm.Cond.constantLong "java/lang/Long" (318 : Nat) (1085102592571150095 : Int64)) ∈ WS := inWS (List.mem_of_getElem? (i := 445) (by decide +kernel)) (by decide +kernel)
theorem q444 : (Jvm.Cond.methodLink "PaddleRows" (173 : Nat) ({ cls := "PaddleRows$Tank", name := "sumOfLevels", desc := "()I" } : Jvm.MethodName)) ∈ WS := inWS (List.mem_of_getElem? (i := 446) (by decide +kernel)) (by decide +kernel)
theorem q445 : (Jvm.Cond.instanceMethod ({ cls := "PaddleRows$Tank", name := "sumOfLevels", desc := "()I" } : Jvm.MethodName)) ∈ WS := inWS (List.mem_of_getElem? (i := 447) (by decide +kernel)) (by decide +kernel)
theorem q446 : (Jvm.Cond.selects "PaddleRows$Tank" ({ cls := "PaddleRows$Tank", name := "sumOfLevels", desc := "()I" } : Jvm.MethodName) ({ cls := "PaddleRows$Tank", name := "sumOfLevels", desc := "()I" } : Jvm.MethodName)) ∈ WS := inWS (List.mem_of_getElem? (i := 448) (by decide +kernel)) (by decide +kernel)
theorem q447 : (Jvm.Cond.code ({ cls := "PaddleRows$Tank", name := "sumOfLevels", desc := "()I" } : Jvm.MethodName) prog_6_method_21_code (3 : Nat) (Option.some Jvm.ClassFile.FieldType.int)) ∈ WS := inWS (List.mem_of_getElem? (i := 449) (by decide +kernel)) (by decide +kernel)
theorem q448 : (Jvm.Cond.constant "PaddleRows" (176 : Nat) (1000000 : Int32)) ∈ WS := inWS (List.mem_of_getElem? (i := 450) (by decide +kernel)) (by decide +kernel)
theorem q449 : (Jvm.Cond.methodLink "PaddleRows" (177 : Nat) ({ cls := "PaddleRows$Tank", name := "motion", desc := "()I" } : Jvm.MethodName)) ∈ WS := inWS (List.mem_of_getElem? (i := 451) (by decide +kernel)) (by decide +kernel)
theorem q450 : (Jvm.Cond.instanceMethod ({ cls := "PaddleRows$Tank", name := "motion", desc := "()I" } : Jvm.MethodName)) ∈ WS := inWS (List.mem_of_getElem? (i := 452) (by decide +kernel)) (by decide +kernel)
theorem q451 : (Jvm.Cond.selects "PaddleRows$Tank" ({ cls := "PaddleRows$Tank", name := "motion", desc := "()I" } : Jvm.MethodName) ({ cls := "PaddleRows$Tank", name := "motion", desc := "()I" } : Jvm.MethodName)) ∈ WS := inWS (List.mem_of_getElem? (i := 453) (by decide +kernel)) (by decide +kernel)
theorem q452 : (Jvm.Cond.code ({ cls := "PaddleRows$Tank", name := "motion", desc := "()I" } : Jvm.MethodName) prog_6_method_22_code (3 : Nat) (Option.some Jvm.ClassFile.FieldType.int)) ∈ WS := inWS (List.mem_of_getElem? (i := 454) (by decide +kernel)) (by decide +kernel)
theorem q453 : (Jvm.Cond.methodLink "PaddleRows" (180 : Nat) ({ cls := "PaddleRows$Tank", name := "farthestLevel", desc := "()I" } : Jvm.MethodName)) ∈ WS := inWS (List.mem_of_getElem? (i := 455) (by decide +kernel)) (by decide +kernel)
theorem q454 : (Jvm.Cond.instanceMethod ({ cls := "PaddleRows$Tank", name := "farthestLevel", desc := "()I" } : Jvm.MethodName)) ∈ WS := inWS (List.mem_of_getElem? (i := 456) (by decide +kernel)) (by decide +kernel)
theorem q455 : (Jvm.Cond.selects "PaddleRows$Tank" ({ cls := "PaddleRows$Tank", name := "farthestLevel", desc := "()I" } : Jvm.MethodName) ({ cls := "PaddleRows$Tank", name := "farthestLevel", desc := "()I" } : Jvm.MethodName)) ∈ WS := inWS (List.mem_of_getElem? (i := 457) (by decide +kernel)) (by decide +kernel)
theorem q456 : (Jvm.Cond.code ({ cls := "PaddleRows$Tank", name := "farthestLevel", desc := "()I" } : Jvm.MethodName) prog_6_method_23_code (3 : Nat) (Option.some Jvm.ClassFile.FieldType.int)) ∈ WS := inWS (List.mem_of_getElem? (i := 458) (by decide +kernel)) (by decide +kernel)
theorem q457 : (Jvm.Cond.methodLink "PaddleRows$Tank" (153 : Nat) ({ cls := "java/lang/Math", name := "max", desc := "(II)I" } : Jvm.MethodName)) ∈ WS := inWS (List.mem_of_getElem? (i := 459) (by decide +kernel)) (by decide +kernel)
theorem q458 : (Jvm.Cond.methodLink "PaddleRows" (183 : Nat) ({ cls := "PaddleRows$Tank", name := "lastUnevenCell", desc := "()I" } : Jvm.MethodName)) ∈ WS := inWS (List.mem_of_getElem? (i := 460) (by decide +kernel)) (by decide +kernel)
theorem q459 : (Jvm.Cond.instanceMethod ({ cls := "PaddleRows$Tank", name := "lastUnevenCell", desc := "()I" } : Jvm.MethodName)) ∈ WS := inWS (List.mem_of_getElem? (i := 461) (by decide +kernel)) (by decide +kernel)
theorem q460 : (Jvm.Cond.selects "PaddleRows$Tank" ({ cls := "PaddleRows$Tank", name := "lastUnevenCell", desc := "()I" } : Jvm.MethodName) ({ cls := "PaddleRows$Tank", name := "lastUnevenCell", desc := "()I" } : Jvm.MethodName)) ∈ WS := inWS (List.mem_of_getElem? (i := 462) (by decide +kernel)) (by decide +kernel)
theorem q461 : (Jvm.Cond.code ({ cls := "PaddleRows$Tank", name := "lastUnevenCell", desc := "()I" } : Jvm.MethodName) prog_6_method_24_code (2 : Nat) (Option.some Jvm.ClassFile.FieldType.int)) ∈ WS := inWS (List.mem_of_getElem? (i := 463) (by decide +kernel)) (by decide +kernel)
theorem q462 : (Jvm.Cond.constant "PaddleRowsLaw" (46 : Nat) (1000000 : Int32)) ∈ WS := inWS (List.mem_of_getElem? (i := 464) (by decide +kernel)) (by decide +kernel)
theorem q463 : (Jvm.Cond.methodLink "PaddleRowsLaw" (99 : Nat) ({ cls := "PaddleRowsLaw", name := "would", desc := "(LPaddleRows;I[I[I[I[I[I[I[I[I[I[I)Z" } : Jvm.MethodName)) ∈ WS := inWS (List.mem_of_getElem? (i := 465) (by decide +kernel)) (by decide +kernel)
theorem q464 : (Jvm.Cond.static ({ cls := "PaddleRowsLaw", name := "would", desc := "(LPaddleRows;I[I[I[I[I[I[I[I[I[I[I)Z" } : Jvm.MethodName)) ∈ WS := inWS (List.mem_of_getElem? (i := 466) (by decide +kernel)) (by decide +kernel)
theorem q465 : (Jvm.Cond.code ({ cls := "PaddleRowsLaw", name := "would", desc := "(LPaddleRows;I[I[I[I[I[I[I[I[I[I[I)Z" } : Jvm.MethodName) method_10_code (24 : Nat) (Option.some Jvm.ClassFile.FieldType.boolean)) ∈ WS := inWS (List.mem_of_getElem? (i := 467) (by decide +kernel)) (by decide +kernel)
theorem q466 : (Jvm.Cond.methodLink "PaddleRowsLaw" (50 : Nat) ({ cls := "PaddleRowsLaw", name := "copy", desc := "([I[II)V" } : Jvm.MethodName)) ∈ WS := inWS (List.mem_of_getElem? (i := 468) (by decide +kernel)) (by decide +kernel)
theorem q467 : (Jvm.Cond.static ({ cls := "PaddleRowsLaw", name := "copy", desc := "([I[II)V" } : Jvm.MethodName)) ∈ WS := inWS (List.mem_of_getElem? (i := 469) (by decide +kernel)) (by decide +kernel)
theorem q468 : (Jvm.Cond.code ({ cls := "PaddleRowsLaw", name := "copy", desc := "([I[II)V" } : Jvm.MethodName) method_9_code (4 : Nat) (Option.none : Option Jvm.ClassFile.FieldType)) ∈ WS := inWS (List.mem_of_getElem? (i := 470) (by decide +kernel)) (by decide +kernel)
theorem q469 : (Jvm.Cond.methodLink "PaddleRowsLaw" (58 : Nat) ({ cls := "PaddleRows", name := "reaches", desc := "(II)I" } : Jvm.MethodName)) ∈ WS := inWS (List.mem_of_getElem? (i := 471) (by decide +kernel)) (by decide +kernel)
theorem q470 : (Jvm.Cond.instanceMethod ({ cls := "PaddleRows", name := "reaches", desc := "(II)I" } : Jvm.MethodName)) ∈ WS := inWS (List.mem_of_getElem? (i := 472) (by decide +kernel)) (by decide +kernel)
theorem q471 : (Jvm.Cond.selects "PaddleRows" ({ cls := "PaddleRows", name := "reaches", desc := "(II)I" } : Jvm.MethodName) ({ cls := "PaddleRows", name := "reaches", desc := "(II)I" } : Jvm.MethodName)) ∈ WS := inWS (List.mem_of_getElem? (i := 473) (by decide +kernel)) (by decide +kernel)
theorem q472 : (Jvm.Cond.code ({ cls := "PaddleRows", name := "reaches", desc := "(II)I" } : Jvm.MethodName) prog_1_method_16_code (4 : Nat) (Option.some Jvm.ClassFile.FieldType.int)) ∈ WS := inWS (List.mem_of_getElem? (i := 474) (by decide +kernel)) (by decide +kernel)
theorem q473 : (Jvm.Cond.methodLink "PaddleRows" (195 : Nat) ({ cls := "java/lang/Math", name := "abs", desc := "(I)I" } : Jvm.MethodName)) ∈ WS := inWS (List.mem_of_getElem? (i := 475) (by decide +kernel)) (by decide +kernel)
theorem q474 : (Jvm.Cond.methodLink "PaddleRows" (200 : Nat) ({ cls := "PaddleRows$Tank", name := "step", desc := "()I" } : Jvm.MethodName)) ∈ WS := inWS (List.mem_of_getElem? (i := 476) (by decide +kernel)) (by decide +kernel)
theorem q475 : (Jvm.Cond.methodLink "PaddleRowsLaw" (61 : Nat) ({ cls := "PaddleRows", name := "calmIn", desc := "()I" } : Jvm.MethodName)) ∈ WS := inWS (List.mem_of_getElem? (i := 477) (by decide +kernel)) (by decide +kernel)
theorem q476 : (Jvm.Cond.instanceMethod ({ cls := "PaddleRows", name := "calmIn", desc := "()I" } : Jvm.MethodName)) ∈ WS := inWS (List.mem_of_getElem? (i := 478) (by decide +kernel)) (by decide +kernel)
theorem q477 : (Jvm.Cond.selects "PaddleRows" ({ cls := "PaddleRows", name := "calmIn", desc := "()I" } : Jvm.MethodName) ({ cls := "PaddleRows", name := "calmIn", desc := "()I" } : Jvm.MethodName)) ∈ WS := inWS (List.mem_of_getElem? (i := 479) (by decide +kernel)) (by decide +kernel)
theorem q478 : (Jvm.Cond.code ({ cls := "PaddleRows", name := "calmIn", desc := "()I" } : Jvm.MethodName) prog_1_method_19_code (2 : Nat) (Option.some Jvm.ClassFile.FieldType.int)) ∈ WS := inWS (List.mem_of_getElem? (i := 480) (by decide +kernel)) (by decide +kernel)
theorem q479 : (Jvm.Cond.methodLink "PaddleRows" (210 : Nat) ({ cls := "PaddleRows$Tank", name := "isCalm", desc := "()Z" } : Jvm.MethodName)) ∈ WS := inWS (List.mem_of_getElem? (i := 481) (by decide +kernel)) (by decide +kernel)
theorem q480 : (Jvm.Cond.instanceMethod ({ cls := "PaddleRows$Tank", name := "isCalm", desc := "()Z" } : Jvm.MethodName)) ∈ WS := inWS (List.mem_of_getElem? (i := 482) (by decide +kernel)) (by decide +kernel)
theorem q481 : (Jvm.Cond.selects "PaddleRows$Tank" ({ cls := "PaddleRows$Tank", name := "isCalm", desc := "()Z" } : Jvm.MethodName) ({ cls := "PaddleRows$Tank", name := "isCalm", desc := "()Z" } : Jvm.MethodName)) ∈ WS := inWS (List.mem_of_getElem? (i := 483) (by decide +kernel)) (by decide +kernel)
theorem q482 : (Jvm.Cond.code ({ cls := "PaddleRows$Tank", name := "isCalm", desc := "()Z" } : Jvm.MethodName) prog_6_method_18_code (2 : Nat) (Option.some Jvm.ClassFile.FieldType.boolean)) ∈ WS := inWS (List.mem_of_getElem? (i := 484) (by decide +kernel)) (by decide +kernel)
theorem q483 : (Jvm.Cond.methodLink "PaddleRowsLaw" (65 : Nat) ({ cls := "PaddleRows", name := "bestPeriod", desc := "(IIII)I" } : Jvm.MethodName)) ∈ WS := inWS (List.mem_of_getElem? (i := 485) (by decide +kernel)) (by decide +kernel)
theorem q484 : (Jvm.Cond.instanceMethod ({ cls := "PaddleRows", name := "bestPeriod", desc := "(IIII)I" } : Jvm.MethodName)) ∈ WS := inWS (List.mem_of_getElem? (i := 486) (by decide +kernel)) (by decide +kernel)
theorem q485 : (Jvm.Cond.selects "PaddleRows" ({ cls := "PaddleRows", name := "bestPeriod", desc := "(IIII)I" } : Jvm.MethodName) ({ cls := "PaddleRows", name := "bestPeriod", desc := "(IIII)I" } : Jvm.MethodName)) ∈ WS := inWS (List.mem_of_getElem? (i := 487) (by decide +kernel)) (by decide +kernel)
theorem q486 : (Jvm.Cond.code ({ cls := "PaddleRows", name := "bestPeriod", desc := "(IIII)I" } : Jvm.MethodName) prog_1_method_17_code (9 : Nat) (Option.some Jvm.ClassFile.FieldType.int)) ∈ WS := inWS (List.mem_of_getElem? (i := 488) (by decide +kernel)) (by decide +kernel)
theorem q487 : (Jvm.Cond.methodLink "PaddleRows" (203 : Nat) ({ cls := "PaddleRows", name := "peakWithPeriod", desc := "(IIII)I" } : Jvm.MethodName)) ∈ WS := inWS (List.mem_of_getElem? (i := 489) (by decide +kernel)) (by decide +kernel)
theorem q489 : (Jvm.Cond.instanceMethod ({ cls := "PaddleRows", name := "peakWithPeriod", desc := "(IIII)I" } : Jvm.MethodName)) ∈ WS := inWS (List.mem_of_getElem? (i := 491) (by decide +kernel)) (by decide +kernel)
theorem q490 : (Jvm.Cond.code ({ cls := "PaddleRows", name := "peakWithPeriod", desc := "(IIII)I" } : Jvm.MethodName) prog_1_method_18_code (7 : Nat) (Option.some Jvm.ClassFile.FieldType.int)) ∈ WS := inWS (List.mem_of_getElem? (i := 492) (by decide +kernel)) (by decide +kernel)
end
